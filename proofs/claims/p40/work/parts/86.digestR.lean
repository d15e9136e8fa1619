abbrev rmX1_mix : Room := { frames := 0, cells := 0, slots := 0, locals := 0 }
set_option maxHeartbeats 4000000 in
set_option maxRecDepth 100000 in
theorem k_X1_mix (l : Launch) (D : va_G) (cI cZ : ClassId) (x z : Int64) : zv_R l yX1_mix wsX1_mix rmX1_mix D vwCl (tyL cI cZ) [.long x, .long z] [] (fun v => v = some (.long (mxl x z))) := by
  refine zv_R.of cX1_mix 4 (some .long) (by decide) rfl (Nat.le_of_ble_eq_true rfl) ?_
  intro pP eE sS mM aA bB mT cD A C hr hlk hA Q hQ
  refine zv_go (pc' := 0) rfl (lv' := [(0, .long x), (2, .long z)]) rfl rfl rfl rfl ?_
  refine zv_lload_n C dX1_mix_0 1 rfl 0 rfl ?_
  refine zv_ldc2 C dX1_mix_1 4 rfl (v := 31) (by decide +kernel) ?_
  refine zv_lmul C dX1_mix_4 5 rfl ?_
  refine zv_lload_n C dX1_mix_5 6 rfl 1 rfl ?_
  refine zv_ladd C dX1_mix_6 7 rfl ?_
  exact zv_lretR C hr hlk hA hQ dX1_mix_7 rfl
abbrev rmX1_bit : Room := { frames := 0, cells := 0, slots := 0, locals := 0 }
set_option maxHeartbeats 4000000 in
set_option maxRecDepth 100000 in
theorem k_X1_bit (l : Launch) (D : va_G) (cI cZ : ClassId) (x : Int32) : zv_R l yX1_bit wsX1_bit rmX1_bit D vwCl (tyL cI cZ) [.int x] [] (fun v => v = some (.long (bitL x))) := by
  refine zv_R.of cX1_bit 1 (some .long) (by decide) rfl (Nat.le_of_ble_eq_true rfl) ?_
  intro pP eE sS mM aA bB mT cD A C hr hlk hA Q hQ
  refine zv_go (pc' := 0) rfl (lv' := [(0, .int x)]) rfl rfl rfl rfl ?_
  refine zv_iload_n C dX1_bit_0 1 rfl 0 rfl ?_
  refine zv_if_eq C dX1_bit_1 4 8 rfl (by decide) (fun c1 => ?_) (fun c1 => ?_)
  · refine zv_lconst (v := 0) C dX1_bit_8 9 rfl rfl ?_
    exact zv_lretR C hr hlk hA hQ dX1_bit_9 (by simp [bitL, c1])
  · refine zv_lconst (v := 1) C dX1_bit_4 5 rfl rfl ?_
    refine zv_goto C dX1_bit_5 9 (by decide) ?_
    exact zv_lretR C hr hlk hA hQ dX1_bit_9 (by simp [bitL, c1])
abbrev rmX1_mixPlace : Room := { frames := 3, cells := 0, slots := 0, locals := 68 }
set_option maxHeartbeats 4000000 in
set_option maxRecDepth 100000 in
theorem k_X1_mixPlace (l : Launch) (D : va_G) (cI cZ : ClassId) (q h k : Nat → Nat) (b : Nat) (y : Int32) (n : Nat) (r : Int32) (f0 f1 f2 f3 f4 f5 f6 f7 f8 f9 f10 f11 f12 f13 : Nat → Int32) (n1 : Nat) (r1 : Int32) (g0 g1 g2 g3 g4 g5 g6 g7 g8 g9 g10 g11 g12 g13 : Nat → Int32) (bp bn : Nat → Int32) (sm : Int64) (p : Nat) (hn : n ≤ 16) (hp : p < n) (hz2 : zo (f2 p)) (hz11 : zo (f11 p)) (hw : Vw n f0) : zv_R l yX1_mixPlace wsX1_mixPlace rmX1_mixPlace D vwCl (tyL cI cZ) [.ref (q 0), .long sm, .int (nI p)] (cR cI cZ q h k (nI b) y (nI n) r f0 f1 f2 f3 f4 f5 f6 f7 f8 f9 f10 f11 f12 f13 (nI n1) r1 g0 g1 g2 g3 g4 g5 g6 g7 g8 g9 g10 g11 g12 g13 bp bn) (fun v => v = some (.long (plR n f0 f2 f4 f7 f8 f9 f10 f11 p sm))) := by
  refine zv_R.of cX1_mixPlace 6 (some .long) (by decide) rfl (Nat.le_of_ble_eq_true rfl) ?_
  intro pP eE sS mM aA bB mT cD A C hr hlk hA Q hQ
  refine zv_go (pc' := 0) rfl (lv' := [(0, .ref (q 0)), (1, .long sm), (3, .int (nI p))]) rfl rfl rfl rfl ?_
  refine zv_lload_n C dX1_mixPlace_0 1 rfl 1 rfl ?_
  refine zv_lstore C dX1_mixPlace_1 3 rfl [(4, .long sm), (0, .ref (q 0)), (1, .long sm), (3, .int (nI p))] (by decide) rfl ?_
  refine zv_lload C dX1_mixPlace_3 5 rfl 0 rfl ?_
  refine zv_aload_n C dX1_mixPlace_5 6 rfl 1 rfl ?_
  refine zv_iload_n C dX1_mixPlace_6 7 rfl 3 rfl ?_
  refine zv_callVR (rest := [.long sm]) C (k_X1_leadsTo l D cI cZ q h k b y n r f0 f1 f2 f3 f4 f5 f6 f7 f8 f9 f10 f11 f12 f13 n1 r1 g0 g1 g2 g3 g4 g5 g6 g7 g8 g9 g10 g11 g12 g13 bp bn p (by omega) (by omega)) (cwV 1 C.1.2.2.2.2 gX1_mixPlace_X1_leadsTo rfl rfl rfl (by decide +kernel) ⟨Nat.le_of_ble_eq_true rfl, Nat.le_of_ble_eq_true rfl⟩) dX1_mixPlace_7 10 rfl (ci := 1) 0 rfl rfl rfl rfl (Nat.le_of_ble_eq_true rfl) ⟨Nat.le_of_ble_eq_true rfl, Nat.le_of_ble_eq_true rfl⟩ [0, 1] rfl [0, 1, 2, 3, 4, 5, 6, 7, 8, 9, 10, 11, 12, 13, 14, 15, 16, 17, 18, 19, 20, 21, 22, 23, 24, 25, 26, 27, 28, 29, 30, 31, 32] rfl (by decide) (fun v hv => ?_)
  subst hv
  refine zv_go rfl rfl (st' := [.int (f0 p), .long sm]) rfl (kc' := 0) rfl (ns' := 0) rfl ?_
  refine zv_i2l C dX1_mixPlace_10 11 rfl ?_
  refine zv_callSR (rest := []) C (k_X1_mix l D cI cZ sm (Int32.toInt64 (f0 p))) (cwS 2 C.1.2.2.2.2 gX1_mixPlace_X1_mix rfl rfl rfl (by decide +kernel) ⟨Nat.le_of_ble_eq_true rfl, Nat.le_of_ble_eq_true rfl⟩) dX1_mixPlace_11 14 rfl rfl rfl (Nat.le_of_ble_eq_true rfl) ⟨Nat.le_of_ble_eq_true rfl, Nat.le_of_ble_eq_true rfl⟩ [0, 1] rfl [] rfl (by decide) (fun v hv => ?_)
  subst hv
  refine zv_go rfl rfl (st' := [.long (mxl sm (Int32.toInt64 (f0 p)))]) rfl (kc' := 0) rfl (ns' := 0) rfl ?_
  refine zv_lstore C dX1_mixPlace_14 16 rfl [(4, .long (mxl sm (Int32.toInt64 (f0 p)))), (0, .ref (q 0)), (1, .long sm), (3, .int (nI p))] (by decide) rfl ?_
  refine zv_lload C dX1_mixPlace_16 18 rfl 0 rfl ?_
  refine zv_aload_n C dX1_mixPlace_18 19 rfl 1 rfl ?_
  refine zv_iload_n C dX1_mixPlace_19 20 rfl 3 rfl ?_
  refine zv_callVR (rest := [.long (mxl sm (Int32.toInt64 (f0 p)))]) C (k_X1_hasSpring l D cI cZ q h k b y n r f0 f1 f2 f3 f4 f5 f6 f7 f8 f9 f10 f11 f12 f13 n1 r1 g0 g1 g2 g3 g4 g5 g6 g7 g8 g9 g10 g11 g12 g13 bp bn p (by omega) (by omega) (by assumption)) (cwV 1 C.1.2.2.2.2 gX1_mixPlace_X1_hasSpring rfl rfl rfl (by decide +kernel) ⟨Nat.le_of_ble_eq_true rfl, Nat.le_of_ble_eq_true rfl⟩) dX1_mixPlace_20 23 rfl (ci := 1) 0 rfl rfl rfl rfl (Nat.le_of_ble_eq_true rfl) ⟨Nat.le_of_ble_eq_true rfl, Nat.le_of_ble_eq_true rfl⟩ [0, 1] rfl [0, 1, 2, 3, 4, 5, 6, 7, 8, 9, 10, 11, 12, 13, 14, 15, 16, 17, 18, 19, 20, 21, 22, 23, 24, 25, 26, 27, 28, 29, 30, 31, 32] rfl (by decide) (fun v hv => ?_)
  subst hv
  refine zv_go rfl rfl (st' := [.int (f2 p), .long (mxl sm (Int32.toInt64 (f0 p)))]) rfl (kc' := 0) rfl (ns' := 0) rfl ?_
  refine zv_callSR (rest := [.long (mxl sm (Int32.toInt64 (f0 p)))]) C (k_X1_bit l D cI cZ (f2 p)) (cwS 1 C.1.2.2.2.2 gX1_mixPlace_X1_bit rfl rfl rfl (by decide +kernel) ⟨Nat.le_of_ble_eq_true rfl, Nat.le_of_ble_eq_true rfl⟩) dX1_mixPlace_23 26 rfl rfl rfl (Nat.le_of_ble_eq_true rfl) ⟨Nat.le_of_ble_eq_true rfl, Nat.le_of_ble_eq_true rfl⟩ [0, 1] rfl [] rfl (by decide) (fun v hv => ?_)
  subst hv
  refine zv_go rfl rfl (st' := [.long (bitL (f2 p)), .long (mxl sm (Int32.toInt64 (f0 p)))]) rfl (kc' := 0) rfl (ns' := 0) rfl ?_
  refine zv_callSR (rest := []) C (k_X1_mix l D cI cZ (mxl sm (Int32.toInt64 (f0 p))) (bitL (f2 p))) (cwS 2 C.1.2.2.2.2 gX1_mixPlace_X1_mix rfl rfl rfl (by decide +kernel) ⟨Nat.le_of_ble_eq_true rfl, Nat.le_of_ble_eq_true rfl⟩) dX1_mixPlace_26 29 rfl rfl rfl (Nat.le_of_ble_eq_true rfl) ⟨Nat.le_of_ble_eq_true rfl, Nat.le_of_ble_eq_true rfl⟩ [0, 1] rfl [] rfl (by decide) (fun v hv => ?_)
  subst hv
  refine zv_go rfl rfl (st' := [.long (mxl (mxl sm (Int32.toInt64 (f0 p))) (bitL (f2 p)))]) rfl (kc' := 0) rfl (ns' := 0) rfl ?_
  refine zv_lstore C dX1_mixPlace_29 31 rfl [(4, .long (mxl (mxl sm (Int32.toInt64 (f0 p))) (bitL (f2 p)))), (0, .ref (q 0)), (1, .long sm), (3, .int (nI p))] (by decide) rfl ?_
  refine zv_lload C dX1_mixPlace_31 33 rfl 0 rfl ?_
  refine zv_aload_n C dX1_mixPlace_33 34 rfl 1 rfl ?_
  refine zv_iload_n C dX1_mixPlace_34 35 rfl 3 rfl ?_
  refine zv_callVR (rest := [.long (mxl (mxl sm (Int32.toInt64 (f0 p))) (bitL (f2 p)))]) C (k_X1_springOf l D cI cZ q h k b y n r f0 f1 f2 f3 f4 f5 f6 f7 f8 f9 f10 f11 f12 f13 n1 r1 g0 g1 g2 g3 g4 g5 g6 g7 g8 g9 g10 g11 g12 g13 bp bn p (by omega) (by omega)) (cwV 1 C.1.2.2.2.2 gX1_mixPlace_X1_springOf rfl rfl rfl (by decide +kernel) ⟨Nat.le_of_ble_eq_true rfl, Nat.le_of_ble_eq_true rfl⟩) dX1_mixPlace_35 38 rfl (ci := 1) 0 rfl rfl rfl rfl (Nat.le_of_ble_eq_true rfl) ⟨Nat.le_of_ble_eq_true rfl, Nat.le_of_ble_eq_true rfl⟩ [0, 1] rfl [0, 1, 2, 3, 4, 5, 6, 7, 8, 9, 10, 11, 12, 13, 14, 15, 16, 17, 18, 19, 20, 21, 22, 23, 24, 25, 26, 27, 28, 29, 30, 31, 32] rfl (by decide) (fun v hv => ?_)
  subst hv
  refine zv_go rfl rfl (st' := [.int (f4 p), .long (mxl (mxl sm (Int32.toInt64 (f0 p))) (bitL (f2 p)))]) rfl (kc' := 0) rfl (ns' := 0) rfl ?_
  refine zv_i2l C dX1_mixPlace_38 39 rfl ?_
  refine zv_callSR (rest := []) C (k_X1_mix l D cI cZ (mxl (mxl sm (Int32.toInt64 (f0 p))) (bitL (f2 p))) (Int32.toInt64 (f4 p))) (cwS 2 C.1.2.2.2.2 gX1_mixPlace_X1_mix rfl rfl rfl (by decide +kernel) ⟨Nat.le_of_ble_eq_true rfl, Nat.le_of_ble_eq_true rfl⟩) dX1_mixPlace_39 42 rfl rfl rfl (Nat.le_of_ble_eq_true rfl) ⟨Nat.le_of_ble_eq_true rfl, Nat.le_of_ble_eq_true rfl⟩ [0, 1] rfl [] rfl (by decide) (fun v hv => ?_)
  subst hv
  refine zv_go rfl rfl (st' := [.long (mxl (mxl (mxl sm (Int32.toInt64 (f0 p))) (bitL (f2 p))) (Int32.toInt64 (f4 p)))]) rfl (kc' := 0) rfl (ns' := 0) rfl ?_
  refine zv_lstore C dX1_mixPlace_42 44 rfl [(4, .long (mxl (mxl (mxl sm (Int32.toInt64 (f0 p))) (bitL (f2 p))) (Int32.toInt64 (f4 p)))), (0, .ref (q 0)), (1, .long sm), (3, .int (nI p))] (by decide) rfl ?_
  refine zv_lload C dX1_mixPlace_44 46 rfl 0 rfl ?_
  refine zv_aload_n C dX1_mixPlace_46 47 rfl 1 rfl ?_
  refine zv_iload_n C dX1_mixPlace_47 48 rfl 3 rfl ?_
  refine zv_callVR (rest := [.long (mxl (mxl (mxl sm (Int32.toInt64 (f0 p))) (bitL (f2 p))) (Int32.toInt64 (f4 p)))]) C (k_X1_waterAt l D cI cZ q h k b y n r f0 f1 f2 f3 f4 f5 f6 f7 f8 f9 f10 f11 f12 f13 n1 r1 g0 g1 g2 g3 g4 g5 g6 g7 g8 g9 g10 g11 g12 g13 bp bn p (by omega) (by omega)) (cwV 1 C.1.2.2.2.2 gX1_mixPlace_X1_waterAt rfl rfl rfl (by decide +kernel) ⟨Nat.le_of_ble_eq_true rfl, Nat.le_of_ble_eq_true rfl⟩) dX1_mixPlace_48 51 rfl (ci := 1) 0 rfl rfl rfl rfl (Nat.le_of_ble_eq_true rfl) ⟨Nat.le_of_ble_eq_true rfl, Nat.le_of_ble_eq_true rfl⟩ [0, 1] rfl [0, 1, 2, 3, 4, 5, 6, 7, 8, 9, 10, 11, 12, 13, 14, 15, 16, 17, 18, 19, 20, 21, 22, 23, 24, 25, 26, 27, 28, 29, 30, 31, 32] rfl (by decide) (fun v hv => ?_)
  subst hv
  refine zv_go rfl rfl (st' := [.int (f7 p), .long (mxl (mxl (mxl sm (Int32.toInt64 (f0 p))) (bitL (f2 p))) (Int32.toInt64 (f4 p)))]) rfl (kc' := 0) rfl (ns' := 0) rfl ?_
  refine zv_i2l C dX1_mixPlace_51 52 rfl ?_
  refine zv_callSR (rest := []) C (k_X1_mix l D cI cZ (mxl (mxl (mxl sm (Int32.toInt64 (f0 p))) (bitL (f2 p))) (Int32.toInt64 (f4 p))) (Int32.toInt64 (f7 p))) (cwS 2 C.1.2.2.2.2 gX1_mixPlace_X1_mix rfl rfl rfl (by decide +kernel) ⟨Nat.le_of_ble_eq_true rfl, Nat.le_of_ble_eq_true rfl⟩) dX1_mixPlace_52 55 rfl rfl rfl (Nat.le_of_ble_eq_true rfl) ⟨Nat.le_of_ble_eq_true rfl, Nat.le_of_ble_eq_true rfl⟩ [0, 1] rfl [] rfl (by decide) (fun v hv => ?_)
  subst hv
  refine zv_go rfl rfl (st' := [.long (mxl (mxl (mxl (mxl sm (Int32.toInt64 (f0 p))) (bitL (f2 p))) (Int32.toInt64 (f4 p))) (Int32.toInt64 (f7 p)))]) rfl (kc' := 0) rfl (ns' := 0) rfl ?_
  refine zv_lstore C dX1_mixPlace_55 57 rfl [(4, .long (mxl (mxl (mxl (mxl sm (Int32.toInt64 (f0 p))) (bitL (f2 p))) (Int32.toInt64 (f4 p))) (Int32.toInt64 (f7 p)))), (0, .ref (q 0)), (1, .long sm), (3, .int (nI p))] (by decide) rfl ?_
  refine zv_lload C dX1_mixPlace_57 59 rfl 0 rfl ?_
  refine zv_aload_n C dX1_mixPlace_59 60 rfl 1 rfl ?_
  refine zv_iload_n C dX1_mixPlace_60 61 rfl 3 rfl ?_
  refine zv_callVR (rest := [.long (mxl (mxl (mxl (mxl sm (Int32.toInt64 (f0 p))) (bitL (f2 p))) (Int32.toInt64 (f4 p))) (Int32.toInt64 (f7 p)))]) C (k_X1_lengthAt l D cI cZ q h k b y n r f0 f1 f2 f3 f4 f5 f6 f7 f8 f9 f10 f11 f12 f13 n1 r1 g0 g1 g2 g3 g4 g5 g6 g7 g8 g9 g10 g11 g12 g13 bp bn p (by omega) (by omega)) (cwV 1 C.1.2.2.2.2 gX1_mixPlace_X1_lengthAt rfl rfl rfl (by decide +kernel) ⟨Nat.le_of_ble_eq_true rfl, Nat.le_of_ble_eq_true rfl⟩) dX1_mixPlace_61 64 rfl (ci := 1) 0 rfl rfl rfl rfl (Nat.le_of_ble_eq_true rfl) ⟨Nat.le_of_ble_eq_true rfl, Nat.le_of_ble_eq_true rfl⟩ [0, 1] rfl [0, 1, 2, 3, 4, 5, 6, 7, 8, 9, 10, 11, 12, 13, 14, 15, 16, 17, 18, 19, 20, 21, 22, 23, 24, 25, 26, 27, 28, 29, 30, 31, 32] rfl (by decide) (fun v hv => ?_)
  subst hv
  refine zv_go rfl rfl (st' := [.int (f8 p), .long (mxl (mxl (mxl (mxl sm (Int32.toInt64 (f0 p))) (bitL (f2 p))) (Int32.toInt64 (f4 p))) (Int32.toInt64 (f7 p)))]) rfl (kc' := 0) rfl (ns' := 0) rfl ?_
  refine zv_i2l C dX1_mixPlace_64 65 rfl ?_
  refine zv_callSR (rest := []) C (k_X1_mix l D cI cZ (mxl (mxl (mxl (mxl sm (Int32.toInt64 (f0 p))) (bitL (f2 p))) (Int32.toInt64 (f4 p))) (Int32.toInt64 (f7 p))) (Int32.toInt64 (f8 p))) (cwS 2 C.1.2.2.2.2 gX1_mixPlace_X1_mix rfl rfl rfl (by decide +kernel) ⟨Nat.le_of_ble_eq_true rfl, Nat.le_of_ble_eq_true rfl⟩) dX1_mixPlace_65 68 rfl rfl rfl (Nat.le_of_ble_eq_true rfl) ⟨Nat.le_of_ble_eq_true rfl, Nat.le_of_ble_eq_true rfl⟩ [0, 1] rfl [] rfl (by decide) (fun v hv => ?_)
  subst hv
  refine zv_go rfl rfl (st' := [.long (mxl (mxl (mxl (mxl (mxl sm (Int32.toInt64 (f0 p))) (bitL (f2 p))) (Int32.toInt64 (f4 p))) (Int32.toInt64 (f7 p))) (Int32.toInt64 (f8 p)))]) rfl (kc' := 0) rfl (ns' := 0) rfl ?_
  refine zv_lstore C dX1_mixPlace_68 70 rfl [(4, .long (mxl (mxl (mxl (mxl (mxl sm (Int32.toInt64 (f0 p))) (bitL (f2 p))) (Int32.toInt64 (f4 p))) (Int32.toInt64 (f7 p))) (Int32.toInt64 (f8 p)))), (0, .ref (q 0)), (1, .long sm), (3, .int (nI p))] (by decide) rfl ?_
  refine zv_lload C dX1_mixPlace_70 72 rfl 0 rfl ?_
  refine zv_aload_n C dX1_mixPlace_72 73 rfl 1 rfl ?_
  refine zv_iload_n C dX1_mixPlace_73 74 rfl 3 rfl ?_
  refine zv_callVR (rest := [.long (mxl (mxl (mxl (mxl (mxl sm (Int32.toInt64 (f0 p))) (bitL (f2 p))) (Int32.toInt64 (f4 p))) (Int32.toInt64 (f7 p))) (Int32.toInt64 (f8 p)))]) C (k_X1_mouthOf l D cI cZ q h k b y n r f0 f1 f2 f3 f4 f5 f6 f7 f8 f9 f10 f11 f12 f13 n1 r1 g0 g1 g2 g3 g4 g5 g6 g7 g8 g9 g10 g11 g12 g13 bp bn p (by omega) (by omega) (by assumption)) (cwV 1 C.1.2.2.2.2 gX1_mixPlace_X1_mouthOf rfl rfl rfl (by decide +kernel) ⟨Nat.le_of_ble_eq_true rfl, Nat.le_of_ble_eq_true rfl⟩) dX1_mixPlace_74 77 rfl (ci := 1) 0 rfl rfl rfl rfl (Nat.le_of_ble_eq_true rfl) ⟨Nat.le_of_ble_eq_true rfl, Nat.le_of_ble_eq_true rfl⟩ [0, 1] rfl [0, 1, 2, 3, 4, 5, 6, 7, 8, 9, 10, 11, 12, 13, 14, 15, 16, 17, 18, 19, 20, 21, 22, 23, 24, 25, 26, 27, 28, 29, 30, 31, 32] rfl (by decide) (fun v hv => ?_)
  subst hv
  refine zv_go rfl rfl (st' := [.int (nI (mo f0 16 p)), .long (mxl (mxl (mxl (mxl (mxl sm (Int32.toInt64 (f0 p))) (bitL (f2 p))) (Int32.toInt64 (f4 p))) (Int32.toInt64 (f7 p))) (Int32.toInt64 (f8 p)))]) rfl (kc' := 0) rfl (ns' := 0) rfl ?_
  refine zv_i2l C dX1_mixPlace_77 78 rfl ?_
  refine zv_callSR (rest := []) C (k_X1_mix l D cI cZ (mxl (mxl (mxl (mxl (mxl sm (Int32.toInt64 (f0 p))) (bitL (f2 p))) (Int32.toInt64 (f4 p))) (Int32.toInt64 (f7 p))) (Int32.toInt64 (f8 p))) (Int32.toInt64 (nI (mo f0 16 p)))) (cwS 2 C.1.2.2.2.2 gX1_mixPlace_X1_mix rfl rfl rfl (by decide +kernel) ⟨Nat.le_of_ble_eq_true rfl, Nat.le_of_ble_eq_true rfl⟩) dX1_mixPlace_78 81 rfl rfl rfl (Nat.le_of_ble_eq_true rfl) ⟨Nat.le_of_ble_eq_true rfl, Nat.le_of_ble_eq_true rfl⟩ [0, 1] rfl [] rfl (by decide) (fun v hv => ?_)
  subst hv
  refine zv_go rfl rfl (st' := [.long (mxl (mxl (mxl (mxl (mxl (mxl sm (Int32.toInt64 (f0 p))) (bitL (f2 p))) (Int32.toInt64 (f4 p))) (Int32.toInt64 (f7 p))) (Int32.toInt64 (f8 p))) (Int32.toInt64 (nI (mo f0 16 p))))]) rfl (kc' := 0) rfl (ns' := 0) rfl ?_
  refine zv_lstore C dX1_mixPlace_81 83 rfl [(4, .long (mxl (mxl (mxl (mxl (mxl (mxl sm (Int32.toInt64 (f0 p))) (bitL (f2 p))) (Int32.toInt64 (f4 p))) (Int32.toInt64 (f7 p))) (Int32.toInt64 (f8 p))) (Int32.toInt64 (nI (mo f0 16 p))))), (0, .ref (q 0)), (1, .long sm), (3, .int (nI p))] (by decide) rfl ?_
  refine zv_lload C dX1_mixPlace_83 85 rfl 0 rfl ?_
  refine zv_aload_n C dX1_mixPlace_85 86 rfl 1 rfl ?_
  refine zv_iload_n C dX1_mixPlace_86 87 rfl 3 rfl ?_
  refine zv_callVR (rest := [.long (mxl (mxl (mxl (mxl (mxl (mxl sm (Int32.toInt64 (f0 p))) (bitL (f2 p))) (Int32.toInt64 (f4 p))) (Int32.toInt64 (f7 p))) (Int32.toInt64 (f8 p))) (Int32.toInt64 (nI (mo f0 16 p))))]) C (k_X1_placesAbove l D cI cZ q h k b y n r f0 f1 f2 f3 f4 f5 f6 f7 f8 f9 f10 f11 f12 f13 n1 r1 g0 g1 g2 g3 g4 g5 g6 g7 g8 g9 g10 g11 g12 g13 bp bn p (by omega) (by omega) (by assumption)) (cwV 1 C.1.2.2.2.2 gX1_mixPlace_X1_placesAbove rfl rfl rfl (by decide +kernel) ⟨Nat.le_of_ble_eq_true rfl, Nat.le_of_ble_eq_true rfl⟩) dX1_mixPlace_87 90 rfl (ci := 1) 0 rfl rfl rfl rfl (Nat.le_of_ble_eq_true rfl) ⟨Nat.le_of_ble_eq_true rfl, Nat.le_of_ble_eq_true rfl⟩ [0, 1] rfl [0, 1, 2, 3, 4, 5, 6, 7, 8, 9, 10, 11, 12, 13, 14, 15, 16, 17, 18, 19, 20, 21, 22, 23, 24, 25, 26, 27, 28, 29, 30, 31, 32] rfl (by decide) (fun v hv => ?_)
  subst hv
  refine zv_go rfl rfl (st' := [.int (nI (ao n f0 p)), .long (mxl (mxl (mxl (mxl (mxl (mxl sm (Int32.toInt64 (f0 p))) (bitL (f2 p))) (Int32.toInt64 (f4 p))) (Int32.toInt64 (f7 p))) (Int32.toInt64 (f8 p))) (Int32.toInt64 (nI (mo f0 16 p))))]) rfl (kc' := 0) rfl (ns' := 0) rfl ?_
  refine zv_i2l C dX1_mixPlace_90 91 rfl ?_
  refine zv_callSR (rest := []) C (k_X1_mix l D cI cZ (mxl (mxl (mxl (mxl (mxl (mxl sm (Int32.toInt64 (f0 p))) (bitL (f2 p))) (Int32.toInt64 (f4 p))) (Int32.toInt64 (f7 p))) (Int32.toInt64 (f8 p))) (Int32.toInt64 (nI (mo f0 16 p)))) (Int32.toInt64 (nI (ao n f0 p)))) (cwS 2 C.1.2.2.2.2 gX1_mixPlace_X1_mix rfl rfl rfl (by decide +kernel) ⟨Nat.le_of_ble_eq_true rfl, Nat.le_of_ble_eq_true rfl⟩) dX1_mixPlace_91 94 rfl rfl rfl (Nat.le_of_ble_eq_true rfl) ⟨Nat.le_of_ble_eq_true rfl, Nat.le_of_ble_eq_true rfl⟩ [0, 1] rfl [] rfl (by decide) (fun v hv => ?_)
  subst hv
  refine zv_go rfl rfl (st' := [.long (mxl (mxl (mxl (mxl (mxl (mxl (mxl sm (Int32.toInt64 (f0 p))) (bitL (f2 p))) (Int32.toInt64 (f4 p))) (Int32.toInt64 (f7 p))) (Int32.toInt64 (f8 p))) (Int32.toInt64 (nI (mo f0 16 p)))) (Int32.toInt64 (nI (ao n f0 p))))]) rfl (kc' := 0) rfl (ns' := 0) rfl ?_
  refine zv_lstore C dX1_mixPlace_94 96 rfl [(4, .long (mxl (mxl (mxl (mxl (mxl (mxl (mxl sm (Int32.toInt64 (f0 p))) (bitL (f2 p))) (Int32.toInt64 (f4 p))) (Int32.toInt64 (f7 p))) (Int32.toInt64 (f8 p))) (Int32.toInt64 (nI (mo f0 16 p)))) (Int32.toInt64 (nI (ao n f0 p))))), (0, .ref (q 0)), (1, .long sm), (3, .int (nI p))] (by decide) rfl ?_
  refine zv_lload C dX1_mixPlace_96 98 rfl 0 rfl ?_
  refine zv_aload_n C dX1_mixPlace_98 99 rfl 1 rfl ?_
  refine zv_iload_n C dX1_mixPlace_99 100 rfl 3 rfl ?_
  refine zv_callVR (rest := [.long (mxl (mxl (mxl (mxl (mxl (mxl (mxl sm (Int32.toInt64 (f0 p))) (bitL (f2 p))) (Int32.toInt64 (f4 p))) (Int32.toInt64 (f7 p))) (Int32.toInt64 (f8 p))) (Int32.toInt64 (nI (mo f0 16 p)))) (Int32.toInt64 (nI (ao n f0 p))))]) C (k_X1_nameAt l D cI cZ q h k b y n r f0 f1 f2 f3 f4 f5 f6 f7 f8 f9 f10 f11 f12 f13 n1 r1 g0 g1 g2 g3 g4 g5 g6 g7 g8 g9 g10 g11 g12 g13 bp bn p (by omega) (by omega)) (cwV 1 C.1.2.2.2.2 gX1_mixPlace_X1_nameAt rfl rfl rfl (by decide +kernel) ⟨Nat.le_of_ble_eq_true rfl, Nat.le_of_ble_eq_true rfl⟩) dX1_mixPlace_100 103 rfl (ci := 1) 0 rfl rfl rfl rfl (Nat.le_of_ble_eq_true rfl) ⟨Nat.le_of_ble_eq_true rfl, Nat.le_of_ble_eq_true rfl⟩ [0, 1] rfl [0, 1, 2, 3, 4, 5, 6, 7, 8, 9, 10, 11, 12, 13, 14, 15, 16, 17, 18, 19, 20, 21, 22, 23, 24, 25, 26, 27, 28, 29, 30, 31, 32] rfl (by decide) (fun v hv => ?_)
  subst hv
  refine zv_go rfl rfl (st' := [.int (f9 p), .long (mxl (mxl (mxl (mxl (mxl (mxl (mxl sm (Int32.toInt64 (f0 p))) (bitL (f2 p))) (Int32.toInt64 (f4 p))) (Int32.toInt64 (f7 p))) (Int32.toInt64 (f8 p))) (Int32.toInt64 (nI (mo f0 16 p)))) (Int32.toInt64 (nI (ao n f0 p))))]) rfl (kc' := 0) rfl (ns' := 0) rfl ?_
  refine zv_i2l C dX1_mixPlace_103 104 rfl ?_
  refine zv_callSR (rest := []) C (k_X1_mix l D cI cZ (mxl (mxl (mxl (mxl (mxl (mxl (mxl sm (Int32.toInt64 (f0 p))) (bitL (f2 p))) (Int32.toInt64 (f4 p))) (Int32.toInt64 (f7 p))) (Int32.toInt64 (f8 p))) (Int32.toInt64 (nI (mo f0 16 p)))) (Int32.toInt64 (nI (ao n f0 p)))) (Int32.toInt64 (f9 p))) (cwS 2 C.1.2.2.2.2 gX1_mixPlace_X1_mix rfl rfl rfl (by decide +kernel) ⟨Nat.le_of_ble_eq_true rfl, Nat.le_of_ble_eq_true rfl⟩) dX1_mixPlace_104 107 rfl rfl rfl (Nat.le_of_ble_eq_true rfl) ⟨Nat.le_of_ble_eq_true rfl, Nat.le_of_ble_eq_true rfl⟩ [0, 1] rfl [] rfl (by decide) (fun v hv => ?_)
  subst hv
  refine zv_go rfl rfl (st' := [.long (mxl (mxl (mxl (mxl (mxl (mxl (mxl (mxl sm (Int32.toInt64 (f0 p))) (bitL (f2 p))) (Int32.toInt64 (f4 p))) (Int32.toInt64 (f7 p))) (Int32.toInt64 (f8 p))) (Int32.toInt64 (nI (mo f0 16 p)))) (Int32.toInt64 (nI (ao n f0 p)))) (Int32.toInt64 (f9 p)))]) rfl (kc' := 0) rfl (ns' := 0) rfl ?_
  refine zv_lstore C dX1_mixPlace_107 109 rfl [(4, .long (mxl (mxl (mxl (mxl (mxl (mxl (mxl (mxl sm (Int32.toInt64 (f0 p))) (bitL (f2 p))) (Int32.toInt64 (f4 p))) (Int32.toInt64 (f7 p))) (Int32.toInt64 (f8 p))) (Int32.toInt64 (nI (mo f0 16 p)))) (Int32.toInt64 (nI (ao n f0 p)))) (Int32.toInt64 (f9 p)))), (0, .ref (q 0)), (1, .long sm), (3, .int (nI p))] (by decide) rfl ?_
  refine zv_lload C dX1_mixPlace_109 111 rfl 0 rfl ?_
  refine zv_aload_n C dX1_mixPlace_111 112 rfl 1 rfl ?_
  refine zv_iload_n C dX1_mixPlace_112 113 rfl 3 rfl ?_
  refine zv_callVR (rest := [.long (mxl (mxl (mxl (mxl (mxl (mxl (mxl (mxl sm (Int32.toInt64 (f0 p))) (bitL (f2 p))) (Int32.toInt64 (f4 p))) (Int32.toInt64 (f7 p))) (Int32.toInt64 (f8 p))) (Int32.toInt64 (nI (mo f0 16 p)))) (Int32.toInt64 (nI (ao n f0 p)))) (Int32.toInt64 (f9 p)))]) C (k_X1_arguing l D cI cZ q h k b y n r f0 f1 f2 f3 f4 f5 f6 f7 f8 f9 f10 f11 f12 f13 n1 r1 g0 g1 g2 g3 g4 g5 g6 g7 g8 g9 g10 g11 g12 g13 bp bn p (by omega) (by omega)) (cwV 1 C.1.2.2.2.2 gX1_mixPlace_X1_arguing rfl rfl rfl (by decide +kernel) ⟨Nat.le_of_ble_eq_true rfl, Nat.le_of_ble_eq_true rfl⟩) dX1_mixPlace_113 116 rfl (ci := 1) 0 rfl rfl rfl rfl (Nat.le_of_ble_eq_true rfl) ⟨Nat.le_of_ble_eq_true rfl, Nat.le_of_ble_eq_true rfl⟩ [0, 1] rfl [0, 1, 2, 3, 4, 5, 6, 7, 8, 9, 10, 11, 12, 13, 14, 15, 16, 17, 18, 19, 20, 21, 22, 23, 24, 25, 26, 27, 28, 29, 30, 31, 32] rfl (by decide) (fun v hv => ?_)
  subst hv
  refine zv_go rfl rfl (st' := [.int (f10 p), .long (mxl (mxl (mxl (mxl (mxl (mxl (mxl (mxl sm (Int32.toInt64 (f0 p))) (bitL (f2 p))) (Int32.toInt64 (f4 p))) (Int32.toInt64 (f7 p))) (Int32.toInt64 (f8 p))) (Int32.toInt64 (nI (mo f0 16 p)))) (Int32.toInt64 (nI (ao n f0 p)))) (Int32.toInt64 (f9 p)))]) rfl (kc' := 0) rfl (ns' := 0) rfl ?_
  refine zv_i2l C dX1_mixPlace_116 117 rfl ?_
  refine zv_callSR (rest := []) C (k_X1_mix l D cI cZ (mxl (mxl (mxl (mxl (mxl (mxl (mxl (mxl sm (Int32.toInt64 (f0 p))) (bitL (f2 p))) (Int32.toInt64 (f4 p))) (Int32.toInt64 (f7 p))) (Int32.toInt64 (f8 p))) (Int32.toInt64 (nI (mo f0 16 p)))) (Int32.toInt64 (nI (ao n f0 p)))) (Int32.toInt64 (f9 p))) (Int32.toInt64 (f10 p))) (cwS 2 C.1.2.2.2.2 gX1_mixPlace_X1_mix rfl rfl rfl (by decide +kernel) ⟨Nat.le_of_ble_eq_true rfl, Nat.le_of_ble_eq_true rfl⟩) dX1_mixPlace_117 120 rfl rfl rfl (Nat.le_of_ble_eq_true rfl) ⟨Nat.le_of_ble_eq_true rfl, Nat.le_of_ble_eq_true rfl⟩ [0, 1] rfl [] rfl (by decide) (fun v hv => ?_)
  subst hv
  refine zv_go rfl rfl (st' := [.long (mxl (mxl (mxl (mxl (mxl (mxl (mxl (mxl (mxl sm (Int32.toInt64 (f0 p))) (bitL (f2 p))) (Int32.toInt64 (f4 p))) (Int32.toInt64 (f7 p))) (Int32.toInt64 (f8 p))) (Int32.toInt64 (nI (mo f0 16 p)))) (Int32.toInt64 (nI (ao n f0 p)))) (Int32.toInt64 (f9 p))) (Int32.toInt64 (f10 p)))]) rfl (kc' := 0) rfl (ns' := 0) rfl ?_
  refine zv_lstore C dX1_mixPlace_120 122 rfl [(4, .long (mxl (mxl (mxl (mxl (mxl (mxl (mxl (mxl (mxl sm (Int32.toInt64 (f0 p))) (bitL (f2 p))) (Int32.toInt64 (f4 p))) (Int32.toInt64 (f7 p))) (Int32.toInt64 (f8 p))) (Int32.toInt64 (nI (mo f0 16 p)))) (Int32.toInt64 (nI (ao n f0 p)))) (Int32.toInt64 (f9 p))) (Int32.toInt64 (f10 p)))), (0, .ref (q 0)), (1, .long sm), (3, .int (nI p))] (by decide) rfl ?_
  refine zv_lload C dX1_mixPlace_122 124 rfl 0 rfl ?_
  refine zv_aload_n C dX1_mixPlace_124 125 rfl 1 rfl ?_
  refine zv_iload_n C dX1_mixPlace_125 126 rfl 3 rfl ?_
  refine zv_callVR (rest := [.long (mxl (mxl (mxl (mxl (mxl (mxl (mxl (mxl (mxl sm (Int32.toInt64 (f0 p))) (bitL (f2 p))) (Int32.toInt64 (f4 p))) (Int32.toInt64 (f7 p))) (Int32.toInt64 (f8 p))) (Int32.toInt64 (nI (mo f0 16 p)))) (Int32.toInt64 (nI (ao n f0 p)))) (Int32.toInt64 (f9 p))) (Int32.toInt64 (f10 p)))]) C (k_X1_isArgued l D cI cZ q h k b y n r f0 f1 f2 f3 f4 f5 f6 f7 f8 f9 f10 f11 f12 f13 n1 r1 g0 g1 g2 g3 g4 g5 g6 g7 g8 g9 g10 g11 g12 g13 bp bn p (by omega) (by omega) (by assumption)) (cwV 1 C.1.2.2.2.2 gX1_mixPlace_X1_isArgued rfl rfl rfl (by decide +kernel) ⟨Nat.le_of_ble_eq_true rfl, Nat.le_of_ble_eq_true rfl⟩) dX1_mixPlace_126 129 rfl (ci := 1) 0 rfl rfl rfl rfl (Nat.le_of_ble_eq_true rfl) ⟨Nat.le_of_ble_eq_true rfl, Nat.le_of_ble_eq_true rfl⟩ [0, 1] rfl [0, 1, 2, 3, 4, 5, 6, 7, 8, 9, 10, 11, 12, 13, 14, 15, 16, 17, 18, 19, 20, 21, 22, 23, 24, 25, 26, 27, 28, 29, 30, 31, 32] rfl (by decide) (fun v hv => ?_)
  subst hv
  refine zv_go rfl rfl (st' := [.int (f11 p), .long (mxl (mxl (mxl (mxl (mxl (mxl (mxl (mxl (mxl sm (Int32.toInt64 (f0 p))) (bitL (f2 p))) (Int32.toInt64 (f4 p))) (Int32.toInt64 (f7 p))) (Int32.toInt64 (f8 p))) (Int32.toInt64 (nI (mo f0 16 p)))) (Int32.toInt64 (nI (ao n f0 p)))) (Int32.toInt64 (f9 p))) (Int32.toInt64 (f10 p)))]) rfl (kc' := 0) rfl (ns' := 0) rfl ?_
  refine zv_callSR (rest := [.long (mxl (mxl (mxl (mxl (mxl (mxl (mxl (mxl (mxl sm (Int32.toInt64 (f0 p))) (bitL (f2 p))) (Int32.toInt64 (f4 p))) (Int32.toInt64 (f7 p))) (Int32.toInt64 (f8 p))) (Int32.toInt64 (nI (mo f0 16 p)))) (Int32.toInt64 (nI (ao n f0 p)))) (Int32.toInt64 (f9 p))) (Int32.toInt64 (f10 p)))]) C (k_X1_bit l D cI cZ (f11 p)) (cwS 1 C.1.2.2.2.2 gX1_mixPlace_X1_bit rfl rfl rfl (by decide +kernel) ⟨Nat.le_of_ble_eq_true rfl, Nat.le_of_ble_eq_true rfl⟩) dX1_mixPlace_129 132 rfl rfl rfl (Nat.le_of_ble_eq_true rfl) ⟨Nat.le_of_ble_eq_true rfl, Nat.le_of_ble_eq_true rfl⟩ [0, 1] rfl [] rfl (by decide) (fun v hv => ?_)
  subst hv
  refine zv_go rfl rfl (st' := [.long (bitL (f11 p)), .long (mxl (mxl (mxl (mxl (mxl (mxl (mxl (mxl (mxl sm (Int32.toInt64 (f0 p))) (bitL (f2 p))) (Int32.toInt64 (f4 p))) (Int32.toInt64 (f7 p))) (Int32.toInt64 (f8 p))) (Int32.toInt64 (nI (mo f0 16 p)))) (Int32.toInt64 (nI (ao n f0 p)))) (Int32.toInt64 (f9 p))) (Int32.toInt64 (f10 p)))]) rfl (kc' := 0) rfl (ns' := 0) rfl ?_
  refine zv_callSR (rest := []) C (k_X1_mix l D cI cZ (mxl (mxl (mxl (mxl (mxl (mxl (mxl (mxl (mxl sm (Int32.toInt64 (f0 p))) (bitL (f2 p))) (Int32.toInt64 (f4 p))) (Int32.toInt64 (f7 p))) (Int32.toInt64 (f8 p))) (Int32.toInt64 (nI (mo f0 16 p)))) (Int32.toInt64 (nI (ao n f0 p)))) (Int32.toInt64 (f9 p))) (Int32.toInt64 (f10 p))) (bitL (f11 p))) (cwS 2 C.1.2.2.2.2 gX1_mixPlace_X1_mix rfl rfl rfl (by decide +kernel) ⟨Nat.le_of_ble_eq_true rfl, Nat.le_of_ble_eq_true rfl⟩) dX1_mixPlace_132 135 rfl rfl rfl (Nat.le_of_ble_eq_true rfl) ⟨Nat.le_of_ble_eq_true rfl, Nat.le_of_ble_eq_true rfl⟩ [0, 1] rfl [] rfl (by decide) (fun v hv => ?_)
  subst hv
  refine zv_go rfl rfl (st' := [.long (mxl (mxl (mxl (mxl (mxl (mxl (mxl (mxl (mxl (mxl sm (Int32.toInt64 (f0 p))) (bitL (f2 p))) (Int32.toInt64 (f4 p))) (Int32.toInt64 (f7 p))) (Int32.toInt64 (f8 p))) (Int32.toInt64 (nI (mo f0 16 p)))) (Int32.toInt64 (nI (ao n f0 p)))) (Int32.toInt64 (f9 p))) (Int32.toInt64 (f10 p))) (bitL (f11 p)))]) rfl (kc' := 0) rfl (ns' := 0) rfl ?_
  refine zv_lstore C dX1_mixPlace_135 137 rfl [(4, .long (mxl (mxl (mxl (mxl (mxl (mxl (mxl (mxl (mxl (mxl sm (Int32.toInt64 (f0 p))) (bitL (f2 p))) (Int32.toInt64 (f4 p))) (Int32.toInt64 (f7 p))) (Int32.toInt64 (f8 p))) (Int32.toInt64 (nI (mo f0 16 p)))) (Int32.toInt64 (nI (ao n f0 p)))) (Int32.toInt64 (f9 p))) (Int32.toInt64 (f10 p))) (bitL (f11 p)))), (0, .ref (q 0)), (1, .long sm), (3, .int (nI p))] (by decide) rfl ?_
  refine zv_lload C dX1_mixPlace_137 139 rfl 0 rfl ?_
  exact zv_lretR C hr hlk hA hQ dX1_mixPlace_139 (by rw [bitL_zo hz2, bitL_zo hz11]; rfl)
abbrev rmX1_mixBridge : Room := { frames := 3, cells := 0, slots := 0, locals := 64 }
set_option maxHeartbeats 4000000 in
set_option maxRecDepth 100000 in
theorem k_X1_mixBridge (l : Launch) (D : va_G) (cI cZ : ClassId) (q h k : Nat → Nat) (b : Nat) (y : Int32) (n : Nat) (r : Int32) (f0 f1 f2 f3 f4 f5 f6 f7 f8 f9 f10 f11 f12 f13 : Nat → Int32) (n1 : Nat) (r1 : Int32) (g0 g1 g2 g3 g4 g5 g6 g7 g8 g9 g10 g11 g12 g13 : Nat → Int32) (bp bn : Nat → Int32) (sm : Int64) (p : Nat) (hn : n ≤ 16) (hb : b ≤ 16) (hp : p < b) (hB : Brg n b bp) : zv_R l yX1_mixBridge wsX1_mixBridge rmX1_mixBridge D vwCl (tyL cI cZ) [.ref (q 0), .long sm, .int (nI p)] (cR cI cZ q h k (nI b) y (nI n) r f0 f1 f2 f3 f4 f5 f6 f7 f8 f9 f10 f11 f12 f13 (nI n1) r1 g0 g1 g2 g3 g4 g5 g6 g7 g8 g9 g10 g11 g12 g13 bp bn) (fun v => v = some (.long (brR bp bn f9 p sm))) := by
  refine zv_R.of cX1_mixBridge 6 (some .long) (by decide) rfl (Nat.le_of_ble_eq_true rfl) ?_
  intro pP eE sS mM aA bB mT cD A C hr hlk hA Q hQ
  refine zv_go (pc' := 0) rfl (lv' := [(0, .ref (q 0)), (1, .long sm), (3, .int (nI p))]) rfl rfl rfl rfl ?_
  refine zv_lload_n C dX1_mixBridge_0 1 rfl 1 rfl ?_
  refine zv_lstore C dX1_mixBridge_1 3 rfl [(4, .long sm), (0, .ref (q 0)), (1, .long sm), (3, .int (nI p))] (by decide) rfl ?_
  refine zv_lload C dX1_mixBridge_3 5 rfl 0 rfl ?_
  refine zv_aload_n C dX1_mixBridge_5 6 rfl 1 rfl ?_
  refine zv_iload_n C dX1_mixBridge_6 7 rfl 3 rfl ?_
  refine zv_callVR (rest := [.long sm]) C (k_X1_placeOf l D cI cZ q h k b y n r f0 f1 f2 f3 f4 f5 f6 f7 f8 f9 f10 f11 f12 f13 n1 r1 g0 g1 g2 g3 g4 g5 g6 g7 g8 g9 g10 g11 g12 g13 bp bn p (by omega) (by omega)) (cwV 1 C.1.2.2.2.2 gX1_mixBridge_X1_placeOf rfl rfl rfl (by decide +kernel) ⟨Nat.le_of_ble_eq_true rfl, Nat.le_of_ble_eq_true rfl⟩) dX1_mixBridge_7 10 rfl (ci := 1) 0 rfl rfl rfl rfl (Nat.le_of_ble_eq_true rfl) ⟨Nat.le_of_ble_eq_true rfl, Nat.le_of_ble_eq_true rfl⟩ [0, 1] rfl [0, 1, 2, 3, 4, 5, 6, 7, 8, 9, 10, 11, 12, 13, 14, 15, 16, 17, 18, 19, 20, 21, 22, 23, 24, 25, 26, 27, 28, 29, 30, 31, 32] rfl (by decide) (fun v hv => ?_)
  subst hv
  refine zv_go rfl rfl (st' := [.int (bp p), .long sm]) rfl (kc' := 0) rfl (ns' := 0) rfl ?_
  refine zv_i2l C dX1_mixBridge_10 11 rfl ?_
  refine zv_callSR (rest := []) C (k_X1_mix l D cI cZ sm (Int32.toInt64 (bp p))) (cwS 2 C.1.2.2.2.2 gX1_mixBridge_X1_mix rfl rfl rfl (by decide +kernel) ⟨Nat.le_of_ble_eq_true rfl, Nat.le_of_ble_eq_true rfl⟩) dX1_mixBridge_11 14 rfl rfl rfl (Nat.le_of_ble_eq_true rfl) ⟨Nat.le_of_ble_eq_true rfl, Nat.le_of_ble_eq_true rfl⟩ [0, 1] rfl [] rfl (by decide) (fun v hv => ?_)
  subst hv
  refine zv_go rfl rfl (st' := [.long (mxl sm (Int32.toInt64 (bp p)))]) rfl (kc' := 0) rfl (ns' := 0) rfl ?_
  refine zv_lstore C dX1_mixBridge_14 16 rfl [(4, .long (mxl sm (Int32.toInt64 (bp p)))), (0, .ref (q 0)), (1, .long sm), (3, .int (nI p))] (by decide) rfl ?_
  refine zv_lload C dX1_mixBridge_16 18 rfl 0 rfl ?_
  refine zv_aload_n C dX1_mixBridge_18 19 rfl 1 rfl ?_
  refine zv_iload_n C dX1_mixBridge_19 20 rfl 3 rfl ?_
  refine zv_callVR (rest := [.long (mxl sm (Int32.toInt64 (bp p)))]) C (k_X1_keeps l D cI cZ q h k b y n r f0 f1 f2 f3 f4 f5 f6 f7 f8 f9 f10 f11 f12 f13 n1 r1 g0 g1 g2 g3 g4 g5 g6 g7 g8 g9 g10 g11 g12 g13 bp bn p (by omega) (by omega)) (cwV 1 C.1.2.2.2.2 gX1_mixBridge_X1_keeps rfl rfl rfl (by decide +kernel) ⟨Nat.le_of_ble_eq_true rfl, Nat.le_of_ble_eq_true rfl⟩) dX1_mixBridge_20 23 rfl (ci := 1) 0 rfl rfl rfl rfl (Nat.le_of_ble_eq_true rfl) ⟨Nat.le_of_ble_eq_true rfl, Nat.le_of_ble_eq_true rfl⟩ [0, 1] rfl [0, 1, 2, 3, 4, 5, 6, 7, 8, 9, 10, 11, 12, 13, 14, 15, 16, 17, 18, 19, 20, 21, 22, 23, 24, 25, 26, 27, 28, 29, 30, 31, 32] rfl (by decide) (fun v hv => ?_)
  subst hv
  refine zv_go rfl rfl (st' := [.int (bn p), .long (mxl sm (Int32.toInt64 (bp p)))]) rfl (kc' := 0) rfl (ns' := 0) rfl ?_
  refine zv_i2l C dX1_mixBridge_23 24 rfl ?_
  refine zv_callSR (rest := []) C (k_X1_mix l D cI cZ (mxl sm (Int32.toInt64 (bp p))) (Int32.toInt64 (bn p))) (cwS 2 C.1.2.2.2.2 gX1_mixBridge_X1_mix rfl rfl rfl (by decide +kernel) ⟨Nat.le_of_ble_eq_true rfl, Nat.le_of_ble_eq_true rfl⟩) dX1_mixBridge_24 27 rfl rfl rfl (Nat.le_of_ble_eq_true rfl) ⟨Nat.le_of_ble_eq_true rfl, Nat.le_of_ble_eq_true rfl⟩ [0, 1] rfl [] rfl (by decide) (fun v hv => ?_)
  subst hv
  refine zv_go rfl rfl (st' := [.long (mxl (mxl sm (Int32.toInt64 (bp p))) (Int32.toInt64 (bn p)))]) rfl (kc' := 0) rfl (ns' := 0) rfl ?_
  refine zv_lstore C dX1_mixBridge_27 29 rfl [(4, .long (mxl (mxl sm (Int32.toInt64 (bp p))) (Int32.toInt64 (bn p)))), (0, .ref (q 0)), (1, .long sm), (3, .int (nI p))] (by decide) rfl ?_
  refine zv_lload C dX1_mixBridge_29 31 rfl 0 rfl ?_
  refine zv_aload_n C dX1_mixBridge_31 32 rfl 1 rfl ?_
  refine zv_iload_n C dX1_mixBridge_32 33 rfl 3 rfl ?_
  refine zv_callVR (rest := [.long (mxl (mxl sm (Int32.toInt64 (bp p))) (Int32.toInt64 (bn p)))]) C (k_X1_isInsulted l D cI cZ q h k b y n r f0 f1 f2 f3 f4 f5 f6 f7 f8 f9 f10 f11 f12 f13 n1 r1 g0 g1 g2 g3 g4 g5 g6 g7 g8 g9 g10 g11 g12 g13 bp bn p (by omega) (by omega) (by assumption) (by omega)) (cwV 1 C.1.2.2.2.2 gX1_mixBridge_X1_isInsulted rfl rfl rfl (by decide +kernel) ⟨Nat.le_of_ble_eq_true rfl, Nat.le_of_ble_eq_true rfl⟩) dX1_mixBridge_33 36 rfl (ci := 1) 0 rfl rfl rfl rfl (Nat.le_of_ble_eq_true rfl) ⟨Nat.le_of_ble_eq_true rfl, Nat.le_of_ble_eq_true rfl⟩ [0, 1] rfl [0, 1, 2, 3, 4, 5, 6, 7, 8, 9, 10, 11, 12, 13, 14, 15, 16, 17, 18, 19, 20, 21, 22, 23, 24, 25, 26, 27, 28, 29, 30, 31, 32] rfl (by decide) (fun v hv => ?_)
  subst hv
  refine zv_go rfl rfl (st' := [.int (zb (insd (bn p) (f9 (bp p).toNatClampNeg))), .long (mxl (mxl sm (Int32.toInt64 (bp p))) (Int32.toInt64 (bn p)))]) rfl (kc' := 0) rfl (ns' := 0) rfl ?_
  refine zv_callSR (rest := [.long (mxl (mxl sm (Int32.toInt64 (bp p))) (Int32.toInt64 (bn p)))]) C (k_X1_bit l D cI cZ (zb (insd (bn p) (f9 (bp p).toNatClampNeg)))) (cwS 1 C.1.2.2.2.2 gX1_mixBridge_X1_bit rfl rfl rfl (by decide +kernel) ⟨Nat.le_of_ble_eq_true rfl, Nat.le_of_ble_eq_true rfl⟩) dX1_mixBridge_36 39 rfl rfl rfl (Nat.le_of_ble_eq_true rfl) ⟨Nat.le_of_ble_eq_true rfl, Nat.le_of_ble_eq_true rfl⟩ [0, 1] rfl [] rfl (by decide) (fun v hv => ?_)
  subst hv
  refine zv_go rfl rfl (st' := [.long (bitL (zb (insd (bn p) (f9 (bp p).toNatClampNeg)))), .long (mxl (mxl sm (Int32.toInt64 (bp p))) (Int32.toInt64 (bn p)))]) rfl (kc' := 0) rfl (ns' := 0) rfl ?_
  refine zv_callSR (rest := []) C (k_X1_mix l D cI cZ (mxl (mxl sm (Int32.toInt64 (bp p))) (Int32.toInt64 (bn p))) (bitL (zb (insd (bn p) (f9 (bp p).toNatClampNeg))))) (cwS 2 C.1.2.2.2.2 gX1_mixBridge_X1_mix rfl rfl rfl (by decide +kernel) ⟨Nat.le_of_ble_eq_true rfl, Nat.le_of_ble_eq_true rfl⟩) dX1_mixBridge_39 42 rfl rfl rfl (Nat.le_of_ble_eq_true rfl) ⟨Nat.le_of_ble_eq_true rfl, Nat.le_of_ble_eq_true rfl⟩ [0, 1] rfl [] rfl (by decide) (fun v hv => ?_)
  subst hv
  refine zv_go rfl rfl (st' := [.long (mxl (mxl (mxl sm (Int32.toInt64 (bp p))) (Int32.toInt64 (bn p))) (bitL (zb (insd (bn p) (f9 (bp p).toNatClampNeg)))))]) rfl (kc' := 0) rfl (ns' := 0) rfl ?_
  refine zv_lstore C dX1_mixBridge_42 44 rfl [(4, .long (mxl (mxl (mxl sm (Int32.toInt64 (bp p))) (Int32.toInt64 (bn p))) (bitL (zb (insd (bn p) (f9 (bp p).toNatClampNeg)))))), (0, .ref (q 0)), (1, .long sm), (3, .int (nI p))] (by decide) rfl ?_
  refine zv_lload C dX1_mixBridge_44 46 rfl 0 rfl ?_
  exact zv_lretR C hr hlk hA hQ dX1_mixBridge_46 (by rw [bitL_zb]; rfl)
abbrev rmX1_digest : Room := { frames := 5, cells := 0, slots := 0, locals := 115 }
set_option maxHeartbeats 4000000 in
set_option maxRecDepth 100000 in
theorem k_X1_digest (l : Launch) (D : va_G) (cI cZ : ClassId) (q h k : Nat → Nat) (b : Nat) (y : Int32) (n : Nat) (r : Int32) (f0 f1 f2 f3 f4 f5 f6 f7 f8 f9 f10 f11 f12 f13 : Nat → Int32) (n1 : Nat) (r1 : Int32) (g0 g1 g2 g3 g4 g5 g6 g7 g8 g9 g10 g11 g12 g13 : Nat → Int32) (bp bn : Nat → Int32) (d : Nat → Nat) (hn : n ≤ 16) (hD : Dep n f0 f1 d) (hW : Wat n f2 f4) (hS : Stl n f0 f3 f4 f6 r f7 f8 f9 f10 f11 f12 f13) (hz2 : ∀ i, zo (f2 i)) (hz6 : ∀ i, zo (f6 i)) (hr01 : r = 0 ∨ r = 1) (hb : b ≤ 16) (hB : Brg n b bp) : zv_M l yX1_digest wsX1_digest rmX1_digest D vwCl (tyL cI cZ) [.ref (q 0)] (cR cI cZ q h k (nI b) y (nI n) r f0 f1 f2 f3 f4 f5 f6 f7 f8 f9 f10 f11 f12 f13 (nI n1) r1 g0 g1 g2 g3 g4 g5 g6 g7 g8 g9 g10 g11 g12 g13 bp bn) (fun v w => ∃ (tn : Nat) (tr : Int32) (tg_ : Nat → Nat → Int32), v = some (.long (fdP (brR bp bn f9) b (fdP (plR n f0 f2 f4 f7 f8 f9 f10 f11) n (dg8 y (nI n) (nI b) (nI (inN bp bn f9 b)) (gst f9 n 10) (nI (cnt f9 (-1) n)) ((wst (sprg f2 f4) (dry n f0 f2 f3 f4 f6 r) n).1) (nI (cne (nmS n f0 f2 f3 f4 f6 (1 - r)) (nmS n f0 f2 f3 f4 f6 r) n)))))) ∧ w = (cR cI cZ q h k (nI b) y (nI n) r f0 f1 f2 f3 f4 f5 f6 f7 f8 f9 f10 f11 f12 f13 (nI tn) tr (tg_ 0) (tg_ 1) (tg_ 2) (tg_ 3) (tg_ 4) (tg_ 5) (tg_ 6) (tg_ 7) (tg_ 8) (tg_ 9) (tg_ 10) (tg_ 11) (tg_ 12) (tg_ 13) bp bn)) := by
  refine zv_M.of cX1_digest 4 (some .long) (by decide) rfl (Nat.le_of_ble_eq_true rfl) ?_
  intro pP eE sS mM aA bB mT cD A C hr hlk hnm Q hQ
  have inX1 : ∀ w ∈ u_ws RX1 TX1 6, w ∈ wsX1_digest := by decide +kernel
  have lk26 : Cond.fieldLink RX1 26 "RiverNames" "bridgeCount" "I" ∈ wsX1_digest := by decide +kernel
  have lk10 : Cond.fieldLink RX1 10 "RiverNames" "land" "LRiverNames$Land;" ∈ wsX1_digest := by decide +kernel
  have lk30 : Cond.fieldLink RX1 30 "RiverNames" "yearNow" "I" ∈ wsX1_digest := by decide +kernel
  have L115 : ∀ (mu_L115 : Nat), ∀ (j : Nat) (sm : Int64) (n2 : Nat) (r2 : Int32) (e0 e1 e2 e3 e4 e5 e6 e7 e8 e9 e10 e11 e12 e13 : Nat → Int32), (j ≤ b) → (sm = fdP (brR bp bn f9) j (fdP (plR n f0 f2 f4 f7 f8 f9 f10 f11) n (dg8 y (nI n) (nI b) (nI (inN bp bn f9 b)) (gst f9 n 10) (nI (cnt f9 (-1) n)) ((wst (sprg f2 f4) (dry n f0 f2 f3 f4 f6 r) n).1) (nI (cne (nmS n f0 f2 f3 f4 f6 (1 - r)) (nmS n f0 f2 f3 f4 f6 r) n))))) → b - j < mu_L115 → zv_V pP l eE rmX1_digest sS mM aA bB mT cD Q 4 D vwCl A A (tyL cI cZ) (cR cI cZ q h k (nI b) y (nI n) r f0 f1 f2 f3 f4 f5 f6 f7 f8 f9 f10 f11 f12 f13 (nI n2) r2 e0 e1 e2 e3 e4 e5 e6 e7 e8 e9 e10 e11 e12 e13 bp bn) 0 0 115 [(0, .ref (q 0)), (1, .long sm), (3, .int (nI j))] [] := by
    intro mu_L115
    induction mu_L115 with
    | zero => intro j sm n2 r2 e0 e1 e2 e3 e4 e5 e6 e7 e8 e9 e10 e11 e12 e13 hj hm hmu_L115; exact absurd hmu_L115 (Nat.not_lt_zero _)
    | succ mu_L115 ih_L115 =>
      intro j sm n2 r2 e0 e1 e2 e3 e4 e5 e6 e7 e8 e9 e10 e11 e12 e13 hj hm hmu_L115
      refine zv_iload_n C dX1_digest_115 116 rfl 2 rfl ?_
      refine zv_aload_n C dX1_digest_116 117 rfl 0 rfl ?_
      refine zv_get (ci := 1) C inX1 rfl dX1_digest_117 120 rfl 0 4 rfl (by decide) lk26 rfl ?_
      refine zv_icmp_ge C dX1_digest_120 123 136 rfl (by decide) (fun c1 => ?_) (fun c1 => ?_)
      · replace c1 := zn_le (a := b) (b := j) (by omega) (by omega) c1
        refine zv_lload_n C dX1_digest_136 137 rfl 1 rfl ?_
        exact zv_lret C hr hlk hQ dX1_digest_137 ⟨n2, r2, (fam14 e0 e1 e2 e3 e4 e5 e6 e7 e8 e9 e10 e11 e12 e13), (by have hjn : j = b := (by omega); rw [hm, hjn]), rfl⟩
      · replace c1 := zn_le' (a := b) (b := j) (by omega) (by omega) c1
        refine zv_aload_n C dX1_digest_123 124 rfl 0 rfl ?_
        refine zv_lload_n C dX1_digest_124 125 rfl 1 rfl ?_
        refine zv_iload_n C dX1_digest_125 126 rfl 2 rfl ?_
        refine zv_callVR (rest := []) C (k_X1_mixBridge l D cI cZ q h k b y n r f0 f1 f2 f3 f4 f5 f6 f7 f8 f9 f10 f11 f12 f13 n2 r2 e0 e1 e2 e3 e4 e5 e6 e7 e8 e9 e10 e11 e12 e13 bp bn sm j (by omega) (by omega) (by omega) (by assumption)) (cwV 2 C.1.2.2.2.2 gX1_digest_X1_mixBridge rfl rfl rfl (by decide +kernel) ⟨Nat.le_of_ble_eq_true rfl, Nat.le_of_ble_eq_true rfl⟩) dX1_digest_126 129 rfl (ci := 1) 0 rfl rfl rfl rfl (Nat.le_of_ble_eq_true rfl) ⟨Nat.le_of_ble_eq_true rfl, Nat.le_of_ble_eq_true rfl⟩ [0, 1] rfl [0, 1, 2, 3, 4, 5, 6, 7, 8, 9, 10, 11, 12, 13, 14, 15, 16, 17, 18, 19, 20, 21, 22, 23, 24, 25, 26, 27, 28, 29, 30, 31, 32] rfl (by decide) (fun v hv => ?_)
        subst hv
        refine zv_go rfl rfl (st' := [.long (brR bp bn f9 j sm)]) rfl (kc' := 0) rfl (ns' := 0) rfl ?_
        refine zv_lstore_n C dX1_digest_129 130 rfl [(1, .long (brR bp bn f9 j sm)), (0, .ref (q 0)), (3, .int (nI j))] (by decide) rfl ?_
        refine zv_iinc (v := (nI (j + 1))) C dX1_digest_130 133 rfl [(3, .int (nI (j + 1))), (1, .long (brR bp bn f9 j sm)), (0, .ref (q 0))] 2 rfl (nI_1 j) (by decide) rfl ?_
        refine zv_goto C dX1_digest_133 115 (by decide) ?_
        refine zv_sub [2, 1, 0] (lv' := [(0, .ref (q 0)), (1, .long (brR bp bn f9 j sm)), (3, .int (nI (j + 1)))]) rfl ?_
        exact ih_L115 (j + 1) (brR bp bn f9 j sm) n2 r2 e0 e1 e2 e3 e4 e5 e6 e7 e8 e9 e10 e11 e12 e13 (by omega) (by rw [hm]; rfl) (by omega)
  have L89 : ∀ (mu_L89 : Nat), ∀ (j : Nat) (sm : Int64) (n2 : Nat) (r2 : Int32) (e0 e1 e2 e3 e4 e5 e6 e7 e8 e9 e10 e11 e12 e13 : Nat → Int32), (j ≤ n) → (sm = fdP (plR n f0 f2 f4 f7 f8 f9 f10 f11) j (dg8 y (nI n) (nI b) (nI (inN bp bn f9 b)) (gst f9 n 10) (nI (cnt f9 (-1) n)) ((wst (sprg f2 f4) (dry n f0 f2 f3 f4 f6 r) n).1) (nI (cne (nmS n f0 f2 f3 f4 f6 (1 - r)) (nmS n f0 f2 f3 f4 f6 r) n)))) → n - j < mu_L89 → zv_V pP l eE rmX1_digest sS mM aA bB mT cD Q 4 D vwCl A A (tyL cI cZ) (cR cI cZ q h k (nI b) y (nI n) r f0 f1 f2 f3 f4 f5 f6 f7 f8 f9 f10 f11 f12 f13 (nI n2) r2 e0 e1 e2 e3 e4 e5 e6 e7 e8 e9 e10 e11 e12 e13 bp bn) 0 0 89 [(0, .ref (q 0)), (1, .long sm), (3, .int (nI j))] [] := by
    intro mu_L89
    induction mu_L89 with
    | zero => intro j sm n2 r2 e0 e1 e2 e3 e4 e5 e6 e7 e8 e9 e10 e11 e12 e13 hj hm hmu_L89; exact absurd hmu_L89 (Nat.not_lt_zero _)
    | succ mu_L89 ih_L89 =>
      intro j sm n2 r2 e0 e1 e2 e3 e4 e5 e6 e7 e8 e9 e10 e11 e12 e13 hj hm hmu_L89
      refine zv_iload_n C dX1_digest_89 90 rfl 2 rfl ?_
      refine zv_aload_n C dX1_digest_90 91 rfl 0 rfl ?_
      refine zv_get (ci := 1) C inX1 rfl dX1_digest_91 94 rfl 0 0 rfl (by decide) lk10 rfl ?_
      refine zv_callVR (rest := [.int (nI j)]) C (k_X0_size l D cI cZ h n r f0 f1 f2 f3 f4 f5 f6 f7 f8 f9 f10 f11 f12 f13) (cwV 0 C.1.2.2.2.2 gX1_digest_X0_size rfl rfl rfl (by decide +kernel) ⟨Nat.le_of_ble_eq_true rfl, Nat.le_of_ble_eq_true rfl⟩) dX1_digest_94 97 rfl (ci := 0) 0 rfl rfl rfl rfl (Nat.le_of_ble_eq_true rfl) ⟨Nat.le_of_ble_eq_true rfl, Nat.le_of_ble_eq_true rfl⟩ [0, 1] rfl [1, 2, 3, 4, 5, 6, 7, 8, 9, 10, 11, 12, 13, 14, 15] rfl (by decide) (fun v hv => ?_)
      subst hv
      refine zv_go rfl rfl (st' := [.int (nI n), .int (nI j)]) rfl (kc' := 0) rfl (ns' := 0) rfl ?_
      refine zv_icmp_ge C dX1_digest_97 100 113 rfl (by decide) (fun c2 => ?_) (fun c2 => ?_)
      · replace c2 := zn_le (a := n) (b := j) (by omega) (by omega) c2
        refine zv_iconst (v := 0) C dX1_digest_113 114 rfl (by decide) ?_
        refine zv_istore_n C dX1_digest_114 115 rfl [(3, .int 0), (0, .ref (q 0)), (1, .long sm)] (by decide) rfl ?_
        refine zv_sub [1, 2, 0] (lv' := [(0, .ref (q 0)), (1, .long sm), (3, .int 0)]) rfl ?_
        exact L115 _ 0 sm n2 r2 e0 e1 e2 e3 e4 e5 e6 e7 e8 e9 e10 e11 e12 e13 (Nat.zero_le _) (by have hjn : j = n := (by omega); rw [hm, hjn]; rfl) (Nat.lt_succ_self _)
      · replace c2 := zn_le' (a := n) (b := j) (by omega) (by omega) c2
        refine zv_aload_n C dX1_digest_100 101 rfl 0 rfl ?_
        refine zv_lload_n C dX1_digest_101 102 rfl 1 rfl ?_
        refine zv_iload_n C dX1_digest_102 103 rfl 2 rfl ?_
        refine zv_callVR (rest := []) C (k_X1_mixPlace l D cI cZ q h k b y n r f0 f1 f2 f3 f4 f5 f6 f7 f8 f9 f10 f11 f12 f13 n2 r2 e0 e1 e2 e3 e4 e5 e6 e7 e8 e9 e10 e11 e12 e13 bp bn sm j (by omega) (by omega) (hz2 _) (by rw [Stl.dis hD hn hW hS (by omega)]; exact zo_zb _) hD.vw) (cwV 2 C.1.2.2.2.2 gX1_digest_X1_mixPlace rfl rfl rfl (by decide +kernel) ⟨Nat.le_of_ble_eq_true rfl, Nat.le_of_ble_eq_true rfl⟩) dX1_digest_103 106 rfl (ci := 1) 0 rfl rfl rfl rfl (Nat.le_of_ble_eq_true rfl) ⟨Nat.le_of_ble_eq_true rfl, Nat.le_of_ble_eq_true rfl⟩ [0, 1] rfl [0, 1, 2, 3, 4, 5, 6, 7, 8, 9, 10, 11, 12, 13, 14, 15, 16, 17, 18, 19, 20, 21, 22, 23, 24, 25, 26, 27, 28, 29, 30, 31, 32] rfl (by decide) (fun v hv => ?_)
        subst hv
        refine zv_go rfl rfl (st' := [.long (plR n f0 f2 f4 f7 f8 f9 f10 f11 j sm)]) rfl (kc' := 0) rfl (ns' := 0) rfl ?_
        refine zv_lstore_n C dX1_digest_106 107 rfl [(1, .long (plR n f0 f2 f4 f7 f8 f9 f10 f11 j sm)), (0, .ref (q 0)), (3, .int (nI j))] (by decide) rfl ?_
        refine zv_iinc (v := (nI (j + 1))) C dX1_digest_107 110 rfl [(3, .int (nI (j + 1))), (1, .long (plR n f0 f2 f4 f7 f8 f9 f10 f11 j sm)), (0, .ref (q 0))] 2 rfl (nI_1 j) (by decide) rfl ?_
        refine zv_goto C dX1_digest_110 89 (by decide) ?_
        refine zv_sub [2, 1, 0] (lv' := [(0, .ref (q 0)), (1, .long (plR n f0 f2 f4 f7 f8 f9 f10 f11 j sm)), (3, .int (nI (j + 1)))]) rfl ?_
        exact ih_L89 (j + 1) (plR n f0 f2 f4 f7 f8 f9 f10 f11 j sm) n2 r2 e0 e1 e2 e3 e4 e5 e6 e7 e8 e9 e10 e11 e12 e13 (by omega) (by rw [hm]; rfl) (by omega)
  refine zv_go (pc' := 0) rfl (lv' := [(0, .ref (q 0))]) rfl rfl rfl rfl ?_
  refine zv_ldc2 C dX1_digest_0 3 rfl (v := 2027) (by decide +kernel) ?_
  refine zv_lstore_n C dX1_digest_3 4 rfl [(1, .long 2027), (0, .ref (q 0))] (by decide) rfl ?_
  refine zv_lload_n C dX1_digest_4 5 rfl 0 rfl ?_
  refine zv_aload_n C dX1_digest_5 6 rfl 1 rfl ?_
  refine zv_get (ci := 1) C inX1 rfl dX1_digest_6 9 rfl 0 5 rfl (by decide) lk30 rfl ?_
  refine zv_i2l C dX1_digest_9 10 rfl ?_
  refine zv_callSR (rest := []) C (k_X1_mix l D cI cZ 2027 (Int32.toInt64 y)) (cwS 2 C.1.2.2.2.2 gX1_digest_X1_mix rfl rfl rfl (by decide +kernel) ⟨Nat.le_of_ble_eq_true rfl, Nat.le_of_ble_eq_true rfl⟩) dX1_digest_10 13 rfl rfl rfl (Nat.le_of_ble_eq_true rfl) ⟨Nat.le_of_ble_eq_true rfl, Nat.le_of_ble_eq_true rfl⟩ [0, 1] rfl [] rfl (by decide) (fun v hv => ?_)
  subst hv
  refine zv_go rfl rfl (st' := [.long (mxl 2027 (Int32.toInt64 y))]) rfl (kc' := 0) rfl (ns' := 0) rfl ?_
  refine zv_lstore_n C dX1_digest_13 14 rfl [(1, .long (mxl 2027 (Int32.toInt64 y))), (0, .ref (q 0))] (by decide) rfl ?_
  refine zv_lload_n C dX1_digest_14 15 rfl 0 rfl ?_
  refine zv_aload_n C dX1_digest_15 16 rfl 1 rfl ?_
  refine zv_get (ci := 1) C inX1 rfl dX1_digest_16 19 rfl 0 0 rfl (by decide) lk10 rfl ?_
  refine zv_callVR (rest := [.long (mxl 2027 (Int32.toInt64 y))]) C (k_X0_size l D cI cZ h n r f0 f1 f2 f3 f4 f5 f6 f7 f8 f9 f10 f11 f12 f13) (cwV 0 C.1.2.2.2.2 gX1_digest_X0_size rfl rfl rfl (by decide +kernel) ⟨Nat.le_of_ble_eq_true rfl, Nat.le_of_ble_eq_true rfl⟩) dX1_digest_19 22 rfl (ci := 0) 0 rfl rfl rfl rfl (Nat.le_of_ble_eq_true rfl) ⟨Nat.le_of_ble_eq_true rfl, Nat.le_of_ble_eq_true rfl⟩ [0, 1] rfl [1, 2, 3, 4, 5, 6, 7, 8, 9, 10, 11, 12, 13, 14, 15] rfl (by decide) (fun v hv => ?_)
  subst hv
  refine zv_go rfl rfl (st' := [.int (nI n), .long (mxl 2027 (Int32.toInt64 y))]) rfl (kc' := 0) rfl (ns' := 0) rfl ?_
  refine zv_i2l C dX1_digest_22 23 rfl ?_
  refine zv_callSR (rest := []) C (k_X1_mix l D cI cZ (mxl 2027 (Int32.toInt64 y)) (Int32.toInt64 (nI n))) (cwS 2 C.1.2.2.2.2 gX1_digest_X1_mix rfl rfl rfl (by decide +kernel) ⟨Nat.le_of_ble_eq_true rfl, Nat.le_of_ble_eq_true rfl⟩) dX1_digest_23 26 rfl rfl rfl (Nat.le_of_ble_eq_true rfl) ⟨Nat.le_of_ble_eq_true rfl, Nat.le_of_ble_eq_true rfl⟩ [0, 1] rfl [] rfl (by decide) (fun v hv => ?_)
  subst hv
  refine zv_go rfl rfl (st' := [.long (mxl (mxl 2027 (Int32.toInt64 y)) (Int32.toInt64 (nI n)))]) rfl (kc' := 0) rfl (ns' := 0) rfl ?_
  refine zv_lstore_n C dX1_digest_26 27 rfl [(1, .long (mxl (mxl 2027 (Int32.toInt64 y)) (Int32.toInt64 (nI n)))), (0, .ref (q 0))] (by decide) rfl ?_
  refine zv_lload_n C dX1_digest_27 28 rfl 0 rfl ?_
  refine zv_aload_n C dX1_digest_28 29 rfl 1 rfl ?_
  refine zv_get (ci := 1) C inX1 rfl dX1_digest_29 32 rfl 0 4 rfl (by decide) lk26 rfl ?_
  refine zv_i2l C dX1_digest_32 33 rfl ?_
  refine zv_callSR (rest := []) C (k_X1_mix l D cI cZ (mxl (mxl 2027 (Int32.toInt64 y)) (Int32.toInt64 (nI n))) (Int32.toInt64 (nI b))) (cwS 2 C.1.2.2.2.2 gX1_digest_X1_mix rfl rfl rfl (by decide +kernel) ⟨Nat.le_of_ble_eq_true rfl, Nat.le_of_ble_eq_true rfl⟩) dX1_digest_33 36 rfl rfl rfl (Nat.le_of_ble_eq_true rfl) ⟨Nat.le_of_ble_eq_true rfl, Nat.le_of_ble_eq_true rfl⟩ [0, 1] rfl [] rfl (by decide) (fun v hv => ?_)
  subst hv
  refine zv_go rfl rfl (st' := [.long (mxl (mxl (mxl 2027 (Int32.toInt64 y)) (Int32.toInt64 (nI n))) (Int32.toInt64 (nI b)))]) rfl (kc' := 0) rfl (ns' := 0) rfl ?_
  refine zv_lstore_n C dX1_digest_36 37 rfl [(1, .long (mxl (mxl (mxl 2027 (Int32.toInt64 y)) (Int32.toInt64 (nI n))) (Int32.toInt64 (nI b)))), (0, .ref (q 0))] (by decide) rfl ?_
  refine zv_lload_n C dX1_digest_37 38 rfl 0 rfl ?_
  refine zv_aload_n C dX1_digest_38 39 rfl 1 rfl ?_
  refine zv_callVR (rest := [.long (mxl (mxl (mxl 2027 (Int32.toInt64 y)) (Int32.toInt64 (nI n))) (Int32.toInt64 (nI b)))]) C (k_X1_countInsults l D cI cZ q h k b y n r f0 f1 f2 f3 f4 f5 f6 f7 f8 f9 f10 f11 f12 f13 n1 r1 g0 g1 g2 g3 g4 g5 g6 g7 g8 g9 g10 g11 g12 g13 bp bn (by omega) (by omega) (by assumption)) (cwV 0 C.1.2.2.2.2 gX1_digest_X1_countInsults rfl rfl rfl (by decide +kernel) ⟨Nat.le_of_ble_eq_true rfl, Nat.le_of_ble_eq_true rfl⟩) dX1_digest_39 42 rfl (ci := 1) 0 rfl rfl rfl rfl (Nat.le_of_ble_eq_true rfl) ⟨Nat.le_of_ble_eq_true rfl, Nat.le_of_ble_eq_true rfl⟩ [0, 1] rfl [0, 1, 2, 3, 4, 5, 6, 7, 8, 9, 10, 11, 12, 13, 14, 15, 16, 17, 18, 19, 20, 21, 22, 23, 24, 25, 26, 27, 28, 29, 30, 31, 32] rfl (by decide) (fun v hv => ?_)
  subst hv
  refine zv_go rfl rfl (st' := [.int (nI (inN bp bn f9 b)), .long (mxl (mxl (mxl 2027 (Int32.toInt64 y)) (Int32.toInt64 (nI n))) (Int32.toInt64 (nI b)))]) rfl (kc' := 0) rfl (ns' := 0) rfl ?_
  refine zv_i2l C dX1_digest_42 43 rfl ?_
  refine zv_callSR (rest := []) C (k_X1_mix l D cI cZ (mxl (mxl (mxl 2027 (Int32.toInt64 y)) (Int32.toInt64 (nI n))) (Int32.toInt64 (nI b))) (Int32.toInt64 (nI (inN bp bn f9 b)))) (cwS 2 C.1.2.2.2.2 gX1_digest_X1_mix rfl rfl rfl (by decide +kernel) ⟨Nat.le_of_ble_eq_true rfl, Nat.le_of_ble_eq_true rfl⟩) dX1_digest_43 46 rfl rfl rfl (Nat.le_of_ble_eq_true rfl) ⟨Nat.le_of_ble_eq_true rfl, Nat.le_of_ble_eq_true rfl⟩ [0, 1] rfl [] rfl (by decide) (fun v hv => ?_)
  subst hv
  refine zv_go rfl rfl (st' := [.long (mxl (mxl (mxl (mxl 2027 (Int32.toInt64 y)) (Int32.toInt64 (nI n))) (Int32.toInt64 (nI b))) (Int32.toInt64 (nI (inN bp bn f9 b))))]) rfl (kc' := 0) rfl (ns' := 0) rfl ?_
  refine zv_lstore_n C dX1_digest_46 47 rfl [(1, .long (mxl (mxl (mxl (mxl 2027 (Int32.toInt64 y)) (Int32.toInt64 (nI n))) (Int32.toInt64 (nI b))) (Int32.toInt64 (nI (inN bp bn f9 b))))), (0, .ref (q 0))] (by decide) rfl ?_
  refine zv_lload_n C dX1_digest_47 48 rfl 0 rfl ?_
  refine zv_aload_n C dX1_digest_48 49 rfl 1 rfl ?_
  refine zv_callVR (rest := [.long (mxl (mxl (mxl (mxl 2027 (Int32.toInt64 y)) (Int32.toInt64 (nI n))) (Int32.toInt64 (nI b))) (Int32.toInt64 (nI (inN bp bn f9 b))))]) C (k_X1_greatestName l D cI cZ q h k b y n r f0 f1 f2 f3 f4 f5 f6 f7 f8 f9 f10 f11 f12 f13 n1 r1 g0 g1 g2 g3 g4 g5 g6 g7 g8 g9 g10 g11 g12 g13 bp bn (by omega)) (cwV 0 C.1.2.2.2.2 gX1_digest_X1_greatestName rfl rfl rfl (by decide +kernel) ⟨Nat.le_of_ble_eq_true rfl, Nat.le_of_ble_eq_true rfl⟩) dX1_digest_49 52 rfl (ci := 1) 0 rfl rfl rfl rfl (Nat.le_of_ble_eq_true rfl) ⟨Nat.le_of_ble_eq_true rfl, Nat.le_of_ble_eq_true rfl⟩ [0, 1] rfl [0, 1, 2, 3, 4, 5, 6, 7, 8, 9, 10, 11, 12, 13, 14, 15, 16, 17, 18, 19, 20, 21, 22, 23, 24, 25, 26, 27, 28, 29, 30, 31, 32] rfl (by decide) (fun v hv => ?_)
  subst hv
  refine zv_go rfl rfl (st' := [.int (gst f9 n 10), .long (mxl (mxl (mxl (mxl 2027 (Int32.toInt64 y)) (Int32.toInt64 (nI n))) (Int32.toInt64 (nI b))) (Int32.toInt64 (nI (inN bp bn f9 b))))]) rfl (kc' := 0) rfl (ns' := 0) rfl ?_
  refine zv_i2l C dX1_digest_52 53 rfl ?_
  refine zv_callSR (rest := []) C (k_X1_mix l D cI cZ (mxl (mxl (mxl (mxl 2027 (Int32.toInt64 y)) (Int32.toInt64 (nI n))) (Int32.toInt64 (nI b))) (Int32.toInt64 (nI (inN bp bn f9 b)))) (Int32.toInt64 (gst f9 n 10))) (cwS 2 C.1.2.2.2.2 gX1_digest_X1_mix rfl rfl rfl (by decide +kernel) ⟨Nat.le_of_ble_eq_true rfl, Nat.le_of_ble_eq_true rfl⟩) dX1_digest_53 56 rfl rfl rfl (Nat.le_of_ble_eq_true rfl) ⟨Nat.le_of_ble_eq_true rfl, Nat.le_of_ble_eq_true rfl⟩ [0, 1] rfl [] rfl (by decide) (fun v hv => ?_)
  subst hv
  refine zv_go rfl rfl (st' := [.long (mxl (mxl (mxl (mxl (mxl 2027 (Int32.toInt64 y)) (Int32.toInt64 (nI n))) (Int32.toInt64 (nI b))) (Int32.toInt64 (nI (inN bp bn f9 b)))) (Int32.toInt64 (gst f9 n 10)))]) rfl (kc' := 0) rfl (ns' := 0) rfl ?_
  refine zv_lstore_n C dX1_digest_56 57 rfl [(1, .long (mxl (mxl (mxl (mxl (mxl 2027 (Int32.toInt64 y)) (Int32.toInt64 (nI n))) (Int32.toInt64 (nI b))) (Int32.toInt64 (nI (inN bp bn f9 b)))) (Int32.toInt64 (gst f9 n 10)))), (0, .ref (q 0))] (by decide) rfl ?_
  refine zv_lload_n C dX1_digest_57 58 rfl 0 rfl ?_
  refine zv_aload_n C dX1_digest_58 59 rfl 1 rfl ?_
  refine zv_callVR (rest := [.long (mxl (mxl (mxl (mxl (mxl 2027 (Int32.toInt64 y)) (Int32.toInt64 (nI n))) (Int32.toInt64 (nI b))) (Int32.toInt64 (nI (inN bp bn f9 b)))) (Int32.toInt64 (gst f9 n 10)))]) C (k_X1_nameless l D cI cZ q h k b y n r f0 f1 f2 f3 f4 f5 f6 f7 f8 f9 f10 f11 f12 f13 n1 r1 g0 g1 g2 g3 g4 g5 g6 g7 g8 g9 g10 g11 g12 g13 bp bn (by omega)) (cwV 0 C.1.2.2.2.2 gX1_digest_X1_nameless rfl rfl rfl (by decide +kernel) ⟨Nat.le_of_ble_eq_true rfl, Nat.le_of_ble_eq_true rfl⟩) dX1_digest_59 62 rfl (ci := 1) 0 rfl rfl rfl rfl (Nat.le_of_ble_eq_true rfl) ⟨Nat.le_of_ble_eq_true rfl, Nat.le_of_ble_eq_true rfl⟩ [0, 1] rfl [0, 1, 2, 3, 4, 5, 6, 7, 8, 9, 10, 11, 12, 13, 14, 15, 16, 17, 18, 19, 20, 21, 22, 23, 24, 25, 26, 27, 28, 29, 30, 31, 32] rfl (by decide) (fun v hv => ?_)
  subst hv
  refine zv_go rfl rfl (st' := [.int (nI (cnt f9 (-1) n)), .long (mxl (mxl (mxl (mxl (mxl 2027 (Int32.toInt64 y)) (Int32.toInt64 (nI n))) (Int32.toInt64 (nI b))) (Int32.toInt64 (nI (inN bp bn f9 b)))) (Int32.toInt64 (gst f9 n 10)))]) rfl (kc' := 0) rfl (ns' := 0) rfl ?_
  refine zv_i2l C dX1_digest_62 63 rfl ?_
  refine zv_callSR (rest := []) C (k_X1_mix l D cI cZ (mxl (mxl (mxl (mxl (mxl 2027 (Int32.toInt64 y)) (Int32.toInt64 (nI n))) (Int32.toInt64 (nI b))) (Int32.toInt64 (nI (inN bp bn f9 b)))) (Int32.toInt64 (gst f9 n 10))) (Int32.toInt64 (nI (cnt f9 (-1) n)))) (cwS 2 C.1.2.2.2.2 gX1_digest_X1_mix rfl rfl rfl (by decide +kernel) ⟨Nat.le_of_ble_eq_true rfl, Nat.le_of_ble_eq_true rfl⟩) dX1_digest_63 66 rfl rfl rfl (Nat.le_of_ble_eq_true rfl) ⟨Nat.le_of_ble_eq_true rfl, Nat.le_of_ble_eq_true rfl⟩ [0, 1] rfl [] rfl (by decide) (fun v hv => ?_)
  subst hv
  refine zv_go rfl rfl (st' := [.long (mxl (mxl (mxl (mxl (mxl (mxl 2027 (Int32.toInt64 y)) (Int32.toInt64 (nI n))) (Int32.toInt64 (nI b))) (Int32.toInt64 (nI (inN bp bn f9 b)))) (Int32.toInt64 (gst f9 n 10))) (Int32.toInt64 (nI (cnt f9 (-1) n))))]) rfl (kc' := 0) rfl (ns' := 0) rfl ?_
  refine zv_lstore_n C dX1_digest_66 67 rfl [(1, .long (mxl (mxl (mxl (mxl (mxl (mxl 2027 (Int32.toInt64 y)) (Int32.toInt64 (nI n))) (Int32.toInt64 (nI b))) (Int32.toInt64 (nI (inN bp bn f9 b)))) (Int32.toInt64 (gst f9 n 10))) (Int32.toInt64 (nI (cnt f9 (-1) n))))), (0, .ref (q 0))] (by decide) rfl ?_
  refine zv_lload_n C dX1_digest_67 68 rfl 0 rfl ?_
  refine zv_aload_n C dX1_digest_68 69 rfl 1 rfl ?_
  refine zv_callV (rest := [.long (mxl (mxl (mxl (mxl (mxl (mxl 2027 (Int32.toInt64 y)) (Int32.toInt64 (nI n))) (Int32.toInt64 (nI b))) (Int32.toInt64 (nI (inN bp bn f9 b)))) (Int32.toInt64 (gst f9 n 10))) (Int32.toInt64 (nI (cnt f9 (-1) n))))]) (wr := []) C (k_X1_weightiestSpring l D cI cZ q h k b y n r f0 f1 f2 f3 f4 f5 f6 f7 f8 f9 f10 f11 f12 f13 n1 r1 g0 g1 g2 g3 g4 g5 g6 g7 g8 g9 g10 g11 g12 g13 bp bn d (by omega) (by assumption) (by assumption) (by assumption) (by assumption) (by assumption)) (cwV 0 C.1.2.2.2.2 gX1_digest_X1_weightiestSpring rfl rfl rfl (by decide +kernel) ⟨Nat.le_of_ble_eq_true rfl, Nat.le_of_ble_eq_true rfl⟩) dX1_digest_69 72 rfl (ci := 1) 0 rfl rfl rfl rfl (Nat.le_of_ble_eq_true rfl) ⟨Nat.le_of_ble_eq_true rfl, Nat.le_of_ble_eq_true rfl⟩ [0, 1] rfl [0, 1, 2, 3, 4, 5, 6, 7, 8, 9, 10, 11, 12, 13, 14, 15, 16, 17, 18, 19, 20, 21, 22, 23, 24, 25, 26, 27, 28, 29, 30, 31, 32] rfl (by decide) [] rfl (by decide) (by decide +kernel) (fun v w hv => ?_)
  obtain ⟨tn_34, tr_34, tg_34, rfl, rfl⟩ := hv
  refine zv_go rfl rfl (st' := [.int ((wst (sprg f2 f4) (dry n f0 f2 f3 f4 f6 r) n).1), .long (mxl (mxl (mxl (mxl (mxl (mxl 2027 (Int32.toInt64 y)) (Int32.toInt64 (nI n))) (Int32.toInt64 (nI b))) (Int32.toInt64 (nI (inN bp bn f9 b)))) (Int32.toInt64 (gst f9 n 10))) (Int32.toInt64 (nI (cnt f9 (-1) n))))]) rfl (kc' := 0) rfl (ns' := 0) rfl ?_
  refine zv_wd (ws' := (cR cI cZ q h k (nI b) y (nI n) r f0 f1 f2 f3 f4 f5 f6 f7 f8 f9 f10 f11 f12 f13 (nI tn_34) tr_34 (tg_34 0) (tg_34 1) (tg_34 2) (tg_34 3) (tg_34 4) (tg_34 5) (tg_34 6) (tg_34 7) (tg_34 8) (tg_34 9) (tg_34 10) (tg_34 11) (tg_34 12) (tg_34 13) bp bn)) rfl ?_
  refine zv_i2l C dX1_digest_72 73 rfl ?_
  refine zv_callSR (rest := []) C (k_X1_mix l D cI cZ (mxl (mxl (mxl (mxl (mxl (mxl 2027 (Int32.toInt64 y)) (Int32.toInt64 (nI n))) (Int32.toInt64 (nI b))) (Int32.toInt64 (nI (inN bp bn f9 b)))) (Int32.toInt64 (gst f9 n 10))) (Int32.toInt64 (nI (cnt f9 (-1) n)))) (Int32.toInt64 ((wst (sprg f2 f4) (dry n f0 f2 f3 f4 f6 r) n).1))) (cwS 2 C.1.2.2.2.2 gX1_digest_X1_mix rfl rfl rfl (by decide +kernel) ⟨Nat.le_of_ble_eq_true rfl, Nat.le_of_ble_eq_true rfl⟩) dX1_digest_73 76 rfl rfl rfl (Nat.le_of_ble_eq_true rfl) ⟨Nat.le_of_ble_eq_true rfl, Nat.le_of_ble_eq_true rfl⟩ [0, 1] rfl [] rfl (by decide) (fun v hv => ?_)
  subst hv
  refine zv_go rfl rfl (st' := [.long (mxl (mxl (mxl (mxl (mxl (mxl (mxl 2027 (Int32.toInt64 y)) (Int32.toInt64 (nI n))) (Int32.toInt64 (nI b))) (Int32.toInt64 (nI (inN bp bn f9 b)))) (Int32.toInt64 (gst f9 n 10))) (Int32.toInt64 (nI (cnt f9 (-1) n)))) (Int32.toInt64 ((wst (sprg f2 f4) (dry n f0 f2 f3 f4 f6 r) n).1)))]) rfl (kc' := 0) rfl (ns' := 0) rfl ?_
  refine zv_lstore_n C dX1_digest_76 77 rfl [(1, .long (mxl (mxl (mxl (mxl (mxl (mxl (mxl 2027 (Int32.toInt64 y)) (Int32.toInt64 (nI n))) (Int32.toInt64 (nI b))) (Int32.toInt64 (nI (inN bp bn f9 b)))) (Int32.toInt64 (gst f9 n 10))) (Int32.toInt64 (nI (cnt f9 (-1) n)))) (Int32.toInt64 ((wst (sprg f2 f4) (dry n f0 f2 f3 f4 f6 r) n).1)))), (0, .ref (q 0))] (by decide) rfl ?_
  refine zv_lload_n C dX1_digest_77 78 rfl 0 rfl ?_
  refine zv_aload_n C dX1_digest_78 79 rfl 1 rfl ?_
  refine zv_callV (rest := [.long (mxl (mxl (mxl (mxl (mxl (mxl (mxl 2027 (Int32.toInt64 y)) (Int32.toInt64 (nI n))) (Int32.toInt64 (nI b))) (Int32.toInt64 (nI (inN bp bn f9 b)))) (Int32.toInt64 (gst f9 n 10))) (Int32.toInt64 (nI (cnt f9 (-1) n)))) (Int32.toInt64 ((wst (sprg f2 f4) (dry n f0 f2 f3 f4 f6 r) n).1)))]) (wr := []) C (k_X1_renamedByRule l D cI cZ q h k b y n r f0 f1 f2 f3 f4 f5 f6 f7 f8 f9 f10 f11 f12 f13 tn_34 tr_34 (tg_34 0) (tg_34 1) (tg_34 2) (tg_34 3) (tg_34 4) (tg_34 5) (tg_34 6) (tg_34 7) (tg_34 8) (tg_34 9) (tg_34 10) (tg_34 11) (tg_34 12) (tg_34 13) bp bn d (by omega) (by assumption) (by assumption) (by assumption) (by assumption) (by assumption) (by assumption)) (cwV 0 C.1.2.2.2.2 gX1_digest_X1_renamedByRule rfl rfl rfl (by decide +kernel) ⟨Nat.le_of_ble_eq_true rfl, Nat.le_of_ble_eq_true rfl⟩) dX1_digest_79 82 rfl (ci := 1) 0 rfl rfl rfl rfl (Nat.le_of_ble_eq_true rfl) ⟨Nat.le_of_ble_eq_true rfl, Nat.le_of_ble_eq_true rfl⟩ [0, 1] rfl [0, 1, 2, 3, 4, 5, 6, 7, 8, 9, 10, 11, 12, 13, 14, 15, 16, 17, 18, 19, 20, 21, 22, 23, 24, 25, 26, 27, 28, 29, 30, 31, 32] rfl (by decide) [] rfl (by decide) (by decide +kernel) (fun v w hv => ?_)
  obtain ⟨tn_35, tr_35, tg_35, rfl, rfl⟩ := hv
  refine zv_go rfl rfl (st' := [.int (nI (cne (nmS n f0 f2 f3 f4 f6 (1 - r)) (nmS n f0 f2 f3 f4 f6 r) n)), .long (mxl (mxl (mxl (mxl (mxl (mxl (mxl 2027 (Int32.toInt64 y)) (Int32.toInt64 (nI n))) (Int32.toInt64 (nI b))) (Int32.toInt64 (nI (inN bp bn f9 b)))) (Int32.toInt64 (gst f9 n 10))) (Int32.toInt64 (nI (cnt f9 (-1) n)))) (Int32.toInt64 ((wst (sprg f2 f4) (dry n f0 f2 f3 f4 f6 r) n).1)))]) rfl (kc' := 0) rfl (ns' := 0) rfl ?_
  refine zv_wd (ws' := (cR cI cZ q h k (nI b) y (nI n) r f0 f1 f2 f3 f4 f5 f6 f7 f8 f9 f10 f11 f12 f13 (nI tn_35) tr_35 (tg_35 0) (tg_35 1) (tg_35 2) (tg_35 3) (tg_35 4) (tg_35 5) (tg_35 6) (tg_35 7) (tg_35 8) (tg_35 9) (tg_35 10) (tg_35 11) (tg_35 12) (tg_35 13) bp bn)) rfl ?_
  refine zv_i2l C dX1_digest_82 83 rfl ?_
  refine zv_callSR (rest := []) C (k_X1_mix l D cI cZ (mxl (mxl (mxl (mxl (mxl (mxl (mxl 2027 (Int32.toInt64 y)) (Int32.toInt64 (nI n))) (Int32.toInt64 (nI b))) (Int32.toInt64 (nI (inN bp bn f9 b)))) (Int32.toInt64 (gst f9 n 10))) (Int32.toInt64 (nI (cnt f9 (-1) n)))) (Int32.toInt64 ((wst (sprg f2 f4) (dry n f0 f2 f3 f4 f6 r) n).1))) (Int32.toInt64 (nI (cne (nmS n f0 f2 f3 f4 f6 (1 - r)) (nmS n f0 f2 f3 f4 f6 r) n)))) (cwS 2 C.1.2.2.2.2 gX1_digest_X1_mix rfl rfl rfl (by decide +kernel) ⟨Nat.le_of_ble_eq_true rfl, Nat.le_of_ble_eq_true rfl⟩) dX1_digest_83 86 rfl rfl rfl (Nat.le_of_ble_eq_true rfl) ⟨Nat.le_of_ble_eq_true rfl, Nat.le_of_ble_eq_true rfl⟩ [0, 1] rfl [] rfl (by decide) (fun v hv => ?_)
  subst hv
  refine zv_go rfl rfl (st' := [.long (mxl (mxl (mxl (mxl (mxl (mxl (mxl (mxl 2027 (Int32.toInt64 y)) (Int32.toInt64 (nI n))) (Int32.toInt64 (nI b))) (Int32.toInt64 (nI (inN bp bn f9 b)))) (Int32.toInt64 (gst f9 n 10))) (Int32.toInt64 (nI (cnt f9 (-1) n)))) (Int32.toInt64 ((wst (sprg f2 f4) (dry n f0 f2 f3 f4 f6 r) n).1))) (Int32.toInt64 (nI (cne (nmS n f0 f2 f3 f4 f6 (1 - r)) (nmS n f0 f2 f3 f4 f6 r) n))))]) rfl (kc' := 0) rfl (ns' := 0) rfl ?_
  refine zv_lstore_n C dX1_digest_86 87 rfl [(1, .long (mxl (mxl (mxl (mxl (mxl (mxl (mxl (mxl 2027 (Int32.toInt64 y)) (Int32.toInt64 (nI n))) (Int32.toInt64 (nI b))) (Int32.toInt64 (nI (inN bp bn f9 b)))) (Int32.toInt64 (gst f9 n 10))) (Int32.toInt64 (nI (cnt f9 (-1) n)))) (Int32.toInt64 ((wst (sprg f2 f4) (dry n f0 f2 f3 f4 f6 r) n).1))) (Int32.toInt64 (nI (cne (nmS n f0 f2 f3 f4 f6 (1 - r)) (nmS n f0 f2 f3 f4 f6 r) n))))), (0, .ref (q 0))] (by decide) rfl ?_
  refine zv_iconst (v := 0) C dX1_digest_87 88 rfl (by decide) ?_
  refine zv_istore_n C dX1_digest_88 89 rfl [(3, .int 0), (1, .long (mxl (mxl (mxl (mxl (mxl (mxl (mxl (mxl 2027 (Int32.toInt64 y)) (Int32.toInt64 (nI n))) (Int32.toInt64 (nI b))) (Int32.toInt64 (nI (inN bp bn f9 b)))) (Int32.toInt64 (gst f9 n 10))) (Int32.toInt64 (nI (cnt f9 (-1) n)))) (Int32.toInt64 ((wst (sprg f2 f4) (dry n f0 f2 f3 f4 f6 r) n).1))) (Int32.toInt64 (nI (cne (nmS n f0 f2 f3 f4 f6 (1 - r)) (nmS n f0 f2 f3 f4 f6 r) n))))), (0, .ref (q 0))] (by decide) rfl ?_
  refine zv_sub [2, 1, 0] (lv' := [(0, .ref (q 0)), (1, .long (mxl (mxl (mxl (mxl (mxl (mxl (mxl (mxl 2027 (Int32.toInt64 y)) (Int32.toInt64 (nI n))) (Int32.toInt64 (nI b))) (Int32.toInt64 (nI (inN bp bn f9 b)))) (Int32.toInt64 (gst f9 n 10))) (Int32.toInt64 (nI (cnt f9 (-1) n)))) (Int32.toInt64 ((wst (sprg f2 f4) (dry n f0 f2 f3 f4 f6 r) n).1))) (Int32.toInt64 (nI (cne (nmS n f0 f2 f3 f4 f6 (1 - r)) (nmS n f0 f2 f3 f4 f6 r) n))))), (3, .int 0)]) rfl ?_
  exact L89 _ 0 (mxl (mxl (mxl (mxl (mxl (mxl (mxl (mxl 2027 (Int32.toInt64 y)) (Int32.toInt64 (nI n))) (Int32.toInt64 (nI b))) (Int32.toInt64 (nI (inN bp bn f9 b)))) (Int32.toInt64 (gst f9 n 10))) (Int32.toInt64 (nI (cnt f9 (-1) n)))) (Int32.toInt64 ((wst (sprg f2 f4) (dry n f0 f2 f3 f4 f6 r) n).1))) (Int32.toInt64 (nI (cne (nmS n f0 f2 f3 f4 f6 (1 - r)) (nmS n f0 f2 f3 f4 f6 r) n)))) tn_35 tr_35 (tg_35 0) (tg_35 1) (tg_35 2) (tg_35 3) (tg_35 4) (tg_35 5) (tg_35 6) (tg_35 7) (tg_35 8) (tg_35 9) (tg_35 10) (tg_35 11) (tg_35 12) (tg_35 13) (Nat.zero_le _) rfl (Nat.lt_succ_self _)
