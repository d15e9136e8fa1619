theorem sw1_step {n m : Nat} {has wat sw : Nat → Int32} (hW : Wat n has wat) (hSw : Swl n has sw) {i : Nat} (hi : i < n) : clamp (swN has wat sw m i + 1 * sw i) = swN has wat sw (m + 1) i := by
  rw [Int32.one_mul]
  simp only [swN, swl]
  split
  · rename_i hz
    rw [(swN_wat (sw := sw) hW m i hi).1 hz, (hSw i hi).1 hz]; decide
  · rfl
theorem wq_no {bs mq : Int32} {ms c : Nat} (hq : mq = if bs = -1 then -1 else nI ms) (hc : c < 2 ^ 31) (hm : ms < 2 ^ 31) (h : nI c ≤ mq) : ¬ bs = -1 ∧ c ≤ ms := by
  by_cases z : bs = -1
  · rw [if_pos z] at hq
    rw [hq] at h
    exact absurd h (Int32.not_le.mpr (m1_lt_nI hc))
  · rw [if_neg z] at hq
    rw [hq] at h
    exact ⟨z, zn_le hc hm h⟩
theorem wq_yes {bs mq : Int32} {ms c : Nat} (hq : mq = if bs = -1 then -1 else nI ms) (hc : c < 2 ^ 31) (hm : ms < 2 ^ 31) (h : ¬ nI c ≤ mq) : bs = -1 ∨ ms < c := by
  by_cases z : bs = -1
  · exact Or.inl z
  · rw [if_neg z] at hq
    rw [hq] at h
    exact Or.inr (zn_le' hc hm h)
abbrev rmX1_addPlace : Room := { frames := 4, cells := 0, slots := 0, locals := 91 }
set_option maxHeartbeats 4000000 in
set_option maxRecDepth 100000 in
theorem k_X1_addPlace (l : Launch) (D : va_G) (cI cZ : ClassId) (q h k : Nat → Nat) (b : Nat) (y : Int32) (n : Nat) (r : Int32) (f0 f1 f2 f3 f4 f5 f6 f7 f8 f9 f10 f11 f12 f13 : Nat → Int32) (n1 : Nat) (r1 : Int32) (g0 g1 g2 g3 g4 g5 g6 g7 g8 g9 g10 g11 g12 g13 : Nat → Int32) (bp bn : Nat → Int32) (d : Nat → Nat) (hn : n < 16) (hD : Dep (n + 1) (upd f0 n (-1)) f1 d) : zv_M l yX1_addPlace wsX1_addPlace rmX1_addPlace D vwCl (tyL cI cZ) [.ref (q 0)] (cR cI cZ q h k (nI b) y (nI n) r f0 f1 f2 f3 f4 f5 f6 f7 f8 f9 f10 f11 f12 f13 (nI n1) r1 g0 g1 g2 g3 g4 g5 g6 g7 g8 g9 g10 g11 g12 g13 bp bn) (fun v w => ∃ (v7 : Nat → Int32) (v8 : Nat → Int32) (v9 : Nat → Int32) (v10 : Nat → Int32) (v11 : Nat → Int32) (v12 : Nat → Int32) (v13 : Nat → Int32), v = some (.int (nI n)) ∧ w = (cR cI cZ q h k (nI b) y (nI (n + 1)) r (upd f0 n (-1)) f1 f2 f3 f4 f5 f6 v7 v8 v9 v10 v11 v12 v13 (nI n1) r1 g0 g1 g2 g3 g4 g5 g6 g7 g8 g9 g10 g11 g12 g13 bp bn) ∧ (Stl (n + 1) (upd f0 n (-1)) f3 f4 f6 r v7 v8 v9 v10 v11 v12 v13)) := by
  refine zv_M.of cX1_addPlace 1 (some .int) (by decide) rfl (Nat.le_of_ble_eq_true rfl) ?_
  intro pP eE sS mM aA bB mT cD A C hr hlk hnm Q hQ
  have inX1 : ∀ w ∈ u_ws RX1 TX1 6, w ∈ wsX1_addPlace := by decide +kernel
  have lk10 : Cond.fieldLink RX1 10 "RiverNames" "land" "LRiverNames$Land;" ∈ wsX1_addPlace := by decide +kernel
  refine zv_go (pc' := 0) rfl (lv' := [(0, .ref (q 0))]) rfl rfl rfl rfl ?_
  refine zv_aload_n C dX1_addPlace_0 1 rfl 0 rfl ?_
  refine zv_callVR (rest := []) C (k_X1_requireRoomForPlace l D cI cZ q h k b y n r f0 f1 f2 f3 f4 f5 f6 f7 f8 f9 f10 f11 f12 f13 n1 r1 g0 g1 g2 g3 g4 g5 g6 g7 g8 g9 g10 g11 g12 g13 bp bn (by omega)) (cwV 0 C.1.2.2.2.2 gX1_addPlace_X1_requireRoomForPlace rfl rfl rfl (by decide +kernel) ⟨Nat.le_of_ble_eq_true rfl, Nat.le_of_ble_eq_true rfl⟩) dX1_addPlace_1 4 rfl (ci := 1) 0 rfl rfl rfl rfl (Nat.le_of_ble_eq_true rfl) ⟨Nat.le_of_ble_eq_true rfl, Nat.le_of_ble_eq_true rfl⟩ [0, 1] rfl [0, 1, 2, 3, 4, 5, 6, 7, 8, 9, 10, 11, 12, 13, 14, 15, 16, 17, 18, 19, 20, 21, 22, 23, 24, 25, 26, 27, 28, 29, 30, 31, 32] rfl (by decide) (fun v hv => ?_)
  subst hv
  refine zv_go rfl rfl (st' := []) rfl (kc' := 0) rfl (ns' := 0) rfl ?_
  refine zv_aload_n C dX1_addPlace_4 5 rfl 0 rfl ?_
  refine zv_get (ci := 1) C inX1 rfl dX1_addPlace_5 8 rfl 0 0 rfl (by decide) lk10 rfl ?_
  refine zv_callV (rest := []) (wr := [(q 0, .inr (1, [.ref (h 0), .ref (k 0), .ref (q 1), .ref (q 2), .int (nI b), .int y])), (k 0, .inr (0, [.int (nI n1), .int r1, .ref (k 1), .ref (k 2), .ref (k 3), .ref (k 4), .ref (k 5), .ref (k 6), .ref (k 7), .ref (k 8), .ref (k 9), .ref (k 10), .ref (k 11), .ref (k 12), .ref (k 13), .ref (k 14)])), (k 1, .inl (cI, 16, .inl g0)), (k 2, .inl (cI, 16, .inl g1)), (k 3, .inl (cZ, 16, .inl g2)), (k 4, .inl (cI, 16, .inl g3)), (k 5, .inl (cI, 16, .inl g4)), (k 6, .inl (cI, 16, .inl g5)), (k 7, .inl (cZ, 16, .inl g6)), (k 8, .inl (cI, 16, .inl g7)), (k 9, .inl (cI, 16, .inl g8)), (k 10, .inl (cI, 16, .inl g9)), (k 11, .inl (cI, 16, .inl g10)), (k 12, .inl (cZ, 16, .inl g11)), (k 13, .inl (cI, 16, .inl g12)), (k 14, .inl (cI, 16, .inl g13)), (q 1, .inl (cI, 16, .inl bp)), (q 2, .inl (cI, 16, .inl bn))]) C (k_X0_addBare l D cI cZ h n r f0 f1 f2 f3 f4 f5 f6 f7 f8 f9 f10 f11 f12 f13 d (by omega) hD) (cwV 0 C.1.2.2.2.2 gX1_addPlace_X0_addBare rfl rfl rfl (by decide +kernel) ⟨Nat.le_of_ble_eq_true rfl, Nat.le_of_ble_eq_true rfl⟩) dX1_addPlace_8 11 rfl (ci := 0) 0 rfl rfl rfl rfl (Nat.le_of_ble_eq_true rfl) ⟨Nat.le_of_ble_eq_true rfl, Nat.le_of_ble_eq_true rfl⟩ [0, 1] rfl [1, 2, 3, 4, 5, 6, 7, 8, 9, 10, 11, 12, 13, 14, 15] rfl (by decide) [0, 16, 17, 18, 19, 20, 21, 22, 23, 24, 25, 26, 27, 28, 29, 30, 31, 32] rfl (by decide) (by decide +kernel) (fun v w hv => ?_)
  obtain ⟨rfl, u7_17, u8_17, u9_17, u10_17, u11_17, u12_17, u13_17, rfl, hu17⟩ := hv
  refine zv_go rfl rfl (st' := [.int (nI n)]) rfl (kc' := 0) rfl (ns' := 0) rfl ?_
  refine zv_perm [0, 18, 19, 20, 21, 22, 23, 24, 25, 26, 27, 28, 29, 30, 31, 32, 1, 2, 3, 4, 5, 6, 7, 8, 9, 10, 11, 12, 13, 14, 15, 16, 17] (ws' := (cR cI cZ q h k (nI b) y (nI (n + 1)) r (upd f0 n (-1)) f1 f2 f3 f4 f5 f6 u7_17 u8_17 u9_17 u10_17 u11_17 u12_17 u13_17 (nI n1) r1 g0 g1 g2 g3 g4 g5 g6 g7 g8 g9 g10 g11 g12 g13 bp bn)) (by decide) rfl ?_
  exact zv_iret C hr hlk hQ dX1_addPlace_11 ⟨u7_17, u8_17, u9_17, u10_17, u11_17, u12_17, u13_17, rfl, rfl, hu17⟩
abbrev rmX1_addSpring : Room := { frames := 4, cells := 0, slots := 0, locals := 94 }
set_option maxHeartbeats 4000000 in
set_option maxRecDepth 100000 in
theorem k_X1_addSpring (l : Launch) (D : va_G) (cI cZ : ClassId) (q h k : Nat → Nat) (b : Nat) (y : Int32) (n : Nat) (r : Int32) (f0 f1 f2 f3 f4 f5 f6 f7 f8 f9 f10 f11 f12 f13 : Nat → Int32) (n1 : Nat) (r1 : Int32) (g0 g1 g2 g3 g4 g5 g6 g7 g8 g9 g10 g11 g12 g13 : Nat → Int32) (bp bn : Nat → Int32) (nm wa sw : Int32) (d : Nat → Nat) (hn : n < 16) (hD : Dep (n + 1) (upd f0 n (-1)) f1 d) (h1 : isI nm 0 9 = true) (h2 : isI wa 0 99 = true) (h3 : isI sw (-9) 9 = true) : zv_M l yX1_addSpring wsX1_addSpring rmX1_addSpring D vwCl (tyL cI cZ) [.ref (q 0), .int nm, .int wa, .int sw] (cR cI cZ q h k (nI b) y (nI n) r f0 f1 f2 f3 f4 f5 f6 f7 f8 f9 f10 f11 f12 f13 (nI n1) r1 g0 g1 g2 g3 g4 g5 g6 g7 g8 g9 g10 g11 g12 g13 bp bn) (fun v w => ∃ (v7 : Nat → Int32) (v8 : Nat → Int32) (v9 : Nat → Int32) (v10 : Nat → Int32) (v11 : Nat → Int32) (v12 : Nat → Int32) (v13 : Nat → Int32), v = some (.int (nI n)) ∧ w = (cR cI cZ q h k (nI b) y (nI (n + 1)) r (upd f0 n (-1)) f1 (upd f2 n 1) (upd f3 n nm) (upd f4 n wa) (upd f5 n sw) f6 v7 v8 v9 v10 v11 v12 v13 (nI n1) r1 g0 g1 g2 g3 g4 g5 g6 g7 g8 g9 g10 g11 g12 g13 bp bn) ∧ (Stl (n + 1) (upd f0 n (-1)) (upd f3 n nm) (upd f4 n wa) f6 r v7 v8 v9 v10 v11 v12 v13)) := by
  refine zv_M.of cX1_addSpring 4 (some .int) (by decide) rfl (Nat.le_of_ble_eq_true rfl) ?_
  intro pP eE sS mM aA bB mT cD A C hr hlk hnm Q hQ
  have inX1 : ∀ w ∈ u_ws RX1 TX1 6, w ∈ wsX1_addSpring := by decide +kernel
  have lk10 : Cond.fieldLink RX1 10 "RiverNames" "land" "LRiverNames$Land;" ∈ wsX1_addSpring := by decide +kernel
  refine zv_go (pc' := 0) rfl (lv' := [(0, .ref (q 0)), (1, .int nm), (2, .int wa), (3, .int sw)]) rfl rfl rfl rfl ?_
  refine zv_iload_n C dX1_addSpring_0 1 rfl 1 rfl ?_
  refine zv_callSR (rest := []) C (k_X1_requireName l D cI cZ nm (by assumption)) (cwS 1 C.1.2.2.2.2 gX1_addSpring_X1_requireName rfl rfl rfl (by decide +kernel) ⟨Nat.le_of_ble_eq_true rfl, Nat.le_of_ble_eq_true rfl⟩) dX1_addSpring_1 4 rfl rfl rfl (Nat.le_of_ble_eq_true rfl) ⟨Nat.le_of_ble_eq_true rfl, Nat.le_of_ble_eq_true rfl⟩ [0, 1] rfl [] rfl (by decide) (fun v hv => ?_)
  subst hv
  refine zv_go rfl rfl (st' := []) rfl (kc' := 0) rfl (ns' := 0) rfl ?_
  refine zv_iload_n C dX1_addSpring_4 5 rfl 2 rfl ?_
  refine zv_iconst (v := 0) C dX1_addSpring_5 6 rfl (by decide) ?_
  refine zv_bipush (v := 99) C dX1_addSpring_6 8 rfl (by decide) ?_
  refine zv_callSR (rest := []) C (k_X1_isWithin l D cI cZ wa 0 99) (cwS 3 C.1.2.2.2.2 gX1_addSpring_X1_isWithin rfl rfl rfl (by decide +kernel) ⟨Nat.le_of_ble_eq_true rfl, Nat.le_of_ble_eq_true rfl⟩) dX1_addSpring_8 11 rfl rfl rfl (Nat.le_of_ble_eq_true rfl) ⟨Nat.le_of_ble_eq_true rfl, Nat.le_of_ble_eq_true rfl⟩ [0, 1] rfl [] rfl (by decide) (fun v hv => ?_)
  subst hv
  refine zv_go rfl rfl (st' := [.int (zb (isI wa 0 99))]) rfl (kc' := 0) rfl (ns' := 0) rfl ?_
  refine zv_if_ne C dX1_addSpring_11 14 24 rfl (by decide) (fun c1 => ?_) (fun c1 => ?_)
  · refine zv_iload_n C dX1_addSpring_24 25 rfl 3 rfl ?_
    refine zv_bipush (v := (-9 : Int32)) C dX1_addSpring_25 27 rfl (by decide) ?_
    refine zv_bipush (v := 9) C dX1_addSpring_27 29 rfl (by decide) ?_
    refine zv_callSR (rest := []) C (k_X1_isWithin l D cI cZ sw (-9 : Int32) 9) (cwS 3 C.1.2.2.2.2 gX1_addSpring_X1_isWithin rfl rfl rfl (by decide +kernel) ⟨Nat.le_of_ble_eq_true rfl, Nat.le_of_ble_eq_true rfl⟩) dX1_addSpring_29 32 rfl rfl rfl (Nat.le_of_ble_eq_true rfl) ⟨Nat.le_of_ble_eq_true rfl, Nat.le_of_ble_eq_true rfl⟩ [0, 1] rfl [] rfl (by decide) (fun v hv => ?_)
    subst hv
    refine zv_go rfl rfl (st' := [.int (zb (isI sw (-9 : Int32) 9))]) rfl (kc' := 0) rfl (ns' := 0) rfl ?_
    refine zv_if_ne C dX1_addSpring_32 35 45 rfl (by decide) (fun c2 => ?_) (fun c2 => ?_)
    · refine zv_aload_n C dX1_addSpring_45 46 rfl 0 rfl ?_
      refine zv_callVR (rest := []) C (k_X1_requireRoomForPlace l D cI cZ q h k b y n r f0 f1 f2 f3 f4 f5 f6 f7 f8 f9 f10 f11 f12 f13 n1 r1 g0 g1 g2 g3 g4 g5 g6 g7 g8 g9 g10 g11 g12 g13 bp bn (by omega)) (cwV 0 C.1.2.2.2.2 gX1_addSpring_X1_requireRoomForPlace rfl rfl rfl (by decide +kernel) ⟨Nat.le_of_ble_eq_true rfl, Nat.le_of_ble_eq_true rfl⟩) dX1_addSpring_46 49 rfl (ci := 1) 0 rfl rfl rfl rfl (Nat.le_of_ble_eq_true rfl) ⟨Nat.le_of_ble_eq_true rfl, Nat.le_of_ble_eq_true rfl⟩ [0, 1] rfl [0, 1, 2, 3, 4, 5, 6, 7, 8, 9, 10, 11, 12, 13, 14, 15, 16, 17, 18, 19, 20, 21, 22, 23, 24, 25, 26, 27, 28, 29, 30, 31, 32] rfl (by decide) (fun v hv => ?_)
      subst hv
      refine zv_go rfl rfl (st' := []) rfl (kc' := 0) rfl (ns' := 0) rfl ?_
      refine zv_aload_n C dX1_addSpring_49 50 rfl 0 rfl ?_
      refine zv_get (ci := 1) C inX1 rfl dX1_addSpring_50 53 rfl 0 0 rfl (by decide) lk10 rfl ?_
      refine zv_iload_n C dX1_addSpring_53 54 rfl 1 rfl ?_
      refine zv_iload_n C dX1_addSpring_54 55 rfl 2 rfl ?_
      refine zv_iload_n C dX1_addSpring_55 56 rfl 3 rfl ?_
      refine zv_callV (rest := []) (wr := [(q 0, .inr (1, [.ref (h 0), .ref (k 0), .ref (q 1), .ref (q 2), .int (nI b), .int y])), (k 0, .inr (0, [.int (nI n1), .int r1, .ref (k 1), .ref (k 2), .ref (k 3), .ref (k 4), .ref (k 5), .ref (k 6), .ref (k 7), .ref (k 8), .ref (k 9), .ref (k 10), .ref (k 11), .ref (k 12), .ref (k 13), .ref (k 14)])), (k 1, .inl (cI, 16, .inl g0)), (k 2, .inl (cI, 16, .inl g1)), (k 3, .inl (cZ, 16, .inl g2)), (k 4, .inl (cI, 16, .inl g3)), (k 5, .inl (cI, 16, .inl g4)), (k 6, .inl (cI, 16, .inl g5)), (k 7, .inl (cZ, 16, .inl g6)), (k 8, .inl (cI, 16, .inl g7)), (k 9, .inl (cI, 16, .inl g8)), (k 10, .inl (cI, 16, .inl g9)), (k 11, .inl (cI, 16, .inl g10)), (k 12, .inl (cZ, 16, .inl g11)), (k 13, .inl (cI, 16, .inl g12)), (k 14, .inl (cI, 16, .inl g13)), (q 1, .inl (cI, 16, .inl bp)), (q 2, .inl (cI, 16, .inl bn))]) C (k_X0_addSprung l D cI cZ h n r f0 f1 f2 f3 f4 f5 f6 f7 f8 f9 f10 f11 f12 f13 nm wa sw d (by omega) hD) (cwV 3 C.1.2.2.2.2 gX1_addSpring_X0_addSprung rfl rfl rfl (by decide +kernel) ⟨Nat.le_of_ble_eq_true rfl, Nat.le_of_ble_eq_true rfl⟩) dX1_addSpring_56 59 rfl (ci := 0) 0 rfl rfl rfl rfl (Nat.le_of_ble_eq_true rfl) ⟨Nat.le_of_ble_eq_true rfl, Nat.le_of_ble_eq_true rfl⟩ [0, 1] rfl [1, 2, 3, 4, 5, 6, 7, 8, 9, 10, 11, 12, 13, 14, 15] rfl (by decide) [0, 16, 17, 18, 19, 20, 21, 22, 23, 24, 25, 26, 27, 28, 29, 30, 31, 32] rfl (by decide) (by decide +kernel) (fun v w hv => ?_)
      obtain ⟨rfl, u7_18, u8_18, u9_18, u10_18, u11_18, u12_18, u13_18, rfl, hu18⟩ := hv
      refine zv_go rfl rfl (st' := [.int (nI n)]) rfl (kc' := 0) rfl (ns' := 0) rfl ?_
      refine zv_perm [0, 18, 19, 20, 21, 22, 23, 24, 25, 26, 27, 28, 29, 30, 31, 32, 1, 2, 3, 4, 5, 6, 7, 8, 9, 10, 11, 12, 13, 14, 15, 16, 17] (ws' := (cR cI cZ q h k (nI b) y (nI (n + 1)) r (upd f0 n (-1)) f1 (upd f2 n 1) (upd f3 n nm) (upd f4 n wa) (upd f5 n sw) f6 u7_18 u8_18 u9_18 u10_18 u11_18 u12_18 u13_18 (nI n1) r1 g0 g1 g2 g3 g4 g5 g6 g7 g8 g9 g10 g11 g12 g13 bp bn)) (by decide) rfl ?_
      exact zv_iret C hr hlk hQ dX1_addSpring_59 ⟨u7_18, u8_18, u9_18, u10_18, u11_18, u12_18, u13_18, rfl, rfl, hu18⟩
    · exact absurd h3 (by rw [zb_eq0.mp c2]; decide)
  · exact absurd h2 (by rw [zb_eq0.mp c1]; decide)
abbrev rmX1_lead : Room := { frames := 4, cells := 0, slots := 0, locals := 93 }
set_option maxHeartbeats 4000000 in
set_option maxRecDepth 100000 in
theorem k_X1_lead (l : Launch) (D : va_G) (cI cZ : ClassId) (q h k : Nat → Nat) (b : Nat) (y : Int32) (n : Nat) (r : Int32) (f0 f1 f2 f3 f4 f5 f6 f7 f8 f9 f10 f11 f12 f13 : Nat → Int32) (n1 : Nat) (r1 : Int32) (g0 g1 g2 g3 g4 g5 g6 g7 g8 g9 g10 g11 g12 g13 : Nat → Int32) (bp bn : Nat → Int32) (p z : Nat) (d1 : Nat → Nat) (hn : n ≤ 16) (hp : p < n) (ho : z < n) (hw : Vw n f0) (hne : ¬ p = z) (hfl : fl f0 (nI p) 16 (f0 z) = false) (hw1 : Vw n (upd f0 p (nI z))) (hDx : ∀ e1 : Nat → Int32, (∀ i, i < n → e1 i = nI (cs (upd f0 p (nI z)) 16 ((upd f0 p (nI z)) i))) → Dep n (upd f0 p (nI z)) e1 d1) : zv_M l yX1_lead wsX1_lead rmX1_lead D vwCl (tyL cI cZ) [.ref (q 0), .int (nI p), .int (nI z)] (cR cI cZ q h k (nI b) y (nI n) r f0 f1 f2 f3 f4 f5 f6 f7 f8 f9 f10 f11 f12 f13 (nI n1) r1 g0 g1 g2 g3 g4 g5 g6 g7 g8 g9 g10 g11 g12 g13 bp bn) (fun v w => ∃ (v1 : Nat → Int32) (v7 : Nat → Int32) (v8 : Nat → Int32) (v9 : Nat → Int32) (v10 : Nat → Int32) (v11 : Nat → Int32) (v12 : Nat → Int32) (v13 : Nat → Int32), v = some (.int (f0 p)) ∧ w = (cR cI cZ q h k (nI b) y (nI n) r (upd f0 p (nI z)) v1 f2 f3 f4 f5 f6 v7 v8 v9 v10 v11 v12 v13 (nI n1) r1 g0 g1 g2 g3 g4 g5 g6 g7 g8 g9 g10 g11 g12 g13 bp bn) ∧ (∀ i, i < n → v1 i = nI (cs (upd f0 p (nI z)) 16 ((upd f0 p (nI z)) i))) ∧ (∀ i, n ≤ i → v1 i = f1 i) ∧ (Stl n (upd f0 p (nI z)) f3 f4 f6 r v7 v8 v9 v10 v11 v12 v13)) := by
  refine zv_M.of cX1_lead 4 (some .int) (by decide) rfl (Nat.le_of_ble_eq_true rfl) ?_
  intro pP eE sS mM aA bB mT cD A C hr hlk hnm Q hQ
  have inX1 : ∀ w ∈ u_ws RX1 TX1 6, w ∈ wsX1_lead := by decide +kernel
  have lk10 : Cond.fieldLink RX1 10 "RiverNames" "land" "LRiverNames$Land;" ∈ wsX1_lead := by decide +kernel
  refine zv_go (pc' := 0) rfl (lv' := [(0, .ref (q 0)), (1, .int (nI p)), (2, .int (nI z))]) rfl rfl rfl rfl ?_
  refine zv_aload_n C dX1_lead_0 1 rfl 0 rfl ?_
  refine zv_iload_n C dX1_lead_1 2 rfl 1 rfl ?_
  refine zv_callVR (rest := []) C (k_X1_requirePlace l D cI cZ q h k b y n r f0 f1 f2 f3 f4 f5 f6 f7 f8 f9 f10 f11 f12 f13 n1 r1 g0 g1 g2 g3 g4 g5 g6 g7 g8 g9 g10 g11 g12 g13 bp bn p (by omega) (by omega)) (cwV 1 C.1.2.2.2.2 gX1_lead_X1_requirePlace rfl rfl rfl (by decide +kernel) ⟨Nat.le_of_ble_eq_true rfl, Nat.le_of_ble_eq_true rfl⟩) dX1_lead_2 5 rfl (ci := 1) 0 rfl rfl rfl rfl (Nat.le_of_ble_eq_true rfl) ⟨Nat.le_of_ble_eq_true rfl, Nat.le_of_ble_eq_true rfl⟩ [0, 1] rfl [0, 1, 2, 3, 4, 5, 6, 7, 8, 9, 10, 11, 12, 13, 14, 15, 16, 17, 18, 19, 20, 21, 22, 23, 24, 25, 26, 27, 28, 29, 30, 31, 32] rfl (by decide) (fun v hv => ?_)
  subst hv
  refine zv_go rfl rfl (st' := []) rfl (kc' := 0) rfl (ns' := 0) rfl ?_
  refine zv_aload_n C dX1_lead_5 6 rfl 0 rfl ?_
  refine zv_iload_n C dX1_lead_6 7 rfl 2 rfl ?_
  refine zv_callVR (rest := []) C (k_X1_requirePlace l D cI cZ q h k b y n r f0 f1 f2 f3 f4 f5 f6 f7 f8 f9 f10 f11 f12 f13 n1 r1 g0 g1 g2 g3 g4 g5 g6 g7 g8 g9 g10 g11 g12 g13 bp bn z (by omega) (by omega)) (cwV 1 C.1.2.2.2.2 gX1_lead_X1_requirePlace rfl rfl rfl (by decide +kernel) ⟨Nat.le_of_ble_eq_true rfl, Nat.le_of_ble_eq_true rfl⟩) dX1_lead_7 10 rfl (ci := 1) 0 rfl rfl rfl rfl (Nat.le_of_ble_eq_true rfl) ⟨Nat.le_of_ble_eq_true rfl, Nat.le_of_ble_eq_true rfl⟩ [0, 1] rfl [0, 1, 2, 3, 4, 5, 6, 7, 8, 9, 10, 11, 12, 13, 14, 15, 16, 17, 18, 19, 20, 21, 22, 23, 24, 25, 26, 27, 28, 29, 30, 31, 32] rfl (by decide) (fun v hv => ?_)
  subst hv
  refine zv_go rfl rfl (st' := []) rfl (kc' := 0) rfl (ns' := 0) rfl ?_
  refine zv_iload_n C dX1_lead_10 11 rfl 1 rfl ?_
  refine zv_iload_n C dX1_lead_11 12 rfl 2 rfl ?_
  refine zv_icmp_ne C dX1_lead_12 15 25 rfl (by decide) (fun c1 => ?_) (fun c1 => ?_)
  · refine zv_aload_n C dX1_lead_25 26 rfl 0 rfl ?_
    refine zv_get (ci := 1) C inX1 rfl dX1_lead_26 29 rfl 0 0 rfl (by decide) lk10 rfl ?_
    refine zv_iload_n C dX1_lead_29 30 rfl 2 rfl ?_
    refine zv_iload_n C dX1_lead_30 31 rfl 1 rfl ?_
    refine zv_callVR (rest := []) C (k_X0_flowsTo l D cI cZ h n r f0 f1 f2 f3 f4 f5 f6 f7 f8 f9 f10 f11 f12 f13 z (nI p) (by assumption) (by assumption) (by assumption)) (cwV 2 C.1.2.2.2.2 gX1_lead_X0_flowsTo rfl rfl rfl (by decide +kernel) ⟨Nat.le_of_ble_eq_true rfl, Nat.le_of_ble_eq_true rfl⟩) dX1_lead_31 34 rfl (ci := 0) 0 rfl rfl rfl rfl (Nat.le_of_ble_eq_true rfl) ⟨Nat.le_of_ble_eq_true rfl, Nat.le_of_ble_eq_true rfl⟩ [0, 1] rfl [1, 2, 3, 4, 5, 6, 7, 8, 9, 10, 11, 12, 13, 14, 15] rfl (by decide) (fun v hv => ?_)
    subst hv
    refine zv_go rfl rfl (st' := [.int (zb (fl f0 (nI p) 16 (f0 z)))]) rfl (kc' := 0) rfl (ns' := 0) rfl ?_
    refine zv_if_eq C dX1_lead_34 37 47 rfl (by decide) (fun c2 => ?_) (fun c2 => ?_)
    · refine zv_aload_n C dX1_lead_47 48 rfl 0 rfl ?_
      refine zv_get (ci := 1) C inX1 rfl dX1_lead_48 51 rfl 0 0 rfl (by decide) lk10 rfl ?_
      refine zv_iload_n C dX1_lead_51 52 rfl 1 rfl ?_
      refine zv_callVR (rest := []) C (k_X0_next l D cI cZ h n r f0 f1 f2 f3 f4 f5 f6 f7 f8 f9 f10 f11 f12 f13 p (by omega)) (cwV 1 C.1.2.2.2.2 gX1_lead_X0_next rfl rfl rfl (by decide +kernel) ⟨Nat.le_of_ble_eq_true rfl, Nat.le_of_ble_eq_true rfl⟩) dX1_lead_52 55 rfl (ci := 0) 0 rfl rfl rfl rfl (Nat.le_of_ble_eq_true rfl) ⟨Nat.le_of_ble_eq_true rfl, Nat.le_of_ble_eq_true rfl⟩ [0, 1] rfl [1, 2, 3, 4, 5, 6, 7, 8, 9, 10, 11, 12, 13, 14, 15] rfl (by decide) (fun v hv => ?_)
      subst hv
      refine zv_go rfl rfl (st' := [.int (f0 p)]) rfl (kc' := 0) rfl (ns' := 0) rfl ?_
      refine zv_istore_n C dX1_lead_55 56 rfl [(3, .int (f0 p)), (0, .ref (q 0)), (1, .int (nI p)), (2, .int (nI z))] (by decide) rfl ?_
      refine zv_aload_n C dX1_lead_56 57 rfl 1 rfl ?_
      refine zv_get (ci := 1) C inX1 rfl dX1_lead_57 60 rfl 0 0 rfl (by decide) lk10 rfl ?_
      refine zv_iload_n C dX1_lead_60 61 rfl 2 rfl ?_
      refine zv_iload_n C dX1_lead_61 62 rfl 3 rfl ?_
      refine zv_callV (rest := []) (wr := [(q 0, .inr (1, [.ref (h 0), .ref (k 0), .ref (q 1), .ref (q 2), .int (nI b), .int y])), (k 0, .inr (0, [.int (nI n1), .int r1, .ref (k 1), .ref (k 2), .ref (k 3), .ref (k 4), .ref (k 5), .ref (k 6), .ref (k 7), .ref (k 8), .ref (k 9), .ref (k 10), .ref (k 11), .ref (k 12), .ref (k 13), .ref (k 14)])), (k 1, .inl (cI, 16, .inl g0)), (k 2, .inl (cI, 16, .inl g1)), (k 3, .inl (cZ, 16, .inl g2)), (k 4, .inl (cI, 16, .inl g3)), (k 5, .inl (cI, 16, .inl g4)), (k 6, .inl (cI, 16, .inl g5)), (k 7, .inl (cZ, 16, .inl g6)), (k 8, .inl (cI, 16, .inl g7)), (k 9, .inl (cI, 16, .inl g8)), (k 10, .inl (cI, 16, .inl g9)), (k 11, .inl (cI, 16, .inl g10)), (k 12, .inl (cZ, 16, .inl g11)), (k 13, .inl (cI, 16, .inl g12)), (k 14, .inl (cI, 16, .inl g13)), (q 1, .inl (cI, 16, .inl bp)), (q 2, .inl (cI, 16, .inl bn))]) C (k_X0_leadOn l D cI cZ h n r f0 f1 f2 f3 f4 f5 f6 f7 f8 f9 f10 f11 f12 f13 p z d1 (by omega) (by omega) (by omega) hw1 hDx) (cwV 2 C.1.2.2.2.2 gX1_lead_X0_leadOn rfl rfl rfl (by decide +kernel) ⟨Nat.le_of_ble_eq_true rfl, Nat.le_of_ble_eq_true rfl⟩) dX1_lead_62 65 rfl (ci := 0) 0 rfl rfl rfl rfl (Nat.le_of_ble_eq_true rfl) ⟨Nat.le_of_ble_eq_true rfl, Nat.le_of_ble_eq_true rfl⟩ [0, 1] rfl [1, 2, 3, 4, 5, 6, 7, 8, 9, 10, 11, 12, 13, 14, 15] rfl (by decide) [0, 16, 17, 18, 19, 20, 21, 22, 23, 24, 25, 26, 27, 28, 29, 30, 31, 32] rfl (by decide) (by decide +kernel) (fun v w hv => ?_)
      obtain ⟨rfl, u1_19, u7_19, u8_19, u9_19, u10_19, u11_19, u12_19, u13_19, rfl, hua19, hub19, hu19⟩ := hv
      refine zv_go rfl rfl (st' := []) rfl (kc' := 0) rfl (ns' := 0) rfl ?_
      refine zv_perm [0, 18, 19, 20, 21, 22, 23, 24, 25, 26, 27, 28, 29, 30, 31, 32, 1, 2, 3, 4, 5, 6, 7, 8, 9, 10, 11, 12, 13, 14, 15, 16, 17] (ws' := (cR cI cZ q h k (nI b) y (nI n) r (upd f0 p (nI z)) u1_19 f2 f3 f4 f5 f6 u7_19 u8_19 u9_19 u10_19 u11_19 u12_19 u13_19 (nI n1) r1 g0 g1 g2 g3 g4 g5 g6 g7 g8 g9 g10 g11 g12 g13 bp bn)) (by decide) rfl ?_
      refine zv_iload_n C dX1_lead_65 66 rfl 0 rfl ?_
      exact zv_iret C hr hlk hQ dX1_lead_66 ⟨u1_19, u7_19, u8_19, u9_19, u10_19, u11_19, u12_19, u13_19, rfl, rfl, hua19, hub19, hu19⟩
    · exact absurd hfl (by rw [zb_ne0.mp c2]; decide)
  · exact absurd (zn_eq (a := p) (b := z) (by omega) (by omega) c1) hne
abbrev rmX1_turnDelta : Room := { frames := 4, cells := 0, slots := 0, locals := 91 }
set_option maxHeartbeats 4000000 in
set_option maxRecDepth 100000 in
theorem k_X1_turnDelta (l : Launch) (D : va_G) (cI cZ : ClassId) (q h k : Nat → Nat) (b : Nat) (y : Int32) (n : Nat) (r : Int32) (f0 f1 f2 f3 f4 f5 f6 f7 f8 f9 f10 f11 f12 f13 : Nat → Int32) (n1 : Nat) (r1 : Int32) (g0 g1 g2 g3 g4 g5 g6 g7 g8 g9 g10 g11 g12 g13 : Nat → Int32) (bp bn : Nat → Int32) (p : Nat) (d : Nat → Nat) (hn : n ≤ 16) (hD : Dep n f0 f1 d) (hp : p < n) : zv_M l yX1_turnDelta wsX1_turnDelta rmX1_turnDelta D vwCl (tyL cI cZ) [.ref (q 0), .int (nI p)] (cR cI cZ q h k (nI b) y (nI n) r f0 f1 f2 f3 f4 f5 f6 f7 f8 f9 f10 f11 f12 f13 (nI n1) r1 g0 g1 g2 g3 g4 g5 g6 g7 g8 g9 g10 g11 g12 g13 bp bn) (fun v w => ∃ (v7 : Nat → Int32) (v8 : Nat → Int32) (v9 : Nat → Int32) (v10 : Nat → Int32) (v11 : Nat → Int32) (v12 : Nat → Int32) (v13 : Nat → Int32), v = some (.int (tg (f6 p))) ∧ w = (cR cI cZ q h k (nI b) y (nI n) r f0 f1 f2 f3 f4 f5 (upd f6 p (tg (f6 p))) v7 v8 v9 v10 v11 v12 v13 (nI n1) r1 g0 g1 g2 g3 g4 g5 g6 g7 g8 g9 g10 g11 g12 g13 bp bn) ∧ (Stl n f0 f3 f4 (upd f6 p (tg (f6 p))) r v7 v8 v9 v10 v11 v12 v13)) := by
  refine zv_M.of cX1_turnDelta 2 (some .boolean) (by decide) rfl (Nat.le_of_ble_eq_true rfl) ?_
  intro pP eE sS mM aA bB mT cD A C hr hlk hnm Q hQ
  have inX1 : ∀ w ∈ u_ws RX1 TX1 6, w ∈ wsX1_turnDelta := by decide +kernel
  have lk10 : Cond.fieldLink RX1 10 "RiverNames" "land" "LRiverNames$Land;" ∈ wsX1_turnDelta := by decide +kernel
  refine zv_go (pc' := 0) rfl (lv' := [(0, .ref (q 0)), (1, .int (nI p))]) rfl rfl rfl rfl ?_
  refine zv_aload_n C dX1_turnDelta_0 1 rfl 0 rfl ?_
  refine zv_iload_n C dX1_turnDelta_1 2 rfl 1 rfl ?_
  refine zv_callVR (rest := []) C (k_X1_requirePlace l D cI cZ q h k b y n r f0 f1 f2 f3 f4 f5 f6 f7 f8 f9 f10 f11 f12 f13 n1 r1 g0 g1 g2 g3 g4 g5 g6 g7 g8 g9 g10 g11 g12 g13 bp bn p (by omega) (by omega)) (cwV 1 C.1.2.2.2.2 gX1_turnDelta_X1_requirePlace rfl rfl rfl (by decide +kernel) ⟨Nat.le_of_ble_eq_true rfl, Nat.le_of_ble_eq_true rfl⟩) dX1_turnDelta_2 5 rfl (ci := 1) 0 rfl rfl rfl rfl (Nat.le_of_ble_eq_true rfl) ⟨Nat.le_of_ble_eq_true rfl, Nat.le_of_ble_eq_true rfl⟩ [0, 1] rfl [0, 1, 2, 3, 4, 5, 6, 7, 8, 9, 10, 11, 12, 13, 14, 15, 16, 17, 18, 19, 20, 21, 22, 23, 24, 25, 26, 27, 28, 29, 30, 31, 32] rfl (by decide) (fun v hv => ?_)
  subst hv
  refine zv_go rfl rfl (st' := []) rfl (kc' := 0) rfl (ns' := 0) rfl ?_
  refine zv_aload_n C dX1_turnDelta_5 6 rfl 0 rfl ?_
  refine zv_get (ci := 1) C inX1 rfl dX1_turnDelta_6 9 rfl 0 0 rfl (by decide) lk10 rfl ?_
  refine zv_iload_n C dX1_turnDelta_9 10 rfl 1 rfl ?_
  refine zv_callV (rest := []) (wr := [(q 0, .inr (1, [.ref (h 0), .ref (k 0), .ref (q 1), .ref (q 2), .int (nI b), .int y])), (k 0, .inr (0, [.int (nI n1), .int r1, .ref (k 1), .ref (k 2), .ref (k 3), .ref (k 4), .ref (k 5), .ref (k 6), .ref (k 7), .ref (k 8), .ref (k 9), .ref (k 10), .ref (k 11), .ref (k 12), .ref (k 13), .ref (k 14)])), (k 1, .inl (cI, 16, .inl g0)), (k 2, .inl (cI, 16, .inl g1)), (k 3, .inl (cZ, 16, .inl g2)), (k 4, .inl (cI, 16, .inl g3)), (k 5, .inl (cI, 16, .inl g4)), (k 6, .inl (cI, 16, .inl g5)), (k 7, .inl (cZ, 16, .inl g6)), (k 8, .inl (cI, 16, .inl g7)), (k 9, .inl (cI, 16, .inl g8)), (k 10, .inl (cI, 16, .inl g9)), (k 11, .inl (cI, 16, .inl g10)), (k 12, .inl (cZ, 16, .inl g11)), (k 13, .inl (cI, 16, .inl g12)), (k 14, .inl (cI, 16, .inl g13)), (q 1, .inl (cI, 16, .inl bp)), (q 2, .inl (cI, 16, .inl bn))]) C (k_X0_toggleDelta l D cI cZ h n r f0 f1 f2 f3 f4 f5 f6 f7 f8 f9 f10 f11 f12 f13 p (by omega) d (by omega) (by assumption)) (cwV 1 C.1.2.2.2.2 gX1_turnDelta_X0_toggleDelta rfl rfl rfl (by decide +kernel) ⟨Nat.le_of_ble_eq_true rfl, Nat.le_of_ble_eq_true rfl⟩) dX1_turnDelta_10 13 rfl (ci := 0) 0 rfl rfl rfl rfl (Nat.le_of_ble_eq_true rfl) ⟨Nat.le_of_ble_eq_true rfl, Nat.le_of_ble_eq_true rfl⟩ [0, 1] rfl [1, 2, 3, 4, 5, 6, 7, 8, 9, 10, 11, 12, 13, 14, 15] rfl (by decide) [0, 16, 17, 18, 19, 20, 21, 22, 23, 24, 25, 26, 27, 28, 29, 30, 31, 32] rfl (by decide) (by decide +kernel) (fun v w hv => ?_)
  obtain ⟨rfl, u7_20, u8_20, u9_20, u10_20, u11_20, u12_20, u13_20, rfl, hu20⟩ := hv
  refine zv_go rfl rfl (st' := []) rfl (kc' := 0) rfl (ns' := 0) rfl ?_
  refine zv_perm [0, 18, 19, 20, 21, 22, 23, 24, 25, 26, 27, 28, 29, 30, 31, 32, 1, 2, 3, 4, 5, 6, 7, 8, 9, 10, 11, 12, 13, 14, 15, 16, 17] (ws' := (cR cI cZ q h k (nI b) y (nI n) r f0 f1 f2 f3 f4 f5 (upd f6 p (tg (f6 p))) u7_20 u8_20 u9_20 u10_20 u11_20 u12_20 u13_20 (nI n1) r1 g0 g1 g2 g3 g4 g5 g6 g7 g8 g9 g10 g11 g12 g13 bp bn)) (by decide) rfl ?_
  refine zv_aload_n C dX1_turnDelta_13 14 rfl 0 rfl ?_
  refine zv_get (ci := 1) C inX1 rfl dX1_turnDelta_14 17 rfl 0 0 rfl (by decide) lk10 rfl ?_
  refine zv_iload_n C dX1_turnDelta_17 18 rfl 1 rfl ?_
  have hz : zo ((upd f6 p (tg (f6 p))) p) := (by rw [upd_at]; exact zo_tg (f6 p))
  refine zv_callVR (rest := []) C (k_X0_isDelta l D cI cZ h n r f0 f1 f2 f3 f4 f5 (upd f6 p (tg (f6 p))) u7_20 u8_20 u9_20 u10_20 u11_20 u12_20 u13_20 p (by omega) (by assumption)) (cwV 1 C.1.2.2.2.2 gX1_turnDelta_X0_isDelta rfl rfl rfl (by decide +kernel) ⟨Nat.le_of_ble_eq_true rfl, Nat.le_of_ble_eq_true rfl⟩) dX1_turnDelta_18 21 rfl (ci := 0) 0 rfl rfl rfl rfl (Nat.le_of_ble_eq_true rfl) ⟨Nat.le_of_ble_eq_true rfl, Nat.le_of_ble_eq_true rfl⟩ [0, 1] rfl [1, 2, 3, 4, 5, 6, 7, 8, 9, 10, 11, 12, 13, 14, 15] rfl (by decide) (fun v hv => ?_)
  subst hv
  refine zv_go rfl rfl (st' := [.int ((upd f6 p (tg (f6 p))) p)]) rfl (kc' := 0) rfl (ns' := 0) rfl ?_
  refine zv_go rfl rfl (st' := [.int (tg (f6 p))]) (by rw [upd_at]) rfl rfl ?_
  have hz := zo_tg (f6 p)
  exact zv_zret C (zo_narrow (by assumption)) hr hlk hQ dX1_turnDelta_21 ⟨u7_20, u8_20, u9_20, u10_20, u11_20, u12_20, u13_20, rfl, rfl, hu20⟩
abbrev rmX1_setRule : Room := { frames := 4, cells := 0, slots := 0, locals := 91 }
set_option maxHeartbeats 4000000 in
set_option maxRecDepth 100000 in
theorem k_X1_setRule (l : Launch) (D : va_G) (cI cZ : ClassId) (q h k : Nat → Nat) (b : Nat) (y : Int32) (n : Nat) (r : Int32) (f0 f1 f2 f3 f4 f5 f6 f7 f8 f9 f10 f11 f12 f13 : Nat → Int32) (n1 : Nat) (r1 : Int32) (g0 g1 g2 g3 g4 g5 g6 g7 g8 g9 g10 g11 g12 g13 : Nat → Int32) (bp bn : Nat → Int32) (ru : Int32) (d : Nat → Nat) (hn : n ≤ 16) (hD : Dep n f0 f1 d) (h1 : isI ru 0 1 = true) : zv_M l yX1_setRule wsX1_setRule rmX1_setRule D vwCl (tyL cI cZ) [.ref (q 0), .int ru] (cR cI cZ q h k (nI b) y (nI n) r f0 f1 f2 f3 f4 f5 f6 f7 f8 f9 f10 f11 f12 f13 (nI n1) r1 g0 g1 g2 g3 g4 g5 g6 g7 g8 g9 g10 g11 g12 g13 bp bn) (fun v w => ∃ (v7 : Nat → Int32) (v8 : Nat → Int32) (v9 : Nat → Int32) (v10 : Nat → Int32) (v11 : Nat → Int32) (v12 : Nat → Int32) (v13 : Nat → Int32), v = some (.int r) ∧ w = (cR cI cZ q h k (nI b) y (nI n) ru f0 f1 f2 f3 f4 f5 f6 v7 v8 v9 v10 v11 v12 v13 (nI n1) r1 g0 g1 g2 g3 g4 g5 g6 g7 g8 g9 g10 g11 g12 g13 bp bn) ∧ (Stl n f0 f3 f4 f6 ru v7 v8 v9 v10 v11 v12 v13)) := by
  refine zv_M.of cX1_setRule 3 (some .int) (by decide) rfl (Nat.le_of_ble_eq_true rfl) ?_
  intro pP eE sS mM aA bB mT cD A C hr hlk hnm Q hQ
  have inX1 : ∀ w ∈ u_ws RX1 TX1 6, w ∈ wsX1_setRule := by decide +kernel
  have lk10 : Cond.fieldLink RX1 10 "RiverNames" "land" "LRiverNames$Land;" ∈ wsX1_setRule := by decide +kernel
  refine zv_go (pc' := 0) rfl (lv' := [(0, .ref (q 0)), (1, .int ru)]) rfl rfl rfl rfl ?_
  refine zv_iload_n C dX1_setRule_0 1 rfl 1 rfl ?_
  refine zv_iconst (v := 0) C dX1_setRule_1 2 rfl (by decide) ?_
  refine zv_iconst (v := 1) C dX1_setRule_2 3 rfl (by decide) ?_
  refine zv_callSR (rest := []) C (k_X1_isWithin l D cI cZ ru 0 1) (cwS 3 C.1.2.2.2.2 gX1_setRule_X1_isWithin rfl rfl rfl (by decide +kernel) ⟨Nat.le_of_ble_eq_true rfl, Nat.le_of_ble_eq_true rfl⟩) dX1_setRule_3 6 rfl rfl rfl (Nat.le_of_ble_eq_true rfl) ⟨Nat.le_of_ble_eq_true rfl, Nat.le_of_ble_eq_true rfl⟩ [0, 1] rfl [] rfl (by decide) (fun v hv => ?_)
  subst hv
  refine zv_go rfl rfl (st' := [.int (zb (isI ru 0 1))]) rfl (kc' := 0) rfl (ns' := 0) rfl ?_
  refine zv_if_ne C dX1_setRule_6 9 19 rfl (by decide) (fun c1 => ?_) (fun c1 => ?_)
  · refine zv_aload_n C dX1_setRule_19 20 rfl 0 rfl ?_
    refine zv_get (ci := 1) C inX1 rfl dX1_setRule_20 23 rfl 0 0 rfl (by decide) lk10 rfl ?_
    refine zv_callVR (rest := []) C (k_X0_ruleNow l D cI cZ h n r f0 f1 f2 f3 f4 f5 f6 f7 f8 f9 f10 f11 f12 f13) (cwV 0 C.1.2.2.2.2 gX1_setRule_X0_ruleNow rfl rfl rfl (by decide +kernel) ⟨Nat.le_of_ble_eq_true rfl, Nat.le_of_ble_eq_true rfl⟩) dX1_setRule_23 26 rfl (ci := 0) 0 rfl rfl rfl rfl (Nat.le_of_ble_eq_true rfl) ⟨Nat.le_of_ble_eq_true rfl, Nat.le_of_ble_eq_true rfl⟩ [0, 1] rfl [1, 2, 3, 4, 5, 6, 7, 8, 9, 10, 11, 12, 13, 14, 15] rfl (by decide) (fun v hv => ?_)
    subst hv
    refine zv_go rfl rfl (st' := [.int r]) rfl (kc' := 0) rfl (ns' := 0) rfl ?_
    refine zv_istore_n C dX1_setRule_26 27 rfl [(2, .int r), (0, .ref (q 0)), (1, .int ru)] (by decide) rfl ?_
    refine zv_aload_n C dX1_setRule_27 28 rfl 1 rfl ?_
    refine zv_get (ci := 1) C inX1 rfl dX1_setRule_28 31 rfl 0 0 rfl (by decide) lk10 rfl ?_
    refine zv_iload_n C dX1_setRule_31 32 rfl 2 rfl ?_
    refine zv_callV (rest := []) (wr := [(q 0, .inr (1, [.ref (h 0), .ref (k 0), .ref (q 1), .ref (q 2), .int (nI b), .int y])), (k 0, .inr (0, [.int (nI n1), .int r1, .ref (k 1), .ref (k 2), .ref (k 3), .ref (k 4), .ref (k 5), .ref (k 6), .ref (k 7), .ref (k 8), .ref (k 9), .ref (k 10), .ref (k 11), .ref (k 12), .ref (k 13), .ref (k 14)])), (k 1, .inl (cI, 16, .inl g0)), (k 2, .inl (cI, 16, .inl g1)), (k 3, .inl (cZ, 16, .inl g2)), (k 4, .inl (cI, 16, .inl g3)), (k 5, .inl (cI, 16, .inl g4)), (k 6, .inl (cI, 16, .inl g5)), (k 7, .inl (cZ, 16, .inl g6)), (k 8, .inl (cI, 16, .inl g7)), (k 9, .inl (cI, 16, .inl g8)), (k 10, .inl (cI, 16, .inl g9)), (k 11, .inl (cI, 16, .inl g10)), (k 12, .inl (cZ, 16, .inl g11)), (k 13, .inl (cI, 16, .inl g12)), (k 14, .inl (cI, 16, .inl g13)), (q 1, .inl (cI, 16, .inl bp)), (q 2, .inl (cI, 16, .inl bn))]) C (k_X0_useRule l D cI cZ h n r f0 f1 f2 f3 f4 f5 f6 f7 f8 f9 f10 f11 f12 f13 ru d (by omega) (by assumption)) (cwV 1 C.1.2.2.2.2 gX1_setRule_X0_useRule rfl rfl rfl (by decide +kernel) ⟨Nat.le_of_ble_eq_true rfl, Nat.le_of_ble_eq_true rfl⟩) dX1_setRule_32 35 rfl (ci := 0) 0 rfl rfl rfl rfl (Nat.le_of_ble_eq_true rfl) ⟨Nat.le_of_ble_eq_true rfl, Nat.le_of_ble_eq_true rfl⟩ [0, 1] rfl [1, 2, 3, 4, 5, 6, 7, 8, 9, 10, 11, 12, 13, 14, 15] rfl (by decide) [0, 16, 17, 18, 19, 20, 21, 22, 23, 24, 25, 26, 27, 28, 29, 30, 31, 32] rfl (by decide) (by decide +kernel) (fun v w hv => ?_)
    obtain ⟨rfl, u7_21, u8_21, u9_21, u10_21, u11_21, u12_21, u13_21, rfl, hu21⟩ := hv
    refine zv_go rfl rfl (st' := []) rfl (kc' := 0) rfl (ns' := 0) rfl ?_
    refine zv_perm [0, 18, 19, 20, 21, 22, 23, 24, 25, 26, 27, 28, 29, 30, 31, 32, 1, 2, 3, 4, 5, 6, 7, 8, 9, 10, 11, 12, 13, 14, 15, 16, 17] (ws' := (cR cI cZ q h k (nI b) y (nI n) ru f0 f1 f2 f3 f4 f5 f6 u7_21 u8_21 u9_21 u10_21 u11_21 u12_21 u13_21 (nI n1) r1 g0 g1 g2 g3 g4 g5 g6 g7 g8 g9 g10 g11 g12 g13 bp bn)) (by decide) rfl ?_
    refine zv_iload_n C dX1_setRule_35 36 rfl 0 rfl ?_
    exact zv_iret C hr hlk hQ dX1_setRule_36 ⟨u7_21, u8_21, u9_21, u10_21, u11_21, u12_21, u13_21, rfl, rfl, hu21⟩
  · exact absurd h1 (by rw [zb_eq0.mp c1]; decide)
abbrev rmX1_build : Room := { frames := 2, cells := 0, slots := 0, locals := 42 }
set_option maxHeartbeats 4000000 in
set_option maxRecDepth 100000 in
theorem k_X1_build (l : Launch) (D : va_G) (cI cZ : ClassId) (q h k : Nat → Nat) (b : Nat) (y : Int32) (n : Nat) (r : Int32) (f0 f1 f2 f3 f4 f5 f6 f7 f8 f9 f10 f11 f12 f13 : Nat → Int32) (n1 : Nat) (r1 : Int32) (g0 g1 g2 g3 g4 g5 g6 g7 g8 g9 g10 g11 g12 g13 : Nat → Int32) (bp bn : Nat → Int32) (p : Nat) (hn : n ≤ 16) (hp : p < n) (hb : b < 16) : zv_M l yX1_build wsX1_build rmX1_build D vwCl (tyL cI cZ) [.ref (q 0), .int (nI p)] (cR cI cZ q h k (nI b) y (nI n) r f0 f1 f2 f3 f4 f5 f6 f7 f8 f9 f10 f11 f12 f13 (nI n1) r1 g0 g1 g2 g3 g4 g5 g6 g7 g8 g9 g10 g11 g12 g13 bp bn) (fun v w => v = some (.int (nI b)) ∧ w = (cR cI cZ q h k (nI (b + 1)) y (nI n) r f0 f1 f2 f3 f4 f5 f6 f7 f8 f9 f10 f11 f12 f13 (nI n1) r1 g0 g1 g2 g3 g4 g5 g6 g7 g8 g9 g10 g11 g12 g13 (upd bp b (nI p)) (upd bn b (f9 p)))) := by
  refine zv_M.of cX1_build 3 (some .int) (by decide) rfl (Nat.le_of_ble_eq_true rfl) ?_
  intro pP eE sS mM aA bB mT cD A C hr hlk hnm Q hQ
  have inX1 : ∀ w ∈ u_ws RX1 TX1 6, w ∈ wsX1_build := by decide +kernel
  have lk26 : Cond.fieldLink RX1 26 "RiverNames" "bridgeCount" "I" ∈ wsX1_build := by decide +kernel
  have lk19 : Cond.fieldLink RX1 19 "RiverNames" "bridgePlaces" "[I" ∈ wsX1_build := by decide +kernel
  have lk23 : Cond.fieldLink RX1 23 "RiverNames" "bridgeNames" "[I" ∈ wsX1_build := by decide +kernel
  have lk10 : Cond.fieldLink RX1 10 "RiverNames" "land" "LRiverNames$Land;" ∈ wsX1_build := by decide +kernel
  refine zv_go (pc' := 0) rfl (lv' := [(0, .ref (q 0)), (1, .int (nI p))]) rfl rfl rfl rfl ?_
  refine zv_aload_n C dX1_build_0 1 rfl 0 rfl ?_
  refine zv_iload_n C dX1_build_1 2 rfl 1 rfl ?_
  refine zv_callVR (rest := []) C (k_X1_requirePlace l D cI cZ q h k b y n r f0 f1 f2 f3 f4 f5 f6 f7 f8 f9 f10 f11 f12 f13 n1 r1 g0 g1 g2 g3 g4 g5 g6 g7 g8 g9 g10 g11 g12 g13 bp bn p (by omega) (by omega)) (cwV 1 C.1.2.2.2.2 gX1_build_X1_requirePlace rfl rfl rfl (by decide +kernel) ⟨Nat.le_of_ble_eq_true rfl, Nat.le_of_ble_eq_true rfl⟩) dX1_build_2 5 rfl (ci := 1) 0 rfl rfl rfl rfl (Nat.le_of_ble_eq_true rfl) ⟨Nat.le_of_ble_eq_true rfl, Nat.le_of_ble_eq_true rfl⟩ [0, 1] rfl [0, 1, 2, 3, 4, 5, 6, 7, 8, 9, 10, 11, 12, 13, 14, 15, 16, 17, 18, 19, 20, 21, 22, 23, 24, 25, 26, 27, 28, 29, 30, 31, 32] rfl (by decide) (fun v hv => ?_)
  subst hv
  refine zv_go rfl rfl (st' := []) rfl (kc' := 0) rfl (ns' := 0) rfl ?_
  refine zv_aload_n C dX1_build_5 6 rfl 0 rfl ?_
  refine zv_get (ci := 1) C inX1 rfl dX1_build_6 9 rfl 0 4 rfl (by decide) lk26 rfl ?_
  refine zv_bipush (v := 16) C dX1_build_9 11 rfl (by decide) ?_
  refine zv_icmp_lt C dX1_build_11 14 24 rfl (by decide) (fun c1 => ?_) (fun c1 => ?_)
  · refine zv_aload_n C dX1_build_24 25 rfl 0 rfl ?_
    refine zv_get (ci := 1) C inX1 rfl dX1_build_25 28 rfl 0 4 rfl (by decide) lk26 rfl ?_
    refine zv_istore_n C dX1_build_28 29 rfl [(2, .int (nI b)), (0, .ref (q 0)), (1, .int (nI p))] (by decide) rfl ?_
    refine zv_aload_n C dX1_build_29 30 rfl 1 rfl ?_
    refine zv_get (ci := 1) C inX1 rfl dX1_build_30 33 rfl 0 2 rfl (by decide) lk19 rfl ?_
    refine zv_iload_n C dX1_build_33 34 rfl 0 rfl ?_
    refine zv_iload_n C dX1_build_34 35 rfl 2 rfl ?_
    refine zv_iast (x' := (nI p)) C dX1_build_35 36 rfl 31 0 b rfl rfl rfl (by omega) (by decide) rfl (cR cI cZ q h k (nI b) y (nI n) r f0 f1 f2 f3 f4 f5 f6 f7 f8 f9 f10 f11 f12 f13 (nI n1) r1 g0 g1 g2 g3 g4 g5 g6 g7 g8 g9 g10 g11 g12 g13 (upd bp b (nI p)) bn) rfl ?_
    refine zv_aload_n C dX1_build_36 37 rfl 1 rfl ?_
    refine zv_get (ci := 1) C inX1 rfl dX1_build_37 40 rfl 0 3 rfl (by decide) lk23 rfl ?_
    refine zv_iload_n C dX1_build_40 41 rfl 0 rfl ?_
    refine zv_aload_n C dX1_build_41 42 rfl 1 rfl ?_
    refine zv_get (ci := 1) C inX1 rfl dX1_build_42 45 rfl 0 0 rfl (by decide) lk10 rfl ?_
    refine zv_iload_n C dX1_build_45 46 rfl 2 rfl ?_
    refine zv_callVR (rest := [.int (nI b), .ref (q 2)]) C (k_X0_nameOf l D cI cZ h n r f0 f1 f2 f3 f4 f5 f6 f7 f8 f9 f10 f11 f12 f13 p (by omega)) (cwV 1 C.1.2.2.2.2 gX1_build_X0_nameOf rfl rfl rfl (by decide +kernel) ⟨Nat.le_of_ble_eq_true rfl, Nat.le_of_ble_eq_true rfl⟩) dX1_build_46 49 rfl (ci := 0) 0 rfl rfl rfl rfl (Nat.le_of_ble_eq_true rfl) ⟨Nat.le_of_ble_eq_true rfl, Nat.le_of_ble_eq_true rfl⟩ [0, 1] rfl [1, 2, 3, 4, 5, 6, 7, 8, 9, 10, 11, 12, 13, 14, 15] rfl (by decide) (fun v hv => ?_)
    subst hv
    refine zv_go rfl rfl (st' := [.int (f9 p), .int (nI b), .ref (q 2)]) rfl (kc' := 0) rfl (ns' := 0) rfl ?_
    refine zv_iast (x' := (f9 p)) C dX1_build_49 50 rfl 32 0 b rfl rfl rfl (by omega) (by decide) rfl (cR cI cZ q h k (nI b) y (nI n) r f0 f1 f2 f3 f4 f5 f6 f7 f8 f9 f10 f11 f12 f13 (nI n1) r1 g0 g1 g2 g3 g4 g5 g6 g7 g8 g9 g10 g11 g12 g13 (upd bp b (nI p)) (upd bn b (f9 p))) rfl ?_
    refine zv_aload_n C dX1_build_50 51 rfl 1 rfl ?_
    refine zv_dup C dX1_build_51 52 rfl rfl ?_
    refine zv_get (ci := 1) C inX1 rfl dX1_build_52 55 rfl 0 4 rfl (by decide) lk26 rfl ?_
    refine zv_iconst (v := 1) C dX1_build_55 56 rfl (by decide) ?_
    refine zv_iadd (v := (nI (b + 1))) C dX1_build_56 57 rfl (nI_1 b) ?_
    refine zv_put (ci := 1) C inX1 rfl tyX1_ok nmX1 dX1_build_57 60 rfl 0 4 rfl (by decide) lk26 rfl rfl rfl (Nat.le_of_ble_eq_true rfl) (cR cI cZ q h k (nI (b + 1)) y (nI n) r f0 f1 f2 f3 f4 f5 f6 f7 f8 f9 f10 f11 f12 f13 (nI n1) r1 g0 g1 g2 g3 g4 g5 g6 g7 g8 g9 g10 g11 g12 g13 (upd bp b (nI p)) (upd bn b (f9 p))) rfl ?_
    refine zv_iload_n C dX1_build_60 61 rfl 0 rfl ?_
    exact zv_iret C hr hlk hQ dX1_build_61 ⟨rfl, rfl⟩
  · exact absurd (nI_lt (a := b) (b := 16) hb (by omega)) c1
abbrev rmX1_pass : Room := { frames := 4, cells := 0, slots := 0, locals := 93 }
set_option maxHeartbeats 4000000 in
set_option maxRecDepth 100000 in
theorem k_X1_pass (l : Launch) (D : va_G) (cI cZ : ClassId) (q h k : Nat → Nat) (b : Nat) (y : Int32) (n : Nat) (r : Int32) (f0 f1 f2 f3 f4 f5 f6 f7 f8 f9 f10 f11 f12 f13 : Nat → Int32) (n1 : Nat) (r1 : Int32) (g0 g1 g2 g3 g4 g5 g6 g7 g8 g9 g10 g11 g12 g13 : Nat → Int32) (bp bn : Nat → Int32) (z : Nat) (hz1 : 1 ≤ z) (hz2 : z ≤ 50) (d : Nat → Nat) (hn : n ≤ 16) (hD : Dep n f0 f1 d) (hb : b ≤ 16) (hB : Brg n b bp) : zv_M l yX1_pass wsX1_pass rmX1_pass D vwCl (tyL cI cZ) [.ref (q 0), .int (nI z)] (cR cI cZ q h k (nI b) y (nI n) r f0 f1 f2 f3 f4 f5 f6 f7 f8 f9 f10 f11 f12 f13 (nI n1) r1 g0 g1 g2 g3 g4 g5 g6 g7 g8 g9 g10 g11 g12 g13 bp bn) (fun v w => ∃ (v4 : Nat → Int32) (v7 : Nat → Int32) (v8 : Nat → Int32) (v9 : Nat → Int32) (v10 : Nat → Int32) (v11 : Nat → Int32) (v12 : Nat → Int32) (v13 : Nat → Int32), v = some (.int (nI (inN bp bn v9 b))) ∧ w = (cR cI cZ q h k (nI b) (y + nI z) (nI n) r f0 f1 f2 f3 v4 f5 f6 v7 v8 v9 v10 v11 v12 v13 (nI n1) r1 g0 g1 g2 g3 g4 g5 g6 g7 g8 g9 g10 g11 g12 g13 bp bn) ∧ (∀ i, i < n → v4 i = clamp (f4 i + nI z * f5 i)) ∧ (∀ i, n ≤ i → v4 i = f4 i) ∧ (Stl n f0 f3 v4 f6 r v7 v8 v9 v10 v11 v12 v13)) := by
  refine zv_M.of cX1_pass 2 (some .int) (by decide) rfl (Nat.le_of_ble_eq_true rfl) ?_
  intro pP eE sS mM aA bB mT cD A C hr hlk hnm Q hQ
  have inX1 : ∀ w ∈ u_ws RX1 TX1 6, w ∈ wsX1_pass := by decide +kernel
  have lk10 : Cond.fieldLink RX1 10 "RiverNames" "land" "LRiverNames$Land;" ∈ wsX1_pass := by decide +kernel
  have lk30 : Cond.fieldLink RX1 30 "RiverNames" "yearNow" "I" ∈ wsX1_pass := by decide +kernel
  refine zv_go (pc' := 0) rfl (lv' := [(0, .ref (q 0)), (1, .int (nI z))]) rfl rfl rfl rfl ?_
  refine zv_iload_n C dX1_pass_0 1 rfl 1 rfl ?_
  refine zv_callSR (rest := []) C (k_X1_requireYears l D cI cZ (nI z) (by first | assumption | exact isI_yr (by omega) (by omega))) (cwS 1 C.1.2.2.2.2 gX1_pass_X1_requireYears rfl rfl rfl (by decide +kernel) ⟨Nat.le_of_ble_eq_true rfl, Nat.le_of_ble_eq_true rfl⟩) dX1_pass_1 4 rfl rfl rfl (Nat.le_of_ble_eq_true rfl) ⟨Nat.le_of_ble_eq_true rfl, Nat.le_of_ble_eq_true rfl⟩ [0, 1] rfl [] rfl (by decide) (fun v hv => ?_)
  subst hv
  refine zv_go rfl rfl (st' := []) rfl (kc' := 0) rfl (ns' := 0) rfl ?_
  refine zv_aload_n C dX1_pass_4 5 rfl 0 rfl ?_
  refine zv_get (ci := 1) C inX1 rfl dX1_pass_5 8 rfl 0 0 rfl (by decide) lk10 rfl ?_
  refine zv_iload_n C dX1_pass_8 9 rfl 1 rfl ?_
  refine zv_callV (rest := []) (wr := [(q 0, .inr (1, [.ref (h 0), .ref (k 0), .ref (q 1), .ref (q 2), .int (nI b), .int y])), (k 0, .inr (0, [.int (nI n1), .int r1, .ref (k 1), .ref (k 2), .ref (k 3), .ref (k 4), .ref (k 5), .ref (k 6), .ref (k 7), .ref (k 8), .ref (k 9), .ref (k 10), .ref (k 11), .ref (k 12), .ref (k 13), .ref (k 14)])), (k 1, .inl (cI, 16, .inl g0)), (k 2, .inl (cI, 16, .inl g1)), (k 3, .inl (cZ, 16, .inl g2)), (k 4, .inl (cI, 16, .inl g3)), (k 5, .inl (cI, 16, .inl g4)), (k 6, .inl (cI, 16, .inl g5)), (k 7, .inl (cZ, 16, .inl g6)), (k 8, .inl (cI, 16, .inl g7)), (k 9, .inl (cI, 16, .inl g8)), (k 10, .inl (cI, 16, .inl g9)), (k 11, .inl (cI, 16, .inl g10)), (k 12, .inl (cZ, 16, .inl g11)), (k 13, .inl (cI, 16, .inl g12)), (k 14, .inl (cI, 16, .inl g13)), (q 1, .inl (cI, 16, .inl bp)), (q 2, .inl (cI, 16, .inl bn))]) C (k_X0_swellFor l D cI cZ h n r f0 f1 f2 f3 f4 f5 f6 f7 f8 f9 f10 f11 f12 f13 (nI z) d (by omega) (by assumption)) (cwV 1 C.1.2.2.2.2 gX1_pass_X0_swellFor rfl rfl rfl (by decide +kernel) ⟨Nat.le_of_ble_eq_true rfl, Nat.le_of_ble_eq_true rfl⟩) dX1_pass_9 12 rfl (ci := 0) 0 rfl rfl rfl rfl (Nat.le_of_ble_eq_true rfl) ⟨Nat.le_of_ble_eq_true rfl, Nat.le_of_ble_eq_true rfl⟩ [0, 1] rfl [1, 2, 3, 4, 5, 6, 7, 8, 9, 10, 11, 12, 13, 14, 15] rfl (by decide) [0, 16, 17, 18, 19, 20, 21, 22, 23, 24, 25, 26, 27, 28, 29, 30, 31, 32] rfl (by decide) (by decide +kernel) (fun v w hv => ?_)
  obtain ⟨rfl, u4_22, u7_22, u8_22, u9_22, u10_22, u11_22, u12_22, u13_22, rfl, hua22, hub22, hu22⟩ := hv
  refine zv_go rfl rfl (st' := []) rfl (kc' := 0) rfl (ns' := 0) rfl ?_
  refine zv_perm [0, 18, 19, 20, 21, 22, 23, 24, 25, 26, 27, 28, 29, 30, 31, 32, 1, 2, 3, 4, 5, 6, 7, 8, 9, 10, 11, 12, 13, 14, 15, 16, 17] (ws' := (cR cI cZ q h k (nI b) y (nI n) r f0 f1 f2 f3 u4_22 f5 f6 u7_22 u8_22 u9_22 u10_22 u11_22 u12_22 u13_22 (nI n1) r1 g0 g1 g2 g3 g4 g5 g6 g7 g8 g9 g10 g11 g12 g13 bp bn)) (by decide) rfl ?_
  refine zv_aload_n C dX1_pass_12 13 rfl 0 rfl ?_
  refine zv_dup C dX1_pass_13 14 rfl rfl ?_
  refine zv_get (ci := 1) C inX1 rfl dX1_pass_14 17 rfl 0 5 rfl (by decide) lk30 rfl ?_
  refine zv_iload_n C dX1_pass_17 18 rfl 1 rfl ?_
  refine zv_iadd (v := (y + (nI z))) C dX1_pass_18 19 rfl rfl ?_
  refine zv_put (ci := 1) C inX1 rfl tyX1_ok nmX1 dX1_pass_19 22 rfl 0 5 rfl (by decide) lk30 rfl rfl rfl (Nat.le_of_ble_eq_true rfl) (cR cI cZ q h k (nI b) (y + (nI z)) (nI n) r f0 f1 f2 f3 u4_22 f5 f6 u7_22 u8_22 u9_22 u10_22 u11_22 u12_22 u13_22 (nI n1) r1 g0 g1 g2 g3 g4 g5 g6 g7 g8 g9 g10 g11 g12 g13 bp bn) rfl ?_
  refine zv_aload_n C dX1_pass_22 23 rfl 0 rfl ?_
  refine zv_callVR (rest := []) C (k_X1_countInsults l D cI cZ q h k b (y + (nI z)) n r f0 f1 f2 f3 u4_22 f5 f6 u7_22 u8_22 u9_22 u10_22 u11_22 u12_22 u13_22 n1 r1 g0 g1 g2 g3 g4 g5 g6 g7 g8 g9 g10 g11 g12 g13 bp bn (by omega) (by omega) (by assumption)) (cwV 0 C.1.2.2.2.2 gX1_pass_X1_countInsults rfl rfl rfl (by decide +kernel) ⟨Nat.le_of_ble_eq_true rfl, Nat.le_of_ble_eq_true rfl⟩) dX1_pass_23 26 rfl (ci := 1) 0 rfl rfl rfl rfl (Nat.le_of_ble_eq_true rfl) ⟨Nat.le_of_ble_eq_true rfl, Nat.le_of_ble_eq_true rfl⟩ [0, 1] rfl [0, 1, 2, 3, 4, 5, 6, 7, 8, 9, 10, 11, 12, 13, 14, 15, 16, 17, 18, 19, 20, 21, 22, 23, 24, 25, 26, 27, 28, 29, 30, 31, 32] rfl (by decide) (fun v hv => ?_)
  subst hv
  refine zv_go rfl rfl (st' := [.int (nI (inN bp bn u9_22 b))]) rfl (kc' := 0) rfl (ns' := 0) rfl ?_
  exact zv_iret C hr hlk hQ dX1_pass_26 ⟨u4_22, u7_22, u8_22, u9_22, u10_22, u11_22, u12_22, u13_22, rfl, rfl, hua22, hub22, hu22⟩
abbrev rmX1_nameIn : Room := { frames := 4, cells := 0, slots := 0, locals := 93 }
set_option maxHeartbeats 4000000 in
set_option maxRecDepth 100000 in
theorem k_X1_nameIn (l : Launch) (D : va_G) (cI cZ : ClassId) (q h k : Nat → Nat) (b : Nat) (y : Int32) (n : Nat) (r : Int32) (f0 f1 f2 f3 f4 f5 f6 f7 f8 f9 f10 f11 f12 f13 : Nat → Int32) (n1 : Nat) (r1 : Int32) (g0 g1 g2 g3 g4 g5 g6 g7 g8 g9 g10 g11 g12 g13 : Nat → Int32) (bp bn : Nat → Int32) (p z : Nat) (hz1 : 1 ≤ z) (hz5 : z ≤ 50) (d : Nat → Nat) (hn : n ≤ 16) (hD : Dep n f0 f1 d) (hW : Wat n f2 f4) (hS : Stl n f0 f3 f4 f6 r f7 f8 f9 f10 f11 f12 f13) (hz2 : ∀ i, zo (f2 i)) (hz6 : ∀ i, zo (f6 i)) (hSw : Swl n f2 f5) (hp : p < n) : zv_M l yX1_nameIn wsX1_nameIn rmX1_nameIn D vwCl (tyL cI cZ) [.ref (q 0), .int (nI p), .int (nI z)] (cR cI cZ q h k (nI b) y (nI n) r f0 f1 f2 f3 f4 f5 f6 f7 f8 f9 f10 f11 f12 f13 (nI n1) r1 g0 g1 g2 g3 g4 g5 g6 g7 g8 g9 g10 g11 g12 g13 bp bn) (fun v w => ∃ (tn : Nat) (tr : Int32) (tg_ : Nat → Nat → Int32), v = some (.int ((nmS n f0 f2 f3 (swN f2 f4 f5 z) f6 r) p)) ∧ w = (cR cI cZ q h k (nI b) y (nI n) r f0 f1 f2 f3 f4 f5 f6 f7 f8 f9 f10 f11 f12 f13 (nI tn) tr (tg_ 0) (tg_ 1) (tg_ 2) (tg_ 3) (tg_ 4) (tg_ 5) (tg_ 6) (tg_ 7) (tg_ 8) (tg_ 9) (tg_ 10) (tg_ 11) (tg_ 12) (tg_ 13) bp bn)) := by
  refine zv_M.of cX1_nameIn 3 (some .int) (by decide) rfl (Nat.le_of_ble_eq_true rfl) ?_
  intro pP eE sS mM aA bB mT cD A C hr hlk hnm Q hQ
  have inX1 : ∀ w ∈ u_ws RX1 TX1 6, w ∈ wsX1_nameIn := by decide +kernel
  have lk16 : Cond.fieldLink RX1 16 "RiverNames" "trial" "LRiverNames$Land;" ∈ wsX1_nameIn := by decide +kernel
  have lk10 : Cond.fieldLink RX1 10 "RiverNames" "land" "LRiverNames$Land;" ∈ wsX1_nameIn := by decide +kernel
  refine zv_go (pc' := 0) rfl (lv' := [(0, .ref (q 0)), (1, .int (nI p)), (2, .int (nI z))]) rfl rfl rfl rfl ?_
  refine zv_aload_n C dX1_nameIn_0 1 rfl 0 rfl ?_
  refine zv_iload_n C dX1_nameIn_1 2 rfl 1 rfl ?_
  refine zv_callVR (rest := []) C (k_X1_requirePlace l D cI cZ q h k b y n r f0 f1 f2 f3 f4 f5 f6 f7 f8 f9 f10 f11 f12 f13 n1 r1 g0 g1 g2 g3 g4 g5 g6 g7 g8 g9 g10 g11 g12 g13 bp bn p (by omega) (by omega)) (cwV 1 C.1.2.2.2.2 gX1_nameIn_X1_requirePlace rfl rfl rfl (by decide +kernel) ⟨Nat.le_of_ble_eq_true rfl, Nat.le_of_ble_eq_true rfl⟩) dX1_nameIn_2 5 rfl (ci := 1) 0 rfl rfl rfl rfl (Nat.le_of_ble_eq_true rfl) ⟨Nat.le_of_ble_eq_true rfl, Nat.le_of_ble_eq_true rfl⟩ [0, 1] rfl [0, 1, 2, 3, 4, 5, 6, 7, 8, 9, 10, 11, 12, 13, 14, 15, 16, 17, 18, 19, 20, 21, 22, 23, 24, 25, 26, 27, 28, 29, 30, 31, 32] rfl (by decide) (fun v hv => ?_)
  subst hv
  refine zv_go rfl rfl (st' := []) rfl (kc' := 0) rfl (ns' := 0) rfl ?_
  refine zv_iload_n C dX1_nameIn_5 6 rfl 2 rfl ?_
  refine zv_callSR (rest := []) C (k_X1_requireYears l D cI cZ (nI z) (by first | assumption | exact isI_yr (by omega) (by omega))) (cwS 1 C.1.2.2.2.2 gX1_nameIn_X1_requireYears rfl rfl rfl (by decide +kernel) ⟨Nat.le_of_ble_eq_true rfl, Nat.le_of_ble_eq_true rfl⟩) dX1_nameIn_6 9 rfl rfl rfl (Nat.le_of_ble_eq_true rfl) ⟨Nat.le_of_ble_eq_true rfl, Nat.le_of_ble_eq_true rfl⟩ [0, 1] rfl [] rfl (by decide) (fun v hv => ?_)
  subst hv
  refine zv_go rfl rfl (st' := []) rfl (kc' := 0) rfl (ns' := 0) rfl ?_
  refine zv_aload_n C dX1_nameIn_9 10 rfl 0 rfl ?_
  refine zv_get (ci := 1) C inX1 rfl dX1_nameIn_10 13 rfl 0 1 rfl (by decide) lk16 rfl ?_
  refine zv_aload_n C dX1_nameIn_13 14 rfl 0 rfl ?_
  refine zv_get (ci := 1) C inX1 rfl dX1_nameIn_14 17 rfl 0 0 rfl (by decide) lk10 rfl ?_
  refine zv_callV (rest := []) (wr := [(q 0, .inr (1, [.ref (h 0), .ref (k 0), .ref (q 1), .ref (q 2), .int (nI b), .int y])), (q 1, .inl (cI, 16, .inl bp)), (q 2, .inl (cI, 16, .inl bn))]) C (k_X0_takeOver l D cI cZ k h n1 r1 g0 g1 g2 g3 g4 g5 g6 g7 g8 g9 g10 g11 g12 g13 n r f0 f1 f2 f3 f4 f5 f6 f7 f8 f9 f10 f11 f12 f13 (by omega) (by assumption) (by assumption)) (cwV 1 C.1.2.2.2.2 gX1_nameIn_X0_takeOver rfl rfl rfl (by decide +kernel) ⟨Nat.le_of_ble_eq_true rfl, Nat.le_of_ble_eq_true rfl⟩) dX1_nameIn_17 20 rfl (ci := 0) 0 rfl rfl rfl rfl (Nat.le_of_ble_eq_true rfl) ⟨Nat.le_of_ble_eq_true rfl, Nat.le_of_ble_eq_true rfl⟩ [0, 1] rfl [16, 17, 18, 19, 20, 21, 22, 23, 24, 25, 26, 27, 28, 29, 30, 1, 2, 3, 4, 5, 6, 7, 8, 9, 10, 11, 12, 13, 14, 15] rfl (by decide) [0, 31, 32] rfl (by decide) (by decide +kernel) (fun v w hv => ?_)
  obtain ⟨rfl, u0_23, u1_23, u2_23, u3_23, u4_23, u5_23, u6_23, rfl, hu23⟩ := hv
  refine zv_go rfl rfl (st' := []) rfl (kc' := 0) rfl (ns' := 0) rfl ?_
  refine zv_perm [0, 18, 19, 20, 21, 22, 23, 24, 25, 26, 27, 28, 29, 30, 31, 32, 3, 4, 5, 6, 7, 8, 9, 10, 11, 12, 13, 14, 15, 16, 17, 1, 2] (ws' := (cR cI cZ q h k (nI b) y (nI n) r f0 f1 f2 f3 f4 f5 f6 f7 f8 f9 f10 f11 f12 f13 (nI n) r u0_23 u1_23 u2_23 u3_23 u4_23 u5_23 u6_23 g7 g8 g9 g10 g11 g12 g13 bp bn)) (by decide) rfl ?_
  have hDt : Dep n u0_23 u1_23 d := hD.congr (fun i hi => ⟨(hu23 i hi).1, (hu23 i hi).2.1⟩)
  have hWt : Wat n u2_23 u4_23 := hW.congr (fun i hi => ⟨(hu23 i hi).2.2.1, (hu23 i hi).2.2.2.2.1⟩)
  refine zv_aload_n C dX1_nameIn_20 21 rfl 0 rfl ?_
  refine zv_get (ci := 1) C inX1 rfl dX1_nameIn_21 24 rfl 0 1 rfl (by decide) lk16 rfl ?_
  refine zv_iload_n C dX1_nameIn_24 25 rfl 2 rfl ?_
  refine zv_callV (rest := []) (wr := [(q 0, .inr (1, [.ref (h 0), .ref (k 0), .ref (q 1), .ref (q 2), .int (nI b), .int y])), (h 0, .inr (0, [.int (nI n), .int r, .ref (h 1), .ref (h 2), .ref (h 3), .ref (h 4), .ref (h 5), .ref (h 6), .ref (h 7), .ref (h 8), .ref (h 9), .ref (h 10), .ref (h 11), .ref (h 12), .ref (h 13), .ref (h 14)])), (h 1, .inl (cI, 16, .inl f0)), (h 2, .inl (cI, 16, .inl f1)), (h 3, .inl (cZ, 16, .inl f2)), (h 4, .inl (cI, 16, .inl f3)), (h 5, .inl (cI, 16, .inl f4)), (h 6, .inl (cI, 16, .inl f5)), (h 7, .inl (cZ, 16, .inl f6)), (h 8, .inl (cI, 16, .inl f7)), (h 9, .inl (cI, 16, .inl f8)), (h 10, .inl (cI, 16, .inl f9)), (h 11, .inl (cI, 16, .inl f10)), (h 12, .inl (cZ, 16, .inl f11)), (h 13, .inl (cI, 16, .inl f12)), (h 14, .inl (cI, 16, .inl f13)), (q 1, .inl (cI, 16, .inl bp)), (q 2, .inl (cI, 16, .inl bn))]) C (k_X0_swellFor l D cI cZ k n r u0_23 u1_23 u2_23 u3_23 u4_23 u5_23 u6_23 g7 g8 g9 g10 g11 g12 g13 (nI z) d (by omega) (by assumption)) (cwV 1 C.1.2.2.2.2 gX1_nameIn_X0_swellFor rfl rfl rfl (by decide +kernel) ⟨Nat.le_of_ble_eq_true rfl, Nat.le_of_ble_eq_true rfl⟩) dX1_nameIn_25 28 rfl (ci := 0) 0 rfl rfl rfl rfl (Nat.le_of_ble_eq_true rfl) ⟨Nat.le_of_ble_eq_true rfl, Nat.le_of_ble_eq_true rfl⟩ [0, 1] rfl [16, 17, 18, 19, 20, 21, 22, 23, 24, 25, 26, 27, 28, 29, 30] rfl (by decide) [0, 1, 2, 3, 4, 5, 6, 7, 8, 9, 10, 11, 12, 13, 14, 15, 31, 32] rfl (by decide) (by decide +kernel) (fun v w hv => ?_)
  obtain ⟨rfl, u4_24, u7_24, u8_24, u9_24, u10_24, u11_24, u12_24, u13_24, rfl, hua24, hub24, hu24⟩ := hv
  refine zv_go rfl rfl (st' := []) rfl (kc' := 0) rfl (ns' := 0) rfl ?_
  refine zv_perm [0, 1, 2, 3, 4, 5, 6, 7, 8, 9, 10, 11, 12, 13, 14, 15, 18, 19, 20, 21, 22, 23, 24, 25, 26, 27, 28, 29, 30, 31, 32, 16, 17] (ws' := (cR cI cZ q h k (nI b) y (nI n) r f0 f1 f2 f3 f4 f5 f6 f7 f8 f9 f10 f11 f12 f13 (nI n) r u0_23 u1_23 u2_23 u3_23 u4_24 u5_23 u6_23 u7_24 u8_24 u9_24 u10_24 u11_24 u12_24 u13_24 bp bn)) (by decide) rfl ?_
  have hX : ∀ i, i < n → u4_24 i = swN f2 f4 f5 z i := fun i hi => (hua24 i hi).trans (by rw [(hu23 i hi).2.2.2.2.1, (hu23 i hi).2.2.2.2.2.1]; exact sw_iter hW hSw (by omega) hi)
  have hWx : Wat n u2_23 u4_24 := (swN_wat hW z).congr (fun i hi => ⟨(hu23 i hi).2.2.1, hX i hi⟩)
  refine zv_aload_n C dX1_nameIn_28 29 rfl 0 rfl ?_
  refine zv_get (ci := 1) C inX1 rfl dX1_nameIn_29 32 rfl 0 1 rfl (by decide) lk16 rfl ?_
  refine zv_iload_n C dX1_nameIn_32 33 rfl 1 rfl ?_
  refine zv_callVR (rest := []) C (k_X0_nameOf l D cI cZ k n r u0_23 u1_23 u2_23 u3_23 u4_24 u5_23 u6_23 u7_24 u8_24 u9_24 u10_24 u11_24 u12_24 u13_24 p (by omega)) (cwV 1 C.1.2.2.2.2 gX1_nameIn_X0_nameOf rfl rfl rfl (by decide +kernel) ⟨Nat.le_of_ble_eq_true rfl, Nat.le_of_ble_eq_true rfl⟩) dX1_nameIn_33 36 rfl (ci := 0) 0 rfl rfl rfl rfl (Nat.le_of_ble_eq_true rfl) ⟨Nat.le_of_ble_eq_true rfl, Nat.le_of_ble_eq_true rfl⟩ [0, 1] rfl [16, 17, 18, 19, 20, 21, 22, 23, 24, 25, 26, 27, 28, 29, 30] rfl (by decide) (fun v hv => ?_)
  subst hv
  refine zv_go rfl rfl (st' := [.int (u9_24 p)]) rfl (kc' := 0) rfl (ns' := 0) rfl ?_
  exact zv_iret C hr hlk hQ dX1_nameIn_36 ⟨n, r, (fam14 u0_23 u1_23 u2_23 u3_23 u4_24 u5_23 u6_23 u7_24 u8_24 u9_24 u10_24 u11_24 u12_24 u13_24), (by rw [trial_nm (s := f1) (has := f2) (nm := f3) (wat := swN f2 f4 f5 z) (del := f6) hD hn hWx (fun i hi => ⟨(hu23 i hi).1, (hu23 i hi).2.1⟩) (fun i hi => ⟨(hu23 i hi).2.2.1, (hu23 i hi).2.2.2.1, hX i hi, (hu23 i hi).2.2.2.2.2.2⟩) hu24 p hp]), rfl⟩
abbrev rmX1_yearsUntilRenamed : Room := { frames := 4, cells := 0, slots := 0, locals := 93 }
set_option maxHeartbeats 4000000 in
set_option maxRecDepth 100000 in
theorem k_X1_yearsUntilRenamed (l : Launch) (D : va_G) (cI cZ : ClassId) (q h k : Nat → Nat) (b : Nat) (y : Int32) (n : Nat) (r : Int32) (f0 f1 f2 f3 f4 f5 f6 f7 f8 f9 f10 f11 f12 f13 : Nat → Int32) (n1 : Nat) (r1 : Int32) (g0 g1 g2 g3 g4 g5 g6 g7 g8 g9 g10 g11 g12 g13 : Nat → Int32) (bp bn : Nat → Int32) (p : Nat) (d : Nat → Nat) (hn : n ≤ 16) (hD : Dep n f0 f1 d) (hW : Wat n f2 f4) (hS : Stl n f0 f3 f4 f6 r f7 f8 f9 f10 f11 f12 f13) (hz2 : ∀ i, zo (f2 i)) (hz6 : ∀ i, zo (f6 i)) (hSw : Swl n f2 f5) (hp : p < n) : zv_M l yX1_yearsUntilRenamed wsX1_yearsUntilRenamed rmX1_yearsUntilRenamed D vwCl (tyL cI cZ) [.ref (q 0), .int (nI p)] (cR cI cZ q h k (nI b) y (nI n) r f0 f1 f2 f3 f4 f5 f6 f7 f8 f9 f10 f11 f12 f13 (nI n1) r1 g0 g1 g2 g3 g4 g5 g6 g7 g8 g9 g10 g11 g12 g13 bp bn) (fun v w => ∃ (tn : Nat) (tr : Int32) (tg_ : Nat → Nat → Int32), v = some (.int (utl (anY n f0 f2 f3 f4 f5 f6 r p) 50)) ∧ w = (cR cI cZ q h k (nI b) y (nI n) r f0 f1 f2 f3 f4 f5 f6 f7 f8 f9 f10 f11 f12 f13 (nI tn) tr (tg_ 0) (tg_ 1) (tg_ 2) (tg_ 3) (tg_ 4) (tg_ 5) (tg_ 6) (tg_ 7) (tg_ 8) (tg_ 9) (tg_ 10) (tg_ 11) (tg_ 12) (tg_ 13) bp bn)) := by
  refine zv_M.of cX1_yearsUntilRenamed 3 (some .int) (by decide) rfl (Nat.le_of_ble_eq_true rfl) ?_
  intro pP eE sS mM aA bB mT cD A C hr hlk hnm Q hQ
  have inX1 : ∀ w ∈ u_ws RX1 TX1 6, w ∈ wsX1_yearsUntilRenamed := by decide +kernel
  have lk16 : Cond.fieldLink RX1 16 "RiverNames" "trial" "LRiverNames$Land;" ∈ wsX1_yearsUntilRenamed := by decide +kernel
  have lk10 : Cond.fieldLink RX1 10 "RiverNames" "land" "LRiverNames$Land;" ∈ wsX1_yearsUntilRenamed := by decide +kernel
  have L18 : ∀ (mu_L18 : Nat), ∀ (m : Nat) (t0 t1 t2 t3 t4 t5 t6 t7 t8 t9 t10 t11 t12 t13 : Nat → Int32), (m ≤ 50) → (-1 = utl (anY n f0 f2 f3 f4 f5 f6 r p) m) → (Dep n t0 t1 d) → (∀ i, i < n → t0 i = f0 i ∧ t1 i = f1 i) → (∀ i, i < n → t2 i = f2 i ∧ t3 i = f3 i ∧ t4 i = swN f2 f4 f5 m i ∧ t5 i = f5 i ∧ t6 i = f6 i) → 50 - m < mu_L18 → zv_V pP l eE rmX1_yearsUntilRenamed sS mM aA bB mT cD Q 3 D vwCl A A (tyL cI cZ) (cR cI cZ q h k (nI b) y (nI n) r f0 f1 f2 f3 f4 f5 f6 f7 f8 f9 f10 f11 f12 f13 (nI n) r t0 t1 t2 t3 t4 t5 t6 t7 t8 t9 t10 t11 t12 t13 bp bn) 0 0 18 [(0, .ref (q 0)), (1, .int (nI p)), (2, .int (nI (m + 1)))] [] := by
    intro mu_L18
    induction mu_L18 with
    | zero => intro m t0 t1 t2 t3 t4 t5 t6 t7 t8 t9 t10 t11 t12 t13 hm ht hDt hE hF hmu_L18; exact absurd hmu_L18 (Nat.not_lt_zero _)
    | succ mu_L18 ih_L18 =>
      intro m t0 t1 t2 t3 t4 t5 t6 t7 t8 t9 t10 t11 t12 t13 hm ht hDt hE hF hmu_L18
      refine zv_iload_n C dX1_yearsUntilRenamed_18 19 rfl 2 rfl ?_
      refine zv_bipush (v := 50) C dX1_yearsUntilRenamed_19 21 rfl (by decide) ?_
      refine zv_icmp_gt C dX1_yearsUntilRenamed_21 24 59 rfl (by decide) (fun c1 => ?_) (fun c1 => ?_)
      · replace c1 := zn_lt (a := 50) (b := (m + 1)) (by omega) (by omega) c1
        refine zv_iconst (v := (-1 : Int32)) C dX1_yearsUntilRenamed_59 60 rfl (by decide) ?_
        exact zv_iret C hr hlk hQ dX1_yearsUntilRenamed_60 ⟨n, r, (fam14 t0 t1 t2 t3 t4 t5 t6 t7 t8 t9 t10 t11 t12 t13), (by rw [show (50 : Nat) = m by omega, ← ht]), rfl⟩
      · replace c1 := zn_lt' (a := 50) (b := (m + 1)) (by omega) (by omega) c1
        refine zv_aload_n C dX1_yearsUntilRenamed_24 25 rfl 0 rfl ?_
        refine zv_get (ci := 1) C inX1 rfl dX1_yearsUntilRenamed_25 28 rfl 0 1 rfl (by decide) lk16 rfl ?_
        refine zv_iconst (v := 1) C dX1_yearsUntilRenamed_28 29 rfl (by decide) ?_
        refine zv_callV (rest := []) (wr := [(q 0, .inr (1, [.ref (h 0), .ref (k 0), .ref (q 1), .ref (q 2), .int (nI b), .int y])), (h 0, .inr (0, [.int (nI n), .int r, .ref (h 1), .ref (h 2), .ref (h 3), .ref (h 4), .ref (h 5), .ref (h 6), .ref (h 7), .ref (h 8), .ref (h 9), .ref (h 10), .ref (h 11), .ref (h 12), .ref (h 13), .ref (h 14)])), (h 1, .inl (cI, 16, .inl f0)), (h 2, .inl (cI, 16, .inl f1)), (h 3, .inl (cZ, 16, .inl f2)), (h 4, .inl (cI, 16, .inl f3)), (h 5, .inl (cI, 16, .inl f4)), (h 6, .inl (cI, 16, .inl f5)), (h 7, .inl (cZ, 16, .inl f6)), (h 8, .inl (cI, 16, .inl f7)), (h 9, .inl (cI, 16, .inl f8)), (h 10, .inl (cI, 16, .inl f9)), (h 11, .inl (cI, 16, .inl f10)), (h 12, .inl (cZ, 16, .inl f11)), (h 13, .inl (cI, 16, .inl f12)), (h 14, .inl (cI, 16, .inl f13)), (q 1, .inl (cI, 16, .inl bp)), (q 2, .inl (cI, 16, .inl bn))]) C (k_X0_swellFor l D cI cZ k n r t0 t1 t2 t3 t4 t5 t6 t7 t8 t9 t10 t11 t12 t13 1 d (by omega) (by assumption)) (cwV 1 C.1.2.2.2.2 gX1_yearsUntilRenamed_X0_swellFor rfl rfl rfl (by decide +kernel) ⟨Nat.le_of_ble_eq_true rfl, Nat.le_of_ble_eq_true rfl⟩) dX1_yearsUntilRenamed_29 32 rfl (ci := 0) 0 rfl rfl rfl rfl (Nat.le_of_ble_eq_true rfl) ⟨Nat.le_of_ble_eq_true rfl, Nat.le_of_ble_eq_true rfl⟩ [0, 1] rfl [16, 17, 18, 19, 20, 21, 22, 23, 24, 25, 26, 27, 28, 29, 30] rfl (by decide) [0, 1, 2, 3, 4, 5, 6, 7, 8, 9, 10, 11, 12, 13, 14, 15, 31, 32] rfl (by decide) (by decide +kernel) (fun v w hv => ?_)
        obtain ⟨rfl, u4_25, u7_25, u8_25, u9_25, u10_25, u11_25, u12_25, u13_25, rfl, hua25, hub25, hu25⟩ := hv
        refine zv_go rfl rfl (st' := []) rfl (kc' := 0) rfl (ns' := 0) rfl ?_
        refine zv_perm [0, 1, 2, 3, 4, 5, 6, 7, 8, 9, 10, 11, 12, 13, 14, 15, 18, 19, 20, 21, 22, 23, 24, 25, 26, 27, 28, 29, 30, 31, 32, 16, 17] (ws' := (cR cI cZ q h k (nI b) y (nI n) r f0 f1 f2 f3 f4 f5 f6 f7 f8 f9 f10 f11 f12 f13 (nI n) r t0 t1 t2 t3 u4_25 t5 t6 u7_25 u8_25 u9_25 u10_25 u11_25 u12_25 u13_25 bp bn)) (by decide) rfl ?_
        have hX : ∀ i, i < n → u4_25 i = swN f2 f4 f5 (m + 1) i := fun i hi => (hua25 i hi).trans (by rw [(hF i hi).2.2.1, (hF i hi).2.2.2.1]; exact sw1_step hW hSw hi)
        have hWx : Wat n t2 u4_25 := (swN_wat hW (m + 1)).congr (fun i hi => ⟨(hF i hi).1, hX i hi⟩)
        have hnm : u9_25 p = nmS n f0 f2 f3 (swN f2 f4 f5 (m + 1)) f6 r p := trial_nm (s := f1) hD hn hWx hE (fun i hi => ⟨(hF i hi).1, (hF i hi).2.1, hX i hi, (hF i hi).2.2.2.2⟩) hu25 p hp
        have hB1 : (!decide (u9_25 p = f9 p)) = anY n f0 f2 f3 f4 f5 f6 r p (m + 1) := by
              unfold anY; rw [hnm, MA.nm hD hn (hS.MA hD hn hW) p hp]
        refine zv_aload_n C dX1_yearsUntilRenamed_32 33 rfl 0 rfl ?_
        refine zv_get (ci := 1) C inX1 rfl dX1_yearsUntilRenamed_33 36 rfl 0 1 rfl (by decide) lk16 rfl ?_
        refine zv_iload_n C dX1_yearsUntilRenamed_36 37 rfl 1 rfl ?_
        refine zv_callVR (rest := []) C (k_X0_nameOf l D cI cZ k n r t0 t1 t2 t3 u4_25 t5 t6 u7_25 u8_25 u9_25 u10_25 u11_25 u12_25 u13_25 p (by omega)) (cwV 1 C.1.2.2.2.2 gX1_yearsUntilRenamed_X0_nameOf rfl rfl rfl (by decide +kernel) ⟨Nat.le_of_ble_eq_true rfl, Nat.le_of_ble_eq_true rfl⟩) dX1_yearsUntilRenamed_37 40 rfl (ci := 0) 0 rfl rfl rfl rfl (Nat.le_of_ble_eq_true rfl) ⟨Nat.le_of_ble_eq_true rfl, Nat.le_of_ble_eq_true rfl⟩ [0, 1] rfl [16, 17, 18, 19, 20, 21, 22, 23, 24, 25, 26, 27, 28, 29, 30] rfl (by decide) (fun v hv => ?_)
        subst hv
        refine zv_go rfl rfl (st' := [.int (u9_25 p)]) rfl (kc' := 0) rfl (ns' := 0) rfl ?_
        refine zv_aload_n C dX1_yearsUntilRenamed_40 41 rfl 0 rfl ?_
        refine zv_get (ci := 1) C inX1 rfl dX1_yearsUntilRenamed_41 44 rfl 0 0 rfl (by decide) lk10 rfl ?_
        refine zv_iload_n C dX1_yearsUntilRenamed_44 45 rfl 1 rfl ?_
        refine zv_callVR (rest := [.int (u9_25 p)]) C (k_X0_nameOf l D cI cZ h n r f0 f1 f2 f3 f4 f5 f6 f7 f8 f9 f10 f11 f12 f13 p (by omega)) (cwV 1 C.1.2.2.2.2 gX1_yearsUntilRenamed_X0_nameOf rfl rfl rfl (by decide +kernel) ⟨Nat.le_of_ble_eq_true rfl, Nat.le_of_ble_eq_true rfl⟩) dX1_yearsUntilRenamed_45 48 rfl (ci := 0) 0 rfl rfl rfl rfl (Nat.le_of_ble_eq_true rfl) ⟨Nat.le_of_ble_eq_true rfl, Nat.le_of_ble_eq_true rfl⟩ [0, 1] rfl [1, 2, 3, 4, 5, 6, 7, 8, 9, 10, 11, 12, 13, 14, 15] rfl (by decide) (fun v hv => ?_)
        subst hv
        refine zv_go rfl rfl (st' := [.int (f9 p), .int (u9_25 p)]) rfl (kc' := 0) rfl (ns' := 0) rfl ?_
        refine zv_icmp_eq C dX1_yearsUntilRenamed_48 51 53 rfl (by decide) (fun c2 => ?_) (fun c2 => ?_)
        · refine zv_iinc (v := (nI (m + 1 + 1))) C dX1_yearsUntilRenamed_53 56 rfl [(2, .int (nI (m + 1 + 1))), (0, .ref (q 0)), (1, .int (nI p))] 2 rfl (nI_1 (m + 1)) (by decide) rfl ?_
          refine zv_goto C dX1_yearsUntilRenamed_56 18 (by decide) ?_
          refine zv_sub [1, 2, 0] (lv' := [(0, .ref (q 0)), (1, .int (nI p)), (2, .int (nI (m + 1 + 1)))]) rfl ?_
          exact ih_L18 (m + 1) t0 t1 t2 t3 u4_25 t5 t6 u7_25 u8_25 u9_25 u10_25 u11_25 u12_25 u13_25 (by omega) (by rw [utl_no _ ht.symm (by rw [← hB1]; simp [c2])]) hDt hE (fun i hi => ⟨(hF i hi).1, (hF i hi).2.1, hX i hi, (hF i hi).2.2.2.1, (hF i hi).2.2.2.2⟩) (by omega)
        · refine zv_iload_n C dX1_yearsUntilRenamed_51 52 rfl 2 rfl ?_
          exact zv_iret C hr hlk hQ dX1_yearsUntilRenamed_52 ⟨n, r, (fam14 t0 t1 t2 t3 u4_25 t5 t6 u7_25 u8_25 u9_25 u10_25 u11_25 u12_25 u13_25), (by have h1 := utl_yes (anY n f0 f2 f3 f4 f5 f6 r p) ht.symm (by rw [← hB1]; simp [c2]); have h2 := utl_stay (anY n f0 f2 f3 f4 f5 f6 r p) (m := m + 1) (by rw [h1]; exact ne_m1 (by omega)) (50 - (m + 1)); rw [show m + 1 + (50 - (m + 1)) = 50 by omega] at h2; rw [h2, h1]), rfl⟩
  refine zv_go (pc' := 0) rfl (lv' := [(0, .ref (q 0)), (1, .int (nI p))]) rfl rfl rfl rfl ?_
  refine zv_aload_n C dX1_yearsUntilRenamed_0 1 rfl 0 rfl ?_
  refine zv_iload_n C dX1_yearsUntilRenamed_1 2 rfl 1 rfl ?_
  refine zv_callVR (rest := []) C (k_X1_requirePlace l D cI cZ q h k b y n r f0 f1 f2 f3 f4 f5 f6 f7 f8 f9 f10 f11 f12 f13 n1 r1 g0 g1 g2 g3 g4 g5 g6 g7 g8 g9 g10 g11 g12 g13 bp bn p (by omega) (by omega)) (cwV 1 C.1.2.2.2.2 gX1_yearsUntilRenamed_X1_requirePlace rfl rfl rfl (by decide +kernel) ⟨Nat.le_of_ble_eq_true rfl, Nat.le_of_ble_eq_true rfl⟩) dX1_yearsUntilRenamed_2 5 rfl (ci := 1) 0 rfl rfl rfl rfl (Nat.le_of_ble_eq_true rfl) ⟨Nat.le_of_ble_eq_true rfl, Nat.le_of_ble_eq_true rfl⟩ [0, 1] rfl [0, 1, 2, 3, 4, 5, 6, 7, 8, 9, 10, 11, 12, 13, 14, 15, 16, 17, 18, 19, 20, 21, 22, 23, 24, 25, 26, 27, 28, 29, 30, 31, 32] rfl (by decide) (fun v hv => ?_)
  subst hv
  refine zv_go rfl rfl (st' := []) rfl (kc' := 0) rfl (ns' := 0) rfl ?_
  refine zv_aload_n C dX1_yearsUntilRenamed_5 6 rfl 0 rfl ?_
  refine zv_get (ci := 1) C inX1 rfl dX1_yearsUntilRenamed_6 9 rfl 0 1 rfl (by decide) lk16 rfl ?_
  refine zv_aload_n C dX1_yearsUntilRenamed_9 10 rfl 0 rfl ?_
  refine zv_get (ci := 1) C inX1 rfl dX1_yearsUntilRenamed_10 13 rfl 0 0 rfl (by decide) lk10 rfl ?_
  refine zv_callV (rest := []) (wr := [(q 0, .inr (1, [.ref (h 0), .ref (k 0), .ref (q 1), .ref (q 2), .int (nI b), .int y])), (q 1, .inl (cI, 16, .inl bp)), (q 2, .inl (cI, 16, .inl bn))]) C (k_X0_takeOver l D cI cZ k h n1 r1 g0 g1 g2 g3 g4 g5 g6 g7 g8 g9 g10 g11 g12 g13 n r f0 f1 f2 f3 f4 f5 f6 f7 f8 f9 f10 f11 f12 f13 (by omega) (by assumption) (by assumption)) (cwV 1 C.1.2.2.2.2 gX1_yearsUntilRenamed_X0_takeOver rfl rfl rfl (by decide +kernel) ⟨Nat.le_of_ble_eq_true rfl, Nat.le_of_ble_eq_true rfl⟩) dX1_yearsUntilRenamed_13 16 rfl (ci := 0) 0 rfl rfl rfl rfl (Nat.le_of_ble_eq_true rfl) ⟨Nat.le_of_ble_eq_true rfl, Nat.le_of_ble_eq_true rfl⟩ [0, 1] rfl [16, 17, 18, 19, 20, 21, 22, 23, 24, 25, 26, 27, 28, 29, 30, 1, 2, 3, 4, 5, 6, 7, 8, 9, 10, 11, 12, 13, 14, 15] rfl (by decide) [0, 31, 32] rfl (by decide) (by decide +kernel) (fun v w hv => ?_)
  obtain ⟨rfl, u0_26, u1_26, u2_26, u3_26, u4_26, u5_26, u6_26, rfl, hu26⟩ := hv
  refine zv_go rfl rfl (st' := []) rfl (kc' := 0) rfl (ns' := 0) rfl ?_
  refine zv_perm [0, 18, 19, 20, 21, 22, 23, 24, 25, 26, 27, 28, 29, 30, 31, 32, 3, 4, 5, 6, 7, 8, 9, 10, 11, 12, 13, 14, 15, 16, 17, 1, 2] (ws' := (cR cI cZ q h k (nI b) y (nI n) r f0 f1 f2 f3 f4 f5 f6 f7 f8 f9 f10 f11 f12 f13 (nI n) r u0_26 u1_26 u2_26 u3_26 u4_26 u5_26 u6_26 g7 g8 g9 g10 g11 g12 g13 bp bn)) (by decide) rfl ?_
  have hDt : Dep n u0_26 u1_26 d := hD.congr (fun i hi => ⟨(hu26 i hi).1, (hu26 i hi).2.1⟩)
  have hWt : Wat n u2_26 u4_26 := hW.congr (fun i hi => ⟨(hu26 i hi).2.2.1, (hu26 i hi).2.2.2.2.1⟩)
  refine zv_iconst (v := 1) C dX1_yearsUntilRenamed_16 17 rfl (by decide) ?_
  refine zv_istore_n C dX1_yearsUntilRenamed_17 18 rfl [(2, .int 1), (0, .ref (q 0)), (1, .int (nI p))] (by decide) rfl ?_
  refine zv_sub [1, 2, 0] (lv' := [(0, .ref (q 0)), (1, .int (nI p)), (2, .int 1)]) rfl ?_
  exact L18 _ 0 u0_26 u1_26 u2_26 u3_26 u4_26 u5_26 u6_26 g7 g8 g9 g10 g11 g12 g13 (by omega) rfl hDt (fun i hi => ⟨(hu26 i hi).1, (hu26 i hi).2.1⟩) (fun i hi => ⟨(hu26 i hi).2.2.1, (hu26 i hi).2.2.2.1, (hu26 i hi).2.2.2.2.1, (hu26 i hi).2.2.2.2.2.1, (hu26 i hi).2.2.2.2.2.2⟩) (Nat.lt_succ_self _)
abbrev rmX1_renamedByDelta : Room := { frames := 4, cells := 0, slots := 0, locals := 91 }
set_option maxHeartbeats 4000000 in
set_option maxRecDepth 100000 in
theorem k_X1_renamedByDelta (l : Launch) (D : va_G) (cI cZ : ClassId) (q h k : Nat → Nat) (b : Nat) (y : Int32) (n : Nat) (r : Int32) (f0 f1 f2 f3 f4 f5 f6 f7 f8 f9 f10 f11 f12 f13 : Nat → Int32) (n1 : Nat) (r1 : Int32) (g0 g1 g2 g3 g4 g5 g6 g7 g8 g9 g10 g11 g12 g13 : Nat → Int32) (bp bn : Nat → Int32) (p : Nat) (d : Nat → Nat) (hn : n ≤ 16) (hD : Dep n f0 f1 d) (hW : Wat n f2 f4) (hS : Stl n f0 f3 f4 f6 r f7 f8 f9 f10 f11 f12 f13) (hz2 : ∀ i, zo (f2 i)) (hz6 : ∀ i, zo (f6 i)) (hp : p < n) : zv_M l yX1_renamedByDelta wsX1_renamedByDelta rmX1_renamedByDelta D vwCl (tyL cI cZ) [.ref (q 0), .int (nI p)] (cR cI cZ q h k (nI b) y (nI n) r f0 f1 f2 f3 f4 f5 f6 f7 f8 f9 f10 f11 f12 f13 (nI n1) r1 g0 g1 g2 g3 g4 g5 g6 g7 g8 g9 g10 g11 g12 g13 bp bn) (fun v w => ∃ (tn : Nat) (tr : Int32) (tg_ : Nat → Nat → Int32), v = some (.int (nI (cne (nmS n f0 f2 f3 f4 (upd f6 p (tg (f6 p))) r) (nmS n f0 f2 f3 f4 f6 r) n))) ∧ w = (cR cI cZ q h k (nI b) y (nI n) r f0 f1 f2 f3 f4 f5 f6 f7 f8 f9 f10 f11 f12 f13 (nI tn) tr (tg_ 0) (tg_ 1) (tg_ 2) (tg_ 3) (tg_ 4) (tg_ 5) (tg_ 6) (tg_ 7) (tg_ 8) (tg_ 9) (tg_ 10) (tg_ 11) (tg_ 12) (tg_ 13) bp bn)) := by
  refine zv_M.of cX1_renamedByDelta 2 (some .int) (by decide) rfl (Nat.le_of_ble_eq_true rfl) ?_
  intro pP eE sS mM aA bB mT cD A C hr hlk hnm Q hQ
  have inX1 : ∀ w ∈ u_ws RX1 TX1 6, w ∈ wsX1_renamedByDelta := by decide +kernel
  have lk16 : Cond.fieldLink RX1 16 "RiverNames" "trial" "LRiverNames$Land;" ∈ wsX1_renamedByDelta := by decide +kernel
  have lk10 : Cond.fieldLink RX1 10 "RiverNames" "land" "LRiverNames$Land;" ∈ wsX1_renamedByDelta := by decide +kernel
  refine zv_go (pc' := 0) rfl (lv' := [(0, .ref (q 0)), (1, .int (nI p))]) rfl rfl rfl rfl ?_
  refine zv_aload_n C dX1_renamedByDelta_0 1 rfl 0 rfl ?_
  refine zv_iload_n C dX1_renamedByDelta_1 2 rfl 1 rfl ?_
  refine zv_callVR (rest := []) C (k_X1_requirePlace l D cI cZ q h k b y n r f0 f1 f2 f3 f4 f5 f6 f7 f8 f9 f10 f11 f12 f13 n1 r1 g0 g1 g2 g3 g4 g5 g6 g7 g8 g9 g10 g11 g12 g13 bp bn p (by omega) (by omega)) (cwV 1 C.1.2.2.2.2 gX1_renamedByDelta_X1_requirePlace rfl rfl rfl (by decide +kernel) ⟨Nat.le_of_ble_eq_true rfl, Nat.le_of_ble_eq_true rfl⟩) dX1_renamedByDelta_2 5 rfl (ci := 1) 0 rfl rfl rfl rfl (Nat.le_of_ble_eq_true rfl) ⟨Nat.le_of_ble_eq_true rfl, Nat.le_of_ble_eq_true rfl⟩ [0, 1] rfl [0, 1, 2, 3, 4, 5, 6, 7, 8, 9, 10, 11, 12, 13, 14, 15, 16, 17, 18, 19, 20, 21, 22, 23, 24, 25, 26, 27, 28, 29, 30, 31, 32] rfl (by decide) (fun v hv => ?_)
  subst hv
  refine zv_go rfl rfl (st' := []) rfl (kc' := 0) rfl (ns' := 0) rfl ?_
  refine zv_aload_n C dX1_renamedByDelta_5 6 rfl 0 rfl ?_
  refine zv_get (ci := 1) C inX1 rfl dX1_renamedByDelta_6 9 rfl 0 1 rfl (by decide) lk16 rfl ?_
  refine zv_aload_n C dX1_renamedByDelta_9 10 rfl 0 rfl ?_
  refine zv_get (ci := 1) C inX1 rfl dX1_renamedByDelta_10 13 rfl 0 0 rfl (by decide) lk10 rfl ?_
  refine zv_callV (rest := []) (wr := [(q 0, .inr (1, [.ref (h 0), .ref (k 0), .ref (q 1), .ref (q 2), .int (nI b), .int y])), (q 1, .inl (cI, 16, .inl bp)), (q 2, .inl (cI, 16, .inl bn))]) C (k_X0_takeOver l D cI cZ k h n1 r1 g0 g1 g2 g3 g4 g5 g6 g7 g8 g9 g10 g11 g12 g13 n r f0 f1 f2 f3 f4 f5 f6 f7 f8 f9 f10 f11 f12 f13 (by omega) (by assumption) (by assumption)) (cwV 1 C.1.2.2.2.2 gX1_renamedByDelta_X0_takeOver rfl rfl rfl (by decide +kernel) ⟨Nat.le_of_ble_eq_true rfl, Nat.le_of_ble_eq_true rfl⟩) dX1_renamedByDelta_13 16 rfl (ci := 0) 0 rfl rfl rfl rfl (Nat.le_of_ble_eq_true rfl) ⟨Nat.le_of_ble_eq_true rfl, Nat.le_of_ble_eq_true rfl⟩ [0, 1] rfl [16, 17, 18, 19, 20, 21, 22, 23, 24, 25, 26, 27, 28, 29, 30, 1, 2, 3, 4, 5, 6, 7, 8, 9, 10, 11, 12, 13, 14, 15] rfl (by decide) [0, 31, 32] rfl (by decide) (by decide +kernel) (fun v w hv => ?_)
  obtain ⟨rfl, u0_27, u1_27, u2_27, u3_27, u4_27, u5_27, u6_27, rfl, hu27⟩ := hv
  refine zv_go rfl rfl (st' := []) rfl (kc' := 0) rfl (ns' := 0) rfl ?_
  refine zv_perm [0, 18, 19, 20, 21, 22, 23, 24, 25, 26, 27, 28, 29, 30, 31, 32, 3, 4, 5, 6, 7, 8, 9, 10, 11, 12, 13, 14, 15, 16, 17, 1, 2] (ws' := (cR cI cZ q h k (nI b) y (nI n) r f0 f1 f2 f3 f4 f5 f6 f7 f8 f9 f10 f11 f12 f13 (nI n) r u0_27 u1_27 u2_27 u3_27 u4_27 u5_27 u6_27 g7 g8 g9 g10 g11 g12 g13 bp bn)) (by decide) rfl ?_
  have hDt : Dep n u0_27 u1_27 d := hD.congr (fun i hi => ⟨(hu27 i hi).1, (hu27 i hi).2.1⟩)
  have hWt : Wat n u2_27 u4_27 := hW.congr (fun i hi => ⟨(hu27 i hi).2.2.1, (hu27 i hi).2.2.2.2.1⟩)
  refine zv_aload_n C dX1_renamedByDelta_16 17 rfl 0 rfl ?_
  refine zv_get (ci := 1) C inX1 rfl dX1_renamedByDelta_17 20 rfl 0 1 rfl (by decide) lk16 rfl ?_
  refine zv_iload_n C dX1_renamedByDelta_20 21 rfl 1 rfl ?_
  refine zv_callV (rest := []) (wr := [(q 0, .inr (1, [.ref (h 0), .ref (k 0), .ref (q 1), .ref (q 2), .int (nI b), .int y])), (h 0, .inr (0, [.int (nI n), .int r, .ref (h 1), .ref (h 2), .ref (h 3), .ref (h 4), .ref (h 5), .ref (h 6), .ref (h 7), .ref (h 8), .ref (h 9), .ref (h 10), .ref (h 11), .ref (h 12), .ref (h 13), .ref (h 14)])), (h 1, .inl (cI, 16, .inl f0)), (h 2, .inl (cI, 16, .inl f1)), (h 3, .inl (cZ, 16, .inl f2)), (h 4, .inl (cI, 16, .inl f3)), (h 5, .inl (cI, 16, .inl f4)), (h 6, .inl (cI, 16, .inl f5)), (h 7, .inl (cZ, 16, .inl f6)), (h 8, .inl (cI, 16, .inl f7)), (h 9, .inl (cI, 16, .inl f8)), (h 10, .inl (cI, 16, .inl f9)), (h 11, .inl (cI, 16, .inl f10)), (h 12, .inl (cZ, 16, .inl f11)), (h 13, .inl (cI, 16, .inl f12)), (h 14, .inl (cI, 16, .inl f13)), (q 1, .inl (cI, 16, .inl bp)), (q 2, .inl (cI, 16, .inl bn))]) C (k_X0_toggleDelta l D cI cZ k n r u0_27 u1_27 u2_27 u3_27 u4_27 u5_27 u6_27 g7 g8 g9 g10 g11 g12 g13 p (by omega) d (by omega) (by assumption)) (cwV 1 C.1.2.2.2.2 gX1_renamedByDelta_X0_toggleDelta rfl rfl rfl (by decide +kernel) ⟨Nat.le_of_ble_eq_true rfl, Nat.le_of_ble_eq_true rfl⟩) dX1_renamedByDelta_21 24 rfl (ci := 0) 0 rfl rfl rfl rfl (Nat.le_of_ble_eq_true rfl) ⟨Nat.le_of_ble_eq_true rfl, Nat.le_of_ble_eq_true rfl⟩ [0, 1] rfl [16, 17, 18, 19, 20, 21, 22, 23, 24, 25, 26, 27, 28, 29, 30] rfl (by decide) [0, 1, 2, 3, 4, 5, 6, 7, 8, 9, 10, 11, 12, 13, 14, 15, 31, 32] rfl (by decide) (by decide +kernel) (fun v w hv => ?_)
  obtain ⟨rfl, u7_28, u8_28, u9_28, u10_28, u11_28, u12_28, u13_28, rfl, hu28⟩ := hv
  refine zv_go rfl rfl (st' := []) rfl (kc' := 0) rfl (ns' := 0) rfl ?_
  refine zv_perm [0, 1, 2, 3, 4, 5, 6, 7, 8, 9, 10, 11, 12, 13, 14, 15, 18, 19, 20, 21, 22, 23, 24, 25, 26, 27, 28, 29, 30, 31, 32, 16, 17] (ws' := (cR cI cZ q h k (nI b) y (nI n) r f0 f1 f2 f3 f4 f5 f6 f7 f8 f9 f10 f11 f12 f13 (nI n) r u0_27 u1_27 u2_27 u3_27 u4_27 u5_27 (upd u6_27 p (tg (u6_27 p))) u7_28 u8_28 u9_28 u10_28 u11_28 u12_28 u13_28 bp bn)) (by decide) rfl ?_
  have hWx := hWt
  have hQd : ∀ i, i < n → u2_27 i = f2 i ∧ u3_27 i = f3 i ∧ u4_27 i = f4 i ∧ (upd u6_27 p (tg (u6_27 p))) i = (upd f6 p (tg (f6 p))) i := fun i hi => ⟨(hu27 i hi).2.2.1, (hu27 i hi).2.2.2.1, (hu27 i hi).2.2.2.2.1, by
        have h6 := fun i hi => (hu27 i hi).2.2.2.2.2.2
        by_cases e : i = p
        · subst e; rw [upd_at, upd_at, h6 i hi]
        · rw [upd_ne _ _ _ e, upd_ne _ _ _ e, h6 i hi]⟩
  refine zv_aload_n C dX1_renamedByDelta_24 25 rfl 0 rfl ?_
  refine zv_get (ci := 1) C inX1 rfl dX1_renamedByDelta_25 28 rfl 0 1 rfl (by decide) lk16 rfl ?_
  refine zv_aload_n C dX1_renamedByDelta_28 29 rfl 0 rfl ?_
  refine zv_get (ci := 1) C inX1 rfl dX1_renamedByDelta_29 32 rfl 0 0 rfl (by decide) lk10 rfl ?_
  refine zv_callVR (rest := []) C (k_X0_countNamedOtherThan l D cI cZ k h n r u0_27 u1_27 u2_27 u3_27 u4_27 u5_27 (upd u6_27 p (tg (u6_27 p))) u7_28 u8_28 u9_28 u10_28 u11_28 u12_28 u13_28 n r f0 f1 f2 f3 f4 f5 f6 f7 f8 f9 f10 f11 f12 f13 (by omega)) (cwV 1 C.1.2.2.2.2 gX1_renamedByDelta_X0_countNamedOtherThan rfl rfl rfl (by decide +kernel) ⟨Nat.le_of_ble_eq_true rfl, Nat.le_of_ble_eq_true rfl⟩) dX1_renamedByDelta_32 35 rfl (ci := 0) 0 rfl rfl rfl rfl (Nat.le_of_ble_eq_true rfl) ⟨Nat.le_of_ble_eq_true rfl, Nat.le_of_ble_eq_true rfl⟩ [0, 1] rfl [16, 17, 18, 19, 20, 21, 22, 23, 24, 25, 26, 27, 28, 29, 30, 1, 2, 3, 4, 5, 6, 7, 8, 9, 10, 11, 12, 13, 14, 15] rfl (by decide) (fun v hv => ?_)
  subst hv
  refine zv_go rfl rfl (st' := [.int (nI (cne u9_28 f9 n))]) rfl (kc' := 0) rfl (ns' := 0) rfl ?_
  exact zv_iret C hr hlk hQ dX1_renamedByDelta_35 ⟨n, r, (fam14 u0_27 u1_27 u2_27 u3_27 u4_27 u5_27 (upd u6_27 p (tg (u6_27 p))) u7_28 u8_28 u9_28 u10_28 u11_28 u12_28 u13_28), (by rw [cne_congr n (fun i hi => trial_nm (s := f1) (has := f2) (nm := f3) (wat := f4) (del := (upd f6 p (tg (f6 p)))) hD hn hWx (fun i hi => ⟨(hu27 i hi).1, (hu27 i hi).2.1⟩) hQd hu28 i hi) (fun i hi => MA.nm hD hn (hS.MA hD hn hW) i hi)]), rfl⟩
abbrev rmX1_renamedByRule : Room := { frames := 4, cells := 0, slots := 0, locals := 91 }
set_option maxHeartbeats 4000000 in
set_option maxRecDepth 100000 in
theorem k_X1_renamedByRule (l : Launch) (D : va_G) (cI cZ : ClassId) (q h k : Nat → Nat) (b : Nat) (y : Int32) (n : Nat) (r : Int32) (f0 f1 f2 f3 f4 f5 f6 f7 f8 f9 f10 f11 f12 f13 : Nat → Int32) (n1 : Nat) (r1 : Int32) (g0 g1 g2 g3 g4 g5 g6 g7 g8 g9 g10 g11 g12 g13 : Nat → Int32) (bp bn : Nat → Int32) (d : Nat → Nat) (hn : n ≤ 16) (hD : Dep n f0 f1 d) (hW : Wat n f2 f4) (hS : Stl n f0 f3 f4 f6 r f7 f8 f9 f10 f11 f12 f13) (hz2 : ∀ i, zo (f2 i)) (hz6 : ∀ i, zo (f6 i)) (hr01 : r = 0 ∨ r = 1) : zv_M l yX1_renamedByRule wsX1_renamedByRule rmX1_renamedByRule D vwCl (tyL cI cZ) [.ref (q 0)] (cR cI cZ q h k (nI b) y (nI n) r f0 f1 f2 f3 f4 f5 f6 f7 f8 f9 f10 f11 f12 f13 (nI n1) r1 g0 g1 g2 g3 g4 g5 g6 g7 g8 g9 g10 g11 g12 g13 bp bn) (fun v w => ∃ (tn : Nat) (tr : Int32) (tg_ : Nat → Nat → Int32), v = some (.int (nI (cne (nmS n f0 f2 f3 f4 f6 (1 - r)) (nmS n f0 f2 f3 f4 f6 r) n))) ∧ w = (cR cI cZ q h k (nI b) y (nI n) r f0 f1 f2 f3 f4 f5 f6 f7 f8 f9 f10 f11 f12 f13 (nI tn) tr (tg_ 0) (tg_ 1) (tg_ 2) (tg_ 3) (tg_ 4) (tg_ 5) (tg_ 6) (tg_ 7) (tg_ 8) (tg_ 9) (tg_ 10) (tg_ 11) (tg_ 12) (tg_ 13) bp bn)) := by
  refine zv_M.of cX1_renamedByRule 1 (some .int) (by decide) rfl (Nat.le_of_ble_eq_true rfl) ?_
  intro pP eE sS mM aA bB mT cD A C hr hlk hnm Q hQ
  have inX1 : ∀ w ∈ u_ws RX1 TX1 6, w ∈ wsX1_renamedByRule := by decide +kernel
  have lk16 : Cond.fieldLink RX1 16 "RiverNames" "trial" "LRiverNames$Land;" ∈ wsX1_renamedByRule := by decide +kernel
  have lk10 : Cond.fieldLink RX1 10 "RiverNames" "land" "LRiverNames$Land;" ∈ wsX1_renamedByRule := by decide +kernel
  refine zv_go (pc' := 0) rfl (lv' := [(0, .ref (q 0))]) rfl rfl rfl rfl ?_
  refine zv_aload_n C dX1_renamedByRule_0 1 rfl 0 rfl ?_
  refine zv_get (ci := 1) C inX1 rfl dX1_renamedByRule_1 4 rfl 0 1 rfl (by decide) lk16 rfl ?_
  refine zv_aload_n C dX1_renamedByRule_4 5 rfl 0 rfl ?_
  refine zv_get (ci := 1) C inX1 rfl dX1_renamedByRule_5 8 rfl 0 0 rfl (by decide) lk10 rfl ?_
  refine zv_callV (rest := []) (wr := [(q 0, .inr (1, [.ref (h 0), .ref (k 0), .ref (q 1), .ref (q 2), .int (nI b), .int y])), (q 1, .inl (cI, 16, .inl bp)), (q 2, .inl (cI, 16, .inl bn))]) C (k_X0_takeOver l D cI cZ k h n1 r1 g0 g1 g2 g3 g4 g5 g6 g7 g8 g9 g10 g11 g12 g13 n r f0 f1 f2 f3 f4 f5 f6 f7 f8 f9 f10 f11 f12 f13 (by omega) (by assumption) (by assumption)) (cwV 1 C.1.2.2.2.2 gX1_renamedByRule_X0_takeOver rfl rfl rfl (by decide +kernel) ⟨Nat.le_of_ble_eq_true rfl, Nat.le_of_ble_eq_true rfl⟩) dX1_renamedByRule_8 11 rfl (ci := 0) 0 rfl rfl rfl rfl (Nat.le_of_ble_eq_true rfl) ⟨Nat.le_of_ble_eq_true rfl, Nat.le_of_ble_eq_true rfl⟩ [0, 1] rfl [16, 17, 18, 19, 20, 21, 22, 23, 24, 25, 26, 27, 28, 29, 30, 1, 2, 3, 4, 5, 6, 7, 8, 9, 10, 11, 12, 13, 14, 15] rfl (by decide) [0, 31, 32] rfl (by decide) (by decide +kernel) (fun v w hv => ?_)
  obtain ⟨rfl, u0_29, u1_29, u2_29, u3_29, u4_29, u5_29, u6_29, rfl, hu29⟩ := hv
  refine zv_go rfl rfl (st' := []) rfl (kc' := 0) rfl (ns' := 0) rfl ?_
  refine zv_perm [0, 18, 19, 20, 21, 22, 23, 24, 25, 26, 27, 28, 29, 30, 31, 32, 3, 4, 5, 6, 7, 8, 9, 10, 11, 12, 13, 14, 15, 16, 17, 1, 2] (ws' := (cR cI cZ q h k (nI b) y (nI n) r f0 f1 f2 f3 f4 f5 f6 f7 f8 f9 f10 f11 f12 f13 (nI n) r u0_29 u1_29 u2_29 u3_29 u4_29 u5_29 u6_29 g7 g8 g9 g10 g11 g12 g13 bp bn)) (by decide) rfl ?_
  have hDt : Dep n u0_29 u1_29 d := hD.congr (fun i hi => ⟨(hu29 i hi).1, (hu29 i hi).2.1⟩)
  have hWt : Wat n u2_29 u4_29 := hW.congr (fun i hi => ⟨(hu29 i hi).2.2.1, (hu29 i hi).2.2.2.2.1⟩)
  refine zv_aload_n C dX1_renamedByRule_11 12 rfl 0 rfl ?_
  refine zv_get (ci := 1) C inX1 rfl dX1_renamedByRule_12 15 rfl 0 1 rfl (by decide) lk16 rfl ?_
  refine zv_aload_n C dX1_renamedByRule_15 16 rfl 0 rfl ?_
  refine zv_get (ci := 1) C inX1 rfl dX1_renamedByRule_16 19 rfl 0 0 rfl (by decide) lk10 rfl ?_
  refine zv_callVR (rest := [.ref (k 0)]) C (k_X0_ruleNow l D cI cZ h n r f0 f1 f2 f3 f4 f5 f6 f7 f8 f9 f10 f11 f12 f13) (cwV 0 C.1.2.2.2.2 gX1_renamedByRule_X0_ruleNow rfl rfl rfl (by decide +kernel) ⟨Nat.le_of_ble_eq_true rfl, Nat.le_of_ble_eq_true rfl⟩) dX1_renamedByRule_19 22 rfl (ci := 0) 0 rfl rfl rfl rfl (Nat.le_of_ble_eq_true rfl) ⟨Nat.le_of_ble_eq_true rfl, Nat.le_of_ble_eq_true rfl⟩ [0, 1] rfl [1, 2, 3, 4, 5, 6, 7, 8, 9, 10, 11, 12, 13, 14, 15] rfl (by decide) (fun v hv => ?_)
  subst hv
  refine zv_go rfl rfl (st' := [.int r, .ref (k 0)]) rfl (kc' := 0) rfl (ns' := 0) rfl ?_
  refine zv_if_ne C dX1_renamedByRule_22 25 29 rfl (by decide) (fun c1 => ?_) (fun c1 => ?_)
  · refine zv_iconst (v := 0) C dX1_renamedByRule_29 30 rfl (by decide) ?_
    refine zv_callV (rest := []) (wr := [(q 0, .inr (1, [.ref (h 0), .ref (k 0), .ref (q 1), .ref (q 2), .int (nI b), .int y])), (h 0, .inr (0, [.int (nI n), .int r, .ref (h 1), .ref (h 2), .ref (h 3), .ref (h 4), .ref (h 5), .ref (h 6), .ref (h 7), .ref (h 8), .ref (h 9), .ref (h 10), .ref (h 11), .ref (h 12), .ref (h 13), .ref (h 14)])), (h 1, .inl (cI, 16, .inl f0)), (h 2, .inl (cI, 16, .inl f1)), (h 3, .inl (cZ, 16, .inl f2)), (h 4, .inl (cI, 16, .inl f3)), (h 5, .inl (cI, 16, .inl f4)), (h 6, .inl (cI, 16, .inl f5)), (h 7, .inl (cZ, 16, .inl f6)), (h 8, .inl (cI, 16, .inl f7)), (h 9, .inl (cI, 16, .inl f8)), (h 10, .inl (cI, 16, .inl f9)), (h 11, .inl (cI, 16, .inl f10)), (h 12, .inl (cZ, 16, .inl f11)), (h 13, .inl (cI, 16, .inl f12)), (h 14, .inl (cI, 16, .inl f13)), (q 1, .inl (cI, 16, .inl bp)), (q 2, .inl (cI, 16, .inl bn))]) C (k_X0_useRule l D cI cZ k n r u0_29 u1_29 u2_29 u3_29 u4_29 u5_29 u6_29 g7 g8 g9 g10 g11 g12 g13 0 d (by omega) (by assumption)) (cwV 1 C.1.2.2.2.2 gX1_renamedByRule_X0_useRule rfl rfl rfl (by decide +kernel) ⟨Nat.le_of_ble_eq_true rfl, Nat.le_of_ble_eq_true rfl⟩) dX1_renamedByRule_30 33 rfl (ci := 0) 0 rfl rfl rfl rfl (Nat.le_of_ble_eq_true rfl) ⟨Nat.le_of_ble_eq_true rfl, Nat.le_of_ble_eq_true rfl⟩ [0, 1] rfl [16, 17, 18, 19, 20, 21, 22, 23, 24, 25, 26, 27, 28, 29, 30] rfl (by decide) [0, 1, 2, 3, 4, 5, 6, 7, 8, 9, 10, 11, 12, 13, 14, 15, 31, 32] rfl (by decide) (by decide +kernel) (fun v w hv => ?_)
    obtain ⟨rfl, u7_30, u8_30, u9_30, u10_30, u11_30, u12_30, u13_30, rfl, hu30⟩ := hv
    refine zv_go rfl rfl (st' := []) rfl (kc' := 0) rfl (ns' := 0) rfl ?_
    refine zv_perm [0, 1, 2, 3, 4, 5, 6, 7, 8, 9, 10, 11, 12, 13, 14, 15, 18, 19, 20, 21, 22, 23, 24, 25, 26, 27, 28, 29, 30, 31, 32, 16, 17] (ws' := (cR cI cZ q h k (nI b) y (nI n) r f0 f1 f2 f3 f4 f5 f6 f7 f8 f9 f10 f11 f12 f13 (nI n) 0 u0_29 u1_29 u2_29 u3_29 u4_29 u5_29 u6_29 u7_30 u8_30 u9_30 u10_30 u11_30 u12_30 u13_30 bp bn)) (by decide) rfl ?_
    have hWx := hWt
    have hQd : ∀ i, i < n → u2_29 i = f2 i ∧ u3_29 i = f3 i ∧ u4_29 i = f4 i ∧ u6_29 i = f6 i := fun i hi => ⟨(hu29 i hi).2.2.1, (hu29 i hi).2.2.2.1, (hu29 i hi).2.2.2.2.1, (hu29 i hi).2.2.2.2.2.2⟩
    refine zv_aload_n C dX1_renamedByRule_33 34 rfl 0 rfl ?_
    refine zv_get (ci := 1) C inX1 rfl dX1_renamedByRule_34 37 rfl 0 1 rfl (by decide) lk16 rfl ?_
    refine zv_aload_n C dX1_renamedByRule_37 38 rfl 0 rfl ?_
    refine zv_get (ci := 1) C inX1 rfl dX1_renamedByRule_38 41 rfl 0 0 rfl (by decide) lk10 rfl ?_
    refine zv_callVR (rest := []) C (k_X0_countNamedOtherThan l D cI cZ k h n 0 u0_29 u1_29 u2_29 u3_29 u4_29 u5_29 u6_29 u7_30 u8_30 u9_30 u10_30 u11_30 u12_30 u13_30 n r f0 f1 f2 f3 f4 f5 f6 f7 f8 f9 f10 f11 f12 f13 (by omega)) (cwV 1 C.1.2.2.2.2 gX1_renamedByRule_X0_countNamedOtherThan rfl rfl rfl (by decide +kernel) ⟨Nat.le_of_ble_eq_true rfl, Nat.le_of_ble_eq_true rfl⟩) dX1_renamedByRule_41 44 rfl (ci := 0) 0 rfl rfl rfl rfl (Nat.le_of_ble_eq_true rfl) ⟨Nat.le_of_ble_eq_true rfl, Nat.le_of_ble_eq_true rfl⟩ [0, 1] rfl [16, 17, 18, 19, 20, 21, 22, 23, 24, 25, 26, 27, 28, 29, 30, 1, 2, 3, 4, 5, 6, 7, 8, 9, 10, 11, 12, 13, 14, 15] rfl (by decide) (fun v hv => ?_)
    subst hv
    refine zv_go rfl rfl (st' := [.int (nI (cne u9_30 f9 n))]) rfl (kc' := 0) rfl (ns' := 0) rfl ?_
    exact zv_iret C hr hlk hQ dX1_renamedByRule_44 ⟨n, 0, (fam14 u0_29 u1_29 u2_29 u3_29 u4_29 u5_29 u6_29 u7_30 u8_30 u9_30 u10_30 u11_30 u12_30 u13_30), (by rw [show (1 - r : Int32) = 0 from (by rcases hr01 with z | z; exact absurd z c1; rw [z]; decide), cne_congr n (fun i hi => trial_nm (s := f1) (has := f2) (nm := f3) (wat := f4) (del := f6) hD hn hWx (fun i hi => ⟨(hu29 i hi).1, (hu29 i hi).2.1⟩) hQd hu30 i hi) (fun i hi => MA.nm hD hn (hS.MA hD hn hW) i hi)]), rfl⟩
  · refine zv_iconst (v := 1) C dX1_renamedByRule_25 26 rfl (by decide) ?_
    refine zv_goto C dX1_renamedByRule_26 30 (by decide) ?_
    refine zv_callV (rest := []) (wr := [(q 0, .inr (1, [.ref (h 0), .ref (k 0), .ref (q 1), .ref (q 2), .int (nI b), .int y])), (h 0, .inr (0, [.int (nI n), .int r, .ref (h 1), .ref (h 2), .ref (h 3), .ref (h 4), .ref (h 5), .ref (h 6), .ref (h 7), .ref (h 8), .ref (h 9), .ref (h 10), .ref (h 11), .ref (h 12), .ref (h 13), .ref (h 14)])), (h 1, .inl (cI, 16, .inl f0)), (h 2, .inl (cI, 16, .inl f1)), (h 3, .inl (cZ, 16, .inl f2)), (h 4, .inl (cI, 16, .inl f3)), (h 5, .inl (cI, 16, .inl f4)), (h 6, .inl (cI, 16, .inl f5)), (h 7, .inl (cZ, 16, .inl f6)), (h 8, .inl (cI, 16, .inl f7)), (h 9, .inl (cI, 16, .inl f8)), (h 10, .inl (cI, 16, .inl f9)), (h 11, .inl (cI, 16, .inl f10)), (h 12, .inl (cZ, 16, .inl f11)), (h 13, .inl (cI, 16, .inl f12)), (h 14, .inl (cI, 16, .inl f13)), (q 1, .inl (cI, 16, .inl bp)), (q 2, .inl (cI, 16, .inl bn))]) C (k_X0_useRule l D cI cZ k n r u0_29 u1_29 u2_29 u3_29 u4_29 u5_29 u6_29 g7 g8 g9 g10 g11 g12 g13 1 d (by omega) (by assumption)) (cwV 1 C.1.2.2.2.2 gX1_renamedByRule_X0_useRule rfl rfl rfl (by decide +kernel) ⟨Nat.le_of_ble_eq_true rfl, Nat.le_of_ble_eq_true rfl⟩) dX1_renamedByRule_30 33 rfl (ci := 0) 0 rfl rfl rfl rfl (Nat.le_of_ble_eq_true rfl) ⟨Nat.le_of_ble_eq_true rfl, Nat.le_of_ble_eq_true rfl⟩ [0, 1] rfl [16, 17, 18, 19, 20, 21, 22, 23, 24, 25, 26, 27, 28, 29, 30] rfl (by decide) [0, 1, 2, 3, 4, 5, 6, 7, 8, 9, 10, 11, 12, 13, 14, 15, 31, 32] rfl (by decide) (by decide +kernel) (fun v w hv => ?_)
    obtain ⟨rfl, u7_31, u8_31, u9_31, u10_31, u11_31, u12_31, u13_31, rfl, hu31⟩ := hv
    refine zv_go rfl rfl (st' := []) rfl (kc' := 0) rfl (ns' := 0) rfl ?_
    refine zv_perm [0, 1, 2, 3, 4, 5, 6, 7, 8, 9, 10, 11, 12, 13, 14, 15, 18, 19, 20, 21, 22, 23, 24, 25, 26, 27, 28, 29, 30, 31, 32, 16, 17] (ws' := (cR cI cZ q h k (nI b) y (nI n) r f0 f1 f2 f3 f4 f5 f6 f7 f8 f9 f10 f11 f12 f13 (nI n) 1 u0_29 u1_29 u2_29 u3_29 u4_29 u5_29 u6_29 u7_31 u8_31 u9_31 u10_31 u11_31 u12_31 u13_31 bp bn)) (by decide) rfl ?_
    have hWx := hWt
    have hQd : ∀ i, i < n → u2_29 i = f2 i ∧ u3_29 i = f3 i ∧ u4_29 i = f4 i ∧ u6_29 i = f6 i := fun i hi => ⟨(hu29 i hi).2.2.1, (hu29 i hi).2.2.2.1, (hu29 i hi).2.2.2.2.1, (hu29 i hi).2.2.2.2.2.2⟩
    refine zv_aload_n C dX1_renamedByRule_33 34 rfl 0 rfl ?_
    refine zv_get (ci := 1) C inX1 rfl dX1_renamedByRule_34 37 rfl 0 1 rfl (by decide) lk16 rfl ?_
    refine zv_aload_n C dX1_renamedByRule_37 38 rfl 0 rfl ?_
    refine zv_get (ci := 1) C inX1 rfl dX1_renamedByRule_38 41 rfl 0 0 rfl (by decide) lk10 rfl ?_
    refine zv_callVR (rest := []) C (k_X0_countNamedOtherThan l D cI cZ k h n 1 u0_29 u1_29 u2_29 u3_29 u4_29 u5_29 u6_29 u7_31 u8_31 u9_31 u10_31 u11_31 u12_31 u13_31 n r f0 f1 f2 f3 f4 f5 f6 f7 f8 f9 f10 f11 f12 f13 (by omega)) (cwV 1 C.1.2.2.2.2 gX1_renamedByRule_X0_countNamedOtherThan rfl rfl rfl (by decide +kernel) ⟨Nat.le_of_ble_eq_true rfl, Nat.le_of_ble_eq_true rfl⟩) dX1_renamedByRule_41 44 rfl (ci := 0) 0 rfl rfl rfl rfl (Nat.le_of_ble_eq_true rfl) ⟨Nat.le_of_ble_eq_true rfl, Nat.le_of_ble_eq_true rfl⟩ [0, 1] rfl [16, 17, 18, 19, 20, 21, 22, 23, 24, 25, 26, 27, 28, 29, 30, 1, 2, 3, 4, 5, 6, 7, 8, 9, 10, 11, 12, 13, 14, 15] rfl (by decide) (fun v hv => ?_)
    subst hv
    refine zv_go rfl rfl (st' := [.int (nI (cne u9_31 f9 n))]) rfl (kc' := 0) rfl (ns' := 0) rfl ?_
    exact zv_iret C hr hlk hQ dX1_renamedByRule_44 ⟨n, 1, (fam14 u0_29 u1_29 u2_29 u3_29 u4_29 u5_29 u6_29 u7_31 u8_31 u9_31 u10_31 u11_31 u12_31 u13_31), (by rw [show (1 - r : Int32) = 1 from (by rw [c1]; decide), cne_congr n (fun i hi => trial_nm (s := f1) (has := f2) (nm := f3) (wat := f4) (del := f6) hD hn hWx (fun i hi => ⟨(hu29 i hi).1, (hu29 i hi).2.1⟩) hQd hu31 i hi) (fun i hi => MA.nm hD hn (hS.MA hD hn hW) i hi)]), rfl⟩
abbrev rmX1_weightiestSpring : Room := { frames := 4, cells := 0, slots := 0, locals := 91 }
set_option maxHeartbeats 4000000 in
set_option maxRecDepth 100000 in
theorem k_X1_weightiestSpring (l : Launch) (D : va_G) (cI cZ : ClassId) (q h k : Nat → Nat) (b : Nat) (y : Int32) (n : Nat) (r : Int32) (f0 f1 f2 f3 f4 f5 f6 f7 f8 f9 f10 f11 f12 f13 : Nat → Int32) (n1 : Nat) (r1 : Int32) (g0 g1 g2 g3 g4 g5 g6 g7 g8 g9 g10 g11 g12 g13 : Nat → Int32) (bp bn : Nat → Int32) (d : Nat → Nat) (hn : n ≤ 16) (hD : Dep n f0 f1 d) (hW : Wat n f2 f4) (hS : Stl n f0 f3 f4 f6 r f7 f8 f9 f10 f11 f12 f13) (hz2 : ∀ i, zo (f2 i)) (hz6 : ∀ i, zo (f6 i)) : zv_M l yX1_weightiestSpring wsX1_weightiestSpring rmX1_weightiestSpring D vwCl (tyL cI cZ) [.ref (q 0)] (cR cI cZ q h k (nI b) y (nI n) r f0 f1 f2 f3 f4 f5 f6 f7 f8 f9 f10 f11 f12 f13 (nI n1) r1 g0 g1 g2 g3 g4 g5 g6 g7 g8 g9 g10 g11 g12 g13 bp bn) (fun v w => ∃ (tn : Nat) (tr : Int32) (tg_ : Nat → Nat → Int32), v = some (.int ((wst (sprg f2 f4) (dry n f0 f2 f3 f4 f6 r) n).1)) ∧ w = (cR cI cZ q h k (nI b) y (nI n) r f0 f1 f2 f3 f4 f5 f6 f7 f8 f9 f10 f11 f12 f13 (nI tn) tr (tg_ 0) (tg_ 1) (tg_ 2) (tg_ 3) (tg_ 4) (tg_ 5) (tg_ 6) (tg_ 7) (tg_ 8) (tg_ 9) (tg_ 10) (tg_ 11) (tg_ 12) (tg_ 13) bp bn)) := by
  refine zv_M.of cX1_weightiestSpring 5 (some .int) (by decide) rfl (Nat.le_of_ble_eq_true rfl) ?_
  intro pP eE sS mM aA bB mT cD A C hr hlk hnm Q hQ
  have inX1 : ∀ w ∈ u_ws RX1 TX1 6, w ∈ wsX1_weightiestSpring := by decide +kernel
  have lk10 : Cond.fieldLink RX1 10 "RiverNames" "land" "LRiverNames$Land;" ∈ wsX1_weightiestSpring := by decide +kernel
  have lk16 : Cond.fieldLink RX1 16 "RiverNames" "trial" "LRiverNames$Land;" ∈ wsX1_weightiestSpring := by decide +kernel
  have L6 : ∀ (mu_L6 : Nat), ∀ (j : Nat) (bs : Int32) (ms : Nat) (mq : Int32) (m1 : Nat) (s1 : Int32) (t0 t1 t2 t3 t4 t5 t6 t7 t8 t9 t10 t11 t12 t13 : Nat → Int32), (j ≤ n) → (ms ≤ 16) → (wst (sprg f2 f4) (dry n f0 f2 f3 f4 f6 r) j = (bs, ms)) → (mq = if bs = -1 then -1 else nI ms) → n - j < mu_L6 → zv_V pP l eE rmX1_weightiestSpring sS mM aA bB mT cD Q 5 D vwCl A A (tyL cI cZ) (cR cI cZ q h k (nI b) y (nI n) r f0 f1 f2 f3 f4 f5 f6 f7 f8 f9 f10 f11 f12 f13 (nI m1) s1 t0 t1 t2 t3 t4 t5 t6 t7 t8 t9 t10 t11 t12 t13 bp bn) 0 0 6 [(0, .ref (q 0)), (1, .int bs), (2, .int mq), (3, .int (nI j))] [] := by
    intro mu_L6
    induction mu_L6 with
    | zero => intro j bs ms mq m1 s1 t0 t1 t2 t3 t4 t5 t6 t7 t8 t9 t10 t11 t12 t13 hj hms hb hq hmu_L6; exact absurd hmu_L6 (Nat.not_lt_zero _)
    | succ mu_L6 ih_L6 =>
      intro j bs ms mq m1 s1 t0 t1 t2 t3 t4 t5 t6 t7 t8 t9 t10 t11 t12 t13 hj hms hb hq hmu_L6
      refine zv_iload_n C dX1_weightiestSpring_6 7 rfl 3 rfl ?_
      refine zv_aload_n C dX1_weightiestSpring_7 8 rfl 0 rfl ?_
      refine zv_get (ci := 1) C inX1 rfl dX1_weightiestSpring_8 11 rfl 0 0 rfl (by decide) lk10 rfl ?_
      refine zv_callVR (rest := [.int (nI j)]) C (k_X0_size l D cI cZ h n r f0 f1 f2 f3 f4 f5 f6 f7 f8 f9 f10 f11 f12 f13) (cwV 0 C.1.2.2.2.2 gX1_weightiestSpring_X0_size rfl rfl rfl (by decide +kernel) ⟨Nat.le_of_ble_eq_true rfl, Nat.le_of_ble_eq_true rfl⟩) dX1_weightiestSpring_11 14 rfl (ci := 0) 0 rfl rfl rfl rfl (Nat.le_of_ble_eq_true rfl) ⟨Nat.le_of_ble_eq_true rfl, Nat.le_of_ble_eq_true rfl⟩ [0, 1] rfl [1, 2, 3, 4, 5, 6, 7, 8, 9, 10, 11, 12, 13, 14, 15] rfl (by decide) (fun v hv => ?_)
      subst hv
      refine zv_go rfl rfl (st' := [.int (nI n), .int (nI j)]) rfl (kc' := 0) rfl (ns' := 0) rfl ?_
      refine zv_icmp_ge C dX1_weightiestSpring_14 17 80 rfl (by decide) (fun c1 => ?_) (fun c1 => ?_)
      · replace c1 := zn_le (a := n) (b := j) (by omega) (by omega) c1
        refine zv_iload_n C dX1_weightiestSpring_80 81 rfl 1 rfl ?_
        exact zv_iret C hr hlk hQ dX1_weightiestSpring_81 ⟨m1, s1, (fam14 t0 t1 t2 t3 t4 t5 t6 t7 t8 t9 t10 t11 t12 t13), (by have hjn : j = n := (by omega); have hb2 := hb; rw [hjn] at hb2; rw [hb2]), rfl⟩
      · replace c1 := zn_le' (a := n) (b := j) (by omega) (by omega) c1
        refine zv_aload_n C dX1_weightiestSpring_17 18 rfl 0 rfl ?_
        refine zv_get (ci := 1) C inX1 rfl dX1_weightiestSpring_18 21 rfl 0 0 rfl (by decide) lk10 rfl ?_
        refine zv_iload_n C dX1_weightiestSpring_21 22 rfl 3 rfl ?_
        refine zv_callVR (rest := []) C (k_X0_springWaterOf l D cI cZ h n r f0 f1 f2 f3 f4 f5 f6 f7 f8 f9 f10 f11 f12 f13 j (by omega)) (cwV 1 C.1.2.2.2.2 gX1_weightiestSpring_X0_springWaterOf rfl rfl rfl (by decide +kernel) ⟨Nat.le_of_ble_eq_true rfl, Nat.le_of_ble_eq_true rfl⟩) dX1_weightiestSpring_22 25 rfl (ci := 0) 0 rfl rfl rfl rfl (Nat.le_of_ble_eq_true rfl) ⟨Nat.le_of_ble_eq_true rfl, Nat.le_of_ble_eq_true rfl⟩ [0, 1] rfl [1, 2, 3, 4, 5, 6, 7, 8, 9, 10, 11, 12, 13, 14, 15] rfl (by decide) (fun v hv => ?_)
        subst hv
        refine zv_go rfl rfl (st' := [.int (f4 j)]) rfl (kc' := 0) rfl (ns' := 0) rfl ?_
        refine zv_if_ne C dX1_weightiestSpring_25 28 31 rfl (by decide) (fun c2 => ?_) (fun c2 => ?_)
        · have hsp : sprg f2 f4 j = true := (spg_wet hW (by omega)).mpr (fun z => c2 (by
                obtain ⟨_, a, ha, e⟩ := hW j (by omega)
                rw [e] at z ⊢; rw [(nI_le0 (by omega)).mp z]; rfl))
          refine zv_aload_n C dX1_weightiestSpring_31 32 rfl 0 rfl ?_
          refine zv_get (ci := 1) C inX1 rfl dX1_weightiestSpring_32 35 rfl 0 1 rfl (by decide) lk16 rfl ?_
          refine zv_aload_n C dX1_weightiestSpring_35 36 rfl 0 rfl ?_
          refine zv_get (ci := 1) C inX1 rfl dX1_weightiestSpring_36 39 rfl 0 0 rfl (by decide) lk10 rfl ?_
          refine zv_callV (rest := []) (wr := [(q 0, .inr (1, [.ref (h 0), .ref (k 0), .ref (q 1), .ref (q 2), .int (nI b), .int y])), (q 1, .inl (cI, 16, .inl bp)), (q 2, .inl (cI, 16, .inl bn))]) C (k_X0_takeOver l D cI cZ k h m1 s1 t0 t1 t2 t3 t4 t5 t6 t7 t8 t9 t10 t11 t12 t13 n r f0 f1 f2 f3 f4 f5 f6 f7 f8 f9 f10 f11 f12 f13 (by omega) (by assumption) (by assumption)) (cwV 1 C.1.2.2.2.2 gX1_weightiestSpring_X0_takeOver rfl rfl rfl (by decide +kernel) ⟨Nat.le_of_ble_eq_true rfl, Nat.le_of_ble_eq_true rfl⟩) dX1_weightiestSpring_39 42 rfl (ci := 0) 0 rfl rfl rfl rfl (Nat.le_of_ble_eq_true rfl) ⟨Nat.le_of_ble_eq_true rfl, Nat.le_of_ble_eq_true rfl⟩ [0, 1] rfl [16, 17, 18, 19, 20, 21, 22, 23, 24, 25, 26, 27, 28, 29, 30, 1, 2, 3, 4, 5, 6, 7, 8, 9, 10, 11, 12, 13, 14, 15] rfl (by decide) [0, 31, 32] rfl (by decide) (by decide +kernel) (fun v w hv => ?_)
          obtain ⟨rfl, u0_32, u1_32, u2_32, u3_32, u4_32, u5_32, u6_32, rfl, hu32⟩ := hv
          refine zv_go rfl rfl (st' := []) rfl (kc' := 0) rfl (ns' := 0) rfl ?_
          refine zv_perm [0, 18, 19, 20, 21, 22, 23, 24, 25, 26, 27, 28, 29, 30, 31, 32, 3, 4, 5, 6, 7, 8, 9, 10, 11, 12, 13, 14, 15, 16, 17, 1, 2] (ws' := (cR cI cZ q h k (nI b) y (nI n) r f0 f1 f2 f3 f4 f5 f6 f7 f8 f9 f10 f11 f12 f13 (nI n) r u0_32 u1_32 u2_32 u3_32 u4_32 u5_32 u6_32 t7 t8 t9 t10 t11 t12 t13 bp bn)) (by decide) rfl ?_
          have hDt : Dep n u0_32 u1_32 d := hD.congr (fun i hi => ⟨(hu32 i hi).1, (hu32 i hi).2.1⟩)
          have hWt : Wat n u2_32 u4_32 := hW.congr (fun i hi => ⟨(hu32 i hi).2.2.1, (hu32 i hi).2.2.2.2.1⟩)
          refine zv_aload_n C dX1_weightiestSpring_42 43 rfl 0 rfl ?_
          refine zv_get (ci := 1) C inX1 rfl dX1_weightiestSpring_43 46 rfl 0 1 rfl (by decide) lk16 rfl ?_
          refine zv_iload_n C dX1_weightiestSpring_46 47 rfl 3 rfl ?_
          refine zv_callV (rest := []) (wr := [(q 0, .inr (1, [.ref (h 0), .ref (k 0), .ref (q 1), .ref (q 2), .int (nI b), .int y])), (h 0, .inr (0, [.int (nI n), .int r, .ref (h 1), .ref (h 2), .ref (h 3), .ref (h 4), .ref (h 5), .ref (h 6), .ref (h 7), .ref (h 8), .ref (h 9), .ref (h 10), .ref (h 11), .ref (h 12), .ref (h 13), .ref (h 14)])), (h 1, .inl (cI, 16, .inl f0)), (h 2, .inl (cI, 16, .inl f1)), (h 3, .inl (cZ, 16, .inl f2)), (h 4, .inl (cI, 16, .inl f3)), (h 5, .inl (cI, 16, .inl f4)), (h 6, .inl (cI, 16, .inl f5)), (h 7, .inl (cZ, 16, .inl f6)), (h 8, .inl (cI, 16, .inl f7)), (h 9, .inl (cI, 16, .inl f8)), (h 10, .inl (cI, 16, .inl f9)), (h 11, .inl (cI, 16, .inl f10)), (h 12, .inl (cZ, 16, .inl f11)), (h 13, .inl (cI, 16, .inl f12)), (h 14, .inl (cI, 16, .inl f13)), (q 1, .inl (cI, 16, .inl bp)), (q 2, .inl (cI, 16, .inl bn))]) C (k_X0_dryUp l D cI cZ k n r u0_32 u1_32 u2_32 u3_32 u4_32 u5_32 u6_32 t7 t8 t9 t10 t11 t12 t13 j (by omega) d (by omega) (by assumption)) (cwV 1 C.1.2.2.2.2 gX1_weightiestSpring_X0_dryUp rfl rfl rfl (by decide +kernel) ⟨Nat.le_of_ble_eq_true rfl, Nat.le_of_ble_eq_true rfl⟩) dX1_weightiestSpring_47 50 rfl (ci := 0) 0 rfl rfl rfl rfl (Nat.le_of_ble_eq_true rfl) ⟨Nat.le_of_ble_eq_true rfl, Nat.le_of_ble_eq_true rfl⟩ [0, 1] rfl [16, 17, 18, 19, 20, 21, 22, 23, 24, 25, 26, 27, 28, 29, 30] rfl (by decide) [0, 1, 2, 3, 4, 5, 6, 7, 8, 9, 10, 11, 12, 13, 14, 15, 31, 32] rfl (by decide) (by decide +kernel) (fun v w hv => ?_)
          obtain ⟨rfl, u7_33, u8_33, u9_33, u10_33, u11_33, u12_33, u13_33, rfl, hu33⟩ := hv
          refine zv_go rfl rfl (st' := []) rfl (kc' := 0) rfl (ns' := 0) rfl ?_
          refine zv_perm [0, 1, 2, 3, 4, 5, 6, 7, 8, 9, 10, 11, 12, 13, 14, 15, 18, 19, 20, 21, 22, 23, 24, 25, 26, 27, 28, 29, 30, 31, 32, 16, 17] (ws' := (cR cI cZ q h k (nI b) y (nI n) r f0 f1 f2 f3 f4 f5 f6 f7 f8 f9 f10 f11 f12 f13 (nI n) r u0_32 u1_32 u2_32 u3_32 (upd u4_32 j 0) u5_32 u6_32 u7_33 u8_33 u9_33 u10_33 u11_33 u12_33 u13_33 bp bn)) (by decide) rfl ?_
          have hWx := hWt.dry j
          have hQd : ∀ i, i < n → u2_32 i = f2 i ∧ u3_32 i = f3 i ∧ (upd u4_32 j 0) i = (upd f4 j 0) i ∧ u6_32 i = f6 i := fun i hi => ⟨(hu32 i hi).2.2.1, (hu32 i hi).2.2.2.1, by
                have h6 := fun i hi => (hu32 i hi).2.2.2.2.1
                by_cases e : i = j
                · subst e; rw [upd_at, upd_at]
                · rw [upd_ne _ _ _ e, upd_ne _ _ _ e, h6 i hi], (hu32 i hi).2.2.2.2.2.2⟩
          have hdr : cne u9_33 f9 n = dry n f0 f2 f3 f4 f6 r j := cne_congr n (fun i hi => trial_nm (s := f1) (has := f2) (nm := f3) (wat := upd f4 j 0) (del := f6) hD hn hWx (fun i hi => ⟨(hu32 i hi).1, (hu32 i hi).2.1⟩) hQd hu33 i hi) (fun i hi => MA.nm hD hn (hS.MA hD hn hW) i hi)
          have hcl := cne_le u9_33 f9 n
          refine zv_aload_n C dX1_weightiestSpring_50 51 rfl 0 rfl ?_
          refine zv_get (ci := 1) C inX1 rfl dX1_weightiestSpring_51 54 rfl 0 1 rfl (by decide) lk16 rfl ?_
          refine zv_aload_n C dX1_weightiestSpring_54 55 rfl 0 rfl ?_
          refine zv_get (ci := 1) C inX1 rfl dX1_weightiestSpring_55 58 rfl 0 0 rfl (by decide) lk10 rfl ?_
          refine zv_callVR (rest := []) C (k_X0_countNamedOtherThan l D cI cZ k h n r u0_32 u1_32 u2_32 u3_32 (upd u4_32 j 0) u5_32 u6_32 u7_33 u8_33 u9_33 u10_33 u11_33 u12_33 u13_33 n r f0 f1 f2 f3 f4 f5 f6 f7 f8 f9 f10 f11 f12 f13 (by omega)) (cwV 1 C.1.2.2.2.2 gX1_weightiestSpring_X0_countNamedOtherThan rfl rfl rfl (by decide +kernel) ⟨Nat.le_of_ble_eq_true rfl, Nat.le_of_ble_eq_true rfl⟩) dX1_weightiestSpring_58 61 rfl (ci := 0) 0 rfl rfl rfl rfl (Nat.le_of_ble_eq_true rfl) ⟨Nat.le_of_ble_eq_true rfl, Nat.le_of_ble_eq_true rfl⟩ [0, 1] rfl [16, 17, 18, 19, 20, 21, 22, 23, 24, 25, 26, 27, 28, 29, 30, 1, 2, 3, 4, 5, 6, 7, 8, 9, 10, 11, 12, 13, 14, 15] rfl (by decide) (fun v hv => ?_)
          subst hv
          refine zv_go rfl rfl (st' := [.int (nI (cne u9_33 f9 n))]) rfl (kc' := 0) rfl (ns' := 0) rfl ?_
          refine zv_istore C dX1_weightiestSpring_61 63 rfl [(4, .int (nI (cne u9_33 f9 n))), (0, .ref (q 0)), (1, .int bs), (2, .int mq), (3, .int (nI j))] (by decide) rfl ?_
          refine zv_iload C dX1_weightiestSpring_63 65 rfl 0 rfl ?_
          refine zv_iload_n C dX1_weightiestSpring_65 66 rfl 3 rfl ?_
          refine zv_icmp_le C dX1_weightiestSpring_66 69 74 rfl (by decide) (fun c3 => ?_) (fun c3 => ?_)
          · refine zv_iinc (v := (nI (j + 1))) C dX1_weightiestSpring_74 77 rfl [(3, .int (nI (j + 1))), (4, .int (nI (cne u9_33 f9 n))), (0, .ref (q 0)), (1, .int bs), (2, .int mq)] 4 rfl (nI_1 j) (by decide) rfl ?_
            refine zv_goto C dX1_weightiestSpring_77 6 (by decide) ?_
            refine zv_sub [2, 3, 4, 0] (lv' := [(0, .ref (q 0)), (1, .int bs), (2, .int mq), (3, .int (nI (j + 1)))]) rfl ?_
            exact ih_L6 (j + 1) bs ms mq n r u0_32 u1_32 u2_32 u3_32 (upd u4_32 j 0) u5_32 u6_32 u7_33 u8_33 u9_33 u10_33 u11_33 u12_33 u13_33 (by omega) hms (by
                  have h1 := wq_no hq (by omega) (by omega) c3
                  rw [wst_n _ _ (by rw [hb]; exact h1.1) (by rw [hb, ← hdr]; exact Nat.not_lt.mpr h1.2), hb]) hq (by omega)
          · refine zv_iload C dX1_weightiestSpring_69 71 rfl 0 rfl ?_
            refine zv_istore_n C dX1_weightiestSpring_71 72 rfl [(2, .int (nI (cne u9_33 f9 n))), (4, .int (nI (cne u9_33 f9 n))), (0, .ref (q 0)), (1, .int bs), (3, .int (nI j))] (by decide) rfl ?_
            refine zv_iload_n C dX1_weightiestSpring_72 73 rfl 4 rfl ?_
            refine zv_istore_n C dX1_weightiestSpring_73 74 rfl [(1, .int (nI j)), (2, .int (nI (cne u9_33 f9 n))), (4, .int (nI (cne u9_33 f9 n))), (0, .ref (q 0)), (3, .int (nI j))] (by decide) rfl ?_
            refine zv_iinc (v := (nI (j + 1))) C dX1_weightiestSpring_74 77 rfl [(3, .int (nI (j + 1))), (1, .int (nI j)), (2, .int (nI (cne u9_33 f9 n))), (4, .int (nI (cne u9_33 f9 n))), (0, .ref (q 0))] 4 rfl (nI_1 j) (by decide) rfl ?_
            refine zv_goto C dX1_weightiestSpring_77 6 (by decide) ?_
            refine zv_sub [4, 1, 2, 0] (lv' := [(0, .ref (q 0)), (1, .int (nI j)), (2, .int (nI (cne u9_33 f9 n))), (3, .int (nI (j + 1)))]) rfl ?_
            exact ih_L6 (j + 1) (nI j) (cne u9_33 f9 n) (nI (cne u9_33 f9 n)) n r u0_32 u1_32 u2_32 u3_32 (upd u4_32 j 0) u5_32 u6_32 u7_33 u8_33 u9_33 u10_33 u11_33 u12_33 u13_33 (by omega) (by omega) (by
                  have h1 := wq_yes hq (by omega) (by omega) c3
                  rw [wst_y _ _ hsp (by rw [hb, ← hdr]; exact h1), ← hdr]) (by rw [if_neg (ne_m1 (by omega))]) (by omega)
        · have hsp : sprg f2 f4 j = false := (by rw [hW.spg (by omega), c2]; rfl)
          refine zv_goto C dX1_weightiestSpring_28 74 (by decide) ?_
          refine zv_iinc (v := (nI (j + 1))) C dX1_weightiestSpring_74 77 rfl [(3, .int (nI (j + 1))), (0, .ref (q 0)), (1, .int bs), (2, .int mq)] 3 rfl (nI_1 j) (by decide) rfl ?_
          refine zv_goto C dX1_weightiestSpring_77 6 (by decide) ?_
          refine zv_sub [1, 2, 3, 0] (lv' := [(0, .ref (q 0)), (1, .int bs), (2, .int mq), (3, .int (nI (j + 1)))]) rfl ?_
          exact ih_L6 (j + 1) bs ms mq m1 s1 t0 t1 t2 t3 t4 t5 t6 t7 t8 t9 t10 t11 t12 t13 (by omega) hms (by rw [wst_dry _ _ hsp, hb]) hq (by omega)
  refine zv_go (pc' := 0) rfl (lv' := [(0, .ref (q 0))]) rfl rfl rfl rfl ?_
  refine zv_iconst (v := (-1 : Int32)) C dX1_weightiestSpring_0 1 rfl (by decide) ?_
  refine zv_istore_n C dX1_weightiestSpring_1 2 rfl [(1, .int (-1 : Int32)), (0, .ref (q 0))] (by decide) rfl ?_
  refine zv_iconst (v := (-1 : Int32)) C dX1_weightiestSpring_2 3 rfl (by decide) ?_
  refine zv_istore_n C dX1_weightiestSpring_3 4 rfl [(2, .int (-1 : Int32)), (1, .int (-1 : Int32)), (0, .ref (q 0))] (by decide) rfl ?_
  refine zv_iconst (v := 0) C dX1_weightiestSpring_4 5 rfl (by decide) ?_
  refine zv_istore_n C dX1_weightiestSpring_5 6 rfl [(3, .int 0), (2, .int (-1 : Int32)), (1, .int (-1 : Int32)), (0, .ref (q 0))] (by decide) rfl ?_
  refine zv_sub [3, 2, 1, 0] (lv' := [(0, .ref (q 0)), (1, .int (-1 : Int32)), (2, .int (-1 : Int32)), (3, .int 0)]) rfl ?_
  exact L6 _ 0 (-1) 0 (-1) n1 r1 g0 g1 g2 g3 g4 g5 g6 g7 g8 g9 g10 g11 g12 g13 (Nat.zero_le n) (by omega) rfl rfl (Nat.lt_succ_self _)
