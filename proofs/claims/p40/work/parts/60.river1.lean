def fam14 (a0 a1 a2 a3 a4 a5 a6 a7 a8 a9 a10 a11 a12 a13 : Nat → Int32) : Nat → Nat → Int32 := fun i => match i with
  | 0 => a0
  | 1 => a1
  | 2 => a2
  | 3 => a3
  | 4 => a4
  | 5 => a5
  | 6 => a6
  | 7 => a7
  | 8 => a8
  | 9 => a9
  | 10 => a10
  | 11 => a11
  | 12 => a12
  | _ => a13
abbrev rmX1_isWithin : Room := { frames := 0, cells := 0, slots := 0, locals := 0 }
set_option maxHeartbeats 4000000 in
set_option maxRecDepth 100000 in
theorem k_X1_isWithin (l : Launch) (D : va_G) (cI cZ : ClassId) (v lo hi : Int32) : zv_R l yX1_isWithin wsX1_isWithin rmX1_isWithin D vwCl (tyL cI cZ) [.int v, .int lo, .int hi] [] (fun x => x = some (.int (zb (isI v lo hi)))) := by
  refine zv_R.of cX1_isWithin 3 (some .boolean) (by decide) rfl (Nat.le_of_ble_eq_true rfl) ?_
  intro pP eE sS mM aA bB mT cD A C hr hlk hA Q hQ
  refine zv_go (pc' := 0) rfl (lv' := [(0, .int v), (1, .int lo), (2, .int hi)]) rfl rfl rfl rfl ?_
  refine zv_iload_n C dX1_isWithin_0 1 rfl 0 rfl ?_
  refine zv_iload_n C dX1_isWithin_1 2 rfl 1 rfl ?_
  refine zv_icmp_lt C dX1_isWithin_2 5 14 rfl (by decide) (fun c1 => ?_) (fun c1 => ?_)
  · refine zv_iconst (v := 0) C dX1_isWithin_14 15 rfl (by decide) ?_
    exact zv_zretR C (by decide) hr hlk hA hQ dX1_isWithin_15 (by simp [isI, zb, c1])
  · refine zv_iload_n C dX1_isWithin_5 6 rfl 0 rfl ?_
    refine zv_iload_n C dX1_isWithin_6 7 rfl 2 rfl ?_
    refine zv_icmp_gt C dX1_isWithin_7 10 14 rfl (by decide) (fun c2 => ?_) (fun c2 => ?_)
    · refine zv_iconst (v := 0) C dX1_isWithin_14 15 rfl (by decide) ?_
      exact zv_zretR C (by decide) hr hlk hA hQ dX1_isWithin_15 (by simp [isI, zb, c1, c2])
    · refine zv_iconst (v := 1) C dX1_isWithin_10 11 rfl (by decide) ?_
      refine zv_goto C dX1_isWithin_11 15 (by decide) ?_
      exact zv_zretR C (by decide) hr hlk hA hQ dX1_isWithin_15 (by simp [isI, zb, c1, c2])
abbrev rmX1_requirePlace : Room := { frames := 1, cells := 0, slots := 0, locals := 21 }
set_option maxHeartbeats 4000000 in
set_option maxRecDepth 100000 in
theorem k_X1_requirePlace (l : Launch) (D : va_G) (cI cZ : ClassId) (q h k : Nat → Nat) (b : Nat) (y : Int32) (n : Nat) (r : Int32) (f0 f1 f2 f3 f4 f5 f6 f7 f8 f9 f10 f11 f12 f13 : Nat → Int32) (n1 : Nat) (r1 : Int32) (g0 g1 g2 g3 g4 g5 g6 g7 g8 g9 g10 g11 g12 g13 : Nat → Int32) (bp bn : Nat → Int32) (p : Nat) (hn : n ≤ 16) (hp : p < n) : zv_R l yX1_requirePlace wsX1_requirePlace rmX1_requirePlace D vwCl (tyL cI cZ) [.ref (q 0), .int (nI p)] (cR cI cZ q h k (nI b) y (nI n) r f0 f1 f2 f3 f4 f5 f6 f7 f8 f9 f10 f11 f12 f13 (nI n1) r1 g0 g1 g2 g3 g4 g5 g6 g7 g8 g9 g10 g11 g12 g13 bp bn) (fun v => v = none) := by
  refine zv_R.of cX1_requirePlace 2 none (by decide) rfl (Nat.le_of_ble_eq_true rfl) ?_
  intro pP eE sS mM aA bB mT cD A C hr hlk hA Q hQ
  have inX1 : ∀ w ∈ u_ws RX1 TX1 6, w ∈ wsX1_requirePlace := by decide +kernel
  have lk10 : Cond.fieldLink RX1 10 "RiverNames" "land" "LRiverNames$Land;" ∈ wsX1_requirePlace := by decide +kernel
  refine zv_go (pc' := 0) rfl (lv' := [(0, .ref (q 0)), (1, .int (nI p))]) rfl rfl rfl rfl ?_
  refine zv_aload_n C dX1_requirePlace_0 1 rfl 0 rfl ?_
  refine zv_get (ci := 1) C inX1 rfl dX1_requirePlace_1 4 rfl 0 0 rfl (by decide) lk10 rfl ?_
  refine zv_iload_n C dX1_requirePlace_4 5 rfl 1 rfl ?_
  refine zv_callVR (rest := []) C (k_X0_isPlace l D cI cZ h n r f0 f1 f2 f3 f4 f5 f6 f7 f8 f9 f10 f11 f12 f13 (nI p)) (cwV 1 C.1.2.2.2.2 gX1_requirePlace_X0_isPlace rfl rfl rfl (by decide +kernel) ⟨Nat.le_of_ble_eq_true rfl, Nat.le_of_ble_eq_true rfl⟩) dX1_requirePlace_5 8 rfl (ci := 0) 0 rfl rfl rfl rfl (Nat.le_of_ble_eq_true rfl) ⟨Nat.le_of_ble_eq_true rfl, Nat.le_of_ble_eq_true rfl⟩ [0, 1] rfl [1, 2, 3, 4, 5, 6, 7, 8, 9, 10, 11, 12, 13, 14, 15] rfl (by decide) (fun v hv => ?_)
  subst hv
  refine zv_go rfl rfl (st' := [.int (zb (isP n (nI p)))]) rfl (kc' := 0) rfl (ns' := 0) rfl ?_
  refine zv_if_ne C dX1_requirePlace_8 11 21 rfl (by decide) (fun c1 => ?_) (fun c1 => ?_)
  · exact zv_vretR C hr hlk hA hQ dX1_requirePlace_21 rfl
  · exact absurd (isP_nI (by omega) hp) (by rw [zb_eq0.mp c1]; decide)
abbrev rmX1_requireBridge : Room := { frames := 0, cells := 0, slots := 0, locals := 0 }
set_option maxHeartbeats 4000000 in
set_option maxRecDepth 100000 in
theorem k_X1_requireBridge (l : Launch) (D : va_G) (cI cZ : ClassId) (q h k : Nat → Nat) (b : Nat) (y : Int32) (n : Nat) (r : Int32) (f0 f1 f2 f3 f4 f5 f6 f7 f8 f9 f10 f11 f12 f13 : Nat → Int32) (n1 : Nat) (r1 : Int32) (g0 g1 g2 g3 g4 g5 g6 g7 g8 g9 g10 g11 g12 g13 : Nat → Int32) (bp bn : Nat → Int32) (p : Nat) (hb : b ≤ 16) (hp : p < b) : zv_R l yX1_requireBridge wsX1_requireBridge rmX1_requireBridge D vwCl (tyL cI cZ) [.ref (q 0), .int (nI p)] (cR cI cZ q h k (nI b) y (nI n) r f0 f1 f2 f3 f4 f5 f6 f7 f8 f9 f10 f11 f12 f13 (nI n1) r1 g0 g1 g2 g3 g4 g5 g6 g7 g8 g9 g10 g11 g12 g13 bp bn) (fun v => v = none) := by
  refine zv_R.of cX1_requireBridge 2 none (by decide) rfl (Nat.le_of_ble_eq_true rfl) ?_
  intro pP eE sS mM aA bB mT cD A C hr hlk hA Q hQ
  have inX1 : ∀ w ∈ u_ws RX1 TX1 6, w ∈ wsX1_requireBridge := by decide +kernel
  have lk26 : Cond.fieldLink RX1 26 "RiverNames" "bridgeCount" "I" ∈ wsX1_requireBridge := by decide +kernel
  refine zv_go (pc' := 0) rfl (lv' := [(0, .ref (q 0)), (1, .int (nI p))]) rfl rfl rfl rfl ?_
  refine zv_iload_n C dX1_requireBridge_0 1 rfl 1 rfl ?_
  refine zv_if_lt C dX1_requireBridge_1 4 12 rfl (by decide) (fun c1 => ?_) (fun c1 => ?_)
  · exact absurd c1 (nI_nneg (by omega))
  · refine zv_iload_n C dX1_requireBridge_4 5 rfl 1 rfl ?_
    refine zv_aload_n C dX1_requireBridge_5 6 rfl 0 rfl ?_
    refine zv_get (ci := 1) C inX1 rfl dX1_requireBridge_6 9 rfl 0 4 rfl (by decide) lk26 rfl ?_
    refine zv_icmp_lt C dX1_requireBridge_9 12 22 rfl (by decide) (fun c2 => ?_) (fun c2 => ?_)
    · exact zv_vretR C hr hlk hA hQ dX1_requireBridge_22 rfl
    · exact absurd (nI_lt hp (by omega)) c2
abbrev rmX1_requireRoomForPlace : Room := { frames := 1, cells := 0, slots := 0, locals := 20 }
set_option maxHeartbeats 4000000 in
set_option maxRecDepth 100000 in
theorem k_X1_requireRoomForPlace (l : Launch) (D : va_G) (cI cZ : ClassId) (q h k : Nat → Nat) (b : Nat) (y : Int32) (n : Nat) (r : Int32) (f0 f1 f2 f3 f4 f5 f6 f7 f8 f9 f10 f11 f12 f13 : Nat → Int32) (n1 : Nat) (r1 : Int32) (g0 g1 g2 g3 g4 g5 g6 g7 g8 g9 g10 g11 g12 g13 : Nat → Int32) (bp bn : Nat → Int32) (hn : n < 16) : zv_R l yX1_requireRoomForPlace wsX1_requireRoomForPlace rmX1_requireRoomForPlace D vwCl (tyL cI cZ) [.ref (q 0)] (cR cI cZ q h k (nI b) y (nI n) r f0 f1 f2 f3 f4 f5 f6 f7 f8 f9 f10 f11 f12 f13 (nI n1) r1 g0 g1 g2 g3 g4 g5 g6 g7 g8 g9 g10 g11 g12 g13 bp bn) (fun v => v = none) := by
  refine zv_R.of cX1_requireRoomForPlace 1 none (by decide) rfl (Nat.le_of_ble_eq_true rfl) ?_
  intro pP eE sS mM aA bB mT cD A C hr hlk hA Q hQ
  have inX1 : ∀ w ∈ u_ws RX1 TX1 6, w ∈ wsX1_requireRoomForPlace := by decide +kernel
  have lk10 : Cond.fieldLink RX1 10 "RiverNames" "land" "LRiverNames$Land;" ∈ wsX1_requireRoomForPlace := by decide +kernel
  refine zv_go (pc' := 0) rfl (lv' := [(0, .ref (q 0))]) rfl rfl rfl rfl ?_
  refine zv_aload_n C dX1_requireRoomForPlace_0 1 rfl 0 rfl ?_
  refine zv_get (ci := 1) C inX1 rfl dX1_requireRoomForPlace_1 4 rfl 0 0 rfl (by decide) lk10 rfl ?_
  refine zv_callVR (rest := []) C (k_X0_size l D cI cZ h n r f0 f1 f2 f3 f4 f5 f6 f7 f8 f9 f10 f11 f12 f13) (cwV 0 C.1.2.2.2.2 gX1_requireRoomForPlace_X0_size rfl rfl rfl (by decide +kernel) ⟨Nat.le_of_ble_eq_true rfl, Nat.le_of_ble_eq_true rfl⟩) dX1_requireRoomForPlace_4 7 rfl (ci := 0) 0 rfl rfl rfl rfl (Nat.le_of_ble_eq_true rfl) ⟨Nat.le_of_ble_eq_true rfl, Nat.le_of_ble_eq_true rfl⟩ [0, 1] rfl [1, 2, 3, 4, 5, 6, 7, 8, 9, 10, 11, 12, 13, 14, 15] rfl (by decide) (fun v hv => ?_)
  subst hv
  refine zv_go rfl rfl (st' := [.int (nI n)]) rfl (kc' := 0) rfl (ns' := 0) rfl ?_
  refine zv_bipush (v := 16) C dX1_requireRoomForPlace_7 9 rfl (by decide) ?_
  refine zv_icmp_lt C dX1_requireRoomForPlace_9 12 22 rfl (by decide) (fun c1 => ?_) (fun c1 => ?_)
  · exact zv_vretR C hr hlk hA hQ dX1_requireRoomForPlace_22 rfl
  · exact absurd (nI_lt (a := n) (b := 16) hn (by omega)) c1
abbrev rmX1_requireName : Room := { frames := 1, cells := 0, slots := 0, locals := 22 }
set_option maxHeartbeats 4000000 in
set_option maxRecDepth 100000 in
theorem k_X1_requireName (l : Launch) (D : va_G) (cI cZ : ClassId) (x : Int32) (h1 : isI x 0 9 = true) : zv_R l yX1_requireName wsX1_requireName rmX1_requireName D vwCl (tyL cI cZ) [.int x] [] (fun v => v = none) := by
  refine zv_R.of cX1_requireName 1 none (by decide) rfl (Nat.le_of_ble_eq_true rfl) ?_
  intro pP eE sS mM aA bB mT cD A C hr hlk hA Q hQ
  refine zv_go (pc' := 0) rfl (lv' := [(0, .int x)]) rfl rfl rfl rfl ?_
  refine zv_iload_n C dX1_requireName_0 1 rfl 0 rfl ?_
  refine zv_iconst (v := 0) C dX1_requireName_1 2 rfl (by decide) ?_
  refine zv_bipush (v := 9) C dX1_requireName_2 4 rfl (by decide) ?_
  refine zv_callSR (rest := []) C (k_X1_isWithin l D cI cZ x 0 9) (cwS 3 C.1.2.2.2.2 gX1_requireName_X1_isWithin rfl rfl rfl (by decide +kernel) ⟨Nat.le_of_ble_eq_true rfl, Nat.le_of_ble_eq_true rfl⟩) dX1_requireName_4 7 rfl rfl rfl (Nat.le_of_ble_eq_true rfl) ⟨Nat.le_of_ble_eq_true rfl, Nat.le_of_ble_eq_true rfl⟩ [0, 1] rfl [] rfl (by decide) (fun v hv => ?_)
  subst hv
  refine zv_go rfl rfl (st' := [.int (zb (isI x 0 9))]) rfl (kc' := 0) rfl (ns' := 0) rfl ?_
  refine zv_if_ne C dX1_requireName_7 10 20 rfl (by decide) (fun c1 => ?_) (fun c1 => ?_)
  · exact zv_vretR C hr hlk hA hQ dX1_requireName_20 rfl
  · exact absurd h1 (by rw [zb_eq0.mp c1]; decide)
abbrev rmX1_requireYears : Room := { frames := 1, cells := 0, slots := 0, locals := 22 }
set_option maxHeartbeats 4000000 in
set_option maxRecDepth 100000 in
theorem k_X1_requireYears (l : Launch) (D : va_G) (cI cZ : ClassId) (x : Int32) (h1 : isI x 1 50 = true) : zv_R l yX1_requireYears wsX1_requireYears rmX1_requireYears D vwCl (tyL cI cZ) [.int x] [] (fun v => v = none) := by
  refine zv_R.of cX1_requireYears 1 none (by decide) rfl (Nat.le_of_ble_eq_true rfl) ?_
  intro pP eE sS mM aA bB mT cD A C hr hlk hA Q hQ
  refine zv_go (pc' := 0) rfl (lv' := [(0, .int x)]) rfl rfl rfl rfl ?_
  refine zv_iload_n C dX1_requireYears_0 1 rfl 0 rfl ?_
  refine zv_iconst (v := 1) C dX1_requireYears_1 2 rfl (by decide) ?_
  refine zv_bipush (v := 50) C dX1_requireYears_2 4 rfl (by decide) ?_
  refine zv_callSR (rest := []) C (k_X1_isWithin l D cI cZ x 1 50) (cwS 3 C.1.2.2.2.2 gX1_requireYears_X1_isWithin rfl rfl rfl (by decide +kernel) ⟨Nat.le_of_ble_eq_true rfl, Nat.le_of_ble_eq_true rfl⟩) dX1_requireYears_4 7 rfl rfl rfl (Nat.le_of_ble_eq_true rfl) ⟨Nat.le_of_ble_eq_true rfl, Nat.le_of_ble_eq_true rfl⟩ [0, 1] rfl [] rfl (by decide) (fun v hv => ?_)
  subst hv
  refine zv_go rfl rfl (st' := [.int (zb (isI x 1 50))]) rfl (kc' := 0) rfl (ns' := 0) rfl ?_
  refine zv_if_ne C dX1_requireYears_7 10 20 rfl (by decide) (fun c1 => ?_) (fun c1 => ?_)
  · exact zv_vretR C hr hlk hA hQ dX1_requireYears_20 rfl
  · exact absurd h1 (by rw [zb_eq0.mp c1]; decide)
abbrev rmX1_year : Room := { frames := 0, cells := 0, slots := 0, locals := 0 }
set_option maxHeartbeats 4000000 in
set_option maxRecDepth 100000 in
theorem k_X1_year (l : Launch) (D : va_G) (cI cZ : ClassId) (q h k : Nat → Nat) (b : Nat) (y : Int32) (n : Nat) (r : Int32) (f0 f1 f2 f3 f4 f5 f6 f7 f8 f9 f10 f11 f12 f13 : Nat → Int32) (n1 : Nat) (r1 : Int32) (g0 g1 g2 g3 g4 g5 g6 g7 g8 g9 g10 g11 g12 g13 : Nat → Int32) (bp bn : Nat → Int32) : zv_R l yX1_year wsX1_year rmX1_year D vwCl (tyL cI cZ) [.ref (q 0)] (cR cI cZ q h k (nI b) y (nI n) r f0 f1 f2 f3 f4 f5 f6 f7 f8 f9 f10 f11 f12 f13 (nI n1) r1 g0 g1 g2 g3 g4 g5 g6 g7 g8 g9 g10 g11 g12 g13 bp bn) (fun v => v = some (.int y)) := by
  refine zv_R.of cX1_year 1 (some .int) (by decide) rfl (Nat.le_of_ble_eq_true rfl) ?_
  intro pP eE sS mM aA bB mT cD A C hr hlk hA Q hQ
  have inX1 : ∀ w ∈ u_ws RX1 TX1 6, w ∈ wsX1_year := by decide +kernel
  have lk30 : Cond.fieldLink RX1 30 "RiverNames" "yearNow" "I" ∈ wsX1_year := by decide +kernel
  refine zv_go (pc' := 0) rfl (lv' := [(0, .ref (q 0))]) rfl rfl rfl rfl ?_
  refine zv_aload_n C dX1_year_0 1 rfl 0 rfl ?_
  refine zv_get (ci := 1) C inX1 rfl dX1_year_1 4 rfl 0 5 rfl (by decide) lk30 rfl ?_
  exact zv_iretR C hr hlk hA hQ dX1_year_4 rfl
abbrev rmX1_places : Room := { frames := 1, cells := 0, slots := 0, locals := 20 }
set_option maxHeartbeats 4000000 in
set_option maxRecDepth 100000 in
theorem k_X1_places (l : Launch) (D : va_G) (cI cZ : ClassId) (q h k : Nat → Nat) (b : Nat) (y : Int32) (n : Nat) (r : Int32) (f0 f1 f2 f3 f4 f5 f6 f7 f8 f9 f10 f11 f12 f13 : Nat → Int32) (n1 : Nat) (r1 : Int32) (g0 g1 g2 g3 g4 g5 g6 g7 g8 g9 g10 g11 g12 g13 : Nat → Int32) (bp bn : Nat → Int32) : zv_R l yX1_places wsX1_places rmX1_places D vwCl (tyL cI cZ) [.ref (q 0)] (cR cI cZ q h k (nI b) y (nI n) r f0 f1 f2 f3 f4 f5 f6 f7 f8 f9 f10 f11 f12 f13 (nI n1) r1 g0 g1 g2 g3 g4 g5 g6 g7 g8 g9 g10 g11 g12 g13 bp bn) (fun v => v = some (.int (nI n))) := by
  refine zv_R.of cX1_places 1 (some .int) (by decide) rfl (Nat.le_of_ble_eq_true rfl) ?_
  intro pP eE sS mM aA bB mT cD A C hr hlk hA Q hQ
  have inX1 : ∀ w ∈ u_ws RX1 TX1 6, w ∈ wsX1_places := by decide +kernel
  have lk10 : Cond.fieldLink RX1 10 "RiverNames" "land" "LRiverNames$Land;" ∈ wsX1_places := by decide +kernel
  refine zv_go (pc' := 0) rfl (lv' := [(0, .ref (q 0))]) rfl rfl rfl rfl ?_
  refine zv_aload_n C dX1_places_0 1 rfl 0 rfl ?_
  refine zv_get (ci := 1) C inX1 rfl dX1_places_1 4 rfl 0 0 rfl (by decide) lk10 rfl ?_
  refine zv_callVR (rest := []) C (k_X0_size l D cI cZ h n r f0 f1 f2 f3 f4 f5 f6 f7 f8 f9 f10 f11 f12 f13) (cwV 0 C.1.2.2.2.2 gX1_places_X0_size rfl rfl rfl (by decide +kernel) ⟨Nat.le_of_ble_eq_true rfl, Nat.le_of_ble_eq_true rfl⟩) dX1_places_4 7 rfl (ci := 0) 0 rfl rfl rfl rfl (Nat.le_of_ble_eq_true rfl) ⟨Nat.le_of_ble_eq_true rfl, Nat.le_of_ble_eq_true rfl⟩ [0, 1] rfl [1, 2, 3, 4, 5, 6, 7, 8, 9, 10, 11, 12, 13, 14, 15] rfl (by decide) (fun v hv => ?_)
  subst hv
  refine zv_go rfl rfl (st' := [.int (nI n)]) rfl (kc' := 0) rfl (ns' := 0) rfl ?_
  exact zv_iretR C hr hlk hA hQ dX1_places_7 rfl
abbrev rmX1_bridges : Room := { frames := 0, cells := 0, slots := 0, locals := 0 }
set_option maxHeartbeats 4000000 in
set_option maxRecDepth 100000 in
theorem k_X1_bridges (l : Launch) (D : va_G) (cI cZ : ClassId) (q h k : Nat → Nat) (b : Nat) (y : Int32) (n : Nat) (r : Int32) (f0 f1 f2 f3 f4 f5 f6 f7 f8 f9 f10 f11 f12 f13 : Nat → Int32) (n1 : Nat) (r1 : Int32) (g0 g1 g2 g3 g4 g5 g6 g7 g8 g9 g10 g11 g12 g13 : Nat → Int32) (bp bn : Nat → Int32) : zv_R l yX1_bridges wsX1_bridges rmX1_bridges D vwCl (tyL cI cZ) [.ref (q 0)] (cR cI cZ q h k (nI b) y (nI n) r f0 f1 f2 f3 f4 f5 f6 f7 f8 f9 f10 f11 f12 f13 (nI n1) r1 g0 g1 g2 g3 g4 g5 g6 g7 g8 g9 g10 g11 g12 g13 bp bn) (fun v => v = some (.int (nI b))) := by
  refine zv_R.of cX1_bridges 1 (some .int) (by decide) rfl (Nat.le_of_ble_eq_true rfl) ?_
  intro pP eE sS mM aA bB mT cD A C hr hlk hA Q hQ
  have inX1 : ∀ w ∈ u_ws RX1 TX1 6, w ∈ wsX1_bridges := by decide +kernel
  have lk26 : Cond.fieldLink RX1 26 "RiverNames" "bridgeCount" "I" ∈ wsX1_bridges := by decide +kernel
  refine zv_go (pc' := 0) rfl (lv' := [(0, .ref (q 0))]) rfl rfl rfl rfl ?_
  refine zv_aload_n C dX1_bridges_0 1 rfl 0 rfl ?_
  refine zv_get (ci := 1) C inX1 rfl dX1_bridges_1 4 rfl 0 4 rfl (by decide) lk26 rfl ?_
  exact zv_iretR C hr hlk hA hQ dX1_bridges_4 rfl
abbrev rmX1_leadsTo : Room := { frames := 2, cells := 0, slots := 0, locals := 42 }
set_option maxHeartbeats 4000000 in
set_option maxRecDepth 100000 in
theorem k_X1_leadsTo (l : Launch) (D : va_G) (cI cZ : ClassId) (q h k : Nat → Nat) (b : Nat) (y : Int32) (n : Nat) (r : Int32) (f0 f1 f2 f3 f4 f5 f6 f7 f8 f9 f10 f11 f12 f13 : Nat → Int32) (n1 : Nat) (r1 : Int32) (g0 g1 g2 g3 g4 g5 g6 g7 g8 g9 g10 g11 g12 g13 : Nat → Int32) (bp bn : Nat → Int32) (p : Nat) (hn : n ≤ 16) (hp : p < n) : zv_R l yX1_leadsTo wsX1_leadsTo rmX1_leadsTo D vwCl (tyL cI cZ) [.ref (q 0), .int (nI p)] (cR cI cZ q h k (nI b) y (nI n) r f0 f1 f2 f3 f4 f5 f6 f7 f8 f9 f10 f11 f12 f13 (nI n1) r1 g0 g1 g2 g3 g4 g5 g6 g7 g8 g9 g10 g11 g12 g13 bp bn) (fun v => v = some (.int (f0 p))) := by
  refine zv_R.of cX1_leadsTo 2 (some .int) (by decide) rfl (Nat.le_of_ble_eq_true rfl) ?_
  intro pP eE sS mM aA bB mT cD A C hr hlk hA Q hQ
  have inX1 : ∀ w ∈ u_ws RX1 TX1 6, w ∈ wsX1_leadsTo := by decide +kernel
  have lk10 : Cond.fieldLink RX1 10 "RiverNames" "land" "LRiverNames$Land;" ∈ wsX1_leadsTo := by decide +kernel
  refine zv_go (pc' := 0) rfl (lv' := [(0, .ref (q 0)), (1, .int (nI p))]) rfl rfl rfl rfl ?_
  refine zv_aload_n C dX1_leadsTo_0 1 rfl 0 rfl ?_
  refine zv_iload_n C dX1_leadsTo_1 2 rfl 1 rfl ?_
  refine zv_callVR (rest := []) C (k_X1_requirePlace l D cI cZ q h k b y n r f0 f1 f2 f3 f4 f5 f6 f7 f8 f9 f10 f11 f12 f13 n1 r1 g0 g1 g2 g3 g4 g5 g6 g7 g8 g9 g10 g11 g12 g13 bp bn p (by omega) (by omega)) (cwV 1 C.1.2.2.2.2 gX1_leadsTo_X1_requirePlace rfl rfl rfl (by decide +kernel) ⟨Nat.le_of_ble_eq_true rfl, Nat.le_of_ble_eq_true rfl⟩) dX1_leadsTo_2 5 rfl (ci := 1) 0 rfl rfl rfl rfl (Nat.le_of_ble_eq_true rfl) ⟨Nat.le_of_ble_eq_true rfl, Nat.le_of_ble_eq_true rfl⟩ [0, 1] rfl [0, 1, 2, 3, 4, 5, 6, 7, 8, 9, 10, 11, 12, 13, 14, 15, 16, 17, 18, 19, 20, 21, 22, 23, 24, 25, 26, 27, 28, 29, 30, 31, 32] rfl (by decide) (fun v hv => ?_)
  subst hv
  refine zv_go rfl rfl (st' := []) rfl (kc' := 0) rfl (ns' := 0) rfl ?_
  refine zv_aload_n C dX1_leadsTo_5 6 rfl 0 rfl ?_
  refine zv_get (ci := 1) C inX1 rfl dX1_leadsTo_6 9 rfl 0 0 rfl (by decide) lk10 rfl ?_
  refine zv_iload_n C dX1_leadsTo_9 10 rfl 1 rfl ?_
  refine zv_callVR (rest := []) C (k_X0_next l D cI cZ h n r f0 f1 f2 f3 f4 f5 f6 f7 f8 f9 f10 f11 f12 f13 p (by omega)) (cwV 1 C.1.2.2.2.2 gX1_leadsTo_X0_next rfl rfl rfl (by decide +kernel) ⟨Nat.le_of_ble_eq_true rfl, Nat.le_of_ble_eq_true rfl⟩) dX1_leadsTo_10 13 rfl (ci := 0) 0 rfl rfl rfl rfl (Nat.le_of_ble_eq_true rfl) ⟨Nat.le_of_ble_eq_true rfl, Nat.le_of_ble_eq_true rfl⟩ [0, 1] rfl [1, 2, 3, 4, 5, 6, 7, 8, 9, 10, 11, 12, 13, 14, 15] rfl (by decide) (fun v hv => ?_)
  subst hv
  refine zv_go rfl rfl (st' := [.int (f0 p)]) rfl (kc' := 0) rfl (ns' := 0) rfl ?_
  exact zv_iretR C hr hlk hA hQ dX1_leadsTo_13 rfl
abbrev rmX1_springOf : Room := { frames := 2, cells := 0, slots := 0, locals := 42 }
set_option maxHeartbeats 4000000 in
set_option maxRecDepth 100000 in
theorem k_X1_springOf (l : Launch) (D : va_G) (cI cZ : ClassId) (q h k : Nat → Nat) (b : Nat) (y : Int32) (n : Nat) (r : Int32) (f0 f1 f2 f3 f4 f5 f6 f7 f8 f9 f10 f11 f12 f13 : Nat → Int32) (n1 : Nat) (r1 : Int32) (g0 g1 g2 g3 g4 g5 g6 g7 g8 g9 g10 g11 g12 g13 : Nat → Int32) (bp bn : Nat → Int32) (p : Nat) (hn : n ≤ 16) (hp : p < n) : zv_R l yX1_springOf wsX1_springOf rmX1_springOf D vwCl (tyL cI cZ) [.ref (q 0), .int (nI p)] (cR cI cZ q h k (nI b) y (nI n) r f0 f1 f2 f3 f4 f5 f6 f7 f8 f9 f10 f11 f12 f13 (nI n1) r1 g0 g1 g2 g3 g4 g5 g6 g7 g8 g9 g10 g11 g12 g13 bp bn) (fun v => v = some (.int (f4 p))) := by
  refine zv_R.of cX1_springOf 2 (some .int) (by decide) rfl (Nat.le_of_ble_eq_true rfl) ?_
  intro pP eE sS mM aA bB mT cD A C hr hlk hA Q hQ
  have inX1 : ∀ w ∈ u_ws RX1 TX1 6, w ∈ wsX1_springOf := by decide +kernel
  have lk10 : Cond.fieldLink RX1 10 "RiverNames" "land" "LRiverNames$Land;" ∈ wsX1_springOf := by decide +kernel
  refine zv_go (pc' := 0) rfl (lv' := [(0, .ref (q 0)), (1, .int (nI p))]) rfl rfl rfl rfl ?_
  refine zv_aload_n C dX1_springOf_0 1 rfl 0 rfl ?_
  refine zv_iload_n C dX1_springOf_1 2 rfl 1 rfl ?_
  refine zv_callVR (rest := []) C (k_X1_requirePlace l D cI cZ q h k b y n r f0 f1 f2 f3 f4 f5 f6 f7 f8 f9 f10 f11 f12 f13 n1 r1 g0 g1 g2 g3 g4 g5 g6 g7 g8 g9 g10 g11 g12 g13 bp bn p (by omega) (by omega)) (cwV 1 C.1.2.2.2.2 gX1_springOf_X1_requirePlace rfl rfl rfl (by decide +kernel) ⟨Nat.le_of_ble_eq_true rfl, Nat.le_of_ble_eq_true rfl⟩) dX1_springOf_2 5 rfl (ci := 1) 0 rfl rfl rfl rfl (Nat.le_of_ble_eq_true rfl) ⟨Nat.le_of_ble_eq_true rfl, Nat.le_of_ble_eq_true rfl⟩ [0, 1] rfl [0, 1, 2, 3, 4, 5, 6, 7, 8, 9, 10, 11, 12, 13, 14, 15, 16, 17, 18, 19, 20, 21, 22, 23, 24, 25, 26, 27, 28, 29, 30, 31, 32] rfl (by decide) (fun v hv => ?_)
  subst hv
  refine zv_go rfl rfl (st' := []) rfl (kc' := 0) rfl (ns' := 0) rfl ?_
  refine zv_aload_n C dX1_springOf_5 6 rfl 0 rfl ?_
  refine zv_get (ci := 1) C inX1 rfl dX1_springOf_6 9 rfl 0 0 rfl (by decide) lk10 rfl ?_
  refine zv_iload_n C dX1_springOf_9 10 rfl 1 rfl ?_
  refine zv_callVR (rest := []) C (k_X0_springWaterOf l D cI cZ h n r f0 f1 f2 f3 f4 f5 f6 f7 f8 f9 f10 f11 f12 f13 p (by omega)) (cwV 1 C.1.2.2.2.2 gX1_springOf_X0_springWaterOf rfl rfl rfl (by decide +kernel) ⟨Nat.le_of_ble_eq_true rfl, Nat.le_of_ble_eq_true rfl⟩) dX1_springOf_10 13 rfl (ci := 0) 0 rfl rfl rfl rfl (Nat.le_of_ble_eq_true rfl) ⟨Nat.le_of_ble_eq_true rfl, Nat.le_of_ble_eq_true rfl⟩ [0, 1] rfl [1, 2, 3, 4, 5, 6, 7, 8, 9, 10, 11, 12, 13, 14, 15] rfl (by decide) (fun v hv => ?_)
  subst hv
  refine zv_go rfl rfl (st' := [.int (f4 p)]) rfl (kc' := 0) rfl (ns' := 0) rfl ?_
  exact zv_iretR C hr hlk hA hQ dX1_springOf_13 rfl
abbrev rmX1_waterAt : Room := { frames := 2, cells := 0, slots := 0, locals := 42 }
set_option maxHeartbeats 4000000 in
set_option maxRecDepth 100000 in
theorem k_X1_waterAt (l : Launch) (D : va_G) (cI cZ : ClassId) (q h k : Nat → Nat) (b : Nat) (y : Int32) (n : Nat) (r : Int32) (f0 f1 f2 f3 f4 f5 f6 f7 f8 f9 f10 f11 f12 f13 : Nat → Int32) (n1 : Nat) (r1 : Int32) (g0 g1 g2 g3 g4 g5 g6 g7 g8 g9 g10 g11 g12 g13 : Nat → Int32) (bp bn : Nat → Int32) (p : Nat) (hn : n ≤ 16) (hp : p < n) : zv_R l yX1_waterAt wsX1_waterAt rmX1_waterAt D vwCl (tyL cI cZ) [.ref (q 0), .int (nI p)] (cR cI cZ q h k (nI b) y (nI n) r f0 f1 f2 f3 f4 f5 f6 f7 f8 f9 f10 f11 f12 f13 (nI n1) r1 g0 g1 g2 g3 g4 g5 g6 g7 g8 g9 g10 g11 g12 g13 bp bn) (fun v => v = some (.int (f7 p))) := by
  refine zv_R.of cX1_waterAt 2 (some .int) (by decide) rfl (Nat.le_of_ble_eq_true rfl) ?_
  intro pP eE sS mM aA bB mT cD A C hr hlk hA Q hQ
  have inX1 : ∀ w ∈ u_ws RX1 TX1 6, w ∈ wsX1_waterAt := by decide +kernel
  have lk10 : Cond.fieldLink RX1 10 "RiverNames" "land" "LRiverNames$Land;" ∈ wsX1_waterAt := by decide +kernel
  refine zv_go (pc' := 0) rfl (lv' := [(0, .ref (q 0)), (1, .int (nI p))]) rfl rfl rfl rfl ?_
  refine zv_aload_n C dX1_waterAt_0 1 rfl 0 rfl ?_
  refine zv_iload_n C dX1_waterAt_1 2 rfl 1 rfl ?_
  refine zv_callVR (rest := []) C (k_X1_requirePlace l D cI cZ q h k b y n r f0 f1 f2 f3 f4 f5 f6 f7 f8 f9 f10 f11 f12 f13 n1 r1 g0 g1 g2 g3 g4 g5 g6 g7 g8 g9 g10 g11 g12 g13 bp bn p (by omega) (by omega)) (cwV 1 C.1.2.2.2.2 gX1_waterAt_X1_requirePlace rfl rfl rfl (by decide +kernel) ⟨Nat.le_of_ble_eq_true rfl, Nat.le_of_ble_eq_true rfl⟩) dX1_waterAt_2 5 rfl (ci := 1) 0 rfl rfl rfl rfl (Nat.le_of_ble_eq_true rfl) ⟨Nat.le_of_ble_eq_true rfl, Nat.le_of_ble_eq_true rfl⟩ [0, 1] rfl [0, 1, 2, 3, 4, 5, 6, 7, 8, 9, 10, 11, 12, 13, 14, 15, 16, 17, 18, 19, 20, 21, 22, 23, 24, 25, 26, 27, 28, 29, 30, 31, 32] rfl (by decide) (fun v hv => ?_)
  subst hv
  refine zv_go rfl rfl (st' := []) rfl (kc' := 0) rfl (ns' := 0) rfl ?_
  refine zv_aload_n C dX1_waterAt_5 6 rfl 0 rfl ?_
  refine zv_get (ci := 1) C inX1 rfl dX1_waterAt_6 9 rfl 0 0 rfl (by decide) lk10 rfl ?_
  refine zv_iload_n C dX1_waterAt_9 10 rfl 1 rfl ?_
  refine zv_callVR (rest := []) C (k_X0_waterOf l D cI cZ h n r f0 f1 f2 f3 f4 f5 f6 f7 f8 f9 f10 f11 f12 f13 p (by omega)) (cwV 1 C.1.2.2.2.2 gX1_waterAt_X0_waterOf rfl rfl rfl (by decide +kernel) ⟨Nat.le_of_ble_eq_true rfl, Nat.le_of_ble_eq_true rfl⟩) dX1_waterAt_10 13 rfl (ci := 0) 0 rfl rfl rfl rfl (Nat.le_of_ble_eq_true rfl) ⟨Nat.le_of_ble_eq_true rfl, Nat.le_of_ble_eq_true rfl⟩ [0, 1] rfl [1, 2, 3, 4, 5, 6, 7, 8, 9, 10, 11, 12, 13, 14, 15] rfl (by decide) (fun v hv => ?_)
  subst hv
  refine zv_go rfl rfl (st' := [.int (f7 p)]) rfl (kc' := 0) rfl (ns' := 0) rfl ?_
  exact zv_iretR C hr hlk hA hQ dX1_waterAt_13 rfl
abbrev rmX1_lengthAt : Room := { frames := 2, cells := 0, slots := 0, locals := 42 }
set_option maxHeartbeats 4000000 in
set_option maxRecDepth 100000 in
theorem k_X1_lengthAt (l : Launch) (D : va_G) (cI cZ : ClassId) (q h k : Nat → Nat) (b : Nat) (y : Int32) (n : Nat) (r : Int32) (f0 f1 f2 f3 f4 f5 f6 f7 f8 f9 f10 f11 f12 f13 : Nat → Int32) (n1 : Nat) (r1 : Int32) (g0 g1 g2 g3 g4 g5 g6 g7 g8 g9 g10 g11 g12 g13 : Nat → Int32) (bp bn : Nat → Int32) (p : Nat) (hn : n ≤ 16) (hp : p < n) : zv_R l yX1_lengthAt wsX1_lengthAt rmX1_lengthAt D vwCl (tyL cI cZ) [.ref (q 0), .int (nI p)] (cR cI cZ q h k (nI b) y (nI n) r f0 f1 f2 f3 f4 f5 f6 f7 f8 f9 f10 f11 f12 f13 (nI n1) r1 g0 g1 g2 g3 g4 g5 g6 g7 g8 g9 g10 g11 g12 g13 bp bn) (fun v => v = some (.int (f8 p))) := by
  refine zv_R.of cX1_lengthAt 2 (some .int) (by decide) rfl (Nat.le_of_ble_eq_true rfl) ?_
  intro pP eE sS mM aA bB mT cD A C hr hlk hA Q hQ
  have inX1 : ∀ w ∈ u_ws RX1 TX1 6, w ∈ wsX1_lengthAt := by decide +kernel
  have lk10 : Cond.fieldLink RX1 10 "RiverNames" "land" "LRiverNames$Land;" ∈ wsX1_lengthAt := by decide +kernel
  refine zv_go (pc' := 0) rfl (lv' := [(0, .ref (q 0)), (1, .int (nI p))]) rfl rfl rfl rfl ?_
  refine zv_aload_n C dX1_lengthAt_0 1 rfl 0 rfl ?_
  refine zv_iload_n C dX1_lengthAt_1 2 rfl 1 rfl ?_
  refine zv_callVR (rest := []) C (k_X1_requirePlace l D cI cZ q h k b y n r f0 f1 f2 f3 f4 f5 f6 f7 f8 f9 f10 f11 f12 f13 n1 r1 g0 g1 g2 g3 g4 g5 g6 g7 g8 g9 g10 g11 g12 g13 bp bn p (by omega) (by omega)) (cwV 1 C.1.2.2.2.2 gX1_lengthAt_X1_requirePlace rfl rfl rfl (by decide +kernel) ⟨Nat.le_of_ble_eq_true rfl, Nat.le_of_ble_eq_true rfl⟩) dX1_lengthAt_2 5 rfl (ci := 1) 0 rfl rfl rfl rfl (Nat.le_of_ble_eq_true rfl) ⟨Nat.le_of_ble_eq_true rfl, Nat.le_of_ble_eq_true rfl⟩ [0, 1] rfl [0, 1, 2, 3, 4, 5, 6, 7, 8, 9, 10, 11, 12, 13, 14, 15, 16, 17, 18, 19, 20, 21, 22, 23, 24, 25, 26, 27, 28, 29, 30, 31, 32] rfl (by decide) (fun v hv => ?_)
  subst hv
  refine zv_go rfl rfl (st' := []) rfl (kc' := 0) rfl (ns' := 0) rfl ?_
  refine zv_aload_n C dX1_lengthAt_5 6 rfl 0 rfl ?_
  refine zv_get (ci := 1) C inX1 rfl dX1_lengthAt_6 9 rfl 0 0 rfl (by decide) lk10 rfl ?_
  refine zv_iload_n C dX1_lengthAt_9 10 rfl 1 rfl ?_
  refine zv_callVR (rest := []) C (k_X0_lengthOf l D cI cZ h n r f0 f1 f2 f3 f4 f5 f6 f7 f8 f9 f10 f11 f12 f13 p (by omega)) (cwV 1 C.1.2.2.2.2 gX1_lengthAt_X0_lengthOf rfl rfl rfl (by decide +kernel) ⟨Nat.le_of_ble_eq_true rfl, Nat.le_of_ble_eq_true rfl⟩) dX1_lengthAt_10 13 rfl (ci := 0) 0 rfl rfl rfl rfl (Nat.le_of_ble_eq_true rfl) ⟨Nat.le_of_ble_eq_true rfl, Nat.le_of_ble_eq_true rfl⟩ [0, 1] rfl [1, 2, 3, 4, 5, 6, 7, 8, 9, 10, 11, 12, 13, 14, 15] rfl (by decide) (fun v hv => ?_)
  subst hv
  refine zv_go rfl rfl (st' := [.int (f8 p)]) rfl (kc' := 0) rfl (ns' := 0) rfl ?_
  exact zv_iretR C hr hlk hA hQ dX1_lengthAt_13 rfl
abbrev rmX1_nameAt : Room := { frames := 2, cells := 0, slots := 0, locals := 42 }
set_option maxHeartbeats 4000000 in
set_option maxRecDepth 100000 in
theorem k_X1_nameAt (l : Launch) (D : va_G) (cI cZ : ClassId) (q h k : Nat → Nat) (b : Nat) (y : Int32) (n : Nat) (r : Int32) (f0 f1 f2 f3 f4 f5 f6 f7 f8 f9 f10 f11 f12 f13 : Nat → Int32) (n1 : Nat) (r1 : Int32) (g0 g1 g2 g3 g4 g5 g6 g7 g8 g9 g10 g11 g12 g13 : Nat → Int32) (bp bn : Nat → Int32) (p : Nat) (hn : n ≤ 16) (hp : p < n) : zv_R l yX1_nameAt wsX1_nameAt rmX1_nameAt D vwCl (tyL cI cZ) [.ref (q 0), .int (nI p)] (cR cI cZ q h k (nI b) y (nI n) r f0 f1 f2 f3 f4 f5 f6 f7 f8 f9 f10 f11 f12 f13 (nI n1) r1 g0 g1 g2 g3 g4 g5 g6 g7 g8 g9 g10 g11 g12 g13 bp bn) (fun v => v = some (.int (f9 p))) := by
  refine zv_R.of cX1_nameAt 2 (some .int) (by decide) rfl (Nat.le_of_ble_eq_true rfl) ?_
  intro pP eE sS mM aA bB mT cD A C hr hlk hA Q hQ
  have inX1 : ∀ w ∈ u_ws RX1 TX1 6, w ∈ wsX1_nameAt := by decide +kernel
  have lk10 : Cond.fieldLink RX1 10 "RiverNames" "land" "LRiverNames$Land;" ∈ wsX1_nameAt := by decide +kernel
  refine zv_go (pc' := 0) rfl (lv' := [(0, .ref (q 0)), (1, .int (nI p))]) rfl rfl rfl rfl ?_
  refine zv_aload_n C dX1_nameAt_0 1 rfl 0 rfl ?_
  refine zv_iload_n C dX1_nameAt_1 2 rfl 1 rfl ?_
  refine zv_callVR (rest := []) C (k_X1_requirePlace l D cI cZ q h k b y n r f0 f1 f2 f3 f4 f5 f6 f7 f8 f9 f10 f11 f12 f13 n1 r1 g0 g1 g2 g3 g4 g5 g6 g7 g8 g9 g10 g11 g12 g13 bp bn p (by omega) (by omega)) (cwV 1 C.1.2.2.2.2 gX1_nameAt_X1_requirePlace rfl rfl rfl (by decide +kernel) ⟨Nat.le_of_ble_eq_true rfl, Nat.le_of_ble_eq_true rfl⟩) dX1_nameAt_2 5 rfl (ci := 1) 0 rfl rfl rfl rfl (Nat.le_of_ble_eq_true rfl) ⟨Nat.le_of_ble_eq_true rfl, Nat.le_of_ble_eq_true rfl⟩ [0, 1] rfl [0, 1, 2, 3, 4, 5, 6, 7, 8, 9, 10, 11, 12, 13, 14, 15, 16, 17, 18, 19, 20, 21, 22, 23, 24, 25, 26, 27, 28, 29, 30, 31, 32] rfl (by decide) (fun v hv => ?_)
  subst hv
  refine zv_go rfl rfl (st' := []) rfl (kc' := 0) rfl (ns' := 0) rfl ?_
  refine zv_aload_n C dX1_nameAt_5 6 rfl 0 rfl ?_
  refine zv_get (ci := 1) C inX1 rfl dX1_nameAt_6 9 rfl 0 0 rfl (by decide) lk10 rfl ?_
  refine zv_iload_n C dX1_nameAt_9 10 rfl 1 rfl ?_
  refine zv_callVR (rest := []) C (k_X0_nameOf l D cI cZ h n r f0 f1 f2 f3 f4 f5 f6 f7 f8 f9 f10 f11 f12 f13 p (by omega)) (cwV 1 C.1.2.2.2.2 gX1_nameAt_X0_nameOf rfl rfl rfl (by decide +kernel) ⟨Nat.le_of_ble_eq_true rfl, Nat.le_of_ble_eq_true rfl⟩) dX1_nameAt_10 13 rfl (ci := 0) 0 rfl rfl rfl rfl (Nat.le_of_ble_eq_true rfl) ⟨Nat.le_of_ble_eq_true rfl, Nat.le_of_ble_eq_true rfl⟩ [0, 1] rfl [1, 2, 3, 4, 5, 6, 7, 8, 9, 10, 11, 12, 13, 14, 15] rfl (by decide) (fun v hv => ?_)
  subst hv
  refine zv_go rfl rfl (st' := [.int (f9 p)]) rfl (kc' := 0) rfl (ns' := 0) rfl ?_
  exact zv_iretR C hr hlk hA hQ dX1_nameAt_13 rfl
abbrev rmX1_arguing : Room := { frames := 2, cells := 0, slots := 0, locals := 42 }
set_option maxHeartbeats 4000000 in
set_option maxRecDepth 100000 in
theorem k_X1_arguing (l : Launch) (D : va_G) (cI cZ : ClassId) (q h k : Nat → Nat) (b : Nat) (y : Int32) (n : Nat) (r : Int32) (f0 f1 f2 f3 f4 f5 f6 f7 f8 f9 f10 f11 f12 f13 : Nat → Int32) (n1 : Nat) (r1 : Int32) (g0 g1 g2 g3 g4 g5 g6 g7 g8 g9 g10 g11 g12 g13 : Nat → Int32) (bp bn : Nat → Int32) (p : Nat) (hn : n ≤ 16) (hp : p < n) : zv_R l yX1_arguing wsX1_arguing rmX1_arguing D vwCl (tyL cI cZ) [.ref (q 0), .int (nI p)] (cR cI cZ q h k (nI b) y (nI n) r f0 f1 f2 f3 f4 f5 f6 f7 f8 f9 f10 f11 f12 f13 (nI n1) r1 g0 g1 g2 g3 g4 g5 g6 g7 g8 g9 g10 g11 g12 g13 bp bn) (fun v => v = some (.int (f10 p))) := by
  refine zv_R.of cX1_arguing 2 (some .int) (by decide) rfl (Nat.le_of_ble_eq_true rfl) ?_
  intro pP eE sS mM aA bB mT cD A C hr hlk hA Q hQ
  have inX1 : ∀ w ∈ u_ws RX1 TX1 6, w ∈ wsX1_arguing := by decide +kernel
  have lk10 : Cond.fieldLink RX1 10 "RiverNames" "land" "LRiverNames$Land;" ∈ wsX1_arguing := by decide +kernel
  refine zv_go (pc' := 0) rfl (lv' := [(0, .ref (q 0)), (1, .int (nI p))]) rfl rfl rfl rfl ?_
  refine zv_aload_n C dX1_arguing_0 1 rfl 0 rfl ?_
  refine zv_iload_n C dX1_arguing_1 2 rfl 1 rfl ?_
  refine zv_callVR (rest := []) C (k_X1_requirePlace l D cI cZ q h k b y n r f0 f1 f2 f3 f4 f5 f6 f7 f8 f9 f10 f11 f12 f13 n1 r1 g0 g1 g2 g3 g4 g5 g6 g7 g8 g9 g10 g11 g12 g13 bp bn p (by omega) (by omega)) (cwV 1 C.1.2.2.2.2 gX1_arguing_X1_requirePlace rfl rfl rfl (by decide +kernel) ⟨Nat.le_of_ble_eq_true rfl, Nat.le_of_ble_eq_true rfl⟩) dX1_arguing_2 5 rfl (ci := 1) 0 rfl rfl rfl rfl (Nat.le_of_ble_eq_true rfl) ⟨Nat.le_of_ble_eq_true rfl, Nat.le_of_ble_eq_true rfl⟩ [0, 1] rfl [0, 1, 2, 3, 4, 5, 6, 7, 8, 9, 10, 11, 12, 13, 14, 15, 16, 17, 18, 19, 20, 21, 22, 23, 24, 25, 26, 27, 28, 29, 30, 31, 32] rfl (by decide) (fun v hv => ?_)
  subst hv
  refine zv_go rfl rfl (st' := []) rfl (kc' := 0) rfl (ns' := 0) rfl ?_
  refine zv_aload_n C dX1_arguing_5 6 rfl 0 rfl ?_
  refine zv_get (ci := 1) C inX1 rfl dX1_arguing_6 9 rfl 0 0 rfl (by decide) lk10 rfl ?_
  refine zv_iload_n C dX1_arguing_9 10 rfl 1 rfl ?_
  refine zv_callVR (rest := []) C (k_X0_arguersAt l D cI cZ h n r f0 f1 f2 f3 f4 f5 f6 f7 f8 f9 f10 f11 f12 f13 p (by omega)) (cwV 1 C.1.2.2.2.2 gX1_arguing_X0_arguersAt rfl rfl rfl (by decide +kernel) ⟨Nat.le_of_ble_eq_true rfl, Nat.le_of_ble_eq_true rfl⟩) dX1_arguing_10 13 rfl (ci := 0) 0 rfl rfl rfl rfl (Nat.le_of_ble_eq_true rfl) ⟨Nat.le_of_ble_eq_true rfl, Nat.le_of_ble_eq_true rfl⟩ [0, 1] rfl [1, 2, 3, 4, 5, 6, 7, 8, 9, 10, 11, 12, 13, 14, 15] rfl (by decide) (fun v hv => ?_)
  subst hv
  refine zv_go rfl rfl (st' := [.int (f10 p)]) rfl (kc' := 0) rfl (ns' := 0) rfl ?_
  exact zv_iretR C hr hlk hA hQ dX1_arguing_13 rfl
abbrev rmX1_hasSpring : Room := { frames := 2, cells := 0, slots := 0, locals := 42 }
set_option maxHeartbeats 4000000 in
set_option maxRecDepth 100000 in
theorem k_X1_hasSpring (l : Launch) (D : va_G) (cI cZ : ClassId) (q h k : Nat → Nat) (b : Nat) (y : Int32) (n : Nat) (r : Int32) (f0 f1 f2 f3 f4 f5 f6 f7 f8 f9 f10 f11 f12 f13 : Nat → Int32) (n1 : Nat) (r1 : Int32) (g0 g1 g2 g3 g4 g5 g6 g7 g8 g9 g10 g11 g12 g13 : Nat → Int32) (bp bn : Nat → Int32) (p : Nat) (hn : n ≤ 16) (hp : p < n) (hz : zo (f2 p)) : zv_R l yX1_hasSpring wsX1_hasSpring rmX1_hasSpring D vwCl (tyL cI cZ) [.ref (q 0), .int (nI p)] (cR cI cZ q h k (nI b) y (nI n) r f0 f1 f2 f3 f4 f5 f6 f7 f8 f9 f10 f11 f12 f13 (nI n1) r1 g0 g1 g2 g3 g4 g5 g6 g7 g8 g9 g10 g11 g12 g13 bp bn) (fun v => v = some (.int (f2 p))) := by
  refine zv_R.of cX1_hasSpring 2 (some .boolean) (by decide) rfl (Nat.le_of_ble_eq_true rfl) ?_
  intro pP eE sS mM aA bB mT cD A C hr hlk hA Q hQ
  have inX1 : ∀ w ∈ u_ws RX1 TX1 6, w ∈ wsX1_hasSpring := by decide +kernel
  have lk10 : Cond.fieldLink RX1 10 "RiverNames" "land" "LRiverNames$Land;" ∈ wsX1_hasSpring := by decide +kernel
  refine zv_go (pc' := 0) rfl (lv' := [(0, .ref (q 0)), (1, .int (nI p))]) rfl rfl rfl rfl ?_
  refine zv_aload_n C dX1_hasSpring_0 1 rfl 0 rfl ?_
  refine zv_iload_n C dX1_hasSpring_1 2 rfl 1 rfl ?_
  refine zv_callVR (rest := []) C (k_X1_requirePlace l D cI cZ q h k b y n r f0 f1 f2 f3 f4 f5 f6 f7 f8 f9 f10 f11 f12 f13 n1 r1 g0 g1 g2 g3 g4 g5 g6 g7 g8 g9 g10 g11 g12 g13 bp bn p (by omega) (by omega)) (cwV 1 C.1.2.2.2.2 gX1_hasSpring_X1_requirePlace rfl rfl rfl (by decide +kernel) ⟨Nat.le_of_ble_eq_true rfl, Nat.le_of_ble_eq_true rfl⟩) dX1_hasSpring_2 5 rfl (ci := 1) 0 rfl rfl rfl rfl (Nat.le_of_ble_eq_true rfl) ⟨Nat.le_of_ble_eq_true rfl, Nat.le_of_ble_eq_true rfl⟩ [0, 1] rfl [0, 1, 2, 3, 4, 5, 6, 7, 8, 9, 10, 11, 12, 13, 14, 15, 16, 17, 18, 19, 20, 21, 22, 23, 24, 25, 26, 27, 28, 29, 30, 31, 32] rfl (by decide) (fun v hv => ?_)
  subst hv
  refine zv_go rfl rfl (st' := []) rfl (kc' := 0) rfl (ns' := 0) rfl ?_
  refine zv_aload_n C dX1_hasSpring_5 6 rfl 0 rfl ?_
  refine zv_get (ci := 1) C inX1 rfl dX1_hasSpring_6 9 rfl 0 0 rfl (by decide) lk10 rfl ?_
  refine zv_iload_n C dX1_hasSpring_9 10 rfl 1 rfl ?_
  refine zv_callVR (rest := []) C (k_X0_isSprung l D cI cZ h n r f0 f1 f2 f3 f4 f5 f6 f7 f8 f9 f10 f11 f12 f13 p (by omega) (by assumption)) (cwV 1 C.1.2.2.2.2 gX1_hasSpring_X0_isSprung rfl rfl rfl (by decide +kernel) ⟨Nat.le_of_ble_eq_true rfl, Nat.le_of_ble_eq_true rfl⟩) dX1_hasSpring_10 13 rfl (ci := 0) 0 rfl rfl rfl rfl (Nat.le_of_ble_eq_true rfl) ⟨Nat.le_of_ble_eq_true rfl, Nat.le_of_ble_eq_true rfl⟩ [0, 1] rfl [1, 2, 3, 4, 5, 6, 7, 8, 9, 10, 11, 12, 13, 14, 15] rfl (by decide) (fun v hv => ?_)
  subst hv
  refine zv_go rfl rfl (st' := [.int (f2 p)]) rfl (kc' := 0) rfl (ns' := 0) rfl ?_
  exact zv_zretR C (zo_narrow (by assumption)) hr hlk hA hQ dX1_hasSpring_13 rfl
abbrev rmX1_isArgued : Room := { frames := 2, cells := 0, slots := 0, locals := 42 }
set_option maxHeartbeats 4000000 in
set_option maxRecDepth 100000 in
theorem k_X1_isArgued (l : Launch) (D : va_G) (cI cZ : ClassId) (q h k : Nat → Nat) (b : Nat) (y : Int32) (n : Nat) (r : Int32) (f0 f1 f2 f3 f4 f5 f6 f7 f8 f9 f10 f11 f12 f13 : Nat → Int32) (n1 : Nat) (r1 : Int32) (g0 g1 g2 g3 g4 g5 g6 g7 g8 g9 g10 g11 g12 g13 : Nat → Int32) (bp bn : Nat → Int32) (p : Nat) (hn : n ≤ 16) (hp : p < n) (hz : zo (f11 p)) : zv_R l yX1_isArgued wsX1_isArgued rmX1_isArgued D vwCl (tyL cI cZ) [.ref (q 0), .int (nI p)] (cR cI cZ q h k (nI b) y (nI n) r f0 f1 f2 f3 f4 f5 f6 f7 f8 f9 f10 f11 f12 f13 (nI n1) r1 g0 g1 g2 g3 g4 g5 g6 g7 g8 g9 g10 g11 g12 g13 bp bn) (fun v => v = some (.int (f11 p))) := by
  refine zv_R.of cX1_isArgued 2 (some .boolean) (by decide) rfl (Nat.le_of_ble_eq_true rfl) ?_
  intro pP eE sS mM aA bB mT cD A C hr hlk hA Q hQ
  have inX1 : ∀ w ∈ u_ws RX1 TX1 6, w ∈ wsX1_isArgued := by decide +kernel
  have lk10 : Cond.fieldLink RX1 10 "RiverNames" "land" "LRiverNames$Land;" ∈ wsX1_isArgued := by decide +kernel
  refine zv_go (pc' := 0) rfl (lv' := [(0, .ref (q 0)), (1, .int (nI p))]) rfl rfl rfl rfl ?_
  refine zv_aload_n C dX1_isArgued_0 1 rfl 0 rfl ?_
  refine zv_iload_n C dX1_isArgued_1 2 rfl 1 rfl ?_
  refine zv_callVR (rest := []) C (k_X1_requirePlace l D cI cZ q h k b y n r f0 f1 f2 f3 f4 f5 f6 f7 f8 f9 f10 f11 f12 f13 n1 r1 g0 g1 g2 g3 g4 g5 g6 g7 g8 g9 g10 g11 g12 g13 bp bn p (by omega) (by omega)) (cwV 1 C.1.2.2.2.2 gX1_isArgued_X1_requirePlace rfl rfl rfl (by decide +kernel) ⟨Nat.le_of_ble_eq_true rfl, Nat.le_of_ble_eq_true rfl⟩) dX1_isArgued_2 5 rfl (ci := 1) 0 rfl rfl rfl rfl (Nat.le_of_ble_eq_true rfl) ⟨Nat.le_of_ble_eq_true rfl, Nat.le_of_ble_eq_true rfl⟩ [0, 1] rfl [0, 1, 2, 3, 4, 5, 6, 7, 8, 9, 10, 11, 12, 13, 14, 15, 16, 17, 18, 19, 20, 21, 22, 23, 24, 25, 26, 27, 28, 29, 30, 31, 32] rfl (by decide) (fun v hv => ?_)
  subst hv
  refine zv_go rfl rfl (st' := []) rfl (kc' := 0) rfl (ns' := 0) rfl ?_
  refine zv_aload_n C dX1_isArgued_5 6 rfl 0 rfl ?_
  refine zv_get (ci := 1) C inX1 rfl dX1_isArgued_6 9 rfl 0 0 rfl (by decide) lk10 rfl ?_
  refine zv_iload_n C dX1_isArgued_9 10 rfl 1 rfl ?_
  refine zv_callVR (rest := []) C (k_X0_isDisputed l D cI cZ h n r f0 f1 f2 f3 f4 f5 f6 f7 f8 f9 f10 f11 f12 f13 p (by omega) (by assumption)) (cwV 1 C.1.2.2.2.2 gX1_isArgued_X0_isDisputed rfl rfl rfl (by decide +kernel) ⟨Nat.le_of_ble_eq_true rfl, Nat.le_of_ble_eq_true rfl⟩) dX1_isArgued_10 13 rfl (ci := 0) 0 rfl rfl rfl rfl (Nat.le_of_ble_eq_true rfl) ⟨Nat.le_of_ble_eq_true rfl, Nat.le_of_ble_eq_true rfl⟩ [0, 1] rfl [1, 2, 3, 4, 5, 6, 7, 8, 9, 10, 11, 12, 13, 14, 15] rfl (by decide) (fun v hv => ?_)
  subst hv
  refine zv_go rfl rfl (st' := [.int (f11 p)]) rfl (kc' := 0) rfl (ns' := 0) rfl ?_
  exact zv_zretR C (zo_narrow (by assumption)) hr hlk hA hQ dX1_isArgued_13 rfl
abbrev rmX1_mouthOf : Room := { frames := 2, cells := 0, slots := 0, locals := 44 }
set_option maxHeartbeats 4000000 in
set_option maxRecDepth 100000 in
theorem k_X1_mouthOf (l : Launch) (D : va_G) (cI cZ : ClassId) (q h k : Nat → Nat) (b : Nat) (y : Int32) (n : Nat) (r : Int32) (f0 f1 f2 f3 f4 f5 f6 f7 f8 f9 f10 f11 f12 f13 : Nat → Int32) (n1 : Nat) (r1 : Int32) (g0 g1 g2 g3 g4 g5 g6 g7 g8 g9 g10 g11 g12 g13 : Nat → Int32) (bp bn : Nat → Int32) (p : Nat) (hn : n ≤ 16) (hp : p < n) (hw : Vw n f0) : zv_R l yX1_mouthOf wsX1_mouthOf rmX1_mouthOf D vwCl (tyL cI cZ) [.ref (q 0), .int (nI p)] (cR cI cZ q h k (nI b) y (nI n) r f0 f1 f2 f3 f4 f5 f6 f7 f8 f9 f10 f11 f12 f13 (nI n1) r1 g0 g1 g2 g3 g4 g5 g6 g7 g8 g9 g10 g11 g12 g13 bp bn) (fun v => v = some (.int (nI (mo f0 16 p)))) := by
  refine zv_R.of cX1_mouthOf 2 (some .int) (by decide) rfl (Nat.le_of_ble_eq_true rfl) ?_
  intro pP eE sS mM aA bB mT cD A C hr hlk hA Q hQ
  have inX1 : ∀ w ∈ u_ws RX1 TX1 6, w ∈ wsX1_mouthOf := by decide +kernel
  have lk10 : Cond.fieldLink RX1 10 "RiverNames" "land" "LRiverNames$Land;" ∈ wsX1_mouthOf := by decide +kernel
  refine zv_go (pc' := 0) rfl (lv' := [(0, .ref (q 0)), (1, .int (nI p))]) rfl rfl rfl rfl ?_
  refine zv_aload_n C dX1_mouthOf_0 1 rfl 0 rfl ?_
  refine zv_iload_n C dX1_mouthOf_1 2 rfl 1 rfl ?_
  refine zv_callVR (rest := []) C (k_X1_requirePlace l D cI cZ q h k b y n r f0 f1 f2 f3 f4 f5 f6 f7 f8 f9 f10 f11 f12 f13 n1 r1 g0 g1 g2 g3 g4 g5 g6 g7 g8 g9 g10 g11 g12 g13 bp bn p (by omega) (by omega)) (cwV 1 C.1.2.2.2.2 gX1_mouthOf_X1_requirePlace rfl rfl rfl (by decide +kernel) ⟨Nat.le_of_ble_eq_true rfl, Nat.le_of_ble_eq_true rfl⟩) dX1_mouthOf_2 5 rfl (ci := 1) 0 rfl rfl rfl rfl (Nat.le_of_ble_eq_true rfl) ⟨Nat.le_of_ble_eq_true rfl, Nat.le_of_ble_eq_true rfl⟩ [0, 1] rfl [0, 1, 2, 3, 4, 5, 6, 7, 8, 9, 10, 11, 12, 13, 14, 15, 16, 17, 18, 19, 20, 21, 22, 23, 24, 25, 26, 27, 28, 29, 30, 31, 32] rfl (by decide) (fun v hv => ?_)
  subst hv
  refine zv_go rfl rfl (st' := []) rfl (kc' := 0) rfl (ns' := 0) rfl ?_
  refine zv_aload_n C dX1_mouthOf_5 6 rfl 0 rfl ?_
  refine zv_get (ci := 1) C inX1 rfl dX1_mouthOf_6 9 rfl 0 0 rfl (by decide) lk10 rfl ?_
  refine zv_iload_n C dX1_mouthOf_9 10 rfl 1 rfl ?_
  refine zv_callVR (rest := []) C (k_X0_lastOnWay l D cI cZ h n r f0 f1 f2 f3 f4 f5 f6 f7 f8 f9 f10 f11 f12 f13 p (by assumption) (by assumption) (by assumption)) (cwV 1 C.1.2.2.2.2 gX1_mouthOf_X0_lastOnWay rfl rfl rfl (by decide +kernel) ⟨Nat.le_of_ble_eq_true rfl, Nat.le_of_ble_eq_true rfl⟩) dX1_mouthOf_10 13 rfl (ci := 0) 0 rfl rfl rfl rfl (Nat.le_of_ble_eq_true rfl) ⟨Nat.le_of_ble_eq_true rfl, Nat.le_of_ble_eq_true rfl⟩ [0, 1] rfl [1, 2, 3, 4, 5, 6, 7, 8, 9, 10, 11, 12, 13, 14, 15] rfl (by decide) (fun v hv => ?_)
  subst hv
  refine zv_go rfl rfl (st' := [.int (nI (mo f0 16 p))]) rfl (kc' := 0) rfl (ns' := 0) rfl ?_
  exact zv_iretR C hr hlk hA hQ dX1_mouthOf_13 rfl
abbrev rmX1_isAbove : Room := { frames := 2, cells := 0, slots := 0, locals := 45 }
set_option maxHeartbeats 4000000 in
set_option maxRecDepth 100000 in
theorem k_X1_isAbove (l : Launch) (D : va_G) (cI cZ : ClassId) (q h k : Nat → Nat) (b : Nat) (y : Int32) (n : Nat) (r : Int32) (f0 f1 f2 f3 f4 f5 f6 f7 f8 f9 f10 f11 f12 f13 : Nat → Int32) (n1 : Nat) (r1 : Int32) (g0 g1 g2 g3 g4 g5 g6 g7 g8 g9 g10 g11 g12 g13 : Nat → Int32) (bp bn : Nat → Int32) (p z : Nat) (hn : n ≤ 16) (hp : p < n) (ho : z < n) (hw : Vw n f0) : zv_R l yX1_isAbove wsX1_isAbove rmX1_isAbove D vwCl (tyL cI cZ) [.ref (q 0), .int (nI p), .int (nI z)] (cR cI cZ q h k (nI b) y (nI n) r f0 f1 f2 f3 f4 f5 f6 f7 f8 f9 f10 f11 f12 f13 (nI n1) r1 g0 g1 g2 g3 g4 g5 g6 g7 g8 g9 g10 g11 g12 g13 bp bn) (fun v => v = some (.int (zb (fl f0 (nI z) 16 (f0 p))))) := by
  refine zv_R.of cX1_isAbove 3 (some .boolean) (by decide) rfl (Nat.le_of_ble_eq_true rfl) ?_
  intro pP eE sS mM aA bB mT cD A C hr hlk hA Q hQ
  have inX1 : ∀ w ∈ u_ws RX1 TX1 6, w ∈ wsX1_isAbove := by decide +kernel
  have lk10 : Cond.fieldLink RX1 10 "RiverNames" "land" "LRiverNames$Land;" ∈ wsX1_isAbove := by decide +kernel
  refine zv_go (pc' := 0) rfl (lv' := [(0, .ref (q 0)), (1, .int (nI p)), (2, .int (nI z))]) rfl rfl rfl rfl ?_
  refine zv_aload_n C dX1_isAbove_0 1 rfl 0 rfl ?_
  refine zv_iload_n C dX1_isAbove_1 2 rfl 1 rfl ?_
  refine zv_callVR (rest := []) C (k_X1_requirePlace l D cI cZ q h k b y n r f0 f1 f2 f3 f4 f5 f6 f7 f8 f9 f10 f11 f12 f13 n1 r1 g0 g1 g2 g3 g4 g5 g6 g7 g8 g9 g10 g11 g12 g13 bp bn p (by omega) (by omega)) (cwV 1 C.1.2.2.2.2 gX1_isAbove_X1_requirePlace rfl rfl rfl (by decide +kernel) ⟨Nat.le_of_ble_eq_true rfl, Nat.le_of_ble_eq_true rfl⟩) dX1_isAbove_2 5 rfl (ci := 1) 0 rfl rfl rfl rfl (Nat.le_of_ble_eq_true rfl) ⟨Nat.le_of_ble_eq_true rfl, Nat.le_of_ble_eq_true rfl⟩ [0, 1] rfl [0, 1, 2, 3, 4, 5, 6, 7, 8, 9, 10, 11, 12, 13, 14, 15, 16, 17, 18, 19, 20, 21, 22, 23, 24, 25, 26, 27, 28, 29, 30, 31, 32] rfl (by decide) (fun v hv => ?_)
  subst hv
  refine zv_go rfl rfl (st' := []) rfl (kc' := 0) rfl (ns' := 0) rfl ?_
  refine zv_aload_n C dX1_isAbove_5 6 rfl 0 rfl ?_
  refine zv_iload_n C dX1_isAbove_6 7 rfl 2 rfl ?_
  refine zv_callVR (rest := []) C (k_X1_requirePlace l D cI cZ q h k b y n r f0 f1 f2 f3 f4 f5 f6 f7 f8 f9 f10 f11 f12 f13 n1 r1 g0 g1 g2 g3 g4 g5 g6 g7 g8 g9 g10 g11 g12 g13 bp bn z (by omega) (by omega)) (cwV 1 C.1.2.2.2.2 gX1_isAbove_X1_requirePlace rfl rfl rfl (by decide +kernel) ⟨Nat.le_of_ble_eq_true rfl, Nat.le_of_ble_eq_true rfl⟩) dX1_isAbove_7 10 rfl (ci := 1) 0 rfl rfl rfl rfl (Nat.le_of_ble_eq_true rfl) ⟨Nat.le_of_ble_eq_true rfl, Nat.le_of_ble_eq_true rfl⟩ [0, 1] rfl [0, 1, 2, 3, 4, 5, 6, 7, 8, 9, 10, 11, 12, 13, 14, 15, 16, 17, 18, 19, 20, 21, 22, 23, 24, 25, 26, 27, 28, 29, 30, 31, 32] rfl (by decide) (fun v hv => ?_)
  subst hv
  refine zv_go rfl rfl (st' := []) rfl (kc' := 0) rfl (ns' := 0) rfl ?_
  refine zv_aload_n C dX1_isAbove_10 11 rfl 0 rfl ?_
  refine zv_get (ci := 1) C inX1 rfl dX1_isAbove_11 14 rfl 0 0 rfl (by decide) lk10 rfl ?_
  refine zv_iload_n C dX1_isAbove_14 15 rfl 1 rfl ?_
  refine zv_iload_n C dX1_isAbove_15 16 rfl 2 rfl ?_
  refine zv_callVR (rest := []) C (k_X0_flowsTo l D cI cZ h n r f0 f1 f2 f3 f4 f5 f6 f7 f8 f9 f10 f11 f12 f13 p (nI z) (by assumption) (by assumption) (by assumption)) (cwV 2 C.1.2.2.2.2 gX1_isAbove_X0_flowsTo rfl rfl rfl (by decide +kernel) ⟨Nat.le_of_ble_eq_true rfl, Nat.le_of_ble_eq_true rfl⟩) dX1_isAbove_16 19 rfl (ci := 0) 0 rfl rfl rfl rfl (Nat.le_of_ble_eq_true rfl) ⟨Nat.le_of_ble_eq_true rfl, Nat.le_of_ble_eq_true rfl⟩ [0, 1] rfl [1, 2, 3, 4, 5, 6, 7, 8, 9, 10, 11, 12, 13, 14, 15] rfl (by decide) (fun v hv => ?_)
  subst hv
  refine zv_go rfl rfl (st' := [.int (zb (fl f0 (nI z) 16 (f0 p)))]) rfl (kc' := 0) rfl (ns' := 0) rfl ?_
  exact zv_zretR C (zb_narrow _) hr hlk hA hQ dX1_isAbove_19 rfl
abbrev rmX1_meeting : Room := { frames := 3, cells := 0, slots := 0, locals := 69 }
set_option maxHeartbeats 4000000 in
set_option maxRecDepth 100000 in
theorem k_X1_meeting (l : Launch) (D : va_G) (cI cZ : ClassId) (q h k : Nat → Nat) (b : Nat) (y : Int32) (n : Nat) (r : Int32) (f0 f1 f2 f3 f4 f5 f6 f7 f8 f9 f10 f11 f12 f13 : Nat → Int32) (n1 : Nat) (r1 : Int32) (g0 g1 g2 g3 g4 g5 g6 g7 g8 g9 g10 g11 g12 g13 : Nat → Int32) (bp bn : Nat → Int32) (p z : Nat) (hn : n ≤ 16) (hp : p < n) (ho : z < n) (hw : Vw n f0) : zv_R l yX1_meeting wsX1_meeting rmX1_meeting D vwCl (tyL cI cZ) [.ref (q 0), .int (nI p), .int (nI z)] (cR cI cZ q h k (nI b) y (nI n) r f0 f1 f2 f3 f4 f5 f6 f7 f8 f9 f10 f11 f12 f13 (nI n1) r1 g0 g1 g2 g3 g4 g5 g6 g7 g8 g9 g10 g11 g12 g13 bp bn) (fun v => v = some (.int (fc f0 z 16 (nI p)))) := by
  refine zv_R.of cX1_meeting 3 (some .int) (by decide) rfl (Nat.le_of_ble_eq_true rfl) ?_
  intro pP eE sS mM aA bB mT cD A C hr hlk hA Q hQ
  have inX1 : ∀ w ∈ u_ws RX1 TX1 6, w ∈ wsX1_meeting := by decide +kernel
  have lk10 : Cond.fieldLink RX1 10 "RiverNames" "land" "LRiverNames$Land;" ∈ wsX1_meeting := by decide +kernel
  refine zv_go (pc' := 0) rfl (lv' := [(0, .ref (q 0)), (1, .int (nI p)), (2, .int (nI z))]) rfl rfl rfl rfl ?_
  refine zv_aload_n C dX1_meeting_0 1 rfl 0 rfl ?_
  refine zv_iload_n C dX1_meeting_1 2 rfl 1 rfl ?_
  refine zv_callVR (rest := []) C (k_X1_requirePlace l D cI cZ q h k b y n r f0 f1 f2 f3 f4 f5 f6 f7 f8 f9 f10 f11 f12 f13 n1 r1 g0 g1 g2 g3 g4 g5 g6 g7 g8 g9 g10 g11 g12 g13 bp bn p (by omega) (by omega)) (cwV 1 C.1.2.2.2.2 gX1_meeting_X1_requirePlace rfl rfl rfl (by decide +kernel) ⟨Nat.le_of_ble_eq_true rfl, Nat.le_of_ble_eq_true rfl⟩) dX1_meeting_2 5 rfl (ci := 1) 0 rfl rfl rfl rfl (Nat.le_of_ble_eq_true rfl) ⟨Nat.le_of_ble_eq_true rfl, Nat.le_of_ble_eq_true rfl⟩ [0, 1] rfl [0, 1, 2, 3, 4, 5, 6, 7, 8, 9, 10, 11, 12, 13, 14, 15, 16, 17, 18, 19, 20, 21, 22, 23, 24, 25, 26, 27, 28, 29, 30, 31, 32] rfl (by decide) (fun v hv => ?_)
  subst hv
  refine zv_go rfl rfl (st' := []) rfl (kc' := 0) rfl (ns' := 0) rfl ?_
  refine zv_aload_n C dX1_meeting_5 6 rfl 0 rfl ?_
  refine zv_iload_n C dX1_meeting_6 7 rfl 2 rfl ?_
  refine zv_callVR (rest := []) C (k_X1_requirePlace l D cI cZ q h k b y n r f0 f1 f2 f3 f4 f5 f6 f7 f8 f9 f10 f11 f12 f13 n1 r1 g0 g1 g2 g3 g4 g5 g6 g7 g8 g9 g10 g11 g12 g13 bp bn z (by omega) (by omega)) (cwV 1 C.1.2.2.2.2 gX1_meeting_X1_requirePlace rfl rfl rfl (by decide +kernel) ⟨Nat.le_of_ble_eq_true rfl, Nat.le_of_ble_eq_true rfl⟩) dX1_meeting_7 10 rfl (ci := 1) 0 rfl rfl rfl rfl (Nat.le_of_ble_eq_true rfl) ⟨Nat.le_of_ble_eq_true rfl, Nat.le_of_ble_eq_true rfl⟩ [0, 1] rfl [0, 1, 2, 3, 4, 5, 6, 7, 8, 9, 10, 11, 12, 13, 14, 15, 16, 17, 18, 19, 20, 21, 22, 23, 24, 25, 26, 27, 28, 29, 30, 31, 32] rfl (by decide) (fun v hv => ?_)
  subst hv
  refine zv_go rfl rfl (st' := []) rfl (kc' := 0) rfl (ns' := 0) rfl ?_
  refine zv_aload_n C dX1_meeting_10 11 rfl 0 rfl ?_
  refine zv_get (ci := 1) C inX1 rfl dX1_meeting_11 14 rfl 0 0 rfl (by decide) lk10 rfl ?_
  refine zv_iload_n C dX1_meeting_14 15 rfl 1 rfl ?_
  refine zv_iload_n C dX1_meeting_15 16 rfl 2 rfl ?_
  refine zv_callVR (rest := []) C (k_X0_firstCommon l D cI cZ h n r f0 f1 f2 f3 f4 f5 f6 f7 f8 f9 f10 f11 f12 f13 p z (by assumption) (by assumption) (by assumption) (by assumption)) (cwV 2 C.1.2.2.2.2 gX1_meeting_X0_firstCommon rfl rfl rfl (by decide +kernel) ⟨Nat.le_of_ble_eq_true rfl, Nat.le_of_ble_eq_true rfl⟩) dX1_meeting_16 19 rfl (ci := 0) 0 rfl rfl rfl rfl (Nat.le_of_ble_eq_true rfl) ⟨Nat.le_of_ble_eq_true rfl, Nat.le_of_ble_eq_true rfl⟩ [0, 1] rfl [1, 2, 3, 4, 5, 6, 7, 8, 9, 10, 11, 12, 13, 14, 15] rfl (by decide) (fun v hv => ?_)
  subst hv
  refine zv_go rfl rfl (st' := [.int (fc f0 z 16 (nI p))]) rfl (kc' := 0) rfl (ns' := 0) rfl ?_
  exact zv_iretR C hr hlk hA hQ dX1_meeting_19 rfl
abbrev rmX1_placesAbove : Room := { frames := 2, cells := 0, slots := 0, locals := 45 }
set_option maxHeartbeats 4000000 in
set_option maxRecDepth 100000 in
theorem k_X1_placesAbove (l : Launch) (D : va_G) (cI cZ : ClassId) (q h k : Nat → Nat) (b : Nat) (y : Int32) (n : Nat) (r : Int32) (f0 f1 f2 f3 f4 f5 f6 f7 f8 f9 f10 f11 f12 f13 : Nat → Int32) (n1 : Nat) (r1 : Int32) (g0 g1 g2 g3 g4 g5 g6 g7 g8 g9 g10 g11 g12 g13 : Nat → Int32) (bp bn : Nat → Int32) (p : Nat) (hn : n ≤ 16) (hp : p < n) (hw : Vw n f0) : zv_R l yX1_placesAbove wsX1_placesAbove rmX1_placesAbove D vwCl (tyL cI cZ) [.ref (q 0), .int (nI p)] (cR cI cZ q h k (nI b) y (nI n) r f0 f1 f2 f3 f4 f5 f6 f7 f8 f9 f10 f11 f12 f13 (nI n1) r1 g0 g1 g2 g3 g4 g5 g6 g7 g8 g9 g10 g11 g12 g13 bp bn) (fun v => v = some (.int (nI (ao n f0 p)))) := by
  refine zv_R.of cX1_placesAbove 4 (some .int) (by decide) rfl (Nat.le_of_ble_eq_true rfl) ?_
  intro pP eE sS mM aA bB mT cD A C hr hlk hA Q hQ
  have inX1 : ∀ w ∈ u_ws RX1 TX1 6, w ∈ wsX1_placesAbove := by decide +kernel
  have lk10 : Cond.fieldLink RX1 10 "RiverNames" "land" "LRiverNames$Land;" ∈ wsX1_placesAbove := by decide +kernel
  have L9 : ∀ (mu_L9 : Nat), ∀ (j t1 : Nat), (j ≤ n) → (t1 = cnb (fun x => fl f0 (nI p) 16 (f0 x)) j) → n - j < mu_L9 → zv_V pP l eE rmX1_placesAbove sS mM aA bB mT cD Q 4 D vwCl A (fun _ => True) (tyL cI cZ) (cR cI cZ q h k (nI b) y (nI n) r f0 f1 f2 f3 f4 f5 f6 f7 f8 f9 f10 f11 f12 f13 (nI n1) r1 g0 g1 g2 g3 g4 g5 g6 g7 g8 g9 g10 g11 g12 g13 bp bn) 0 0 9 [(0, .ref (q 0)), (1, .int (nI p)), (2, .int (nI t1)), (3, .int (nI j))] [] := by
    intro mu_L9
    induction mu_L9 with
    | zero => intro j t1 hj ht hmu_L9; exact absurd hmu_L9 (Nat.not_lt_zero _)
    | succ mu_L9 ih_L9 =>
      intro j t1 hj ht hmu_L9
      refine zv_iload_n C dX1_placesAbove_9 10 rfl 3 rfl ?_
      refine zv_aload_n C dX1_placesAbove_10 11 rfl 0 rfl ?_
      refine zv_get (ci := 1) C inX1 rfl dX1_placesAbove_11 14 rfl 0 0 rfl (by decide) lk10 rfl ?_
      refine zv_callVR (rest := [.int (nI j)]) C (k_X0_size l D cI cZ h n r f0 f1 f2 f3 f4 f5 f6 f7 f8 f9 f10 f11 f12 f13) (cwV 0 C.1.2.2.2.2 gX1_placesAbove_X0_size rfl rfl rfl (by decide +kernel) ⟨Nat.le_of_ble_eq_true rfl, Nat.le_of_ble_eq_true rfl⟩) dX1_placesAbove_14 17 rfl (ci := 0) 0 rfl rfl rfl rfl (Nat.le_of_ble_eq_true rfl) ⟨Nat.le_of_ble_eq_true rfl, Nat.le_of_ble_eq_true rfl⟩ [0, 1] rfl [1, 2, 3, 4, 5, 6, 7, 8, 9, 10, 11, 12, 13, 14, 15] rfl (by decide) (fun v hv => ?_)
      subst hv
      refine zv_go rfl rfl (st' := [.int (nI n), .int (nI j)]) rfl (kc' := 0) rfl (ns' := 0) rfl ?_
      refine zv_icmp_ge C dX1_placesAbove_17 20 41 rfl (by decide) (fun c1 => ?_) (fun c1 => ?_)
      · replace c1 := zn_le (a := n) (b := j) (by omega) (by omega) c1
        refine zv_iload_n C dX1_placesAbove_41 42 rfl 2 rfl ?_
        exact zv_iretR C hr hlk hA hQ dX1_placesAbove_42 (by have hjn : j = n := (by omega); subst hjn; rw [ht]; rfl)
      · replace c1 := zn_le' (a := n) (b := j) (by omega) (by omega) c1
        have hj1 : j < n := (by omega)
        refine zv_aload_n C dX1_placesAbove_20 21 rfl 0 rfl ?_
        refine zv_get (ci := 1) C inX1 rfl dX1_placesAbove_21 24 rfl 0 0 rfl (by decide) lk10 rfl ?_
        refine zv_iload_n C dX1_placesAbove_24 25 rfl 3 rfl ?_
        refine zv_iload_n C dX1_placesAbove_25 26 rfl 1 rfl ?_
        refine zv_callVR (rest := []) C (k_X0_flowsTo l D cI cZ h n r f0 f1 f2 f3 f4 f5 f6 f7 f8 f9 f10 f11 f12 f13 j (nI p) (by assumption) (by assumption) (by assumption)) (cwV 2 C.1.2.2.2.2 gX1_placesAbove_X0_flowsTo rfl rfl rfl (by decide +kernel) ⟨Nat.le_of_ble_eq_true rfl, Nat.le_of_ble_eq_true rfl⟩) dX1_placesAbove_26 29 rfl (ci := 0) 0 rfl rfl rfl rfl (Nat.le_of_ble_eq_true rfl) ⟨Nat.le_of_ble_eq_true rfl, Nat.le_of_ble_eq_true rfl⟩ [0, 1] rfl [1, 2, 3, 4, 5, 6, 7, 8, 9, 10, 11, 12, 13, 14, 15] rfl (by decide) (fun v hv => ?_)
        subst hv
        refine zv_go rfl rfl (st' := [.int (zb (fl f0 (nI p) 16 (f0 j)))]) rfl (kc' := 0) rfl (ns' := 0) rfl ?_
        refine zv_if_eq C dX1_placesAbove_29 32 35 rfl (by decide) (fun c2 => ?_) (fun c2 => ?_)
        · replace c2 := zb_eq0.mp c2
          refine zv_iinc (v := (nI (j + 1))) C dX1_placesAbove_35 38 rfl [(3, .int (nI (j + 1))), (0, .ref (q 0)), (1, .int (nI p)), (2, .int (nI t1))] 3 rfl (nI_1 j) (by decide) rfl ?_
          refine zv_goto C dX1_placesAbove_38 9 (by decide) ?_
          refine zv_sub [1, 2, 3, 0] (lv' := [(0, .ref (q 0)), (1, .int (nI p)), (2, .int (nI t1)), (3, .int (nI (j + 1)))]) rfl ?_
          exact ih_L9 (j + 1) t1 (by omega) (by rw [ht, cnb_n (fun x => fl f0 (nI p) 16 (f0 x)) c2]) (by omega)
        · replace c2 := zb_ne0.mp c2
          refine zv_iinc (v := (nI (t1 + 1))) C dX1_placesAbove_32 35 rfl [(2, .int (nI (t1 + 1))), (0, .ref (q 0)), (1, .int (nI p)), (3, .int (nI j))] 2 rfl (nI_1 t1) (by decide) rfl ?_
          refine zv_iinc (v := (nI (j + 1))) C dX1_placesAbove_35 38 rfl [(3, .int (nI (j + 1))), (2, .int (nI (t1 + 1))), (0, .ref (q 0)), (1, .int (nI p))] 3 rfl (nI_1 j) (by decide) rfl ?_
          refine zv_goto C dX1_placesAbove_38 9 (by decide) ?_
          refine zv_sub [2, 3, 1, 0] (lv' := [(0, .ref (q 0)), (1, .int (nI p)), (2, .int (nI (t1 + 1))), (3, .int (nI (j + 1)))]) rfl ?_
          exact ih_L9 (j + 1) (t1 + 1) (by omega) (by rw [ht, cnb_y (fun x => fl f0 (nI p) 16 (f0 x)) c2]) (by omega)
  refine zv_go (pc' := 0) rfl (lv' := [(0, .ref (q 0)), (1, .int (nI p))]) rfl rfl rfl rfl ?_
  refine zv_aload_n C dX1_placesAbove_0 1 rfl 0 rfl ?_
  refine zv_iload_n C dX1_placesAbove_1 2 rfl 1 rfl ?_
  refine zv_callVR (rest := []) C (k_X1_requirePlace l D cI cZ q h k b y n r f0 f1 f2 f3 f4 f5 f6 f7 f8 f9 f10 f11 f12 f13 n1 r1 g0 g1 g2 g3 g4 g5 g6 g7 g8 g9 g10 g11 g12 g13 bp bn p (by omega) (by omega)) (cwV 1 C.1.2.2.2.2 gX1_placesAbove_X1_requirePlace rfl rfl rfl (by decide +kernel) ⟨Nat.le_of_ble_eq_true rfl, Nat.le_of_ble_eq_true rfl⟩) dX1_placesAbove_2 5 rfl (ci := 1) 0 rfl rfl rfl rfl (Nat.le_of_ble_eq_true rfl) ⟨Nat.le_of_ble_eq_true rfl, Nat.le_of_ble_eq_true rfl⟩ [0, 1] rfl [0, 1, 2, 3, 4, 5, 6, 7, 8, 9, 10, 11, 12, 13, 14, 15, 16, 17, 18, 19, 20, 21, 22, 23, 24, 25, 26, 27, 28, 29, 30, 31, 32] rfl (by decide) (fun v hv => ?_)
  subst hv
  refine zv_go rfl rfl (st' := []) rfl (kc' := 0) rfl (ns' := 0) rfl ?_
  refine zv_iconst (v := 0) C dX1_placesAbove_5 6 rfl (by decide) ?_
  refine zv_istore_n C dX1_placesAbove_6 7 rfl [(2, .int 0), (0, .ref (q 0)), (1, .int (nI p))] (by decide) rfl ?_
  refine zv_iconst (v := 0) C dX1_placesAbove_7 8 rfl (by decide) ?_
  refine zv_istore_n C dX1_placesAbove_8 9 rfl [(3, .int 0), (2, .int 0), (0, .ref (q 0)), (1, .int (nI p))] (by decide) rfl ?_
  refine zv_sub [2, 3, 1, 0] (lv' := [(0, .ref (q 0)), (1, .int (nI p)), (2, .int 0), (3, .int 0)]) rfl ?_
  exact L9 _ 0 0 (by omega) rfl (Nat.lt_succ_self _)
abbrev rmX1_placesNamed : Room := { frames := 2, cells := 0, slots := 0, locals := 42 }
set_option maxHeartbeats 4000000 in
set_option maxRecDepth 100000 in
theorem k_X1_placesNamed (l : Launch) (D : va_G) (cI cZ : ClassId) (q h k : Nat → Nat) (b : Nat) (y : Int32) (n : Nat) (r : Int32) (f0 f1 f2 f3 f4 f5 f6 f7 f8 f9 f10 f11 f12 f13 : Nat → Int32) (n1 : Nat) (r1 : Int32) (g0 g1 g2 g3 g4 g5 g6 g7 g8 g9 g10 g11 g12 g13 : Nat → Int32) (bp bn : Nat → Int32) (x : Int32) (hn : n ≤ 16) (h1 : isI x 0 9 = true) : zv_R l yX1_placesNamed wsX1_placesNamed rmX1_placesNamed D vwCl (tyL cI cZ) [.ref (q 0), .int x] (cR cI cZ q h k (nI b) y (nI n) r f0 f1 f2 f3 f4 f5 f6 f7 f8 f9 f10 f11 f12 f13 (nI n1) r1 g0 g1 g2 g3 g4 g5 g6 g7 g8 g9 g10 g11 g12 g13 bp bn) (fun v => v = some (.int (nI (cnt f9 x n)))) := by
  refine zv_R.of cX1_placesNamed 2 (some .int) (by decide) rfl (Nat.le_of_ble_eq_true rfl) ?_
  intro pP eE sS mM aA bB mT cD A C hr hlk hA Q hQ
  have inX1 : ∀ w ∈ u_ws RX1 TX1 6, w ∈ wsX1_placesNamed := by decide +kernel
  have lk10 : Cond.fieldLink RX1 10 "RiverNames" "land" "LRiverNames$Land;" ∈ wsX1_placesNamed := by decide +kernel
  refine zv_go (pc' := 0) rfl (lv' := [(0, .ref (q 0)), (1, .int x)]) rfl rfl rfl rfl ?_
  refine zv_iload_n C dX1_placesNamed_0 1 rfl 1 rfl ?_
  refine zv_callSR (rest := []) C (k_X1_requireName l D cI cZ x (by assumption)) (cwS 1 C.1.2.2.2.2 gX1_placesNamed_X1_requireName rfl rfl rfl (by decide +kernel) ⟨Nat.le_of_ble_eq_true rfl, Nat.le_of_ble_eq_true rfl⟩) dX1_placesNamed_1 4 rfl rfl rfl (Nat.le_of_ble_eq_true rfl) ⟨Nat.le_of_ble_eq_true rfl, Nat.le_of_ble_eq_true rfl⟩ [0, 1] rfl [] rfl (by decide) (fun v hv => ?_)
  subst hv
  refine zv_go rfl rfl (st' := []) rfl (kc' := 0) rfl (ns' := 0) rfl ?_
  refine zv_aload_n C dX1_placesNamed_4 5 rfl 0 rfl ?_
  refine zv_get (ci := 1) C inX1 rfl dX1_placesNamed_5 8 rfl 0 0 rfl (by decide) lk10 rfl ?_
  refine zv_iload_n C dX1_placesNamed_8 9 rfl 1 rfl ?_
  refine zv_callVR (rest := []) C (k_X0_countNamed l D cI cZ h n r f0 f1 f2 f3 f4 f5 f6 f7 f8 f9 f10 f11 f12 f13 x (by omega)) (cwV 1 C.1.2.2.2.2 gX1_placesNamed_X0_countNamed rfl rfl rfl (by decide +kernel) ⟨Nat.le_of_ble_eq_true rfl, Nat.le_of_ble_eq_true rfl⟩) dX1_placesNamed_9 12 rfl (ci := 0) 0 rfl rfl rfl rfl (Nat.le_of_ble_eq_true rfl) ⟨Nat.le_of_ble_eq_true rfl, Nat.le_of_ble_eq_true rfl⟩ [0, 1] rfl [1, 2, 3, 4, 5, 6, 7, 8, 9, 10, 11, 12, 13, 14, 15] rfl (by decide) (fun v hv => ?_)
  subst hv
  refine zv_go rfl rfl (st' := [.int (nI (cnt f9 x n))]) rfl (kc' := 0) rfl (ns' := 0) rfl ?_
  exact zv_iretR C hr hlk hA hQ dX1_placesNamed_12 rfl
abbrev rmX1_nameless : Room := { frames := 1, cells := 0, slots := 0, locals := 23 }
set_option maxHeartbeats 4000000 in
set_option maxRecDepth 100000 in
theorem k_X1_nameless (l : Launch) (D : va_G) (cI cZ : ClassId) (q h k : Nat → Nat) (b : Nat) (y : Int32) (n : Nat) (r : Int32) (f0 f1 f2 f3 f4 f5 f6 f7 f8 f9 f10 f11 f12 f13 : Nat → Int32) (n1 : Nat) (r1 : Int32) (g0 g1 g2 g3 g4 g5 g6 g7 g8 g9 g10 g11 g12 g13 : Nat → Int32) (bp bn : Nat → Int32) (hn : n ≤ 16) : zv_R l yX1_nameless wsX1_nameless rmX1_nameless D vwCl (tyL cI cZ) [.ref (q 0)] (cR cI cZ q h k (nI b) y (nI n) r f0 f1 f2 f3 f4 f5 f6 f7 f8 f9 f10 f11 f12 f13 (nI n1) r1 g0 g1 g2 g3 g4 g5 g6 g7 g8 g9 g10 g11 g12 g13 bp bn) (fun v => v = some (.int (nI (cnt f9 (-1) n)))) := by
  refine zv_R.of cX1_nameless 1 (some .int) (by decide) rfl (Nat.le_of_ble_eq_true rfl) ?_
  intro pP eE sS mM aA bB mT cD A C hr hlk hA Q hQ
  have inX1 : ∀ w ∈ u_ws RX1 TX1 6, w ∈ wsX1_nameless := by decide +kernel
  have lk10 : Cond.fieldLink RX1 10 "RiverNames" "land" "LRiverNames$Land;" ∈ wsX1_nameless := by decide +kernel
  refine zv_go (pc' := 0) rfl (lv' := [(0, .ref (q 0))]) rfl rfl rfl rfl ?_
  refine zv_aload_n C dX1_nameless_0 1 rfl 0 rfl ?_
  refine zv_get (ci := 1) C inX1 rfl dX1_nameless_1 4 rfl 0 0 rfl (by decide) lk10 rfl ?_
  refine zv_iconst (v := (-1 : Int32)) C dX1_nameless_4 5 rfl (by decide) ?_
  refine zv_callVR (rest := []) C (k_X0_countNamed l D cI cZ h n r f0 f1 f2 f3 f4 f5 f6 f7 f8 f9 f10 f11 f12 f13 (-1 : Int32) (by omega)) (cwV 1 C.1.2.2.2.2 gX1_nameless_X0_countNamed rfl rfl rfl (by decide +kernel) ⟨Nat.le_of_ble_eq_true rfl, Nat.le_of_ble_eq_true rfl⟩) dX1_nameless_5 8 rfl (ci := 0) 0 rfl rfl rfl rfl (Nat.le_of_ble_eq_true rfl) ⟨Nat.le_of_ble_eq_true rfl, Nat.le_of_ble_eq_true rfl⟩ [0, 1] rfl [1, 2, 3, 4, 5, 6, 7, 8, 9, 10, 11, 12, 13, 14, 15] rfl (by decide) (fun v hv => ?_)
  subst hv
  refine zv_go rfl rfl (st' := [.int (nI (cnt f9 (-1 : Int32) n))]) rfl (kc' := 0) rfl (ns' := 0) rfl ?_
  exact zv_iretR C hr hlk hA hQ dX1_nameless_8 rfl
abbrev rmX1_greatestName : Room := { frames := 1, cells := 0, slots := 0, locals := 23 }
set_option maxHeartbeats 4000000 in
set_option maxRecDepth 100000 in
theorem k_X1_greatestName (l : Launch) (D : va_G) (cI cZ : ClassId) (q h k : Nat → Nat) (b : Nat) (y : Int32) (n : Nat) (r : Int32) (f0 f1 f2 f3 f4 f5 f6 f7 f8 f9 f10 f11 f12 f13 : Nat → Int32) (n1 : Nat) (r1 : Int32) (g0 g1 g2 g3 g4 g5 g6 g7 g8 g9 g10 g11 g12 g13 : Nat → Int32) (bp bn : Nat → Int32) (hn : n ≤ 16) : zv_R l yX1_greatestName wsX1_greatestName rmX1_greatestName D vwCl (tyL cI cZ) [.ref (q 0)] (cR cI cZ q h k (nI b) y (nI n) r f0 f1 f2 f3 f4 f5 f6 f7 f8 f9 f10 f11 f12 f13 (nI n1) r1 g0 g1 g2 g3 g4 g5 g6 g7 g8 g9 g10 g11 g12 g13 bp bn) (fun v => v = some (.int (gst f9 n 10))) := by
  refine zv_R.of cX1_greatestName 5 (some .int) (by decide) rfl (Nat.le_of_ble_eq_true rfl) ?_
  intro pP eE sS mM aA bB mT cD A C hr hlk hA Q hQ
  have inX1 : ∀ w ∈ u_ws RX1 TX1 6, w ∈ wsX1_greatestName := by decide +kernel
  have lk10 : Cond.fieldLink RX1 10 "RiverNames" "land" "LRiverNames$Land;" ∈ wsX1_greatestName := by decide +kernel
  have L6 : ∀ (mu_L6 : Nat), ∀ (j ms : Nat) (bs : Int32), (j ≤ 10) → (bs = gst f9 n j) → (ms = if bs = -1 then 0 else cnt f9 bs n) → 10 - j < mu_L6 → zv_V pP l eE rmX1_greatestName sS mM aA bB mT cD Q 5 D vwCl A (fun _ => True) (tyL cI cZ) (cR cI cZ q h k (nI b) y (nI n) r f0 f1 f2 f3 f4 f5 f6 f7 f8 f9 f10 f11 f12 f13 (nI n1) r1 g0 g1 g2 g3 g4 g5 g6 g7 g8 g9 g10 g11 g12 g13 bp bn) 0 0 6 [(0, .ref (q 0)), (1, .int bs), (2, .int (nI ms)), (3, .int (nI j))] [] := by
    intro mu_L6
    induction mu_L6 with
    | zero => intro j ms bs hj he hm hmu_L6; exact absurd hmu_L6 (Nat.not_lt_zero _)
    | succ mu_L6 ih_L6 =>
      intro j ms bs hj he hm hmu_L6
      refine zv_iload_n C dX1_greatestName_6 7 rfl 3 rfl ?_
      refine zv_bipush (v := 10) C dX1_greatestName_7 9 rfl (by decide) ?_
      refine zv_icmp_ge C dX1_greatestName_9 12 39 rfl (by decide) (fun c1 => ?_) (fun c1 => ?_)
      · replace c1 := zn_le (a := 10) (b := j) (by omega) (by omega) c1
        refine zv_iload_n C dX1_greatestName_39 40 rfl 1 rfl ?_
        exact zv_iretR C hr hlk hA hQ dX1_greatestName_40 (by have hj10 : j = 10 := (by omega); rw [he, hj10])
      · replace c1 := zn_le' (a := 10) (b := j) (by omega) (by omega) c1
        refine zv_aload_n C dX1_greatestName_12 13 rfl 0 rfl ?_
        refine zv_get (ci := 1) C inX1 rfl dX1_greatestName_13 16 rfl 0 0 rfl (by decide) lk10 rfl ?_
        refine zv_iload_n C dX1_greatestName_16 17 rfl 3 rfl ?_
        refine zv_callVR (rest := []) C (k_X0_countNamed l D cI cZ h n r f0 f1 f2 f3 f4 f5 f6 f7 f8 f9 f10 f11 f12 f13 (nI j) (by omega)) (cwV 1 C.1.2.2.2.2 gX1_greatestName_X0_countNamed rfl rfl rfl (by decide +kernel) ⟨Nat.le_of_ble_eq_true rfl, Nat.le_of_ble_eq_true rfl⟩) dX1_greatestName_17 20 rfl (ci := 0) 0 rfl rfl rfl rfl (Nat.le_of_ble_eq_true rfl) ⟨Nat.le_of_ble_eq_true rfl, Nat.le_of_ble_eq_true rfl⟩ [0, 1] rfl [1, 2, 3, 4, 5, 6, 7, 8, 9, 10, 11, 12, 13, 14, 15] rfl (by decide) (fun v hv => ?_)
        subst hv
        refine zv_go rfl rfl (st' := [.int (nI (cnt f9 (nI j) n))]) rfl (kc' := 0) rfl (ns' := 0) rfl ?_
        refine zv_istore C dX1_greatestName_20 22 rfl [(4, .int (nI (cnt f9 (nI j) n))), (0, .ref (q 0)), (1, .int bs), (2, .int (nI ms)), (3, .int (nI j))] (by decide) rfl ?_
        refine zv_iload C dX1_greatestName_22 24 rfl 0 rfl ?_
        refine zv_iload_n C dX1_greatestName_24 25 rfl 3 rfl ?_
        refine zv_icmp_le C dX1_greatestName_25 28 33 rfl (by decide) (fun c2 => ?_) (fun c2 => ?_)
        · have hcl := cnt_le f9 (nI j) n
          replace c2 := zn_le (a := cnt f9 (nI j) n) (b := ms) (by omega) (by split at hm <;> first | omega | (have := cnt_le f9 bs n; omega)) c2
          refine zv_iinc (v := (nI (j + 1))) C dX1_greatestName_33 36 rfl [(3, .int (nI (j + 1))), (4, .int (nI (cnt f9 (nI j) n))), (0, .ref (q 0)), (1, .int bs), (2, .int (nI ms))] 4 rfl (nI_1 j) (by decide) rfl ?_
          refine zv_goto C dX1_greatestName_36 6 (by decide) ?_
          refine zv_sub [2, 3, 4, 0] (lv' := [(0, .ref (q 0)), (1, .int bs), (2, .int (nI ms)), (3, .int (nI (j + 1)))]) rfl ?_
          exact ih_L6 (j + 1) ms bs (by omega) (gst_no he hm (by omega)).symm hm (by omega)
        · have hcl := cnt_le f9 (nI j) n
          replace c2 := zn_le' (a := cnt f9 (nI j) n) (b := ms) (by omega) (by split at hm <;> first | omega | (have := cnt_le f9 bs n; omega)) c2
          refine zv_iload C dX1_greatestName_28 30 rfl 0 rfl ?_
          refine zv_istore_n C dX1_greatestName_30 31 rfl [(2, .int (nI (cnt f9 (nI j) n))), (4, .int (nI (cnt f9 (nI j) n))), (0, .ref (q 0)), (1, .int bs), (3, .int (nI j))] (by decide) rfl ?_
          refine zv_iload_n C dX1_greatestName_31 32 rfl 4 rfl ?_
          refine zv_istore_n C dX1_greatestName_32 33 rfl [(1, .int (nI j)), (2, .int (nI (cnt f9 (nI j) n))), (4, .int (nI (cnt f9 (nI j) n))), (0, .ref (q 0)), (3, .int (nI j))] (by decide) rfl ?_
          refine zv_iinc (v := (nI (j + 1))) C dX1_greatestName_33 36 rfl [(3, .int (nI (j + 1))), (1, .int (nI j)), (2, .int (nI (cnt f9 (nI j) n))), (4, .int (nI (cnt f9 (nI j) n))), (0, .ref (q 0))] 4 rfl (nI_1 j) (by decide) rfl ?_
          refine zv_goto C dX1_greatestName_36 6 (by decide) ?_
          refine zv_sub [4, 1, 2, 0] (lv' := [(0, .ref (q 0)), (1, .int (nI j)), (2, .int (nI (cnt f9 (nI j) n))), (3, .int (nI (j + 1)))]) rfl ?_
          exact ih_L6 (j + 1) (cnt f9 (nI j) n) (nI j) (by omega) (gst_up he hm (by omega)).symm (by rw [if_neg (ne_m1 (by omega))]) (by omega)
  refine zv_go (pc' := 0) rfl (lv' := [(0, .ref (q 0))]) rfl rfl rfl rfl ?_
  refine zv_iconst (v := (-1 : Int32)) C dX1_greatestName_0 1 rfl (by decide) ?_
  refine zv_istore_n C dX1_greatestName_1 2 rfl [(1, .int (-1 : Int32)), (0, .ref (q 0))] (by decide) rfl ?_
  refine zv_iconst (v := 0) C dX1_greatestName_2 3 rfl (by decide) ?_
  refine zv_istore_n C dX1_greatestName_3 4 rfl [(2, .int 0), (1, .int (-1 : Int32)), (0, .ref (q 0))] (by decide) rfl ?_
  refine zv_iconst (v := 0) C dX1_greatestName_4 5 rfl (by decide) ?_
  refine zv_istore_n C dX1_greatestName_5 6 rfl [(3, .int 0), (2, .int 0), (1, .int (-1 : Int32)), (0, .ref (q 0))] (by decide) rfl ?_
  refine zv_sub [3, 2, 1, 0] (lv' := [(0, .ref (q 0)), (1, .int (-1 : Int32)), (2, .int 0), (3, .int 0)]) rfl ?_
  exact L6 _ 0 0 (-1) (by omega) rfl rfl (Nat.lt_succ_self _)
abbrev rmX1_placeOf : Room := { frames := 1, cells := 0, slots := 0, locals := 21 }
set_option maxHeartbeats 4000000 in
set_option maxRecDepth 100000 in
theorem k_X1_placeOf (l : Launch) (D : va_G) (cI cZ : ClassId) (q h k : Nat → Nat) (b : Nat) (y : Int32) (n : Nat) (r : Int32) (f0 f1 f2 f3 f4 f5 f6 f7 f8 f9 f10 f11 f12 f13 : Nat → Int32) (n1 : Nat) (r1 : Int32) (g0 g1 g2 g3 g4 g5 g6 g7 g8 g9 g10 g11 g12 g13 : Nat → Int32) (bp bn : Nat → Int32) (p : Nat) (hb : b ≤ 16) (hp : p < b) : zv_R l yX1_placeOf wsX1_placeOf rmX1_placeOf D vwCl (tyL cI cZ) [.ref (q 0), .int (nI p)] (cR cI cZ q h k (nI b) y (nI n) r f0 f1 f2 f3 f4 f5 f6 f7 f8 f9 f10 f11 f12 f13 (nI n1) r1 g0 g1 g2 g3 g4 g5 g6 g7 g8 g9 g10 g11 g12 g13 bp bn) (fun v => v = some (.int (bp p))) := by
  refine zv_R.of cX1_placeOf 2 (some .int) (by decide) rfl (Nat.le_of_ble_eq_true rfl) ?_
  intro pP eE sS mM aA bB mT cD A C hr hlk hA Q hQ
  have inX1 : ∀ w ∈ u_ws RX1 TX1 6, w ∈ wsX1_placeOf := by decide +kernel
  have lk19 : Cond.fieldLink RX1 19 "RiverNames" "bridgePlaces" "[I" ∈ wsX1_placeOf := by decide +kernel
  refine zv_go (pc' := 0) rfl (lv' := [(0, .ref (q 0)), (1, .int (nI p))]) rfl rfl rfl rfl ?_
  refine zv_aload_n C dX1_placeOf_0 1 rfl 0 rfl ?_
  refine zv_iload_n C dX1_placeOf_1 2 rfl 1 rfl ?_
  refine zv_callVR (rest := []) C (k_X1_requireBridge l D cI cZ q h k b y n r f0 f1 f2 f3 f4 f5 f6 f7 f8 f9 f10 f11 f12 f13 n1 r1 g0 g1 g2 g3 g4 g5 g6 g7 g8 g9 g10 g11 g12 g13 bp bn p (by omega) (by omega)) (cwV 1 C.1.2.2.2.2 gX1_placeOf_X1_requireBridge rfl rfl rfl (by decide +kernel) ⟨Nat.le_of_ble_eq_true rfl, Nat.le_of_ble_eq_true rfl⟩) dX1_placeOf_2 5 rfl (ci := 1) 0 rfl rfl rfl rfl (Nat.le_of_ble_eq_true rfl) ⟨Nat.le_of_ble_eq_true rfl, Nat.le_of_ble_eq_true rfl⟩ [0, 1] rfl [0, 1, 2, 3, 4, 5, 6, 7, 8, 9, 10, 11, 12, 13, 14, 15, 16, 17, 18, 19, 20, 21, 22, 23, 24, 25, 26, 27, 28, 29, 30, 31, 32] rfl (by decide) (fun v hv => ?_)
  subst hv
  refine zv_go rfl rfl (st' := []) rfl (kc' := 0) rfl (ns' := 0) rfl ?_
  refine zv_aload_n C dX1_placeOf_5 6 rfl 0 rfl ?_
  refine zv_get (ci := 1) C inX1 rfl dX1_placeOf_6 9 rfl 0 2 rfl (by decide) lk19 rfl ?_
  refine zv_iload_n C dX1_placeOf_9 10 rfl 1 rfl ?_
  refine zv_iald (v := (bp p)) C dX1_placeOf_10 11 rfl 31 0 p rfl rfl rfl (by omega) (by decide) rfl ?_
  exact zv_iretR C hr hlk hA hQ dX1_placeOf_11 rfl
abbrev rmX1_keeps : Room := { frames := 1, cells := 0, slots := 0, locals := 21 }
set_option maxHeartbeats 4000000 in
set_option maxRecDepth 100000 in
theorem k_X1_keeps (l : Launch) (D : va_G) (cI cZ : ClassId) (q h k : Nat → Nat) (b : Nat) (y : Int32) (n : Nat) (r : Int32) (f0 f1 f2 f3 f4 f5 f6 f7 f8 f9 f10 f11 f12 f13 : Nat → Int32) (n1 : Nat) (r1 : Int32) (g0 g1 g2 g3 g4 g5 g6 g7 g8 g9 g10 g11 g12 g13 : Nat → Int32) (bp bn : Nat → Int32) (p : Nat) (hb : b ≤ 16) (hp : p < b) : zv_R l yX1_keeps wsX1_keeps rmX1_keeps D vwCl (tyL cI cZ) [.ref (q 0), .int (nI p)] (cR cI cZ q h k (nI b) y (nI n) r f0 f1 f2 f3 f4 f5 f6 f7 f8 f9 f10 f11 f12 f13 (nI n1) r1 g0 g1 g2 g3 g4 g5 g6 g7 g8 g9 g10 g11 g12 g13 bp bn) (fun v => v = some (.int (bn p))) := by
  refine zv_R.of cX1_keeps 2 (some .int) (by decide) rfl (Nat.le_of_ble_eq_true rfl) ?_
  intro pP eE sS mM aA bB mT cD A C hr hlk hA Q hQ
  have inX1 : ∀ w ∈ u_ws RX1 TX1 6, w ∈ wsX1_keeps := by decide +kernel
  have lk23 : Cond.fieldLink RX1 23 "RiverNames" "bridgeNames" "[I" ∈ wsX1_keeps := by decide +kernel
  refine zv_go (pc' := 0) rfl (lv' := [(0, .ref (q 0)), (1, .int (nI p))]) rfl rfl rfl rfl ?_
  refine zv_aload_n C dX1_keeps_0 1 rfl 0 rfl ?_
  refine zv_iload_n C dX1_keeps_1 2 rfl 1 rfl ?_
  refine zv_callVR (rest := []) C (k_X1_requireBridge l D cI cZ q h k b y n r f0 f1 f2 f3 f4 f5 f6 f7 f8 f9 f10 f11 f12 f13 n1 r1 g0 g1 g2 g3 g4 g5 g6 g7 g8 g9 g10 g11 g12 g13 bp bn p (by omega) (by omega)) (cwV 1 C.1.2.2.2.2 gX1_keeps_X1_requireBridge rfl rfl rfl (by decide +kernel) ⟨Nat.le_of_ble_eq_true rfl, Nat.le_of_ble_eq_true rfl⟩) dX1_keeps_2 5 rfl (ci := 1) 0 rfl rfl rfl rfl (Nat.le_of_ble_eq_true rfl) ⟨Nat.le_of_ble_eq_true rfl, Nat.le_of_ble_eq_true rfl⟩ [0, 1] rfl [0, 1, 2, 3, 4, 5, 6, 7, 8, 9, 10, 11, 12, 13, 14, 15, 16, 17, 18, 19, 20, 21, 22, 23, 24, 25, 26, 27, 28, 29, 30, 31, 32] rfl (by decide) (fun v hv => ?_)
  subst hv
  refine zv_go rfl rfl (st' := []) rfl (kc' := 0) rfl (ns' := 0) rfl ?_
  refine zv_aload_n C dX1_keeps_5 6 rfl 0 rfl ?_
  refine zv_get (ci := 1) C inX1 rfl dX1_keeps_6 9 rfl 0 3 rfl (by decide) lk23 rfl ?_
  refine zv_iload_n C dX1_keeps_9 10 rfl 1 rfl ?_
  refine zv_iald (v := (bn p)) C dX1_keeps_10 11 rfl 32 0 p rfl rfl rfl (by omega) (by decide) rfl ?_
  exact zv_iretR C hr hlk hA hQ dX1_keeps_11 rfl
abbrev rmX1_suffersInsult : Room := { frames := 1, cells := 0, slots := 0, locals := 21 }
set_option maxHeartbeats 4000000 in
set_option maxRecDepth 100000 in
theorem k_X1_suffersInsult (l : Launch) (D : va_G) (cI cZ : ClassId) (q h k : Nat → Nat) (b : Nat) (y : Int32) (n : Nat) (r : Int32) (f0 f1 f2 f3 f4 f5 f6 f7 f8 f9 f10 f11 f12 f13 : Nat → Int32) (n1 : Nat) (r1 : Int32) (g0 g1 g2 g3 g4 g5 g6 g7 g8 g9 g10 g11 g12 g13 : Nat → Int32) (bp bn : Nat → Int32) (i : Nat) (hi : i < 16) (ha : ∃ z, z < 16 ∧ bp i = nI z) : zv_R l yX1_suffersInsult wsX1_suffersInsult rmX1_suffersInsult D vwCl (tyL cI cZ) [.ref (q 0), .int (nI i)] (cR cI cZ q h k (nI b) y (nI n) r f0 f1 f2 f3 f4 f5 f6 f7 f8 f9 f10 f11 f12 f13 (nI n1) r1 g0 g1 g2 g3 g4 g5 g6 g7 g8 g9 g10 g11 g12 g13 bp bn) (fun v => v = some (.int (zb (insd (bn i) (f9 (bp i).toNatClampNeg))))) := by
  refine zv_R.of cX1_suffersInsult 3 (some .boolean) (by decide) rfl (Nat.le_of_ble_eq_true rfl) ?_
  intro pP eE sS mM aA bB mT cD A C hr hlk hA Q hQ
  have inX1 : ∀ w ∈ u_ws RX1 TX1 6, w ∈ wsX1_suffersInsult := by decide +kernel
  have lk23 : Cond.fieldLink RX1 23 "RiverNames" "bridgeNames" "[I" ∈ wsX1_suffersInsult := by decide +kernel
  have lk10 : Cond.fieldLink RX1 10 "RiverNames" "land" "LRiverNames$Land;" ∈ wsX1_suffersInsult := by decide +kernel
  have lk19 : Cond.fieldLink RX1 19 "RiverNames" "bridgePlaces" "[I" ∈ wsX1_suffersInsult := by decide +kernel
  obtain ⟨z, hz, hzz⟩ := ha
  refine zv_go (pc' := 0) rfl (lv' := [(0, .ref (q 0)), (1, .int (nI i))]) rfl rfl rfl rfl ?_
  refine zv_aload_n C dX1_suffersInsult_0 1 rfl 0 rfl ?_
  refine zv_get (ci := 1) C inX1 rfl dX1_suffersInsult_1 4 rfl 0 3 rfl (by decide) lk23 rfl ?_
  refine zv_iload_n C dX1_suffersInsult_4 5 rfl 1 rfl ?_
  refine zv_iald (v := (bn i)) C dX1_suffersInsult_5 6 rfl 32 0 i rfl rfl rfl (by omega) (by decide) rfl ?_
  refine zv_istore_n C dX1_suffersInsult_6 7 rfl [(2, .int (bn i)), (0, .ref (q 0)), (1, .int (nI i))] (by decide) rfl ?_
  refine zv_iload_n C dX1_suffersInsult_7 8 rfl 0 rfl ?_
  refine zv_iconst (v := (-1 : Int32)) C dX1_suffersInsult_8 9 rfl (by decide) ?_
  refine zv_icmp_eq C dX1_suffersInsult_9 12 33 rfl (by decide) (fun c1 => ?_) (fun c1 => ?_)
  · refine zv_iconst (v := 0) C dX1_suffersInsult_33 34 rfl (by decide) ?_
    exact zv_zretR C (by decide) hr hlk hA hQ dX1_suffersInsult_34 (by rw [hzz, nI_clamp (by omega)]; simp [insd, zb, c1])
  · refine zv_iload_n C dX1_suffersInsult_12 13 rfl 0 rfl ?_
    refine zv_aload_n C dX1_suffersInsult_13 14 rfl 1 rfl ?_
    refine zv_get (ci := 1) C inX1 rfl dX1_suffersInsult_14 17 rfl 0 0 rfl (by decide) lk10 rfl ?_
    refine zv_aload_n C dX1_suffersInsult_17 18 rfl 1 rfl ?_
    refine zv_get (ci := 1) C inX1 rfl dX1_suffersInsult_18 21 rfl 0 2 rfl (by decide) lk19 rfl ?_
    refine zv_iload_n C dX1_suffersInsult_21 22 rfl 2 rfl ?_
    refine zv_iald (v := (nI z)) C dX1_suffersInsult_22 23 rfl 31 0 i rfl rfl rfl (by omega) (by decide) hzz ?_
    refine zv_callVR (rest := [.int (bn i)]) C (k_X0_nameOf l D cI cZ h n r f0 f1 f2 f3 f4 f5 f6 f7 f8 f9 f10 f11 f12 f13 z (by omega)) (cwV 1 C.1.2.2.2.2 gX1_suffersInsult_X0_nameOf rfl rfl rfl (by decide +kernel) ⟨Nat.le_of_ble_eq_true rfl, Nat.le_of_ble_eq_true rfl⟩) dX1_suffersInsult_23 26 rfl (ci := 0) 0 rfl rfl rfl rfl (Nat.le_of_ble_eq_true rfl) ⟨Nat.le_of_ble_eq_true rfl, Nat.le_of_ble_eq_true rfl⟩ [0, 1] rfl [1, 2, 3, 4, 5, 6, 7, 8, 9, 10, 11, 12, 13, 14, 15] rfl (by decide) (fun v hv => ?_)
    subst hv
    refine zv_go rfl rfl (st' := [.int (f9 z), .int (bn i)]) rfl (kc' := 0) rfl (ns' := 0) rfl ?_
    refine zv_icmp_eq C dX1_suffersInsult_26 29 33 rfl (by decide) (fun c2 => ?_) (fun c2 => ?_)
    · refine zv_iconst (v := 0) C dX1_suffersInsult_33 34 rfl (by decide) ?_
      exact zv_zretR C (by decide) hr hlk hA hQ dX1_suffersInsult_34 (by rw [hzz, nI_clamp (by omega)]; simp [insd, zb, c2.symm])
    · refine zv_iconst (v := 1) C dX1_suffersInsult_29 30 rfl (by decide) ?_
      refine zv_goto C dX1_suffersInsult_30 34 (by decide) ?_
      exact zv_zretR C (by decide) hr hlk hA hQ dX1_suffersInsult_34 (by rw [hzz, nI_clamp (by omega), insd, decide_eq_false c1, decide_eq_false (fun y => c2 y.symm)]; rfl)
abbrev rmX1_countInsults : Room := { frames := 2, cells := 0, slots := 0, locals := 43 }
set_option maxHeartbeats 4000000 in
set_option maxRecDepth 100000 in
theorem k_X1_countInsults (l : Launch) (D : va_G) (cI cZ : ClassId) (q h k : Nat → Nat) (b : Nat) (y : Int32) (n : Nat) (r : Int32) (f0 f1 f2 f3 f4 f5 f6 f7 f8 f9 f10 f11 f12 f13 : Nat → Int32) (n1 : Nat) (r1 : Int32) (g0 g1 g2 g3 g4 g5 g6 g7 g8 g9 g10 g11 g12 g13 : Nat → Int32) (bp bn : Nat → Int32) (hn : n ≤ 16) (hb : b ≤ 16) (hB : Brg n b bp) : zv_R l yX1_countInsults wsX1_countInsults rmX1_countInsults D vwCl (tyL cI cZ) [.ref (q 0)] (cR cI cZ q h k (nI b) y (nI n) r f0 f1 f2 f3 f4 f5 f6 f7 f8 f9 f10 f11 f12 f13 (nI n1) r1 g0 g1 g2 g3 g4 g5 g6 g7 g8 g9 g10 g11 g12 g13 bp bn) (fun v => v = some (.int (nI (inN bp bn f9 b)))) := by
  refine zv_R.of cX1_countInsults 3 (some .int) (by decide) rfl (Nat.le_of_ble_eq_true rfl) ?_
  intro pP eE sS mM aA bB mT cD A C hr hlk hA Q hQ
  have inX1 : ∀ w ∈ u_ws RX1 TX1 6, w ∈ wsX1_countInsults := by decide +kernel
  have lk26 : Cond.fieldLink RX1 26 "RiverNames" "bridgeCount" "I" ∈ wsX1_countInsults := by decide +kernel
  have L4 : ∀ (mu_L4 : Nat), ∀ (j t1 : Nat), (j ≤ b) → (t1 = cnb (fun i => insd (bn i) (f9 (bp i).toNatClampNeg)) j) → b - j < mu_L4 → zv_V pP l eE rmX1_countInsults sS mM aA bB mT cD Q 3 D vwCl A (fun _ => True) (tyL cI cZ) (cR cI cZ q h k (nI b) y (nI n) r f0 f1 f2 f3 f4 f5 f6 f7 f8 f9 f10 f11 f12 f13 (nI n1) r1 g0 g1 g2 g3 g4 g5 g6 g7 g8 g9 g10 g11 g12 g13 bp bn) 0 0 4 [(0, .ref (q 0)), (1, .int (nI t1)), (2, .int (nI j))] [] := by
    intro mu_L4
    induction mu_L4 with
    | zero => intro j t1 hj ht hmu_L4; exact absurd hmu_L4 (Nat.not_lt_zero _)
    | succ mu_L4 ih_L4 =>
      intro j t1 hj ht hmu_L4
      refine zv_iload_n C dX1_countInsults_4 5 rfl 2 rfl ?_
      refine zv_aload_n C dX1_countInsults_5 6 rfl 0 rfl ?_
      refine zv_get (ci := 1) C inX1 rfl dX1_countInsults_6 9 rfl 0 4 rfl (by decide) lk26 rfl ?_
      refine zv_icmp_ge C dX1_countInsults_9 12 29 rfl (by decide) (fun c1 => ?_) (fun c1 => ?_)
      · replace c1 := zn_le (a := b) (b := j) (by omega) (by omega) c1
        refine zv_iload_n C dX1_countInsults_29 30 rfl 1 rfl ?_
        exact zv_iretR C hr hlk hA hQ dX1_countInsults_30 (by have hjn : j = b := (by omega); rw [ht, hjn]; rfl)
      · replace c1 := zn_le' (a := b) (b := j) (by omega) (by omega) c1
        refine zv_aload_n C dX1_countInsults_12 13 rfl 0 rfl ?_
        refine zv_iload_n C dX1_countInsults_13 14 rfl 2 rfl ?_
        refine zv_callVR (rest := []) C (k_X1_suffersInsult l D cI cZ q h k b y n r f0 f1 f2 f3 f4 f5 f6 f7 f8 f9 f10 f11 f12 f13 n1 r1 g0 g1 g2 g3 g4 g5 g6 g7 g8 g9 g10 g11 g12 g13 bp bn j (by omega) (by obtain ⟨z, hz, e⟩ := hB j (by omega); exact ⟨z, by omega, e⟩)) (cwV 1 C.1.2.2.2.2 gX1_countInsults_X1_suffersInsult rfl rfl rfl (by decide +kernel) ⟨Nat.le_of_ble_eq_true rfl, Nat.le_of_ble_eq_true rfl⟩) dX1_countInsults_14 17 rfl (ci := 1) 0 rfl rfl rfl rfl (Nat.le_of_ble_eq_true rfl) ⟨Nat.le_of_ble_eq_true rfl, Nat.le_of_ble_eq_true rfl⟩ [0, 1] rfl [0, 1, 2, 3, 4, 5, 6, 7, 8, 9, 10, 11, 12, 13, 14, 15, 16, 17, 18, 19, 20, 21, 22, 23, 24, 25, 26, 27, 28, 29, 30, 31, 32] rfl (by decide) (fun v hv => ?_)
        subst hv
        refine zv_go rfl rfl (st' := [.int (zb (insd (bn j) (f9 (bp j).toNatClampNeg)))]) rfl (kc' := 0) rfl (ns' := 0) rfl ?_
        refine zv_if_eq C dX1_countInsults_17 20 23 rfl (by decide) (fun c2 => ?_) (fun c2 => ?_)
        · replace c2 := zb_eq0.mp c2
          refine zv_iinc (v := (nI (j + 1))) C dX1_countInsults_23 26 rfl [(2, .int (nI (j + 1))), (0, .ref (q 0)), (1, .int (nI t1))] 2 rfl (nI_1 j) (by decide) rfl ?_
          refine zv_goto C dX1_countInsults_26 4 (by decide) ?_
          refine zv_sub [1, 2, 0] (lv' := [(0, .ref (q 0)), (1, .int (nI t1)), (2, .int (nI (j + 1)))]) rfl ?_
          exact ih_L4 (j + 1) t1 (by omega) (by rw [ht]; exact (cnb_n (fun i => insd (bn i) (f9 (bp i).toNatClampNeg)) c2).symm) (by omega)
        · replace c2 := zb_ne0.mp c2
          refine zv_iinc (v := (nI (t1 + 1))) C dX1_countInsults_20 23 rfl [(1, .int (nI (t1 + 1))), (0, .ref (q 0)), (2, .int (nI j))] 1 rfl (nI_1 t1) (by decide) rfl ?_
          refine zv_iinc (v := (nI (j + 1))) C dX1_countInsults_23 26 rfl [(2, .int (nI (j + 1))), (1, .int (nI (t1 + 1))), (0, .ref (q 0))] 2 rfl (nI_1 j) (by decide) rfl ?_
          refine zv_goto C dX1_countInsults_26 4 (by decide) ?_
          refine zv_sub [2, 1, 0] (lv' := [(0, .ref (q 0)), (1, .int (nI (t1 + 1))), (2, .int (nI (j + 1)))]) rfl ?_
          exact ih_L4 (j + 1) (t1 + 1) (by omega) (by rw [ht]; exact (cnb_y (fun i => insd (bn i) (f9 (bp i).toNatClampNeg)) c2).symm) (by omega)
  refine zv_go (pc' := 0) rfl (lv' := [(0, .ref (q 0))]) rfl rfl rfl rfl ?_
  refine zv_iconst (v := 0) C dX1_countInsults_0 1 rfl (by decide) ?_
  refine zv_istore_n C dX1_countInsults_1 2 rfl [(1, .int 0), (0, .ref (q 0))] (by decide) rfl ?_
  refine zv_iconst (v := 0) C dX1_countInsults_2 3 rfl (by decide) ?_
  refine zv_istore_n C dX1_countInsults_3 4 rfl [(2, .int 0), (1, .int 0), (0, .ref (q 0))] (by decide) rfl ?_
  refine zv_sub [2, 1, 0] (lv' := [(0, .ref (q 0)), (1, .int 0), (2, .int 0)]) rfl ?_
  exact L4 _ 0 0 (by omega) rfl (Nat.lt_succ_self _)
abbrev rmX1_insults : Room := { frames := 3, cells := 0, slots := 0, locals := 65 }
set_option maxHeartbeats 4000000 in
set_option maxRecDepth 100000 in
theorem k_X1_insults (l : Launch) (D : va_G) (cI cZ : ClassId) (q h k : Nat → Nat) (b : Nat) (y : Int32) (n : Nat) (r : Int32) (f0 f1 f2 f3 f4 f5 f6 f7 f8 f9 f10 f11 f12 f13 : Nat → Int32) (n1 : Nat) (r1 : Int32) (g0 g1 g2 g3 g4 g5 g6 g7 g8 g9 g10 g11 g12 g13 : Nat → Int32) (bp bn : Nat → Int32) (hn : n ≤ 16) (hb : b ≤ 16) (hB : Brg n b bp) : zv_R l yX1_insults wsX1_insults rmX1_insults D vwCl (tyL cI cZ) [.ref (q 0)] (cR cI cZ q h k (nI b) y (nI n) r f0 f1 f2 f3 f4 f5 f6 f7 f8 f9 f10 f11 f12 f13 (nI n1) r1 g0 g1 g2 g3 g4 g5 g6 g7 g8 g9 g10 g11 g12 g13 bp bn) (fun v => v = some (.int (nI (inN bp bn f9 b)))) := by
  refine zv_R.of cX1_insults 1 (some .int) (by decide) rfl (Nat.le_of_ble_eq_true rfl) ?_
  intro pP eE sS mM aA bB mT cD A C hr hlk hA Q hQ
  refine zv_go (pc' := 0) rfl (lv' := [(0, .ref (q 0))]) rfl rfl rfl rfl ?_
  refine zv_aload_n C dX1_insults_0 1 rfl 0 rfl ?_
  refine zv_callVR (rest := []) C (k_X1_countInsults l D cI cZ q h k b y n r f0 f1 f2 f3 f4 f5 f6 f7 f8 f9 f10 f11 f12 f13 n1 r1 g0 g1 g2 g3 g4 g5 g6 g7 g8 g9 g10 g11 g12 g13 bp bn (by omega) (by omega) (by assumption)) (cwV 0 C.1.2.2.2.2 gX1_insults_X1_countInsults rfl rfl rfl (by decide +kernel) ⟨Nat.le_of_ble_eq_true rfl, Nat.le_of_ble_eq_true rfl⟩) dX1_insults_1 4 rfl (ci := 1) 0 rfl rfl rfl rfl (Nat.le_of_ble_eq_true rfl) ⟨Nat.le_of_ble_eq_true rfl, Nat.le_of_ble_eq_true rfl⟩ [0, 1] rfl [0, 1, 2, 3, 4, 5, 6, 7, 8, 9, 10, 11, 12, 13, 14, 15, 16, 17, 18, 19, 20, 21, 22, 23, 24, 25, 26, 27, 28, 29, 30, 31, 32] rfl (by decide) (fun v hv => ?_)
  subst hv
  refine zv_go rfl rfl (st' := [.int (nI (inN bp bn f9 b))]) rfl (kc' := 0) rfl (ns' := 0) rfl ?_
  exact zv_iretR C hr hlk hA hQ dX1_insults_4 rfl
abbrev rmX1_isInsulted : Room := { frames := 2, cells := 0, slots := 0, locals := 43 }
set_option maxHeartbeats 4000000 in
set_option maxRecDepth 100000 in
theorem k_X1_isInsulted (l : Launch) (D : va_G) (cI cZ : ClassId) (q h k : Nat → Nat) (b : Nat) (y : Int32) (n : Nat) (r : Int32) (f0 f1 f2 f3 f4 f5 f6 f7 f8 f9 f10 f11 f12 f13 : Nat → Int32) (n1 : Nat) (r1 : Int32) (g0 g1 g2 g3 g4 g5 g6 g7 g8 g9 g10 g11 g12 g13 : Nat → Int32) (bp bn : Nat → Int32) (p : Nat) (hn : n ≤ 16) (hb : b ≤ 16) (hB : Brg n b bp) (hp : p < b) : zv_R l yX1_isInsulted wsX1_isInsulted rmX1_isInsulted D vwCl (tyL cI cZ) [.ref (q 0), .int (nI p)] (cR cI cZ q h k (nI b) y (nI n) r f0 f1 f2 f3 f4 f5 f6 f7 f8 f9 f10 f11 f12 f13 (nI n1) r1 g0 g1 g2 g3 g4 g5 g6 g7 g8 g9 g10 g11 g12 g13 bp bn) (fun v => v = some (.int (zb (insd (bn p) (f9 (bp p).toNatClampNeg))))) := by
  refine zv_R.of cX1_isInsulted 2 (some .boolean) (by decide) rfl (Nat.le_of_ble_eq_true rfl) ?_
  intro pP eE sS mM aA bB mT cD A C hr hlk hA Q hQ
  refine zv_go (pc' := 0) rfl (lv' := [(0, .ref (q 0)), (1, .int (nI p))]) rfl rfl rfl rfl ?_
  refine zv_aload_n C dX1_isInsulted_0 1 rfl 0 rfl ?_
  refine zv_iload_n C dX1_isInsulted_1 2 rfl 1 rfl ?_
  refine zv_callVR (rest := []) C (k_X1_requireBridge l D cI cZ q h k b y n r f0 f1 f2 f3 f4 f5 f6 f7 f8 f9 f10 f11 f12 f13 n1 r1 g0 g1 g2 g3 g4 g5 g6 g7 g8 g9 g10 g11 g12 g13 bp bn p (by omega) (by omega)) (cwV 1 C.1.2.2.2.2 gX1_isInsulted_X1_requireBridge rfl rfl rfl (by decide +kernel) ⟨Nat.le_of_ble_eq_true rfl, Nat.le_of_ble_eq_true rfl⟩) dX1_isInsulted_2 5 rfl (ci := 1) 0 rfl rfl rfl rfl (Nat.le_of_ble_eq_true rfl) ⟨Nat.le_of_ble_eq_true rfl, Nat.le_of_ble_eq_true rfl⟩ [0, 1] rfl [0, 1, 2, 3, 4, 5, 6, 7, 8, 9, 10, 11, 12, 13, 14, 15, 16, 17, 18, 19, 20, 21, 22, 23, 24, 25, 26, 27, 28, 29, 30, 31, 32] rfl (by decide) (fun v hv => ?_)
  subst hv
  refine zv_go rfl rfl (st' := []) rfl (kc' := 0) rfl (ns' := 0) rfl ?_
  refine zv_aload_n C dX1_isInsulted_5 6 rfl 0 rfl ?_
  refine zv_iload_n C dX1_isInsulted_6 7 rfl 1 rfl ?_
  refine zv_callVR (rest := []) C (k_X1_suffersInsult l D cI cZ q h k b y n r f0 f1 f2 f3 f4 f5 f6 f7 f8 f9 f10 f11 f12 f13 n1 r1 g0 g1 g2 g3 g4 g5 g6 g7 g8 g9 g10 g11 g12 g13 bp bn p (by omega) (by obtain ⟨z, hz, e⟩ := hB p (by omega); exact ⟨z, by omega, e⟩)) (cwV 1 C.1.2.2.2.2 gX1_isInsulted_X1_suffersInsult rfl rfl rfl (by decide +kernel) ⟨Nat.le_of_ble_eq_true rfl, Nat.le_of_ble_eq_true rfl⟩) dX1_isInsulted_7 10 rfl (ci := 1) 0 rfl rfl rfl rfl (Nat.le_of_ble_eq_true rfl) ⟨Nat.le_of_ble_eq_true rfl, Nat.le_of_ble_eq_true rfl⟩ [0, 1] rfl [0, 1, 2, 3, 4, 5, 6, 7, 8, 9, 10, 11, 12, 13, 14, 15, 16, 17, 18, 19, 20, 21, 22, 23, 24, 25, 26, 27, 28, 29, 30, 31, 32] rfl (by decide) (fun v hv => ?_)
  subst hv
  refine zv_go rfl rfl (st' := [.int (zb (insd (bn p) (f9 (bp p).toNatClampNeg)))]) rfl (kc' := 0) rfl (ns' := 0) rfl ?_
  exact zv_zretR C (zb_narrow _) hr hlk hA hQ dX1_isInsulted_10 rfl
abbrev rmX1_insultsAt : Room := { frames := 2, cells := 0, slots := 0, locals := 43 }
set_option maxHeartbeats 4000000 in
set_option maxRecDepth 100000 in
theorem k_X1_insultsAt (l : Launch) (D : va_G) (cI cZ : ClassId) (q h k : Nat → Nat) (b : Nat) (y : Int32) (n : Nat) (r : Int32) (f0 f1 f2 f3 f4 f5 f6 f7 f8 f9 f10 f11 f12 f13 : Nat → Int32) (n1 : Nat) (r1 : Int32) (g0 g1 g2 g3 g4 g5 g6 g7 g8 g9 g10 g11 g12 g13 : Nat → Int32) (bp bn : Nat → Int32) (p : Nat) (hn : n ≤ 16) (hb : b ≤ 16) (hB : Brg n b bp) (hp : p < n) : zv_R l yX1_insultsAt wsX1_insultsAt rmX1_insultsAt D vwCl (tyL cI cZ) [.ref (q 0), .int (nI p)] (cR cI cZ q h k (nI b) y (nI n) r f0 f1 f2 f3 f4 f5 f6 f7 f8 f9 f10 f11 f12 f13 (nI n1) r1 g0 g1 g2 g3 g4 g5 g6 g7 g8 g9 g10 g11 g12 g13 bp bn) (fun v => v = some (.int (nI (inP bp bn f9 p b)))) := by
  refine zv_R.of cX1_insultsAt 4 (some .int) (by decide) rfl (Nat.le_of_ble_eq_true rfl) ?_
  intro pP eE sS mM aA bB mT cD A C hr hlk hA Q hQ
  have inX1 : ∀ w ∈ u_ws RX1 TX1 6, w ∈ wsX1_insultsAt := by decide +kernel
  have lk26 : Cond.fieldLink RX1 26 "RiverNames" "bridgeCount" "I" ∈ wsX1_insultsAt := by decide +kernel
  have lk19 : Cond.fieldLink RX1 19 "RiverNames" "bridgePlaces" "[I" ∈ wsX1_insultsAt := by decide +kernel
  have L9 : ∀ (mu_L9 : Nat), ∀ (j t1 : Nat), (j ≤ b) → (t1 = cnb (fun i => decide (bp i = nI p) && insd (bn i) (f9 (bp i).toNatClampNeg)) j) → b - j < mu_L9 → zv_V pP l eE rmX1_insultsAt sS mM aA bB mT cD Q 4 D vwCl A (fun _ => True) (tyL cI cZ) (cR cI cZ q h k (nI b) y (nI n) r f0 f1 f2 f3 f4 f5 f6 f7 f8 f9 f10 f11 f12 f13 (nI n1) r1 g0 g1 g2 g3 g4 g5 g6 g7 g8 g9 g10 g11 g12 g13 bp bn) 0 0 9 [(0, .ref (q 0)), (1, .int (nI p)), (2, .int (nI t1)), (3, .int (nI j))] [] := by
    intro mu_L9
    induction mu_L9 with
    | zero => intro j t1 hj ht hmu_L9; exact absurd hmu_L9 (Nat.not_lt_zero _)
    | succ mu_L9 ih_L9 =>
      intro j t1 hj ht hmu_L9
      refine zv_iload_n C dX1_insultsAt_9 10 rfl 3 rfl ?_
      refine zv_aload_n C dX1_insultsAt_10 11 rfl 0 rfl ?_
      refine zv_get (ci := 1) C inX1 rfl dX1_insultsAt_11 14 rfl 0 4 rfl (by decide) lk26 rfl ?_
      refine zv_icmp_ge C dX1_insultsAt_14 17 44 rfl (by decide) (fun c1 => ?_) (fun c1 => ?_)
      · replace c1 := zn_le (a := b) (b := j) (by omega) (by omega) c1
        refine zv_iload_n C dX1_insultsAt_44 45 rfl 2 rfl ?_
        exact zv_iretR C hr hlk hA hQ dX1_insultsAt_45 (by have hjn : j = b := (by omega); rw [ht, hjn]; rfl)
      · replace c1 := zn_le' (a := b) (b := j) (by omega) (by omega) c1
        refine zv_aload_n C dX1_insultsAt_17 18 rfl 0 rfl ?_
        refine zv_get (ci := 1) C inX1 rfl dX1_insultsAt_18 21 rfl 0 2 rfl (by decide) lk19 rfl ?_
        refine zv_iload_n C dX1_insultsAt_21 22 rfl 3 rfl ?_
        refine zv_iald (v := (bp j)) C dX1_insultsAt_22 23 rfl 31 0 j rfl rfl rfl (by omega) (by decide) rfl ?_
        refine zv_iload_n C dX1_insultsAt_23 24 rfl 1 rfl ?_
        refine zv_icmp_ne C dX1_insultsAt_24 27 38 rfl (by decide) (fun c2 => ?_) (fun c2 => ?_)
        · refine zv_iinc (v := (nI (j + 1))) C dX1_insultsAt_38 41 rfl [(3, .int (nI (j + 1))), (0, .ref (q 0)), (1, .int (nI p)), (2, .int (nI t1))] 3 rfl (nI_1 j) (by decide) rfl ?_
          refine zv_goto C dX1_insultsAt_41 9 (by decide) ?_
          refine zv_sub [1, 2, 3, 0] (lv' := [(0, .ref (q 0)), (1, .int (nI p)), (2, .int (nI t1)), (3, .int (nI (j + 1)))]) rfl ?_
          exact ih_L9 (j + 1) t1 (by omega) (by rw [ht]; exact (cnb_n (fun i => decide (bp i = nI p) && insd (bn i) (f9 (bp i).toNatClampNeg)) (by simp [c2])).symm) (by omega)
        · refine zv_aload_n C dX1_insultsAt_27 28 rfl 0 rfl ?_
          refine zv_iload_n C dX1_insultsAt_28 29 rfl 3 rfl ?_
          refine zv_callVR (rest := []) C (k_X1_suffersInsult l D cI cZ q h k b y n r f0 f1 f2 f3 f4 f5 f6 f7 f8 f9 f10 f11 f12 f13 n1 r1 g0 g1 g2 g3 g4 g5 g6 g7 g8 g9 g10 g11 g12 g13 bp bn j (by omega) (by obtain ⟨z, hz, e⟩ := hB j (by omega); exact ⟨z, by omega, e⟩)) (cwV 1 C.1.2.2.2.2 gX1_insultsAt_X1_suffersInsult rfl rfl rfl (by decide +kernel) ⟨Nat.le_of_ble_eq_true rfl, Nat.le_of_ble_eq_true rfl⟩) dX1_insultsAt_29 32 rfl (ci := 1) 0 rfl rfl rfl rfl (Nat.le_of_ble_eq_true rfl) ⟨Nat.le_of_ble_eq_true rfl, Nat.le_of_ble_eq_true rfl⟩ [0, 1] rfl [0, 1, 2, 3, 4, 5, 6, 7, 8, 9, 10, 11, 12, 13, 14, 15, 16, 17, 18, 19, 20, 21, 22, 23, 24, 25, 26, 27, 28, 29, 30, 31, 32] rfl (by decide) (fun v hv => ?_)
          subst hv
          refine zv_go rfl rfl (st' := [.int (zb (insd (bn j) (f9 (bp j).toNatClampNeg)))]) rfl (kc' := 0) rfl (ns' := 0) rfl ?_
          refine zv_if_eq C dX1_insultsAt_32 35 38 rfl (by decide) (fun c3 => ?_) (fun c3 => ?_)
          · replace c3 := zb_eq0.mp c3
            refine zv_iinc (v := (nI (j + 1))) C dX1_insultsAt_38 41 rfl [(3, .int (nI (j + 1))), (0, .ref (q 0)), (1, .int (nI p)), (2, .int (nI t1))] 3 rfl (nI_1 j) (by decide) rfl ?_
            refine zv_goto C dX1_insultsAt_41 9 (by decide) ?_
            refine zv_sub [1, 2, 3, 0] (lv' := [(0, .ref (q 0)), (1, .int (nI p)), (2, .int (nI t1)), (3, .int (nI (j + 1)))]) rfl ?_
            exact ih_L9 (j + 1) t1 (by omega) (by rw [ht]; exact (cnb_n (fun i => decide (bp i = nI p) && insd (bn i) (f9 (bp i).toNatClampNeg)) (by simp [c3])).symm) (by omega)
          · replace c3 := zb_ne0.mp c3
            refine zv_iinc (v := (nI (t1 + 1))) C dX1_insultsAt_35 38 rfl [(2, .int (nI (t1 + 1))), (0, .ref (q 0)), (1, .int (nI p)), (3, .int (nI j))] 2 rfl (nI_1 t1) (by decide) rfl ?_
            refine zv_iinc (v := (nI (j + 1))) C dX1_insultsAt_38 41 rfl [(3, .int (nI (j + 1))), (2, .int (nI (t1 + 1))), (0, .ref (q 0)), (1, .int (nI p))] 3 rfl (nI_1 j) (by decide) rfl ?_
            refine zv_goto C dX1_insultsAt_41 9 (by decide) ?_
            refine zv_sub [2, 3, 1, 0] (lv' := [(0, .ref (q 0)), (1, .int (nI p)), (2, .int (nI (t1 + 1))), (3, .int (nI (j + 1)))]) rfl ?_
            exact ih_L9 (j + 1) (t1 + 1) (by omega) (by rw [ht]; exact (cnb_y (fun i => decide (bp i = nI p) && insd (bn i) (f9 (bp i).toNatClampNeg)) (by show (decide (bp j = nI p) && insd (bn j) (f9 (bp j).toNatClampNeg)) = true; rw [c3, Bool.and_true]; exact decide_eq_true c2)).symm) (by omega)
  refine zv_go (pc' := 0) rfl (lv' := [(0, .ref (q 0)), (1, .int (nI p))]) rfl rfl rfl rfl ?_
  refine zv_aload_n C dX1_insultsAt_0 1 rfl 0 rfl ?_
  refine zv_iload_n C dX1_insultsAt_1 2 rfl 1 rfl ?_
  refine zv_callVR (rest := []) C (k_X1_requirePlace l D cI cZ q h k b y n r f0 f1 f2 f3 f4 f5 f6 f7 f8 f9 f10 f11 f12 f13 n1 r1 g0 g1 g2 g3 g4 g5 g6 g7 g8 g9 g10 g11 g12 g13 bp bn p (by omega) (by omega)) (cwV 1 C.1.2.2.2.2 gX1_insultsAt_X1_requirePlace rfl rfl rfl (by decide +kernel) ⟨Nat.le_of_ble_eq_true rfl, Nat.le_of_ble_eq_true rfl⟩) dX1_insultsAt_2 5 rfl (ci := 1) 0 rfl rfl rfl rfl (Nat.le_of_ble_eq_true rfl) ⟨Nat.le_of_ble_eq_true rfl, Nat.le_of_ble_eq_true rfl⟩ [0, 1] rfl [0, 1, 2, 3, 4, 5, 6, 7, 8, 9, 10, 11, 12, 13, 14, 15, 16, 17, 18, 19, 20, 21, 22, 23, 24, 25, 26, 27, 28, 29, 30, 31, 32] rfl (by decide) (fun v hv => ?_)
  subst hv
  refine zv_go rfl rfl (st' := []) rfl (kc' := 0) rfl (ns' := 0) rfl ?_
  refine zv_iconst (v := 0) C dX1_insultsAt_5 6 rfl (by decide) ?_
  refine zv_istore_n C dX1_insultsAt_6 7 rfl [(2, .int 0), (0, .ref (q 0)), (1, .int (nI p))] (by decide) rfl ?_
  refine zv_iconst (v := 0) C dX1_insultsAt_7 8 rfl (by decide) ?_
  refine zv_istore_n C dX1_insultsAt_8 9 rfl [(3, .int 0), (2, .int 0), (0, .ref (q 0)), (1, .int (nI p))] (by decide) rfl ?_
  refine zv_sub [2, 3, 1, 0] (lv' := [(0, .ref (q 0)), (1, .int (nI p)), (2, .int 0), (3, .int 0)]) rfl ?_
  exact L9 _ 0 0 (by omega) rfl (Nat.lt_succ_self _)
