abbrev rtX1_requirePlace : Room := { frames := 6, cells := 1, slots := 6, locals := 90 }
set_option maxHeartbeats 4000000 in
set_option maxRecDepth 100000 in
theorem k_X1_requirePlace_t (l : Launch) (D : va_G) (cI cZ : ClassId) (q h k : Nat → Nat) (b : Nat) (y : Int32) (n : Nat) (r : Int32) (f0 f1 f2 f3 f4 f5 f6 f7 f8 f9 f10 f11 f12 f13 : Nat → Int32) (n1 : Nat) (r1 : Int32) (g0 g1 g2 g3 g4 g5 g6 g7 g8 g9 g10 g11 g12 g13 : Nat → Int32) (bp bn : Nat → Int32) (i : Int32) (hn : n ≤ 16) (hf : isP n i = false) (hl : l.stackTraces = false) : zv_T l yX1_requirePlace wsX1_requirePlace rtX1_requirePlace xIO D vwCl (tyL cI cZ) [.ref (q 0), .int i] (cR cI cZ q h k (nI b) y (nI n) r f0 f1 f2 f3 f4 f5 f6 f7 f8 f9 f10 f11 f12 f13 (nI n1) r1 g0 g1 g2 g3 g4 g5 g6 g7 g8 g9 g10 g11 g12 g13 bp bn) := by
  refine zv_T.of cX1_requirePlace 2 none (by decide) rfl (Nat.le_of_ble_eq_true rfl) ?_
  intro pP eE sS mM aA bB mT cD A C htab hlk hA hE Q hQ
  have inX1 : ∀ w ∈ u_ws RX1 TX1 6, w ∈ wsX1_requirePlace := by decide +kernel
  have lk10 : Cond.fieldLink RX1 10 "RiverNames" "land" "LRiverNames$Land;" ∈ wsX1_requirePlace := by decide +kernel
  refine zv_go (pc' := 0) rfl (lv' := [(0, .ref (q 0)), (1, .int i)]) rfl rfl rfl rfl ?_
  refine zv_aload_n C dX1_requirePlace_0 1 rfl 0 rfl ?_
  refine zv_get (ci := 1) C inX1 rfl dX1_requirePlace_1 4 rfl 0 0 rfl (by decide) lk10 rfl ?_
  refine zv_iload_n C dX1_requirePlace_4 5 rfl 1 rfl ?_
  refine zv_callVR (rest := []) C (k_X0_isPlace l D cI cZ h n r f0 f1 f2 f3 f4 f5 f6 f7 f8 f9 f10 f11 f12 f13 i) (cwV 1 C.1.2.2.2.2 gX1_requirePlace_X0_isPlace rfl rfl rfl (by decide +kernel) ⟨Nat.le_of_ble_eq_true rfl, Nat.le_of_ble_eq_true rfl⟩) dX1_requirePlace_5 8 rfl (ci := 0) 0 rfl rfl rfl rfl (Nat.le_of_ble_eq_true rfl) ⟨Nat.le_of_ble_eq_true rfl, Nat.le_of_ble_eq_true rfl⟩ [0, 1] rfl [1, 2, 3, 4, 5, 6, 7, 8, 9, 10, 11, 12, 13, 14, 15] rfl (by decide) (fun v hv => ?_)
  subst hv
  refine zv_go rfl rfl (st' := [.int (zb (isP n i))]) rfl (kc' := 0) rfl (ns' := 0) rfl ?_
  refine zv_if_ne C dX1_requirePlace_8 11 21 rfl (by decide) (fun c1 => ?_) (fun c1 => ?_)
  · exact absurd hf (by rw [zb_ne0.mp c1]; decide)
  · exact zv_thr (E := xIO) (text := "there is no such place") (is := 235) C hA hl hE htab hlk hQ dX1_requirePlace_11 dX1_requirePlace_14 dX1_requirePlace_15 dX1_requirePlace_17 dX1_requirePlace_20 (by decide) (by decide +kernel) (by decide +kernel) (by decide +kernel) (by decide +kernel) xb_io (by decide +kernel) ⟨Nat.le_of_ble_eq_true rfl, Nat.le_of_ble_eq_true rfl, Nat.le_of_ble_eq_true rfl, Nat.le_of_ble_eq_true rfl⟩ (Nat.le_of_ble_eq_true rfl) (Nat.le_of_ble_eq_true rfl) (Nat.le_of_ble_eq_true rfl)
theorem isP_lt {b : Nat} (hb : b ≤ 16) {i : Int32} (h0 : ¬ i < 0) (h : i < nI b) : isP b i = true := by
  simp [isP]
  exact ⟨Int32.not_lt.mp h0, h⟩
abbrev rtX1_requireBridge : Room := { frames := 6, cells := 1, slots := 6, locals := 90 }
set_option maxHeartbeats 4000000 in
set_option maxRecDepth 100000 in
theorem k_X1_requireBridge_t (l : Launch) (D : va_G) (cI cZ : ClassId) (q h k : Nat → Nat) (b : Nat) (y : Int32) (n : Nat) (r : Int32) (f0 f1 f2 f3 f4 f5 f6 f7 f8 f9 f10 f11 f12 f13 : Nat → Int32) (n1 : Nat) (r1 : Int32) (g0 g1 g2 g3 g4 g5 g6 g7 g8 g9 g10 g11 g12 g13 : Nat → Int32) (bp bn : Nat → Int32) (i : Int32) (hb : b ≤ 16) (hf : isP b i = false) (hl : l.stackTraces = false) : zv_T l yX1_requireBridge wsX1_requireBridge rtX1_requireBridge xIO D vwCl (tyL cI cZ) [.ref (q 0), .int i] (cR cI cZ q h k (nI b) y (nI n) r f0 f1 f2 f3 f4 f5 f6 f7 f8 f9 f10 f11 f12 f13 (nI n1) r1 g0 g1 g2 g3 g4 g5 g6 g7 g8 g9 g10 g11 g12 g13 bp bn) := by
  refine zv_T.of cX1_requireBridge 2 none (by decide) rfl (Nat.le_of_ble_eq_true rfl) ?_
  intro pP eE sS mM aA bB mT cD A C htab hlk hA hE Q hQ
  have inX1 : ∀ w ∈ u_ws RX1 TX1 6, w ∈ wsX1_requireBridge := by decide +kernel
  have lk26 : Cond.fieldLink RX1 26 "RiverNames" "bridgeCount" "I" ∈ wsX1_requireBridge := by decide +kernel
  refine zv_go (pc' := 0) rfl (lv' := [(0, .ref (q 0)), (1, .int i)]) rfl rfl rfl rfl ?_
  refine zv_iload_n C dX1_requireBridge_0 1 rfl 1 rfl ?_
  refine zv_if_lt C dX1_requireBridge_1 4 12 rfl (by decide) (fun c1 => ?_) (fun c1 => ?_)
  · exact zv_thr (E := xIO) (text := "there is no such bridge") (is := 238) C hA hl hE htab hlk hQ dX1_requireBridge_12 dX1_requireBridge_15 dX1_requireBridge_16 dX1_requireBridge_18 dX1_requireBridge_21 (by decide) (by decide +kernel) (by decide +kernel) (by decide +kernel) (by decide +kernel) xb_io (by decide +kernel) ⟨Nat.le_of_ble_eq_true rfl, Nat.le_of_ble_eq_true rfl, Nat.le_of_ble_eq_true rfl, Nat.le_of_ble_eq_true rfl⟩ (Nat.le_of_ble_eq_true rfl) (Nat.le_of_ble_eq_true rfl) (Nat.le_of_ble_eq_true rfl)
  · refine zv_iload_n C dX1_requireBridge_4 5 rfl 1 rfl ?_
    refine zv_aload_n C dX1_requireBridge_5 6 rfl 0 rfl ?_
    refine zv_get (ci := 1) C inX1 rfl dX1_requireBridge_6 9 rfl 0 4 rfl (by decide) lk26 rfl ?_
    refine zv_icmp_lt C dX1_requireBridge_9 12 22 rfl (by decide) (fun c2 => ?_) (fun c2 => ?_)
    · exact absurd hf (by rw [isP_lt hb c1 c2]; decide)
    · exact zv_thr (E := xIO) (text := "there is no such bridge") (is := 238) C hA hl hE htab hlk hQ dX1_requireBridge_12 dX1_requireBridge_15 dX1_requireBridge_16 dX1_requireBridge_18 dX1_requireBridge_21 (by decide) (by decide +kernel) (by decide +kernel) (by decide +kernel) (by decide +kernel) xb_io (by decide +kernel) ⟨Nat.le_of_ble_eq_true rfl, Nat.le_of_ble_eq_true rfl, Nat.le_of_ble_eq_true rfl, Nat.le_of_ble_eq_true rfl⟩ (Nat.le_of_ble_eq_true rfl) (Nat.le_of_ble_eq_true rfl) (Nat.le_of_ble_eq_true rfl)
abbrev rtX1_requireRoomForPlace : Room := { frames := 6, cells := 1, slots := 6, locals := 90 }
set_option maxHeartbeats 4000000 in
set_option maxRecDepth 100000 in
theorem k_X1_requireRoomForPlace_t (l : Launch) (D : va_G) (cI cZ : ClassId) (q h k : Nat → Nat) (b : Nat) (y : Int32) (n : Nat) (r : Int32) (f0 f1 f2 f3 f4 f5 f6 f7 f8 f9 f10 f11 f12 f13 : Nat → Int32) (n1 : Nat) (r1 : Int32) (g0 g1 g2 g3 g4 g5 g6 g7 g8 g9 g10 g11 g12 g13 : Nat → Int32) (bp bn : Nat → Int32) (hn : n = 16) (hl : l.stackTraces = false) : zv_T l yX1_requireRoomForPlace wsX1_requireRoomForPlace rtX1_requireRoomForPlace xIS D vwCl (tyL cI cZ) [.ref (q 0)] (cR cI cZ q h k (nI b) y (nI n) r f0 f1 f2 f3 f4 f5 f6 f7 f8 f9 f10 f11 f12 f13 (nI n1) r1 g0 g1 g2 g3 g4 g5 g6 g7 g8 g9 g10 g11 g12 g13 bp bn) := by
  refine zv_T.of cX1_requireRoomForPlace 1 none (by decide) rfl (Nat.le_of_ble_eq_true rfl) ?_
  intro pP eE sS mM aA bB mT cD A C htab hlk hA hE Q hQ
  have inX1 : ∀ w ∈ u_ws RX1 TX1 6, w ∈ wsX1_requireRoomForPlace := by decide +kernel
  have lk10 : Cond.fieldLink RX1 10 "RiverNames" "land" "LRiverNames$Land;" ∈ wsX1_requireRoomForPlace := by decide +kernel
  refine zv_go (pc' := 0) rfl (lv' := [(0, .ref (q 0))]) rfl rfl rfl rfl ?_
  refine zv_aload_n C dX1_requireRoomForPlace_0 1 rfl 0 rfl ?_
  refine zv_get (ci := 1) C inX1 rfl dX1_requireRoomForPlace_1 4 rfl 0 0 rfl (by decide) lk10 rfl ?_
  refine zv_callVR (rest := []) C (k_X0_size l D cI cZ h n r f0 f1 f2 f3 f4 f5 f6 f7 f8 f9 f10 f11 f12 f13) (cwV 0 C.1.2.2.2.2 gX1_requireRoomForPlace_X0_size rfl rfl rfl (by decide +kernel) ⟨Nat.le_of_ble_eq_true rfl, Nat.le_of_ble_eq_true rfl⟩) dX1_requireRoomForPlace_4 7 rfl (ci := 0) 0 rfl rfl rfl rfl (Nat.le_of_ble_eq_true rfl) ⟨Nat.le_of_ble_eq_true rfl, Nat.le_of_ble_eq_true rfl⟩ [0, 1] rfl [1, 2, 3, 4, 5, 6, 7, 8, 9, 10, 11, 12, 13, 14, 15] rfl (by decide) (fun v hv => ?_)
  subst hv
  refine zv_go rfl rfl (st' := [.int (nI n)]) rfl (kc' := 0) rfl (ns' := 0) rfl ?_
  refine zv_bipush (v := 16) C dX1_requireRoomForPlace_7 9 rfl (by decide) ?_
  refine zv_icmp_lt C dX1_requireRoomForPlace_9 12 22 rfl (by decide) (fun c1 => ?_) (fun c1 => ?_)
  · exact absurd c1 (by rw [hn]; exact nI_nlt (Nat.le_refl 16) (by omega))
  · exact zv_thr (E := xIS) (text := "there are 16 places") (is := 240) C hA hl hE htab hlk hQ dX1_requireRoomForPlace_12 dX1_requireRoomForPlace_15 dX1_requireRoomForPlace_16 dX1_requireRoomForPlace_18 dX1_requireRoomForPlace_21 (by decide) (by decide +kernel) (by decide +kernel) (by decide +kernel) (by decide +kernel) xb_is (by decide +kernel) ⟨Nat.le_of_ble_eq_true rfl, Nat.le_of_ble_eq_true rfl, Nat.le_of_ble_eq_true rfl, Nat.le_of_ble_eq_true rfl⟩ (Nat.le_of_ble_eq_true rfl) (Nat.le_of_ble_eq_true rfl) (Nat.le_of_ble_eq_true rfl)
abbrev rtX1_requireName : Room := { frames := 6, cells := 1, slots := 6, locals := 90 }
set_option maxHeartbeats 4000000 in
set_option maxRecDepth 100000 in
theorem k_X1_requireName_t (l : Launch) (D : va_G) (cI cZ : ClassId) (x : Int32) (h1 : isI x 0 9 = false) (hl : l.stackTraces = false) : zv_T l yX1_requireName wsX1_requireName rtX1_requireName xIO D vwCl (tyL cI cZ) [.int x] [] := by
  refine zv_T.of cX1_requireName 1 none (by decide) rfl (Nat.le_of_ble_eq_true rfl) ?_
  intro pP eE sS mM aA bB mT cD A C htab hlk hA hE Q hQ
  refine zv_go (pc' := 0) rfl (lv' := [(0, .int x)]) rfl rfl rfl rfl ?_
  refine zv_iload_n C dX1_requireName_0 1 rfl 0 rfl ?_
  refine zv_iconst (v := 0) C dX1_requireName_1 2 rfl (by decide) ?_
  refine zv_bipush (v := 9) C dX1_requireName_2 4 rfl (by decide) ?_
  refine zv_callSR (rest := []) C (k_X1_isWithin l D cI cZ x 0 9) (cwS 3 C.1.2.2.2.2 gX1_requireName_X1_isWithin rfl rfl rfl (by decide +kernel) ⟨Nat.le_of_ble_eq_true rfl, Nat.le_of_ble_eq_true rfl⟩) dX1_requireName_4 7 rfl rfl rfl (Nat.le_of_ble_eq_true rfl) ⟨Nat.le_of_ble_eq_true rfl, Nat.le_of_ble_eq_true rfl⟩ [0, 1] rfl [] rfl (by decide) (fun v hv => ?_)
  subst hv
  refine zv_go rfl rfl (st' := [.int (zb (isI x 0 9))]) rfl (kc' := 0) rfl (ns' := 0) rfl ?_
  refine zv_if_ne C dX1_requireName_7 10 20 rfl (by decide) (fun c1 => ?_) (fun c1 => ?_)
  · exact absurd h1 (by rw [zb_ne0.mp c1]; decide)
  · exact zv_thr (E := xIO) (text := "a name is 0 to 9") (is := 242) C hA hl hE htab hlk hQ dX1_requireName_10 dX1_requireName_13 dX1_requireName_14 dX1_requireName_16 dX1_requireName_19 (by decide) (by decide +kernel) (by decide +kernel) (by decide +kernel) (by decide +kernel) xb_io (by decide +kernel) ⟨Nat.le_of_ble_eq_true rfl, Nat.le_of_ble_eq_true rfl, Nat.le_of_ble_eq_true rfl, Nat.le_of_ble_eq_true rfl⟩ (Nat.le_of_ble_eq_true rfl) (Nat.le_of_ble_eq_true rfl) (Nat.le_of_ble_eq_true rfl)
abbrev rtX1_requireYears : Room := { frames := 6, cells := 1, slots := 6, locals := 90 }
set_option maxHeartbeats 4000000 in
set_option maxRecDepth 100000 in
theorem k_X1_requireYears_t (l : Launch) (D : va_G) (cI cZ : ClassId) (x : Int32) (h1 : isI x 1 50 = false) (hl : l.stackTraces = false) : zv_T l yX1_requireYears wsX1_requireYears rtX1_requireYears xIA D vwCl (tyL cI cZ) [.int x] [] := by
  refine zv_T.of cX1_requireYears 1 none (by decide) rfl (Nat.le_of_ble_eq_true rfl) ?_
  intro pP eE sS mM aA bB mT cD A C htab hlk hA hE Q hQ
  refine zv_go (pc' := 0) rfl (lv' := [(0, .int x)]) rfl rfl rfl rfl ?_
  refine zv_iload_n C dX1_requireYears_0 1 rfl 0 rfl ?_
  refine zv_iconst (v := 1) C dX1_requireYears_1 2 rfl (by decide) ?_
  refine zv_bipush (v := 50) C dX1_requireYears_2 4 rfl (by decide) ?_
  refine zv_callSR (rest := []) C (k_X1_isWithin l D cI cZ x 1 50) (cwS 3 C.1.2.2.2.2 gX1_requireYears_X1_isWithin rfl rfl rfl (by decide +kernel) ⟨Nat.le_of_ble_eq_true rfl, Nat.le_of_ble_eq_true rfl⟩) dX1_requireYears_4 7 rfl rfl rfl (Nat.le_of_ble_eq_true rfl) ⟨Nat.le_of_ble_eq_true rfl, Nat.le_of_ble_eq_true rfl⟩ [0, 1] rfl [] rfl (by decide) (fun v hv => ?_)
  subst hv
  refine zv_go rfl rfl (st' := [.int (zb (isI x 1 50))]) rfl (kc' := 0) rfl (ns' := 0) rfl ?_
  refine zv_if_ne C dX1_requireYears_7 10 20 rfl (by decide) (fun c1 => ?_) (fun c1 => ?_)
  · exact absurd h1 (by rw [zb_ne0.mp c1]; decide)
  · exact zv_thr (E := xIA) (text := "years are 1 to 50") (is := 244) C hA hl hE htab hlk hQ dX1_requireYears_10 dX1_requireYears_13 dX1_requireYears_14 dX1_requireYears_16 dX1_requireYears_19 (by decide) (by decide +kernel) (by decide +kernel) (by decide +kernel) (by decide +kernel) xb_ia (by decide +kernel) ⟨Nat.le_of_ble_eq_true rfl, Nat.le_of_ble_eq_true rfl, Nat.le_of_ble_eq_true rfl, Nat.le_of_ble_eq_true rfl⟩ (Nat.le_of_ble_eq_true rfl) (Nat.le_of_ble_eq_true rfl) (Nat.le_of_ble_eq_true rfl)
abbrev rtX1_addPlace : Room := { frames := 7, cells := 1, slots := 6, locals := 110 }
set_option maxHeartbeats 4000000 in
set_option maxRecDepth 100000 in
theorem k_X1_addPlace_t (l : Launch) (D : va_G) (cI cZ : ClassId) (q h k : Nat → Nat) (b : Nat) (y : Int32) (n : Nat) (r : Int32) (f0 f1 f2 f3 f4 f5 f6 f7 f8 f9 f10 f11 f12 f13 : Nat → Int32) (n1 : Nat) (r1 : Int32) (g0 g1 g2 g3 g4 g5 g6 g7 g8 g9 g10 g11 g12 g13 : Nat → Int32) (bp bn : Nat → Int32) (hn : n = 16) (hl : l.stackTraces = false) : zv_T l yX1_addPlace wsX1_addPlace rtX1_addPlace xIS D vwCl (tyL cI cZ) [.ref (q 0)] (cR cI cZ q h k (nI b) y (nI n) r f0 f1 f2 f3 f4 f5 f6 f7 f8 f9 f10 f11 f12 f13 (nI n1) r1 g0 g1 g2 g3 g4 g5 g6 g7 g8 g9 g10 g11 g12 g13 bp bn) := by
  refine zv_T.of cX1_addPlace 1 (some .int) (by decide) rfl (Nat.le_of_ble_eq_true rfl) ?_
  intro pP eE sS mM aA bB mT cD A C htab hlk hA hE Q hQ
  refine zv_go (pc' := 0) rfl (lv' := [(0, .ref (q 0))]) rfl rfl rfl rfl ?_
  refine zv_aload_n C dX1_addPlace_0 1 rfl 0 rfl ?_
  exact zv_tV (rest := []) C hA hE (k_X1_requireRoomForPlace_t l D cI cZ q h k b y n r f0 f1 f2 f3 f4 f5 f6 f7 f8 f9 f10 f11 f12 f13 n1 r1 g0 g1 g2 g3 g4 g5 g6 g7 g8 g9 g10 g11 g12 g13 bp bn hn hl) (cwV 0 C.1.2.2.2.2 gX1_addPlace_X1_requireRoomForPlace rfl rfl rfl (by decide +kernel) ⟨Nat.le_of_ble_eq_true rfl, Nat.le_of_ble_eq_true rfl⟩) dX1_addPlace_1 (ci := 1) 0 rfl rfl rfl rfl (Nat.le_of_ble_eq_true rfl) ⟨Nat.le_of_ble_eq_true rfl, Nat.le_of_ble_eq_true rfl⟩ [0, 1] rfl [0, 1, 2, 3, 4, 5, 6, 7, 8, 9, 10, 11, 12, 13, 14, 15, 16, 17, 18, 19, 20, 21, 22, 23, 24, 25, 26, 27, 28, 29, 30, 31, 32] rfl (by decide) (zx_up C hA htab hlk hQ (Nat.le_of_ble_eq_true rfl) (Nat.le_of_ble_eq_true rfl))
abbrev rtX1_addSpring : Room := { frames := 7, cells := 1, slots := 6, locals := 110 }
set_option maxHeartbeats 4000000 in
set_option maxRecDepth 100000 in
theorem k_X1_addSpring_t1 (l : Launch) (D : va_G) (cI cZ : ClassId) (q h k : Nat → Nat) (b : Nat) (y : Int32) (n : Nat) (r : Int32) (f0 f1 f2 f3 f4 f5 f6 f7 f8 f9 f10 f11 f12 f13 : Nat → Int32) (n1 : Nat) (r1 : Int32) (g0 g1 g2 g3 g4 g5 g6 g7 g8 g9 g10 g11 g12 g13 : Nat → Int32) (bp bn : Nat → Int32) (nm wa sw : Int32) (h1 : isI nm 0 9 = false) (hl : l.stackTraces = false) : zv_T l yX1_addSpring wsX1_addSpring rtX1_addSpring xIO D vwCl (tyL cI cZ) [.ref (q 0), .int nm, .int wa, .int sw] (cR cI cZ q h k (nI b) y (nI n) r f0 f1 f2 f3 f4 f5 f6 f7 f8 f9 f10 f11 f12 f13 (nI n1) r1 g0 g1 g2 g3 g4 g5 g6 g7 g8 g9 g10 g11 g12 g13 bp bn) := by
  refine zv_T.of cX1_addSpring 4 (some .int) (by decide) rfl (Nat.le_of_ble_eq_true rfl) ?_
  intro pP eE sS mM aA bB mT cD A C htab hlk hA hE Q hQ
  refine zv_go (pc' := 0) rfl (lv' := [(0, .ref (q 0)), (1, .int nm), (2, .int wa), (3, .int sw)]) rfl rfl rfl rfl ?_
  refine zv_iload_n C dX1_addSpring_0 1 rfl 1 rfl ?_
  exact zv_tS (rest := []) C hA hE (k_X1_requireName_t l D cI cZ nm h1 hl) (cwS 1 C.1.2.2.2.2 gX1_addSpring_X1_requireName rfl rfl rfl (by decide +kernel) ⟨Nat.le_of_ble_eq_true rfl, Nat.le_of_ble_eq_true rfl⟩) dX1_addSpring_1 rfl rfl (Nat.le_of_ble_eq_true rfl) ⟨Nat.le_of_ble_eq_true rfl, Nat.le_of_ble_eq_true rfl⟩ [0, 1] rfl [] rfl (by decide) (zx_up C hA htab hlk hQ (Nat.le_of_ble_eq_true rfl) (Nat.le_of_ble_eq_true rfl))
set_option maxHeartbeats 4000000 in
set_option maxRecDepth 100000 in
theorem k_X1_addSpring_t2 (l : Launch) (D : va_G) (cI cZ : ClassId) (q h k : Nat → Nat) (b : Nat) (y : Int32) (n : Nat) (r : Int32) (f0 f1 f2 f3 f4 f5 f6 f7 f8 f9 f10 f11 f12 f13 : Nat → Int32) (n1 : Nat) (r1 : Int32) (g0 g1 g2 g3 g4 g5 g6 g7 g8 g9 g10 g11 g12 g13 : Nat → Int32) (bp bn : Nat → Int32) (nm wa sw : Int32) (h1 : isI nm 0 9 = true) (h2 : isI wa 0 99 = false) (hl : l.stackTraces = false) : zv_T l yX1_addSpring wsX1_addSpring rtX1_addSpring xIA D vwCl (tyL cI cZ) [.ref (q 0), .int nm, .int wa, .int sw] (cR cI cZ q h k (nI b) y (nI n) r f0 f1 f2 f3 f4 f5 f6 f7 f8 f9 f10 f11 f12 f13 (nI n1) r1 g0 g1 g2 g3 g4 g5 g6 g7 g8 g9 g10 g11 g12 g13 bp bn) := by
  refine zv_T.of cX1_addSpring 4 (some .int) (by decide) rfl (Nat.le_of_ble_eq_true rfl) ?_
  intro pP eE sS mM aA bB mT cD A C htab hlk hA hE Q hQ
  refine zv_go (pc' := 0) rfl (lv' := [(0, .ref (q 0)), (1, .int nm), (2, .int wa), (3, .int sw)]) rfl rfl rfl rfl ?_
  refine zv_iload_n C dX1_addSpring_0 1 rfl 1 rfl ?_
  refine zv_callSR (rest := []) C (k_X1_requireName l D cI cZ nm (by assumption)) (cwS 1 C.1.2.2.2.2 gX1_addSpring_X1_requireName rfl rfl rfl (by decide +kernel) ⟨Nat.le_of_ble_eq_true rfl, Nat.le_of_ble_eq_true rfl⟩) dX1_addSpring_1 4 rfl rfl rfl (Nat.le_of_ble_eq_true rfl) ⟨Nat.le_of_ble_eq_true rfl, Nat.le_of_ble_eq_true rfl⟩ [0, 1] rfl [] rfl (by decide) (fun v hv => ?_)
  subst hv
  refine zv_go rfl rfl (st' := []) rfl (kc' := 0) rfl (ns' := 0) rfl ?_
  refine zv_iload_n C dX1_addSpring_4 5 rfl 2 rfl ?_
  refine zv_iconst (v := 0) C dX1_addSpring_5 6 rfl (by decide) ?_
  refine zv_bipush (v := 99) C dX1_addSpring_6 8 rfl (by decide) ?_
  refine zv_callSR (rest := []) C (k_X1_isWithin l D cI cZ wa 0 99) (cwS 3 C.1.2.2.2.2 gX1_addSpring_X1_isWithin rfl rfl rfl (by decide +kernel) ⟨Nat.le_of_ble_eq_true rfl, Nat.le_of_ble_eq_true rfl⟩) dX1_addSpring_8 11 rfl rfl rfl (Nat.le_of_ble_eq_true rfl) ⟨Nat.le_of_ble_eq_true rfl, Nat.le_of_ble_eq_true rfl⟩ [0, 1] rfl [] rfl (by decide) (fun v hv => ?_)
  subst hv
  refine zv_go rfl rfl (st' := [.int (zb (isI wa 0 99))]) rfl (kc' := 0) rfl (ns' := 0) rfl ?_
  refine zv_if_ne C dX1_addSpring_11 14 24 rfl (by decide) (fun c1 => ?_) (fun c1 => ?_)
  · exact absurd h2 (by rw [zb_ne0.mp c1]; decide)
  · exact zv_thr (E := xIA) (text := "water is 0 to 99") (is := 50) C hA hl hE htab hlk hQ dX1_addSpring_14 dX1_addSpring_17 dX1_addSpring_18 dX1_addSpring_20 dX1_addSpring_23 (by decide) (by decide +kernel) (by decide +kernel) (by decide +kernel) (by decide +kernel) xb_ia (by decide +kernel) ⟨Nat.le_of_ble_eq_true rfl, Nat.le_of_ble_eq_true rfl, Nat.le_of_ble_eq_true rfl, Nat.le_of_ble_eq_true rfl⟩ (Nat.le_of_ble_eq_true rfl) (Nat.le_of_ble_eq_true rfl) (Nat.le_of_ble_eq_true rfl)
set_option maxHeartbeats 4000000 in
set_option maxRecDepth 100000 in
theorem k_X1_addSpring_t3 (l : Launch) (D : va_G) (cI cZ : ClassId) (q h k : Nat → Nat) (b : Nat) (y : Int32) (n : Nat) (r : Int32) (f0 f1 f2 f3 f4 f5 f6 f7 f8 f9 f10 f11 f12 f13 : Nat → Int32) (n1 : Nat) (r1 : Int32) (g0 g1 g2 g3 g4 g5 g6 g7 g8 g9 g10 g11 g12 g13 : Nat → Int32) (bp bn : Nat → Int32) (nm wa sw : Int32) (h1 : isI nm 0 9 = true) (h2 : isI wa 0 99 = true) (h3 : isI sw (-9) 9 = false) (hl : l.stackTraces = false) : zv_T l yX1_addSpring wsX1_addSpring rtX1_addSpring xIA D vwCl (tyL cI cZ) [.ref (q 0), .int nm, .int wa, .int sw] (cR cI cZ q h k (nI b) y (nI n) r f0 f1 f2 f3 f4 f5 f6 f7 f8 f9 f10 f11 f12 f13 (nI n1) r1 g0 g1 g2 g3 g4 g5 g6 g7 g8 g9 g10 g11 g12 g13 bp bn) := by
  refine zv_T.of cX1_addSpring 4 (some .int) (by decide) rfl (Nat.le_of_ble_eq_true rfl) ?_
  intro pP eE sS mM aA bB mT cD A C htab hlk hA hE Q hQ
  refine zv_go (pc' := 0) rfl (lv' := [(0, .ref (q 0)), (1, .int nm), (2, .int wa), (3, .int sw)]) rfl rfl rfl rfl ?_
  refine zv_iload_n C dX1_addSpring_0 1 rfl 1 rfl ?_
  refine zv_callSR (rest := []) C (k_X1_requireName l D cI cZ nm (by assumption)) (cwS 1 C.1.2.2.2.2 gX1_addSpring_X1_requireName rfl rfl rfl (by decide +kernel) ⟨Nat.le_of_ble_eq_true rfl, Nat.le_of_ble_eq_true rfl⟩) dX1_addSpring_1 4 rfl rfl rfl (Nat.le_of_ble_eq_true rfl) ⟨Nat.le_of_ble_eq_true rfl, Nat.le_of_ble_eq_true rfl⟩ [0, 1] rfl [] rfl (by decide) (fun v hv => ?_)
  subst hv
  refine zv_go rfl rfl (st' := []) rfl (kc' := 0) rfl (ns' := 0) rfl ?_
  refine zv_iload_n C dX1_addSpring_4 5 rfl 2 rfl ?_
  refine zv_iconst (v := 0) C dX1_addSpring_5 6 rfl (by decide) ?_
  refine zv_bipush (v := 99) C dX1_addSpring_6 8 rfl (by decide) ?_
  refine zv_callSR (rest := []) C (k_X1_isWithin l D cI cZ wa 0 99) (cwS 3 C.1.2.2.2.2 gX1_addSpring_X1_isWithin rfl rfl rfl (by decide +kernel) ⟨Nat.le_of_ble_eq_true rfl, Nat.le_of_ble_eq_true rfl⟩) dX1_addSpring_8 11 rfl rfl rfl (Nat.le_of_ble_eq_true rfl) ⟨Nat.le_of_ble_eq_true rfl, Nat.le_of_ble_eq_true rfl⟩ [0, 1] rfl [] rfl (by decide) (fun v hv => ?_)
  subst hv
  refine zv_go rfl rfl (st' := [.int (zb (isI wa 0 99))]) rfl (kc' := 0) rfl (ns' := 0) rfl ?_
  refine zv_if_ne C dX1_addSpring_11 14 24 rfl (by decide) (fun c1 => ?_) (fun c1 => ?_)
  · refine zv_iload_n C dX1_addSpring_24 25 rfl 3 rfl ?_
    refine zv_bipush (v := (-9 : Int32)) C dX1_addSpring_25 27 rfl (by decide) ?_
    refine zv_bipush (v := 9) C dX1_addSpring_27 29 rfl (by decide) ?_
    refine zv_callSR (rest := []) C (k_X1_isWithin l D cI cZ sw (-9 : Int32) 9) (cwS 3 C.1.2.2.2.2 gX1_addSpring_X1_isWithin rfl rfl rfl (by decide +kernel) ⟨Nat.le_of_ble_eq_true rfl, Nat.le_of_ble_eq_true rfl⟩) dX1_addSpring_29 32 rfl rfl rfl (Nat.le_of_ble_eq_true rfl) ⟨Nat.le_of_ble_eq_true rfl, Nat.le_of_ble_eq_true rfl⟩ [0, 1] rfl [] rfl (by decide) (fun v hv => ?_)
    subst hv
    refine zv_go rfl rfl (st' := [.int (zb (isI sw (-9 : Int32) 9))]) rfl (kc' := 0) rfl (ns' := 0) rfl ?_
    refine zv_if_ne C dX1_addSpring_32 35 45 rfl (by decide) (fun c2 => ?_) (fun c2 => ?_)
    · exact absurd h3 (by rw [zb_ne0.mp c2]; decide)
    · exact zv_thr (E := xIA) (text := "swell is -9 to 9") (is := 55) C hA hl hE htab hlk hQ dX1_addSpring_35 dX1_addSpring_38 dX1_addSpring_39 dX1_addSpring_41 dX1_addSpring_44 (by decide) (by decide +kernel) (by decide +kernel) (by decide +kernel) (by decide +kernel) xb_ia (by decide +kernel) ⟨Nat.le_of_ble_eq_true rfl, Nat.le_of_ble_eq_true rfl, Nat.le_of_ble_eq_true rfl, Nat.le_of_ble_eq_true rfl⟩ (Nat.le_of_ble_eq_true rfl) (Nat.le_of_ble_eq_true rfl) (Nat.le_of_ble_eq_true rfl)
  · exact absurd h2 (by rw [zb_eq0.mp c1]; decide)
set_option maxHeartbeats 4000000 in
set_option maxRecDepth 100000 in
theorem k_X1_addSpring_t4 (l : Launch) (D : va_G) (cI cZ : ClassId) (q h k : Nat → Nat) (b : Nat) (y : Int32) (n : Nat) (r : Int32) (f0 f1 f2 f3 f4 f5 f6 f7 f8 f9 f10 f11 f12 f13 : Nat → Int32) (n1 : Nat) (r1 : Int32) (g0 g1 g2 g3 g4 g5 g6 g7 g8 g9 g10 g11 g12 g13 : Nat → Int32) (bp bn : Nat → Int32) (nm wa sw : Int32) (h1 : isI nm 0 9 = true) (h2 : isI wa 0 99 = true) (h3 : isI sw (-9) 9 = true) (hn : n = 16) (hl : l.stackTraces = false) : zv_T l yX1_addSpring wsX1_addSpring rtX1_addSpring xIS D vwCl (tyL cI cZ) [.ref (q 0), .int nm, .int wa, .int sw] (cR cI cZ q h k (nI b) y (nI n) r f0 f1 f2 f3 f4 f5 f6 f7 f8 f9 f10 f11 f12 f13 (nI n1) r1 g0 g1 g2 g3 g4 g5 g6 g7 g8 g9 g10 g11 g12 g13 bp bn) := by
  refine zv_T.of cX1_addSpring 4 (some .int) (by decide) rfl (Nat.le_of_ble_eq_true rfl) ?_
  intro pP eE sS mM aA bB mT cD A C htab hlk hA hE Q hQ
  refine zv_go (pc' := 0) rfl (lv' := [(0, .ref (q 0)), (1, .int nm), (2, .int wa), (3, .int sw)]) rfl rfl rfl rfl ?_
  refine zv_iload_n C dX1_addSpring_0 1 rfl 1 rfl ?_
  refine zv_callSR (rest := []) C (k_X1_requireName l D cI cZ nm (by assumption)) (cwS 1 C.1.2.2.2.2 gX1_addSpring_X1_requireName rfl rfl rfl (by decide +kernel) ⟨Nat.le_of_ble_eq_true rfl, Nat.le_of_ble_eq_true rfl⟩) dX1_addSpring_1 4 rfl rfl rfl (Nat.le_of_ble_eq_true rfl) ⟨Nat.le_of_ble_eq_true rfl, Nat.le_of_ble_eq_true rfl⟩ [0, 1] rfl [] rfl (by decide) (fun v hv => ?_)
  subst hv
  refine zv_go rfl rfl (st' := []) rfl (kc' := 0) rfl (ns' := 0) rfl ?_
  refine zv_iload_n C dX1_addSpring_4 5 rfl 2 rfl ?_
  refine zv_iconst (v := 0) C dX1_addSpring_5 6 rfl (by decide) ?_
  refine zv_bipush (v := 99) C dX1_addSpring_6 8 rfl (by decide) ?_
  refine zv_callSR (rest := []) C (k_X1_isWithin l D cI cZ wa 0 99) (cwS 3 C.1.2.2.2.2 gX1_addSpring_X1_isWithin rfl rfl rfl (by decide +kernel) ⟨Nat.le_of_ble_eq_true rfl, Nat.le_of_ble_eq_true rfl⟩) dX1_addSpring_8 11 rfl rfl rfl (Nat.le_of_ble_eq_true rfl) ⟨Nat.le_of_ble_eq_true rfl, Nat.le_of_ble_eq_true rfl⟩ [0, 1] rfl [] rfl (by decide) (fun v hv => ?_)
  subst hv
  refine zv_go rfl rfl (st' := [.int (zb (isI wa 0 99))]) rfl (kc' := 0) rfl (ns' := 0) rfl ?_
  refine zv_if_ne C dX1_addSpring_11 14 24 rfl (by decide) (fun c1 => ?_) (fun c1 => ?_)
  · refine zv_iload_n C dX1_addSpring_24 25 rfl 3 rfl ?_
    refine zv_bipush (v := (-9 : Int32)) C dX1_addSpring_25 27 rfl (by decide) ?_
    refine zv_bipush (v := 9) C dX1_addSpring_27 29 rfl (by decide) ?_
    refine zv_callSR (rest := []) C (k_X1_isWithin l D cI cZ sw (-9 : Int32) 9) (cwS 3 C.1.2.2.2.2 gX1_addSpring_X1_isWithin rfl rfl rfl (by decide +kernel) ⟨Nat.le_of_ble_eq_true rfl, Nat.le_of_ble_eq_true rfl⟩) dX1_addSpring_29 32 rfl rfl rfl (Nat.le_of_ble_eq_true rfl) ⟨Nat.le_of_ble_eq_true rfl, Nat.le_of_ble_eq_true rfl⟩ [0, 1] rfl [] rfl (by decide) (fun v hv => ?_)
    subst hv
    refine zv_go rfl rfl (st' := [.int (zb (isI sw (-9 : Int32) 9))]) rfl (kc' := 0) rfl (ns' := 0) rfl ?_
    refine zv_if_ne C dX1_addSpring_32 35 45 rfl (by decide) (fun c2 => ?_) (fun c2 => ?_)
    · refine zv_aload_n C dX1_addSpring_45 46 rfl 0 rfl ?_
      exact zv_tV (rest := []) C hA hE (k_X1_requireRoomForPlace_t l D cI cZ q h k b y n r f0 f1 f2 f3 f4 f5 f6 f7 f8 f9 f10 f11 f12 f13 n1 r1 g0 g1 g2 g3 g4 g5 g6 g7 g8 g9 g10 g11 g12 g13 bp bn hn hl) (cwV 0 C.1.2.2.2.2 gX1_addSpring_X1_requireRoomForPlace rfl rfl rfl (by decide +kernel) ⟨Nat.le_of_ble_eq_true rfl, Nat.le_of_ble_eq_true rfl⟩) dX1_addSpring_46 (ci := 1) 0 rfl rfl rfl rfl (Nat.le_of_ble_eq_true rfl) ⟨Nat.le_of_ble_eq_true rfl, Nat.le_of_ble_eq_true rfl⟩ [0, 1] rfl [0, 1, 2, 3, 4, 5, 6, 7, 8, 9, 10, 11, 12, 13, 14, 15, 16, 17, 18, 19, 20, 21, 22, 23, 24, 25, 26, 27, 28, 29, 30, 31, 32] rfl (by decide) (zx_up C hA htab hlk hQ (Nat.le_of_ble_eq_true rfl) (Nat.le_of_ble_eq_true rfl))
    · exact absurd h3 (by rw [zb_eq0.mp c2]; decide)
  · exact absurd h2 (by rw [zb_eq0.mp c1]; decide)
abbrev rtX1_lead : Room := { frames := 7, cells := 1, slots := 6, locals := 111 }
set_option maxHeartbeats 4000000 in
set_option maxRecDepth 100000 in
theorem k_X1_lead_t1 (l : Launch) (D : va_G) (cI cZ : ClassId) (q h k : Nat → Nat) (b : Nat) (y : Int32) (n : Nat) (r : Int32) (f0 f1 f2 f3 f4 f5 f6 f7 f8 f9 f10 f11 f12 f13 : Nat → Int32) (n1 : Nat) (r1 : Int32) (g0 g1 g2 g3 g4 g5 g6 g7 g8 g9 g10 g11 g12 g13 : Nat → Int32) (bp bn : Nat → Int32) (i j : Int32) (hn : n ≤ 16) (hf : isP n i = false) (hl : l.stackTraces = false) : zv_T l yX1_lead wsX1_lead rtX1_lead xIO D vwCl (tyL cI cZ) [.ref (q 0), .int i, .int j] (cR cI cZ q h k (nI b) y (nI n) r f0 f1 f2 f3 f4 f5 f6 f7 f8 f9 f10 f11 f12 f13 (nI n1) r1 g0 g1 g2 g3 g4 g5 g6 g7 g8 g9 g10 g11 g12 g13 bp bn) := by
  refine zv_T.of cX1_lead 4 (some .int) (by decide) rfl (Nat.le_of_ble_eq_true rfl) ?_
  intro pP eE sS mM aA bB mT cD A C htab hlk hA hE Q hQ
  refine zv_go (pc' := 0) rfl (lv' := [(0, .ref (q 0)), (1, .int i), (2, .int j)]) rfl rfl rfl rfl ?_
  refine zv_aload_n C dX1_lead_0 1 rfl 0 rfl ?_
  refine zv_iload_n C dX1_lead_1 2 rfl 1 rfl ?_
  exact zv_tV (rest := []) C hA hE (k_X1_requirePlace_t l D cI cZ q h k b y n r f0 f1 f2 f3 f4 f5 f6 f7 f8 f9 f10 f11 f12 f13 n1 r1 g0 g1 g2 g3 g4 g5 g6 g7 g8 g9 g10 g11 g12 g13 bp bn i (by omega) hf hl) (cwV 1 C.1.2.2.2.2 gX1_lead_X1_requirePlace rfl rfl rfl (by decide +kernel) ⟨Nat.le_of_ble_eq_true rfl, Nat.le_of_ble_eq_true rfl⟩) dX1_lead_2 (ci := 1) 0 rfl rfl rfl rfl (Nat.le_of_ble_eq_true rfl) ⟨Nat.le_of_ble_eq_true rfl, Nat.le_of_ble_eq_true rfl⟩ [0, 1] rfl [0, 1, 2, 3, 4, 5, 6, 7, 8, 9, 10, 11, 12, 13, 14, 15, 16, 17, 18, 19, 20, 21, 22, 23, 24, 25, 26, 27, 28, 29, 30, 31, 32] rfl (by decide) (zx_up C hA htab hlk hQ (Nat.le_of_ble_eq_true rfl) (Nat.le_of_ble_eq_true rfl))
set_option maxHeartbeats 4000000 in
set_option maxRecDepth 100000 in
theorem k_X1_lead_t2 (l : Launch) (D : va_G) (cI cZ : ClassId) (q h k : Nat → Nat) (b : Nat) (y : Int32) (n : Nat) (r : Int32) (f0 f1 f2 f3 f4 f5 f6 f7 f8 f9 f10 f11 f12 f13 : Nat → Int32) (n1 : Nat) (r1 : Int32) (g0 g1 g2 g3 g4 g5 g6 g7 g8 g9 g10 g11 g12 g13 : Nat → Int32) (bp bn : Nat → Int32) (p : Nat) (i : Int32) (hn : n ≤ 16) (hp : p < n) (hf : isP n i = false) (hl : l.stackTraces = false) : zv_T l yX1_lead wsX1_lead rtX1_lead xIO D vwCl (tyL cI cZ) [.ref (q 0), .int (nI p), .int i] (cR cI cZ q h k (nI b) y (nI n) r f0 f1 f2 f3 f4 f5 f6 f7 f8 f9 f10 f11 f12 f13 (nI n1) r1 g0 g1 g2 g3 g4 g5 g6 g7 g8 g9 g10 g11 g12 g13 bp bn) := by
  refine zv_T.of cX1_lead 4 (some .int) (by decide) rfl (Nat.le_of_ble_eq_true rfl) ?_
  intro pP eE sS mM aA bB mT cD A C htab hlk hA hE Q hQ
  refine zv_go (pc' := 0) rfl (lv' := [(0, .ref (q 0)), (1, .int (nI p)), (2, .int i)]) rfl rfl rfl rfl ?_
  refine zv_aload_n C dX1_lead_0 1 rfl 0 rfl ?_
  refine zv_iload_n C dX1_lead_1 2 rfl 1 rfl ?_
  refine zv_callVR (rest := []) C (k_X1_requirePlace l D cI cZ q h k b y n r f0 f1 f2 f3 f4 f5 f6 f7 f8 f9 f10 f11 f12 f13 n1 r1 g0 g1 g2 g3 g4 g5 g6 g7 g8 g9 g10 g11 g12 g13 bp bn p (by omega) (by omega)) (cwV 1 C.1.2.2.2.2 gX1_lead_X1_requirePlace rfl rfl rfl (by decide +kernel) ⟨Nat.le_of_ble_eq_true rfl, Nat.le_of_ble_eq_true rfl⟩) dX1_lead_2 5 rfl (ci := 1) 0 rfl rfl rfl rfl (Nat.le_of_ble_eq_true rfl) ⟨Nat.le_of_ble_eq_true rfl, Nat.le_of_ble_eq_true rfl⟩ [0, 1] rfl [0, 1, 2, 3, 4, 5, 6, 7, 8, 9, 10, 11, 12, 13, 14, 15, 16, 17, 18, 19, 20, 21, 22, 23, 24, 25, 26, 27, 28, 29, 30, 31, 32] rfl (by decide) (fun v hv => ?_)
  subst hv
  refine zv_go rfl rfl (st' := []) rfl (kc' := 0) rfl (ns' := 0) rfl ?_
  refine zv_aload_n C dX1_lead_5 6 rfl 0 rfl ?_
  refine zv_iload_n C dX1_lead_6 7 rfl 2 rfl ?_
  exact zv_tV (rest := []) C hA hE (k_X1_requirePlace_t l D cI cZ q h k b y n r f0 f1 f2 f3 f4 f5 f6 f7 f8 f9 f10 f11 f12 f13 n1 r1 g0 g1 g2 g3 g4 g5 g6 g7 g8 g9 g10 g11 g12 g13 bp bn i (by omega) hf hl) (cwV 1 C.1.2.2.2.2 gX1_lead_X1_requirePlace rfl rfl rfl (by decide +kernel) ⟨Nat.le_of_ble_eq_true rfl, Nat.le_of_ble_eq_true rfl⟩) dX1_lead_7 (ci := 1) 0 rfl rfl rfl rfl (Nat.le_of_ble_eq_true rfl) ⟨Nat.le_of_ble_eq_true rfl, Nat.le_of_ble_eq_true rfl⟩ [0, 1] rfl [0, 1, 2, 3, 4, 5, 6, 7, 8, 9, 10, 11, 12, 13, 14, 15, 16, 17, 18, 19, 20, 21, 22, 23, 24, 25, 26, 27, 28, 29, 30, 31, 32] rfl (by decide) (zx_up C hA htab hlk hQ (Nat.le_of_ble_eq_true rfl) (Nat.le_of_ble_eq_true rfl))
abbrev rtX1_isAbove : Room := { frames := 7, cells := 1, slots := 6, locals := 111 }
set_option maxHeartbeats 4000000 in
set_option maxRecDepth 100000 in
theorem k_X1_isAbove_t1 (l : Launch) (D : va_G) (cI cZ : ClassId) (q h k : Nat → Nat) (b : Nat) (y : Int32) (n : Nat) (r : Int32) (f0 f1 f2 f3 f4 f5 f6 f7 f8 f9 f10 f11 f12 f13 : Nat → Int32) (n1 : Nat) (r1 : Int32) (g0 g1 g2 g3 g4 g5 g6 g7 g8 g9 g10 g11 g12 g13 : Nat → Int32) (bp bn : Nat → Int32) (i j : Int32) (hn : n ≤ 16) (hf : isP n i = false) (hl : l.stackTraces = false) : zv_T l yX1_isAbove wsX1_isAbove rtX1_isAbove xIO D vwCl (tyL cI cZ) [.ref (q 0), .int i, .int j] (cR cI cZ q h k (nI b) y (nI n) r f0 f1 f2 f3 f4 f5 f6 f7 f8 f9 f10 f11 f12 f13 (nI n1) r1 g0 g1 g2 g3 g4 g5 g6 g7 g8 g9 g10 g11 g12 g13 bp bn) := by
  refine zv_T.of cX1_isAbove 3 (some .boolean) (by decide) rfl (Nat.le_of_ble_eq_true rfl) ?_
  intro pP eE sS mM aA bB mT cD A C htab hlk hA hE Q hQ
  refine zv_go (pc' := 0) rfl (lv' := [(0, .ref (q 0)), (1, .int i), (2, .int j)]) rfl rfl rfl rfl ?_
  refine zv_aload_n C dX1_isAbove_0 1 rfl 0 rfl ?_
  refine zv_iload_n C dX1_isAbove_1 2 rfl 1 rfl ?_
  exact zv_tV (rest := []) C hA hE (k_X1_requirePlace_t l D cI cZ q h k b y n r f0 f1 f2 f3 f4 f5 f6 f7 f8 f9 f10 f11 f12 f13 n1 r1 g0 g1 g2 g3 g4 g5 g6 g7 g8 g9 g10 g11 g12 g13 bp bn i (by omega) hf hl) (cwV 1 C.1.2.2.2.2 gX1_isAbove_X1_requirePlace rfl rfl rfl (by decide +kernel) ⟨Nat.le_of_ble_eq_true rfl, Nat.le_of_ble_eq_true rfl⟩) dX1_isAbove_2 (ci := 1) 0 rfl rfl rfl rfl (Nat.le_of_ble_eq_true rfl) ⟨Nat.le_of_ble_eq_true rfl, Nat.le_of_ble_eq_true rfl⟩ [0, 1] rfl [0, 1, 2, 3, 4, 5, 6, 7, 8, 9, 10, 11, 12, 13, 14, 15, 16, 17, 18, 19, 20, 21, 22, 23, 24, 25, 26, 27, 28, 29, 30, 31, 32] rfl (by decide) (zx_up C hA htab hlk hQ (Nat.le_of_ble_eq_true rfl) (Nat.le_of_ble_eq_true rfl))
set_option maxHeartbeats 4000000 in
set_option maxRecDepth 100000 in
theorem k_X1_isAbove_t2 (l : Launch) (D : va_G) (cI cZ : ClassId) (q h k : Nat → Nat) (b : Nat) (y : Int32) (n : Nat) (r : Int32) (f0 f1 f2 f3 f4 f5 f6 f7 f8 f9 f10 f11 f12 f13 : Nat → Int32) (n1 : Nat) (r1 : Int32) (g0 g1 g2 g3 g4 g5 g6 g7 g8 g9 g10 g11 g12 g13 : Nat → Int32) (bp bn : Nat → Int32) (p : Nat) (i : Int32) (hn : n ≤ 16) (hp : p < n) (hf : isP n i = false) (hl : l.stackTraces = false) : zv_T l yX1_isAbove wsX1_isAbove rtX1_isAbove xIO D vwCl (tyL cI cZ) [.ref (q 0), .int (nI p), .int i] (cR cI cZ q h k (nI b) y (nI n) r f0 f1 f2 f3 f4 f5 f6 f7 f8 f9 f10 f11 f12 f13 (nI n1) r1 g0 g1 g2 g3 g4 g5 g6 g7 g8 g9 g10 g11 g12 g13 bp bn) := by
  refine zv_T.of cX1_isAbove 3 (some .boolean) (by decide) rfl (Nat.le_of_ble_eq_true rfl) ?_
  intro pP eE sS mM aA bB mT cD A C htab hlk hA hE Q hQ
  refine zv_go (pc' := 0) rfl (lv' := [(0, .ref (q 0)), (1, .int (nI p)), (2, .int i)]) rfl rfl rfl rfl ?_
  refine zv_aload_n C dX1_isAbove_0 1 rfl 0 rfl ?_
  refine zv_iload_n C dX1_isAbove_1 2 rfl 1 rfl ?_
  refine zv_callVR (rest := []) C (k_X1_requirePlace l D cI cZ q h k b y n r f0 f1 f2 f3 f4 f5 f6 f7 f8 f9 f10 f11 f12 f13 n1 r1 g0 g1 g2 g3 g4 g5 g6 g7 g8 g9 g10 g11 g12 g13 bp bn p (by omega) (by omega)) (cwV 1 C.1.2.2.2.2 gX1_isAbove_X1_requirePlace rfl rfl rfl (by decide +kernel) ⟨Nat.le_of_ble_eq_true rfl, Nat.le_of_ble_eq_true rfl⟩) dX1_isAbove_2 5 rfl (ci := 1) 0 rfl rfl rfl rfl (Nat.le_of_ble_eq_true rfl) ⟨Nat.le_of_ble_eq_true rfl, Nat.le_of_ble_eq_true rfl⟩ [0, 1] rfl [0, 1, 2, 3, 4, 5, 6, 7, 8, 9, 10, 11, 12, 13, 14, 15, 16, 17, 18, 19, 20, 21, 22, 23, 24, 25, 26, 27, 28, 29, 30, 31, 32] rfl (by decide) (fun v hv => ?_)
  subst hv
  refine zv_go rfl rfl (st' := []) rfl (kc' := 0) rfl (ns' := 0) rfl ?_
  refine zv_aload_n C dX1_isAbove_5 6 rfl 0 rfl ?_
  refine zv_iload_n C dX1_isAbove_6 7 rfl 2 rfl ?_
  exact zv_tV (rest := []) C hA hE (k_X1_requirePlace_t l D cI cZ q h k b y n r f0 f1 f2 f3 f4 f5 f6 f7 f8 f9 f10 f11 f12 f13 n1 r1 g0 g1 g2 g3 g4 g5 g6 g7 g8 g9 g10 g11 g12 g13 bp bn i (by omega) hf hl) (cwV 1 C.1.2.2.2.2 gX1_isAbove_X1_requirePlace rfl rfl rfl (by decide +kernel) ⟨Nat.le_of_ble_eq_true rfl, Nat.le_of_ble_eq_true rfl⟩) dX1_isAbove_7 (ci := 1) 0 rfl rfl rfl rfl (Nat.le_of_ble_eq_true rfl) ⟨Nat.le_of_ble_eq_true rfl, Nat.le_of_ble_eq_true rfl⟩ [0, 1] rfl [0, 1, 2, 3, 4, 5, 6, 7, 8, 9, 10, 11, 12, 13, 14, 15, 16, 17, 18, 19, 20, 21, 22, 23, 24, 25, 26, 27, 28, 29, 30, 31, 32] rfl (by decide) (zx_up C hA htab hlk hQ (Nat.le_of_ble_eq_true rfl) (Nat.le_of_ble_eq_true rfl))
abbrev rtX1_meeting : Room := { frames := 7, cells := 1, slots := 6, locals := 111 }
set_option maxHeartbeats 4000000 in
set_option maxRecDepth 100000 in
theorem k_X1_meeting_t1 (l : Launch) (D : va_G) (cI cZ : ClassId) (q h k : Nat → Nat) (b : Nat) (y : Int32) (n : Nat) (r : Int32) (f0 f1 f2 f3 f4 f5 f6 f7 f8 f9 f10 f11 f12 f13 : Nat → Int32) (n1 : Nat) (r1 : Int32) (g0 g1 g2 g3 g4 g5 g6 g7 g8 g9 g10 g11 g12 g13 : Nat → Int32) (bp bn : Nat → Int32) (i j : Int32) (hn : n ≤ 16) (hf : isP n i = false) (hl : l.stackTraces = false) : zv_T l yX1_meeting wsX1_meeting rtX1_meeting xIO D vwCl (tyL cI cZ) [.ref (q 0), .int i, .int j] (cR cI cZ q h k (nI b) y (nI n) r f0 f1 f2 f3 f4 f5 f6 f7 f8 f9 f10 f11 f12 f13 (nI n1) r1 g0 g1 g2 g3 g4 g5 g6 g7 g8 g9 g10 g11 g12 g13 bp bn) := by
  refine zv_T.of cX1_meeting 3 (some .int) (by decide) rfl (Nat.le_of_ble_eq_true rfl) ?_
  intro pP eE sS mM aA bB mT cD A C htab hlk hA hE Q hQ
  refine zv_go (pc' := 0) rfl (lv' := [(0, .ref (q 0)), (1, .int i), (2, .int j)]) rfl rfl rfl rfl ?_
  refine zv_aload_n C dX1_meeting_0 1 rfl 0 rfl ?_
  refine zv_iload_n C dX1_meeting_1 2 rfl 1 rfl ?_
  exact zv_tV (rest := []) C hA hE (k_X1_requirePlace_t l D cI cZ q h k b y n r f0 f1 f2 f3 f4 f5 f6 f7 f8 f9 f10 f11 f12 f13 n1 r1 g0 g1 g2 g3 g4 g5 g6 g7 g8 g9 g10 g11 g12 g13 bp bn i (by omega) hf hl) (cwV 1 C.1.2.2.2.2 gX1_meeting_X1_requirePlace rfl rfl rfl (by decide +kernel) ⟨Nat.le_of_ble_eq_true rfl, Nat.le_of_ble_eq_true rfl⟩) dX1_meeting_2 (ci := 1) 0 rfl rfl rfl rfl (Nat.le_of_ble_eq_true rfl) ⟨Nat.le_of_ble_eq_true rfl, Nat.le_of_ble_eq_true rfl⟩ [0, 1] rfl [0, 1, 2, 3, 4, 5, 6, 7, 8, 9, 10, 11, 12, 13, 14, 15, 16, 17, 18, 19, 20, 21, 22, 23, 24, 25, 26, 27, 28, 29, 30, 31, 32] rfl (by decide) (zx_up C hA htab hlk hQ (Nat.le_of_ble_eq_true rfl) (Nat.le_of_ble_eq_true rfl))
set_option maxHeartbeats 4000000 in
set_option maxRecDepth 100000 in
theorem k_X1_meeting_t2 (l : Launch) (D : va_G) (cI cZ : ClassId) (q h k : Nat → Nat) (b : Nat) (y : Int32) (n : Nat) (r : Int32) (f0 f1 f2 f3 f4 f5 f6 f7 f8 f9 f10 f11 f12 f13 : Nat → Int32) (n1 : Nat) (r1 : Int32) (g0 g1 g2 g3 g4 g5 g6 g7 g8 g9 g10 g11 g12 g13 : Nat → Int32) (bp bn : Nat → Int32) (p : Nat) (i : Int32) (hn : n ≤ 16) (hp : p < n) (hf : isP n i = false) (hl : l.stackTraces = false) : zv_T l yX1_meeting wsX1_meeting rtX1_meeting xIO D vwCl (tyL cI cZ) [.ref (q 0), .int (nI p), .int i] (cR cI cZ q h k (nI b) y (nI n) r f0 f1 f2 f3 f4 f5 f6 f7 f8 f9 f10 f11 f12 f13 (nI n1) r1 g0 g1 g2 g3 g4 g5 g6 g7 g8 g9 g10 g11 g12 g13 bp bn) := by
  refine zv_T.of cX1_meeting 3 (some .int) (by decide) rfl (Nat.le_of_ble_eq_true rfl) ?_
  intro pP eE sS mM aA bB mT cD A C htab hlk hA hE Q hQ
  refine zv_go (pc' := 0) rfl (lv' := [(0, .ref (q 0)), (1, .int (nI p)), (2, .int i)]) rfl rfl rfl rfl ?_
  refine zv_aload_n C dX1_meeting_0 1 rfl 0 rfl ?_
  refine zv_iload_n C dX1_meeting_1 2 rfl 1 rfl ?_
  refine zv_callVR (rest := []) C (k_X1_requirePlace l D cI cZ q h k b y n r f0 f1 f2 f3 f4 f5 f6 f7 f8 f9 f10 f11 f12 f13 n1 r1 g0 g1 g2 g3 g4 g5 g6 g7 g8 g9 g10 g11 g12 g13 bp bn p (by omega) (by omega)) (cwV 1 C.1.2.2.2.2 gX1_meeting_X1_requirePlace rfl rfl rfl (by decide +kernel) ⟨Nat.le_of_ble_eq_true rfl, Nat.le_of_ble_eq_true rfl⟩) dX1_meeting_2 5 rfl (ci := 1) 0 rfl rfl rfl rfl (Nat.le_of_ble_eq_true rfl) ⟨Nat.le_of_ble_eq_true rfl, Nat.le_of_ble_eq_true rfl⟩ [0, 1] rfl [0, 1, 2, 3, 4, 5, 6, 7, 8, 9, 10, 11, 12, 13, 14, 15, 16, 17, 18, 19, 20, 21, 22, 23, 24, 25, 26, 27, 28, 29, 30, 31, 32] rfl (by decide) (fun v hv => ?_)
  subst hv
  refine zv_go rfl rfl (st' := []) rfl (kc' := 0) rfl (ns' := 0) rfl ?_
  refine zv_aload_n C dX1_meeting_5 6 rfl 0 rfl ?_
  refine zv_iload_n C dX1_meeting_6 7 rfl 2 rfl ?_
  exact zv_tV (rest := []) C hA hE (k_X1_requirePlace_t l D cI cZ q h k b y n r f0 f1 f2 f3 f4 f5 f6 f7 f8 f9 f10 f11 f12 f13 n1 r1 g0 g1 g2 g3 g4 g5 g6 g7 g8 g9 g10 g11 g12 g13 bp bn i (by omega) hf hl) (cwV 1 C.1.2.2.2.2 gX1_meeting_X1_requirePlace rfl rfl rfl (by decide +kernel) ⟨Nat.le_of_ble_eq_true rfl, Nat.le_of_ble_eq_true rfl⟩) dX1_meeting_7 (ci := 1) 0 rfl rfl rfl rfl (Nat.le_of_ble_eq_true rfl) ⟨Nat.le_of_ble_eq_true rfl, Nat.le_of_ble_eq_true rfl⟩ [0, 1] rfl [0, 1, 2, 3, 4, 5, 6, 7, 8, 9, 10, 11, 12, 13, 14, 15, 16, 17, 18, 19, 20, 21, 22, 23, 24, 25, 26, 27, 28, 29, 30, 31, 32] rfl (by decide) (zx_up C hA htab hlk hQ (Nat.le_of_ble_eq_true rfl) (Nat.le_of_ble_eq_true rfl))
set_option maxHeartbeats 4000000 in
set_option maxRecDepth 100000 in
theorem k_X1_lead_t3 (l : Launch) (D : va_G) (cI cZ : ClassId) (q h k : Nat → Nat) (b : Nat) (y : Int32) (n : Nat) (r : Int32) (f0 f1 f2 f3 f4 f5 f6 f7 f8 f9 f10 f11 f12 f13 : Nat → Int32) (n1 : Nat) (r1 : Int32) (g0 g1 g2 g3 g4 g5 g6 g7 g8 g9 g10 g11 g12 g13 : Nat → Int32) (bp bn : Nat → Int32) (p o : Nat) (hn : n ≤ 16) (hp : p < n) (ho : o < n) (he : p = o) (hl : l.stackTraces = false) : zv_T l yX1_lead wsX1_lead rtX1_lead xIS D vwCl (tyL cI cZ) [.ref (q 0), .int (nI p), .int (nI o)] (cR cI cZ q h k (nI b) y (nI n) r f0 f1 f2 f3 f4 f5 f6 f7 f8 f9 f10 f11 f12 f13 (nI n1) r1 g0 g1 g2 g3 g4 g5 g6 g7 g8 g9 g10 g11 g12 g13 bp bn) := by
  refine zv_T.of cX1_lead 4 (some .int) (by decide) rfl (Nat.le_of_ble_eq_true rfl) ?_
  intro pP eE sS mM aA bB mT cD A C htab hlk hA hE Q hQ
  refine zv_go (pc' := 0) rfl (lv' := [(0, .ref (q 0)), (1, .int (nI p)), (2, .int (nI o))]) rfl rfl rfl rfl ?_
  refine zv_aload_n C dX1_lead_0 1 rfl 0 rfl ?_
  refine zv_iload_n C dX1_lead_1 2 rfl 1 rfl ?_
  refine zv_callVR (rest := []) C (k_X1_requirePlace l D cI cZ q h k b y n r f0 f1 f2 f3 f4 f5 f6 f7 f8 f9 f10 f11 f12 f13 n1 r1 g0 g1 g2 g3 g4 g5 g6 g7 g8 g9 g10 g11 g12 g13 bp bn p (by omega) (by omega)) (cwV 1 C.1.2.2.2.2 gX1_lead_X1_requirePlace rfl rfl rfl (by decide +kernel) ⟨Nat.le_of_ble_eq_true rfl, Nat.le_of_ble_eq_true rfl⟩) dX1_lead_2 5 rfl (ci := 1) 0 rfl rfl rfl rfl (Nat.le_of_ble_eq_true rfl) ⟨Nat.le_of_ble_eq_true rfl, Nat.le_of_ble_eq_true rfl⟩ [0, 1] rfl [0, 1, 2, 3, 4, 5, 6, 7, 8, 9, 10, 11, 12, 13, 14, 15, 16, 17, 18, 19, 20, 21, 22, 23, 24, 25, 26, 27, 28, 29, 30, 31, 32] rfl (by decide) (fun v hv => ?_)
  subst hv
  refine zv_go rfl rfl (st' := []) rfl (kc' := 0) rfl (ns' := 0) rfl ?_
  refine zv_aload_n C dX1_lead_5 6 rfl 0 rfl ?_
  refine zv_iload_n C dX1_lead_6 7 rfl 2 rfl ?_
  refine zv_callVR (rest := []) C (k_X1_requirePlace l D cI cZ q h k b y n r f0 f1 f2 f3 f4 f5 f6 f7 f8 f9 f10 f11 f12 f13 n1 r1 g0 g1 g2 g3 g4 g5 g6 g7 g8 g9 g10 g11 g12 g13 bp bn o (by omega) (by omega)) (cwV 1 C.1.2.2.2.2 gX1_lead_X1_requirePlace rfl rfl rfl (by decide +kernel) ⟨Nat.le_of_ble_eq_true rfl, Nat.le_of_ble_eq_true rfl⟩) dX1_lead_7 10 rfl (ci := 1) 0 rfl rfl rfl rfl (Nat.le_of_ble_eq_true rfl) ⟨Nat.le_of_ble_eq_true rfl, Nat.le_of_ble_eq_true rfl⟩ [0, 1] rfl [0, 1, 2, 3, 4, 5, 6, 7, 8, 9, 10, 11, 12, 13, 14, 15, 16, 17, 18, 19, 20, 21, 22, 23, 24, 25, 26, 27, 28, 29, 30, 31, 32] rfl (by decide) (fun v hv => ?_)
  subst hv
  refine zv_go rfl rfl (st' := []) rfl (kc' := 0) rfl (ns' := 0) rfl ?_
  refine zv_iload_n C dX1_lead_10 11 rfl 1 rfl ?_
  refine zv_iload_n C dX1_lead_11 12 rfl 2 rfl ?_
  refine zv_icmp_ne C dX1_lead_12 15 25 rfl (by decide) (fun c1 => ?_) (fun c1 => ?_)
  · exact absurd (congrArg nI he) c1
  · exact zv_thr (E := xIS) (text := "a place does not lead to itself") (is := 66) C hA hl hE htab hlk hQ dX1_lead_15 dX1_lead_18 dX1_lead_19 dX1_lead_21 dX1_lead_24 (by decide) (by decide +kernel) (by decide +kernel) (by decide +kernel) (by decide +kernel) xb_is (by decide +kernel) ⟨Nat.le_of_ble_eq_true rfl, Nat.le_of_ble_eq_true rfl, Nat.le_of_ble_eq_true rfl, Nat.le_of_ble_eq_true rfl⟩ (Nat.le_of_ble_eq_true rfl) (Nat.le_of_ble_eq_true rfl) (Nat.le_of_ble_eq_true rfl)
set_option maxHeartbeats 4000000 in
set_option maxRecDepth 100000 in
theorem k_X1_lead_t4 (l : Launch) (D : va_G) (cI cZ : ClassId) (q h k : Nat → Nat) (b : Nat) (y : Int32) (n : Nat) (r : Int32) (f0 f1 f2 f3 f4 f5 f6 f7 f8 f9 f10 f11 f12 f13 : Nat → Int32) (n1 : Nat) (r1 : Int32) (g0 g1 g2 g3 g4 g5 g6 g7 g8 g9 g10 g11 g12 g13 : Nat → Int32) (bp bn : Nat → Int32) (p o : Nat) (hn : n ≤ 16) (hp : p < n) (ho : o < n) (hw : Vw n f0) (hne : ¬ p = o) (hfl : fl f0 (nI p) 16 (f0 o) = true) (hl : l.stackTraces = false) : zv_T l yX1_lead wsX1_lead rtX1_lead xIS D vwCl (tyL cI cZ) [.ref (q 0), .int (nI p), .int (nI o)] (cR cI cZ q h k (nI b) y (nI n) r f0 f1 f2 f3 f4 f5 f6 f7 f8 f9 f10 f11 f12 f13 (nI n1) r1 g0 g1 g2 g3 g4 g5 g6 g7 g8 g9 g10 g11 g12 g13 bp bn) := by
  refine zv_T.of cX1_lead 4 (some .int) (by decide) rfl (Nat.le_of_ble_eq_true rfl) ?_
  intro pP eE sS mM aA bB mT cD A C htab hlk hA hE Q hQ
  have inX1 : ∀ w ∈ u_ws RX1 TX1 6, w ∈ wsX1_lead := by decide +kernel
  have lk10 : Cond.fieldLink RX1 10 "RiverNames" "land" "LRiverNames$Land;" ∈ wsX1_lead := by decide +kernel
  refine zv_go (pc' := 0) rfl (lv' := [(0, .ref (q 0)), (1, .int (nI p)), (2, .int (nI o))]) rfl rfl rfl rfl ?_
  refine zv_aload_n C dX1_lead_0 1 rfl 0 rfl ?_
  refine zv_iload_n C dX1_lead_1 2 rfl 1 rfl ?_
  refine zv_callVR (rest := []) C (k_X1_requirePlace l D cI cZ q h k b y n r f0 f1 f2 f3 f4 f5 f6 f7 f8 f9 f10 f11 f12 f13 n1 r1 g0 g1 g2 g3 g4 g5 g6 g7 g8 g9 g10 g11 g12 g13 bp bn p (by omega) (by omega)) (cwV 1 C.1.2.2.2.2 gX1_lead_X1_requirePlace rfl rfl rfl (by decide +kernel) ⟨Nat.le_of_ble_eq_true rfl, Nat.le_of_ble_eq_true rfl⟩) dX1_lead_2 5 rfl (ci := 1) 0 rfl rfl rfl rfl (Nat.le_of_ble_eq_true rfl) ⟨Nat.le_of_ble_eq_true rfl, Nat.le_of_ble_eq_true rfl⟩ [0, 1] rfl [0, 1, 2, 3, 4, 5, 6, 7, 8, 9, 10, 11, 12, 13, 14, 15, 16, 17, 18, 19, 20, 21, 22, 23, 24, 25, 26, 27, 28, 29, 30, 31, 32] rfl (by decide) (fun v hv => ?_)
  subst hv
  refine zv_go rfl rfl (st' := []) rfl (kc' := 0) rfl (ns' := 0) rfl ?_
  refine zv_aload_n C dX1_lead_5 6 rfl 0 rfl ?_
  refine zv_iload_n C dX1_lead_6 7 rfl 2 rfl ?_
  refine zv_callVR (rest := []) C (k_X1_requirePlace l D cI cZ q h k b y n r f0 f1 f2 f3 f4 f5 f6 f7 f8 f9 f10 f11 f12 f13 n1 r1 g0 g1 g2 g3 g4 g5 g6 g7 g8 g9 g10 g11 g12 g13 bp bn o (by omega) (by omega)) (cwV 1 C.1.2.2.2.2 gX1_lead_X1_requirePlace rfl rfl rfl (by decide +kernel) ⟨Nat.le_of_ble_eq_true rfl, Nat.le_of_ble_eq_true rfl⟩) dX1_lead_7 10 rfl (ci := 1) 0 rfl rfl rfl rfl (Nat.le_of_ble_eq_true rfl) ⟨Nat.le_of_ble_eq_true rfl, Nat.le_of_ble_eq_true rfl⟩ [0, 1] rfl [0, 1, 2, 3, 4, 5, 6, 7, 8, 9, 10, 11, 12, 13, 14, 15, 16, 17, 18, 19, 20, 21, 22, 23, 24, 25, 26, 27, 28, 29, 30, 31, 32] rfl (by decide) (fun v hv => ?_)
  subst hv
  refine zv_go rfl rfl (st' := []) rfl (kc' := 0) rfl (ns' := 0) rfl ?_
  refine zv_iload_n C dX1_lead_10 11 rfl 1 rfl ?_
  refine zv_iload_n C dX1_lead_11 12 rfl 2 rfl ?_
  refine zv_icmp_ne C dX1_lead_12 15 25 rfl (by decide) (fun c1 => ?_) (fun c1 => ?_)
  · refine zv_aload_n C dX1_lead_25 26 rfl 0 rfl ?_
    refine zv_get (ci := 1) C inX1 rfl dX1_lead_26 29 rfl 0 0 rfl (by decide) lk10 rfl ?_
    refine zv_iload_n C dX1_lead_29 30 rfl 2 rfl ?_
    refine zv_iload_n C dX1_lead_30 31 rfl 1 rfl ?_
    refine zv_callVR (rest := []) C (k_X0_flowsTo l D cI cZ h n r f0 f1 f2 f3 f4 f5 f6 f7 f8 f9 f10 f11 f12 f13 o (nI p) (by assumption) (by assumption) (by assumption)) (cwV 2 C.1.2.2.2.2 gX1_lead_X0_flowsTo rfl rfl rfl (by decide +kernel) ⟨Nat.le_of_ble_eq_true rfl, Nat.le_of_ble_eq_true rfl⟩) dX1_lead_31 34 rfl (ci := 0) 0 rfl rfl rfl rfl (Nat.le_of_ble_eq_true rfl) ⟨Nat.le_of_ble_eq_true rfl, Nat.le_of_ble_eq_true rfl⟩ [0, 1] rfl [1, 2, 3, 4, 5, 6, 7, 8, 9, 10, 11, 12, 13, 14, 15] rfl (by decide) (fun v hv => ?_)
    subst hv
    refine zv_go rfl rfl (st' := [.int (zb (fl f0 (nI p) 16 (f0 o)))]) rfl (kc' := 0) rfl (ns' := 0) rfl ?_
    refine zv_if_eq C dX1_lead_34 37 47 rfl (by decide) (fun c2 => ?_) (fun c2 => ?_)
    · exact absurd hfl (by rw [zb_eq0.mp c2]; decide)
    · exact zv_thr (E := xIS) (text := "ways do not lead in a ring") (is := 73) C hA hl hE htab hlk hQ dX1_lead_37 dX1_lead_40 dX1_lead_41 dX1_lead_43 dX1_lead_46 (by decide) (by decide +kernel) (by decide +kernel) (by decide +kernel) (by decide +kernel) xb_is (by decide +kernel) ⟨Nat.le_of_ble_eq_true rfl, Nat.le_of_ble_eq_true rfl, Nat.le_of_ble_eq_true rfl, Nat.le_of_ble_eq_true rfl⟩ (Nat.le_of_ble_eq_true rfl) (Nat.le_of_ble_eq_true rfl) (Nat.le_of_ble_eq_true rfl)
  · exact absurd (zn_eq (a := p) (b := o) (by omega) (by omega) c1) hne
abbrev rtX1_setRule : Room := { frames := 6, cells := 1, slots := 6, locals := 91 }
set_option maxHeartbeats 4000000 in
set_option maxRecDepth 100000 in
theorem k_X1_setRule_t (l : Launch) (D : va_G) (cI cZ : ClassId) (q h k : Nat → Nat) (b : Nat) (y : Int32) (n : Nat) (r : Int32) (f0 f1 f2 f3 f4 f5 f6 f7 f8 f9 f10 f11 f12 f13 : Nat → Int32) (n1 : Nat) (r1 : Int32) (g0 g1 g2 g3 g4 g5 g6 g7 g8 g9 g10 g11 g12 g13 : Nat → Int32) (bp bn : Nat → Int32) (i : Int32) (h1 : isI i 0 1 = false) (hl : l.stackTraces = false) : zv_T l yX1_setRule wsX1_setRule rtX1_setRule xIA D vwCl (tyL cI cZ) [.ref (q 0), .int i] (cR cI cZ q h k (nI b) y (nI n) r f0 f1 f2 f3 f4 f5 f6 f7 f8 f9 f10 f11 f12 f13 (nI n1) r1 g0 g1 g2 g3 g4 g5 g6 g7 g8 g9 g10 g11 g12 g13 bp bn) := by
  refine zv_T.of cX1_setRule 3 (some .int) (by decide) rfl (Nat.le_of_ble_eq_true rfl) ?_
  intro pP eE sS mM aA bB mT cD A C htab hlk hA hE Q hQ
  refine zv_go (pc' := 0) rfl (lv' := [(0, .ref (q 0)), (1, .int i)]) rfl rfl rfl rfl ?_
  refine zv_iload_n C dX1_setRule_0 1 rfl 1 rfl ?_
  refine zv_iconst (v := 0) C dX1_setRule_1 2 rfl (by decide) ?_
  refine zv_iconst (v := 1) C dX1_setRule_2 3 rfl (by decide) ?_
  refine zv_callSR (rest := []) C (k_X1_isWithin l D cI cZ i 0 1) (cwS 3 C.1.2.2.2.2 gX1_setRule_X1_isWithin rfl rfl rfl (by decide +kernel) ⟨Nat.le_of_ble_eq_true rfl, Nat.le_of_ble_eq_true rfl⟩) dX1_setRule_3 6 rfl rfl rfl (Nat.le_of_ble_eq_true rfl) ⟨Nat.le_of_ble_eq_true rfl, Nat.le_of_ble_eq_true rfl⟩ [0, 1] rfl [] rfl (by decide) (fun v hv => ?_)
  subst hv
  refine zv_go rfl rfl (st' := [.int (zb (isI i 0 1))]) rfl (kc' := 0) rfl (ns' := 0) rfl ?_
  refine zv_if_ne C dX1_setRule_6 9 19 rfl (by decide) (fun c1 => ?_) (fun c1 => ?_)
  · exact absurd h1 (by rw [zb_ne0.mp c1]; decide)
  · exact zv_thr (E := xIA) (text := "the rule is 0 or 1") (is := 90) C hA hl hE htab hlk hQ dX1_setRule_9 dX1_setRule_12 dX1_setRule_13 dX1_setRule_15 dX1_setRule_18 (by decide) (by decide +kernel) (by decide +kernel) (by decide +kernel) (by decide +kernel) xb_ia (by decide +kernel) ⟨Nat.le_of_ble_eq_true rfl, Nat.le_of_ble_eq_true rfl, Nat.le_of_ble_eq_true rfl, Nat.le_of_ble_eq_true rfl⟩ (Nat.le_of_ble_eq_true rfl) (Nat.le_of_ble_eq_true rfl) (Nat.le_of_ble_eq_true rfl)
abbrev rtX1_pass : Room := { frames := 7, cells := 1, slots := 6, locals := 110 }
set_option maxHeartbeats 4000000 in
set_option maxRecDepth 100000 in
theorem k_X1_pass_t (l : Launch) (D : va_G) (cI cZ : ClassId) (q h k : Nat → Nat) (b : Nat) (y : Int32) (n : Nat) (r : Int32) (f0 f1 f2 f3 f4 f5 f6 f7 f8 f9 f10 f11 f12 f13 : Nat → Int32) (n1 : Nat) (r1 : Int32) (g0 g1 g2 g3 g4 g5 g6 g7 g8 g9 g10 g11 g12 g13 : Nat → Int32) (bp bn : Nat → Int32) (i : Int32) (h1 : isI i 1 50 = false) (hl : l.stackTraces = false) : zv_T l yX1_pass wsX1_pass rtX1_pass xIA D vwCl (tyL cI cZ) [.ref (q 0), .int i] (cR cI cZ q h k (nI b) y (nI n) r f0 f1 f2 f3 f4 f5 f6 f7 f8 f9 f10 f11 f12 f13 (nI n1) r1 g0 g1 g2 g3 g4 g5 g6 g7 g8 g9 g10 g11 g12 g13 bp bn) := by
  refine zv_T.of cX1_pass 2 (some .int) (by decide) rfl (Nat.le_of_ble_eq_true rfl) ?_
  intro pP eE sS mM aA bB mT cD A C htab hlk hA hE Q hQ
  refine zv_go (pc' := 0) rfl (lv' := [(0, .ref (q 0)), (1, .int i)]) rfl rfl rfl rfl ?_
  refine zv_iload_n C dX1_pass_0 1 rfl 1 rfl ?_
  exact zv_tS (rest := []) C hA hE (k_X1_requireYears_t l D cI cZ i h1 hl) (cwS 1 C.1.2.2.2.2 gX1_pass_X1_requireYears rfl rfl rfl (by decide +kernel) ⟨Nat.le_of_ble_eq_true rfl, Nat.le_of_ble_eq_true rfl⟩) dX1_pass_1 rfl rfl (Nat.le_of_ble_eq_true rfl) ⟨Nat.le_of_ble_eq_true rfl, Nat.le_of_ble_eq_true rfl⟩ [0, 1] rfl [] rfl (by decide) (zx_up C hA htab hlk hQ (Nat.le_of_ble_eq_true rfl) (Nat.le_of_ble_eq_true rfl))
abbrev rtX1_placesNamed : Room := { frames := 7, cells := 1, slots := 6, locals := 110 }
set_option maxHeartbeats 4000000 in
set_option maxRecDepth 100000 in
theorem k_X1_placesNamed_t (l : Launch) (D : va_G) (cI cZ : ClassId) (q h k : Nat → Nat) (b : Nat) (y : Int32) (n : Nat) (r : Int32) (f0 f1 f2 f3 f4 f5 f6 f7 f8 f9 f10 f11 f12 f13 : Nat → Int32) (n1 : Nat) (r1 : Int32) (g0 g1 g2 g3 g4 g5 g6 g7 g8 g9 g10 g11 g12 g13 : Nat → Int32) (bp bn : Nat → Int32) (i : Int32) (h1 : isI i 0 9 = false) (hl : l.stackTraces = false) : zv_T l yX1_placesNamed wsX1_placesNamed rtX1_placesNamed xIO D vwCl (tyL cI cZ) [.ref (q 0), .int i] (cR cI cZ q h k (nI b) y (nI n) r f0 f1 f2 f3 f4 f5 f6 f7 f8 f9 f10 f11 f12 f13 (nI n1) r1 g0 g1 g2 g3 g4 g5 g6 g7 g8 g9 g10 g11 g12 g13 bp bn) := by
  refine zv_T.of cX1_placesNamed 2 (some .int) (by decide) rfl (Nat.le_of_ble_eq_true rfl) ?_
  intro pP eE sS mM aA bB mT cD A C htab hlk hA hE Q hQ
  refine zv_go (pc' := 0) rfl (lv' := [(0, .ref (q 0)), (1, .int i)]) rfl rfl rfl rfl ?_
  refine zv_iload_n C dX1_placesNamed_0 1 rfl 1 rfl ?_
  exact zv_tS (rest := []) C hA hE (k_X1_requireName_t l D cI cZ i h1 hl) (cwS 1 C.1.2.2.2.2 gX1_placesNamed_X1_requireName rfl rfl rfl (by decide +kernel) ⟨Nat.le_of_ble_eq_true rfl, Nat.le_of_ble_eq_true rfl⟩) dX1_placesNamed_1 rfl rfl (Nat.le_of_ble_eq_true rfl) ⟨Nat.le_of_ble_eq_true rfl, Nat.le_of_ble_eq_true rfl⟩ [0, 1] rfl [] rfl (by decide) (zx_up C hA htab hlk hQ (Nat.le_of_ble_eq_true rfl) (Nat.le_of_ble_eq_true rfl))
abbrev rtX1_turnDelta : Room := { frames := 7, cells := 1, slots := 6, locals := 111 }
set_option maxHeartbeats 4000000 in
set_option maxRecDepth 100000 in
theorem k_X1_turnDelta_t (l : Launch) (D : va_G) (cI cZ : ClassId) (q h k : Nat → Nat) (b : Nat) (y : Int32) (n : Nat) (r : Int32) (f0 f1 f2 f3 f4 f5 f6 f7 f8 f9 f10 f11 f12 f13 : Nat → Int32) (n1 : Nat) (r1 : Int32) (g0 g1 g2 g3 g4 g5 g6 g7 g8 g9 g10 g11 g12 g13 : Nat → Int32) (bp bn : Nat → Int32) (i : Int32) (hn : n ≤ 16) (hf : isP n i = false) (hl : l.stackTraces = false) : zv_T l yX1_turnDelta wsX1_turnDelta rtX1_turnDelta xIO D vwCl (tyL cI cZ) [.ref (q 0), .int i] (cR cI cZ q h k (nI b) y (nI n) r f0 f1 f2 f3 f4 f5 f6 f7 f8 f9 f10 f11 f12 f13 (nI n1) r1 g0 g1 g2 g3 g4 g5 g6 g7 g8 g9 g10 g11 g12 g13 bp bn) := by
  refine zv_T.of cX1_turnDelta 2 (some .boolean) (by decide) rfl (Nat.le_of_ble_eq_true rfl) ?_
  intro pP eE sS mM aA bB mT cD A C htab hlk hA hE Q hQ
  refine zv_go (pc' := 0) rfl (lv' := [(0, .ref (q 0)), (1, .int i)]) rfl rfl rfl rfl ?_
  refine zv_aload_n C dX1_turnDelta_0 1 rfl 0 rfl ?_
  refine zv_iload_n C dX1_turnDelta_1 2 rfl 1 rfl ?_
  exact zv_tV (rest := []) C hA hE (k_X1_requirePlace_t l D cI cZ q h k b y n r f0 f1 f2 f3 f4 f5 f6 f7 f8 f9 f10 f11 f12 f13 n1 r1 g0 g1 g2 g3 g4 g5 g6 g7 g8 g9 g10 g11 g12 g13 bp bn i (by omega) hf hl) (cwV 1 C.1.2.2.2.2 gX1_turnDelta_X1_requirePlace rfl rfl rfl (by decide +kernel) ⟨Nat.le_of_ble_eq_true rfl, Nat.le_of_ble_eq_true rfl⟩) dX1_turnDelta_2 (ci := 1) 0 rfl rfl rfl rfl (Nat.le_of_ble_eq_true rfl) ⟨Nat.le_of_ble_eq_true rfl, Nat.le_of_ble_eq_true rfl⟩ [0, 1] rfl [0, 1, 2, 3, 4, 5, 6, 7, 8, 9, 10, 11, 12, 13, 14, 15, 16, 17, 18, 19, 20, 21, 22, 23, 24, 25, 26, 27, 28, 29, 30, 31, 32] rfl (by decide) (zx_up C hA htab hlk hQ (Nat.le_of_ble_eq_true rfl) (Nat.le_of_ble_eq_true rfl))
abbrev rtX1_build : Room := { frames := 7, cells := 1, slots := 6, locals := 111 }
set_option maxHeartbeats 4000000 in
set_option maxRecDepth 100000 in
theorem k_X1_build_t (l : Launch) (D : va_G) (cI cZ : ClassId) (q h k : Nat → Nat) (b : Nat) (y : Int32) (n : Nat) (r : Int32) (f0 f1 f2 f3 f4 f5 f6 f7 f8 f9 f10 f11 f12 f13 : Nat → Int32) (n1 : Nat) (r1 : Int32) (g0 g1 g2 g3 g4 g5 g6 g7 g8 g9 g10 g11 g12 g13 : Nat → Int32) (bp bn : Nat → Int32) (i : Int32) (hn : n ≤ 16) (hf : isP n i = false) (hl : l.stackTraces = false) : zv_T l yX1_build wsX1_build rtX1_build xIO D vwCl (tyL cI cZ) [.ref (q 0), .int i] (cR cI cZ q h k (nI b) y (nI n) r f0 f1 f2 f3 f4 f5 f6 f7 f8 f9 f10 f11 f12 f13 (nI n1) r1 g0 g1 g2 g3 g4 g5 g6 g7 g8 g9 g10 g11 g12 g13 bp bn) := by
  refine zv_T.of cX1_build 3 (some .int) (by decide) rfl (Nat.le_of_ble_eq_true rfl) ?_
  intro pP eE sS mM aA bB mT cD A C htab hlk hA hE Q hQ
  refine zv_go (pc' := 0) rfl (lv' := [(0, .ref (q 0)), (1, .int i)]) rfl rfl rfl rfl ?_
  refine zv_aload_n C dX1_build_0 1 rfl 0 rfl ?_
  refine zv_iload_n C dX1_build_1 2 rfl 1 rfl ?_
  exact zv_tV (rest := []) C hA hE (k_X1_requirePlace_t l D cI cZ q h k b y n r f0 f1 f2 f3 f4 f5 f6 f7 f8 f9 f10 f11 f12 f13 n1 r1 g0 g1 g2 g3 g4 g5 g6 g7 g8 g9 g10 g11 g12 g13 bp bn i (by omega) hf hl) (cwV 1 C.1.2.2.2.2 gX1_build_X1_requirePlace rfl rfl rfl (by decide +kernel) ⟨Nat.le_of_ble_eq_true rfl, Nat.le_of_ble_eq_true rfl⟩) dX1_build_2 (ci := 1) 0 rfl rfl rfl rfl (Nat.le_of_ble_eq_true rfl) ⟨Nat.le_of_ble_eq_true rfl, Nat.le_of_ble_eq_true rfl⟩ [0, 1] rfl [0, 1, 2, 3, 4, 5, 6, 7, 8, 9, 10, 11, 12, 13, 14, 15, 16, 17, 18, 19, 20, 21, 22, 23, 24, 25, 26, 27, 28, 29, 30, 31, 32] rfl (by decide) (zx_up C hA htab hlk hQ (Nat.le_of_ble_eq_true rfl) (Nat.le_of_ble_eq_true rfl))
abbrev rtX1_leadsTo : Room := { frames := 7, cells := 1, slots := 6, locals := 111 }
set_option maxHeartbeats 4000000 in
set_option maxRecDepth 100000 in
theorem k_X1_leadsTo_t (l : Launch) (D : va_G) (cI cZ : ClassId) (q h k : Nat → Nat) (b : Nat) (y : Int32) (n : Nat) (r : Int32) (f0 f1 f2 f3 f4 f5 f6 f7 f8 f9 f10 f11 f12 f13 : Nat → Int32) (n1 : Nat) (r1 : Int32) (g0 g1 g2 g3 g4 g5 g6 g7 g8 g9 g10 g11 g12 g13 : Nat → Int32) (bp bn : Nat → Int32) (i : Int32) (hn : n ≤ 16) (hf : isP n i = false) (hl : l.stackTraces = false) : zv_T l yX1_leadsTo wsX1_leadsTo rtX1_leadsTo xIO D vwCl (tyL cI cZ) [.ref (q 0), .int i] (cR cI cZ q h k (nI b) y (nI n) r f0 f1 f2 f3 f4 f5 f6 f7 f8 f9 f10 f11 f12 f13 (nI n1) r1 g0 g1 g2 g3 g4 g5 g6 g7 g8 g9 g10 g11 g12 g13 bp bn) := by
  refine zv_T.of cX1_leadsTo 2 (some .int) (by decide) rfl (Nat.le_of_ble_eq_true rfl) ?_
  intro pP eE sS mM aA bB mT cD A C htab hlk hA hE Q hQ
  refine zv_go (pc' := 0) rfl (lv' := [(0, .ref (q 0)), (1, .int i)]) rfl rfl rfl rfl ?_
  refine zv_aload_n C dX1_leadsTo_0 1 rfl 0 rfl ?_
  refine zv_iload_n C dX1_leadsTo_1 2 rfl 1 rfl ?_
  exact zv_tV (rest := []) C hA hE (k_X1_requirePlace_t l D cI cZ q h k b y n r f0 f1 f2 f3 f4 f5 f6 f7 f8 f9 f10 f11 f12 f13 n1 r1 g0 g1 g2 g3 g4 g5 g6 g7 g8 g9 g10 g11 g12 g13 bp bn i (by omega) hf hl) (cwV 1 C.1.2.2.2.2 gX1_leadsTo_X1_requirePlace rfl rfl rfl (by decide +kernel) ⟨Nat.le_of_ble_eq_true rfl, Nat.le_of_ble_eq_true rfl⟩) dX1_leadsTo_2 (ci := 1) 0 rfl rfl rfl rfl (Nat.le_of_ble_eq_true rfl) ⟨Nat.le_of_ble_eq_true rfl, Nat.le_of_ble_eq_true rfl⟩ [0, 1] rfl [0, 1, 2, 3, 4, 5, 6, 7, 8, 9, 10, 11, 12, 13, 14, 15, 16, 17, 18, 19, 20, 21, 22, 23, 24, 25, 26, 27, 28, 29, 30, 31, 32] rfl (by decide) (zx_up C hA htab hlk hQ (Nat.le_of_ble_eq_true rfl) (Nat.le_of_ble_eq_true rfl))
abbrev rtX1_hasSpring : Room := { frames := 7, cells := 1, slots := 6, locals := 111 }
set_option maxHeartbeats 4000000 in
set_option maxRecDepth 100000 in
theorem k_X1_hasSpring_t (l : Launch) (D : va_G) (cI cZ : ClassId) (q h k : Nat → Nat) (b : Nat) (y : Int32) (n : Nat) (r : Int32) (f0 f1 f2 f3 f4 f5 f6 f7 f8 f9 f10 f11 f12 f13 : Nat → Int32) (n1 : Nat) (r1 : Int32) (g0 g1 g2 g3 g4 g5 g6 g7 g8 g9 g10 g11 g12 g13 : Nat → Int32) (bp bn : Nat → Int32) (i : Int32) (hn : n ≤ 16) (hf : isP n i = false) (hl : l.stackTraces = false) : zv_T l yX1_hasSpring wsX1_hasSpring rtX1_hasSpring xIO D vwCl (tyL cI cZ) [.ref (q 0), .int i] (cR cI cZ q h k (nI b) y (nI n) r f0 f1 f2 f3 f4 f5 f6 f7 f8 f9 f10 f11 f12 f13 (nI n1) r1 g0 g1 g2 g3 g4 g5 g6 g7 g8 g9 g10 g11 g12 g13 bp bn) := by
  refine zv_T.of cX1_hasSpring 2 (some .boolean) (by decide) rfl (Nat.le_of_ble_eq_true rfl) ?_
  intro pP eE sS mM aA bB mT cD A C htab hlk hA hE Q hQ
  refine zv_go (pc' := 0) rfl (lv' := [(0, .ref (q 0)), (1, .int i)]) rfl rfl rfl rfl ?_
  refine zv_aload_n C dX1_hasSpring_0 1 rfl 0 rfl ?_
  refine zv_iload_n C dX1_hasSpring_1 2 rfl 1 rfl ?_
  exact zv_tV (rest := []) C hA hE (k_X1_requirePlace_t l D cI cZ q h k b y n r f0 f1 f2 f3 f4 f5 f6 f7 f8 f9 f10 f11 f12 f13 n1 r1 g0 g1 g2 g3 g4 g5 g6 g7 g8 g9 g10 g11 g12 g13 bp bn i (by omega) hf hl) (cwV 1 C.1.2.2.2.2 gX1_hasSpring_X1_requirePlace rfl rfl rfl (by decide +kernel) ⟨Nat.le_of_ble_eq_true rfl, Nat.le_of_ble_eq_true rfl⟩) dX1_hasSpring_2 (ci := 1) 0 rfl rfl rfl rfl (Nat.le_of_ble_eq_true rfl) ⟨Nat.le_of_ble_eq_true rfl, Nat.le_of_ble_eq_true rfl⟩ [0, 1] rfl [0, 1, 2, 3, 4, 5, 6, 7, 8, 9, 10, 11, 12, 13, 14, 15, 16, 17, 18, 19, 20, 21, 22, 23, 24, 25, 26, 27, 28, 29, 30, 31, 32] rfl (by decide) (zx_up C hA htab hlk hQ (Nat.le_of_ble_eq_true rfl) (Nat.le_of_ble_eq_true rfl))
abbrev rtX1_springOf : Room := { frames := 7, cells := 1, slots := 6, locals := 111 }
set_option maxHeartbeats 4000000 in
set_option maxRecDepth 100000 in
theorem k_X1_springOf_t (l : Launch) (D : va_G) (cI cZ : ClassId) (q h k : Nat → Nat) (b : Nat) (y : Int32) (n : Nat) (r : Int32) (f0 f1 f2 f3 f4 f5 f6 f7 f8 f9 f10 f11 f12 f13 : Nat → Int32) (n1 : Nat) (r1 : Int32) (g0 g1 g2 g3 g4 g5 g6 g7 g8 g9 g10 g11 g12 g13 : Nat → Int32) (bp bn : Nat → Int32) (i : Int32) (hn : n ≤ 16) (hf : isP n i = false) (hl : l.stackTraces = false) : zv_T l yX1_springOf wsX1_springOf rtX1_springOf xIO D vwCl (tyL cI cZ) [.ref (q 0), .int i] (cR cI cZ q h k (nI b) y (nI n) r f0 f1 f2 f3 f4 f5 f6 f7 f8 f9 f10 f11 f12 f13 (nI n1) r1 g0 g1 g2 g3 g4 g5 g6 g7 g8 g9 g10 g11 g12 g13 bp bn) := by
  refine zv_T.of cX1_springOf 2 (some .int) (by decide) rfl (Nat.le_of_ble_eq_true rfl) ?_
  intro pP eE sS mM aA bB mT cD A C htab hlk hA hE Q hQ
  refine zv_go (pc' := 0) rfl (lv' := [(0, .ref (q 0)), (1, .int i)]) rfl rfl rfl rfl ?_
  refine zv_aload_n C dX1_springOf_0 1 rfl 0 rfl ?_
  refine zv_iload_n C dX1_springOf_1 2 rfl 1 rfl ?_
  exact zv_tV (rest := []) C hA hE (k_X1_requirePlace_t l D cI cZ q h k b y n r f0 f1 f2 f3 f4 f5 f6 f7 f8 f9 f10 f11 f12 f13 n1 r1 g0 g1 g2 g3 g4 g5 g6 g7 g8 g9 g10 g11 g12 g13 bp bn i (by omega) hf hl) (cwV 1 C.1.2.2.2.2 gX1_springOf_X1_requirePlace rfl rfl rfl (by decide +kernel) ⟨Nat.le_of_ble_eq_true rfl, Nat.le_of_ble_eq_true rfl⟩) dX1_springOf_2 (ci := 1) 0 rfl rfl rfl rfl (Nat.le_of_ble_eq_true rfl) ⟨Nat.le_of_ble_eq_true rfl, Nat.le_of_ble_eq_true rfl⟩ [0, 1] rfl [0, 1, 2, 3, 4, 5, 6, 7, 8, 9, 10, 11, 12, 13, 14, 15, 16, 17, 18, 19, 20, 21, 22, 23, 24, 25, 26, 27, 28, 29, 30, 31, 32] rfl (by decide) (zx_up C hA htab hlk hQ (Nat.le_of_ble_eq_true rfl) (Nat.le_of_ble_eq_true rfl))
abbrev rtX1_waterAt : Room := { frames := 7, cells := 1, slots := 6, locals := 111 }
set_option maxHeartbeats 4000000 in
set_option maxRecDepth 100000 in
theorem k_X1_waterAt_t (l : Launch) (D : va_G) (cI cZ : ClassId) (q h k : Nat → Nat) (b : Nat) (y : Int32) (n : Nat) (r : Int32) (f0 f1 f2 f3 f4 f5 f6 f7 f8 f9 f10 f11 f12 f13 : Nat → Int32) (n1 : Nat) (r1 : Int32) (g0 g1 g2 g3 g4 g5 g6 g7 g8 g9 g10 g11 g12 g13 : Nat → Int32) (bp bn : Nat → Int32) (i : Int32) (hn : n ≤ 16) (hf : isP n i = false) (hl : l.stackTraces = false) : zv_T l yX1_waterAt wsX1_waterAt rtX1_waterAt xIO D vwCl (tyL cI cZ) [.ref (q 0), .int i] (cR cI cZ q h k (nI b) y (nI n) r f0 f1 f2 f3 f4 f5 f6 f7 f8 f9 f10 f11 f12 f13 (nI n1) r1 g0 g1 g2 g3 g4 g5 g6 g7 g8 g9 g10 g11 g12 g13 bp bn) := by
  refine zv_T.of cX1_waterAt 2 (some .int) (by decide) rfl (Nat.le_of_ble_eq_true rfl) ?_
  intro pP eE sS mM aA bB mT cD A C htab hlk hA hE Q hQ
  refine zv_go (pc' := 0) rfl (lv' := [(0, .ref (q 0)), (1, .int i)]) rfl rfl rfl rfl ?_
  refine zv_aload_n C dX1_waterAt_0 1 rfl 0 rfl ?_
  refine zv_iload_n C dX1_waterAt_1 2 rfl 1 rfl ?_
  exact zv_tV (rest := []) C hA hE (k_X1_requirePlace_t l D cI cZ q h k b y n r f0 f1 f2 f3 f4 f5 f6 f7 f8 f9 f10 f11 f12 f13 n1 r1 g0 g1 g2 g3 g4 g5 g6 g7 g8 g9 g10 g11 g12 g13 bp bn i (by omega) hf hl) (cwV 1 C.1.2.2.2.2 gX1_waterAt_X1_requirePlace rfl rfl rfl (by decide +kernel) ⟨Nat.le_of_ble_eq_true rfl, Nat.le_of_ble_eq_true rfl⟩) dX1_waterAt_2 (ci := 1) 0 rfl rfl rfl rfl (Nat.le_of_ble_eq_true rfl) ⟨Nat.le_of_ble_eq_true rfl, Nat.le_of_ble_eq_true rfl⟩ [0, 1] rfl [0, 1, 2, 3, 4, 5, 6, 7, 8, 9, 10, 11, 12, 13, 14, 15, 16, 17, 18, 19, 20, 21, 22, 23, 24, 25, 26, 27, 28, 29, 30, 31, 32] rfl (by decide) (zx_up C hA htab hlk hQ (Nat.le_of_ble_eq_true rfl) (Nat.le_of_ble_eq_true rfl))
abbrev rtX1_lengthAt : Room := { frames := 7, cells := 1, slots := 6, locals := 111 }
set_option maxHeartbeats 4000000 in
set_option maxRecDepth 100000 in
theorem k_X1_lengthAt_t (l : Launch) (D : va_G) (cI cZ : ClassId) (q h k : Nat → Nat) (b : Nat) (y : Int32) (n : Nat) (r : Int32) (f0 f1 f2 f3 f4 f5 f6 f7 f8 f9 f10 f11 f12 f13 : Nat → Int32) (n1 : Nat) (r1 : Int32) (g0 g1 g2 g3 g4 g5 g6 g7 g8 g9 g10 g11 g12 g13 : Nat → Int32) (bp bn : Nat → Int32) (i : Int32) (hn : n ≤ 16) (hf : isP n i = false) (hl : l.stackTraces = false) : zv_T l yX1_lengthAt wsX1_lengthAt rtX1_lengthAt xIO D vwCl (tyL cI cZ) [.ref (q 0), .int i] (cR cI cZ q h k (nI b) y (nI n) r f0 f1 f2 f3 f4 f5 f6 f7 f8 f9 f10 f11 f12 f13 (nI n1) r1 g0 g1 g2 g3 g4 g5 g6 g7 g8 g9 g10 g11 g12 g13 bp bn) := by
  refine zv_T.of cX1_lengthAt 2 (some .int) (by decide) rfl (Nat.le_of_ble_eq_true rfl) ?_
  intro pP eE sS mM aA bB mT cD A C htab hlk hA hE Q hQ
  refine zv_go (pc' := 0) rfl (lv' := [(0, .ref (q 0)), (1, .int i)]) rfl rfl rfl rfl ?_
  refine zv_aload_n C dX1_lengthAt_0 1 rfl 0 rfl ?_
  refine zv_iload_n C dX1_lengthAt_1 2 rfl 1 rfl ?_
  exact zv_tV (rest := []) C hA hE (k_X1_requirePlace_t l D cI cZ q h k b y n r f0 f1 f2 f3 f4 f5 f6 f7 f8 f9 f10 f11 f12 f13 n1 r1 g0 g1 g2 g3 g4 g5 g6 g7 g8 g9 g10 g11 g12 g13 bp bn i (by omega) hf hl) (cwV 1 C.1.2.2.2.2 gX1_lengthAt_X1_requirePlace rfl rfl rfl (by decide +kernel) ⟨Nat.le_of_ble_eq_true rfl, Nat.le_of_ble_eq_true rfl⟩) dX1_lengthAt_2 (ci := 1) 0 rfl rfl rfl rfl (Nat.le_of_ble_eq_true rfl) ⟨Nat.le_of_ble_eq_true rfl, Nat.le_of_ble_eq_true rfl⟩ [0, 1] rfl [0, 1, 2, 3, 4, 5, 6, 7, 8, 9, 10, 11, 12, 13, 14, 15, 16, 17, 18, 19, 20, 21, 22, 23, 24, 25, 26, 27, 28, 29, 30, 31, 32] rfl (by decide) (zx_up C hA htab hlk hQ (Nat.le_of_ble_eq_true rfl) (Nat.le_of_ble_eq_true rfl))
abbrev rtX1_mouthOf : Room := { frames := 7, cells := 1, slots := 6, locals := 111 }
set_option maxHeartbeats 4000000 in
set_option maxRecDepth 100000 in
theorem k_X1_mouthOf_t (l : Launch) (D : va_G) (cI cZ : ClassId) (q h k : Nat → Nat) (b : Nat) (y : Int32) (n : Nat) (r : Int32) (f0 f1 f2 f3 f4 f5 f6 f7 f8 f9 f10 f11 f12 f13 : Nat → Int32) (n1 : Nat) (r1 : Int32) (g0 g1 g2 g3 g4 g5 g6 g7 g8 g9 g10 g11 g12 g13 : Nat → Int32) (bp bn : Nat → Int32) (i : Int32) (hn : n ≤ 16) (hf : isP n i = false) (hl : l.stackTraces = false) : zv_T l yX1_mouthOf wsX1_mouthOf rtX1_mouthOf xIO D vwCl (tyL cI cZ) [.ref (q 0), .int i] (cR cI cZ q h k (nI b) y (nI n) r f0 f1 f2 f3 f4 f5 f6 f7 f8 f9 f10 f11 f12 f13 (nI n1) r1 g0 g1 g2 g3 g4 g5 g6 g7 g8 g9 g10 g11 g12 g13 bp bn) := by
  refine zv_T.of cX1_mouthOf 2 (some .int) (by decide) rfl (Nat.le_of_ble_eq_true rfl) ?_
  intro pP eE sS mM aA bB mT cD A C htab hlk hA hE Q hQ
  refine zv_go (pc' := 0) rfl (lv' := [(0, .ref (q 0)), (1, .int i)]) rfl rfl rfl rfl ?_
  refine zv_aload_n C dX1_mouthOf_0 1 rfl 0 rfl ?_
  refine zv_iload_n C dX1_mouthOf_1 2 rfl 1 rfl ?_
  exact zv_tV (rest := []) C hA hE (k_X1_requirePlace_t l D cI cZ q h k b y n r f0 f1 f2 f3 f4 f5 f6 f7 f8 f9 f10 f11 f12 f13 n1 r1 g0 g1 g2 g3 g4 g5 g6 g7 g8 g9 g10 g11 g12 g13 bp bn i (by omega) hf hl) (cwV 1 C.1.2.2.2.2 gX1_mouthOf_X1_requirePlace rfl rfl rfl (by decide +kernel) ⟨Nat.le_of_ble_eq_true rfl, Nat.le_of_ble_eq_true rfl⟩) dX1_mouthOf_2 (ci := 1) 0 rfl rfl rfl rfl (Nat.le_of_ble_eq_true rfl) ⟨Nat.le_of_ble_eq_true rfl, Nat.le_of_ble_eq_true rfl⟩ [0, 1] rfl [0, 1, 2, 3, 4, 5, 6, 7, 8, 9, 10, 11, 12, 13, 14, 15, 16, 17, 18, 19, 20, 21, 22, 23, 24, 25, 26, 27, 28, 29, 30, 31, 32] rfl (by decide) (zx_up C hA htab hlk hQ (Nat.le_of_ble_eq_true rfl) (Nat.le_of_ble_eq_true rfl))
abbrev rtX1_placesAbove : Room := { frames := 7, cells := 1, slots := 6, locals := 111 }
set_option maxHeartbeats 4000000 in
set_option maxRecDepth 100000 in
theorem k_X1_placesAbove_t (l : Launch) (D : va_G) (cI cZ : ClassId) (q h k : Nat → Nat) (b : Nat) (y : Int32) (n : Nat) (r : Int32) (f0 f1 f2 f3 f4 f5 f6 f7 f8 f9 f10 f11 f12 f13 : Nat → Int32) (n1 : Nat) (r1 : Int32) (g0 g1 g2 g3 g4 g5 g6 g7 g8 g9 g10 g11 g12 g13 : Nat → Int32) (bp bn : Nat → Int32) (i : Int32) (hn : n ≤ 16) (hf : isP n i = false) (hl : l.stackTraces = false) : zv_T l yX1_placesAbove wsX1_placesAbove rtX1_placesAbove xIO D vwCl (tyL cI cZ) [.ref (q 0), .int i] (cR cI cZ q h k (nI b) y (nI n) r f0 f1 f2 f3 f4 f5 f6 f7 f8 f9 f10 f11 f12 f13 (nI n1) r1 g0 g1 g2 g3 g4 g5 g6 g7 g8 g9 g10 g11 g12 g13 bp bn) := by
  refine zv_T.of cX1_placesAbove 4 (some .int) (by decide) rfl (Nat.le_of_ble_eq_true rfl) ?_
  intro pP eE sS mM aA bB mT cD A C htab hlk hA hE Q hQ
  refine zv_go (pc' := 0) rfl (lv' := [(0, .ref (q 0)), (1, .int i)]) rfl rfl rfl rfl ?_
  refine zv_aload_n C dX1_placesAbove_0 1 rfl 0 rfl ?_
  refine zv_iload_n C dX1_placesAbove_1 2 rfl 1 rfl ?_
  exact zv_tV (rest := []) C hA hE (k_X1_requirePlace_t l D cI cZ q h k b y n r f0 f1 f2 f3 f4 f5 f6 f7 f8 f9 f10 f11 f12 f13 n1 r1 g0 g1 g2 g3 g4 g5 g6 g7 g8 g9 g10 g11 g12 g13 bp bn i (by omega) hf hl) (cwV 1 C.1.2.2.2.2 gX1_placesAbove_X1_requirePlace rfl rfl rfl (by decide +kernel) ⟨Nat.le_of_ble_eq_true rfl, Nat.le_of_ble_eq_true rfl⟩) dX1_placesAbove_2 (ci := 1) 0 rfl rfl rfl rfl (Nat.le_of_ble_eq_true rfl) ⟨Nat.le_of_ble_eq_true rfl, Nat.le_of_ble_eq_true rfl⟩ [0, 1] rfl [0, 1, 2, 3, 4, 5, 6, 7, 8, 9, 10, 11, 12, 13, 14, 15, 16, 17, 18, 19, 20, 21, 22, 23, 24, 25, 26, 27, 28, 29, 30, 31, 32] rfl (by decide) (zx_up C hA htab hlk hQ (Nat.le_of_ble_eq_true rfl) (Nat.le_of_ble_eq_true rfl))
abbrev rtX1_nameAt : Room := { frames := 7, cells := 1, slots := 6, locals := 111 }
set_option maxHeartbeats 4000000 in
set_option maxRecDepth 100000 in
theorem k_X1_nameAt_t (l : Launch) (D : va_G) (cI cZ : ClassId) (q h k : Nat → Nat) (b : Nat) (y : Int32) (n : Nat) (r : Int32) (f0 f1 f2 f3 f4 f5 f6 f7 f8 f9 f10 f11 f12 f13 : Nat → Int32) (n1 : Nat) (r1 : Int32) (g0 g1 g2 g3 g4 g5 g6 g7 g8 g9 g10 g11 g12 g13 : Nat → Int32) (bp bn : Nat → Int32) (i : Int32) (hn : n ≤ 16) (hf : isP n i = false) (hl : l.stackTraces = false) : zv_T l yX1_nameAt wsX1_nameAt rtX1_nameAt xIO D vwCl (tyL cI cZ) [.ref (q 0), .int i] (cR cI cZ q h k (nI b) y (nI n) r f0 f1 f2 f3 f4 f5 f6 f7 f8 f9 f10 f11 f12 f13 (nI n1) r1 g0 g1 g2 g3 g4 g5 g6 g7 g8 g9 g10 g11 g12 g13 bp bn) := by
  refine zv_T.of cX1_nameAt 2 (some .int) (by decide) rfl (Nat.le_of_ble_eq_true rfl) ?_
  intro pP eE sS mM aA bB mT cD A C htab hlk hA hE Q hQ
  refine zv_go (pc' := 0) rfl (lv' := [(0, .ref (q 0)), (1, .int i)]) rfl rfl rfl rfl ?_
  refine zv_aload_n C dX1_nameAt_0 1 rfl 0 rfl ?_
  refine zv_iload_n C dX1_nameAt_1 2 rfl 1 rfl ?_
  exact zv_tV (rest := []) C hA hE (k_X1_requirePlace_t l D cI cZ q h k b y n r f0 f1 f2 f3 f4 f5 f6 f7 f8 f9 f10 f11 f12 f13 n1 r1 g0 g1 g2 g3 g4 g5 g6 g7 g8 g9 g10 g11 g12 g13 bp bn i (by omega) hf hl) (cwV 1 C.1.2.2.2.2 gX1_nameAt_X1_requirePlace rfl rfl rfl (by decide +kernel) ⟨Nat.le_of_ble_eq_true rfl, Nat.le_of_ble_eq_true rfl⟩) dX1_nameAt_2 (ci := 1) 0 rfl rfl rfl rfl (Nat.le_of_ble_eq_true rfl) ⟨Nat.le_of_ble_eq_true rfl, Nat.le_of_ble_eq_true rfl⟩ [0, 1] rfl [0, 1, 2, 3, 4, 5, 6, 7, 8, 9, 10, 11, 12, 13, 14, 15, 16, 17, 18, 19, 20, 21, 22, 23, 24, 25, 26, 27, 28, 29, 30, 31, 32] rfl (by decide) (zx_up C hA htab hlk hQ (Nat.le_of_ble_eq_true rfl) (Nat.le_of_ble_eq_true rfl))
abbrev rtX1_arguing : Room := { frames := 7, cells := 1, slots := 6, locals := 111 }
set_option maxHeartbeats 4000000 in
set_option maxRecDepth 100000 in
theorem k_X1_arguing_t (l : Launch) (D : va_G) (cI cZ : ClassId) (q h k : Nat → Nat) (b : Nat) (y : Int32) (n : Nat) (r : Int32) (f0 f1 f2 f3 f4 f5 f6 f7 f8 f9 f10 f11 f12 f13 : Nat → Int32) (n1 : Nat) (r1 : Int32) (g0 g1 g2 g3 g4 g5 g6 g7 g8 g9 g10 g11 g12 g13 : Nat → Int32) (bp bn : Nat → Int32) (i : Int32) (hn : n ≤ 16) (hf : isP n i = false) (hl : l.stackTraces = false) : zv_T l yX1_arguing wsX1_arguing rtX1_arguing xIO D vwCl (tyL cI cZ) [.ref (q 0), .int i] (cR cI cZ q h k (nI b) y (nI n) r f0 f1 f2 f3 f4 f5 f6 f7 f8 f9 f10 f11 f12 f13 (nI n1) r1 g0 g1 g2 g3 g4 g5 g6 g7 g8 g9 g10 g11 g12 g13 bp bn) := by
  refine zv_T.of cX1_arguing 2 (some .int) (by decide) rfl (Nat.le_of_ble_eq_true rfl) ?_
  intro pP eE sS mM aA bB mT cD A C htab hlk hA hE Q hQ
  refine zv_go (pc' := 0) rfl (lv' := [(0, .ref (q 0)), (1, .int i)]) rfl rfl rfl rfl ?_
  refine zv_aload_n C dX1_arguing_0 1 rfl 0 rfl ?_
  refine zv_iload_n C dX1_arguing_1 2 rfl 1 rfl ?_
  exact zv_tV (rest := []) C hA hE (k_X1_requirePlace_t l D cI cZ q h k b y n r f0 f1 f2 f3 f4 f5 f6 f7 f8 f9 f10 f11 f12 f13 n1 r1 g0 g1 g2 g3 g4 g5 g6 g7 g8 g9 g10 g11 g12 g13 bp bn i (by omega) hf hl) (cwV 1 C.1.2.2.2.2 gX1_arguing_X1_requirePlace rfl rfl rfl (by decide +kernel) ⟨Nat.le_of_ble_eq_true rfl, Nat.le_of_ble_eq_true rfl⟩) dX1_arguing_2 (ci := 1) 0 rfl rfl rfl rfl (Nat.le_of_ble_eq_true rfl) ⟨Nat.le_of_ble_eq_true rfl, Nat.le_of_ble_eq_true rfl⟩ [0, 1] rfl [0, 1, 2, 3, 4, 5, 6, 7, 8, 9, 10, 11, 12, 13, 14, 15, 16, 17, 18, 19, 20, 21, 22, 23, 24, 25, 26, 27, 28, 29, 30, 31, 32] rfl (by decide) (zx_up C hA htab hlk hQ (Nat.le_of_ble_eq_true rfl) (Nat.le_of_ble_eq_true rfl))
abbrev rtX1_isArgued : Room := { frames := 7, cells := 1, slots := 6, locals := 111 }
set_option maxHeartbeats 4000000 in
set_option maxRecDepth 100000 in
theorem k_X1_isArgued_t (l : Launch) (D : va_G) (cI cZ : ClassId) (q h k : Nat → Nat) (b : Nat) (y : Int32) (n : Nat) (r : Int32) (f0 f1 f2 f3 f4 f5 f6 f7 f8 f9 f10 f11 f12 f13 : Nat → Int32) (n1 : Nat) (r1 : Int32) (g0 g1 g2 g3 g4 g5 g6 g7 g8 g9 g10 g11 g12 g13 : Nat → Int32) (bp bn : Nat → Int32) (i : Int32) (hn : n ≤ 16) (hf : isP n i = false) (hl : l.stackTraces = false) : zv_T l yX1_isArgued wsX1_isArgued rtX1_isArgued xIO D vwCl (tyL cI cZ) [.ref (q 0), .int i] (cR cI cZ q h k (nI b) y (nI n) r f0 f1 f2 f3 f4 f5 f6 f7 f8 f9 f10 f11 f12 f13 (nI n1) r1 g0 g1 g2 g3 g4 g5 g6 g7 g8 g9 g10 g11 g12 g13 bp bn) := by
  refine zv_T.of cX1_isArgued 2 (some .boolean) (by decide) rfl (Nat.le_of_ble_eq_true rfl) ?_
  intro pP eE sS mM aA bB mT cD A C htab hlk hA hE Q hQ
  refine zv_go (pc' := 0) rfl (lv' := [(0, .ref (q 0)), (1, .int i)]) rfl rfl rfl rfl ?_
  refine zv_aload_n C dX1_isArgued_0 1 rfl 0 rfl ?_
  refine zv_iload_n C dX1_isArgued_1 2 rfl 1 rfl ?_
  exact zv_tV (rest := []) C hA hE (k_X1_requirePlace_t l D cI cZ q h k b y n r f0 f1 f2 f3 f4 f5 f6 f7 f8 f9 f10 f11 f12 f13 n1 r1 g0 g1 g2 g3 g4 g5 g6 g7 g8 g9 g10 g11 g12 g13 bp bn i (by omega) hf hl) (cwV 1 C.1.2.2.2.2 gX1_isArgued_X1_requirePlace rfl rfl rfl (by decide +kernel) ⟨Nat.le_of_ble_eq_true rfl, Nat.le_of_ble_eq_true rfl⟩) dX1_isArgued_2 (ci := 1) 0 rfl rfl rfl rfl (Nat.le_of_ble_eq_true rfl) ⟨Nat.le_of_ble_eq_true rfl, Nat.le_of_ble_eq_true rfl⟩ [0, 1] rfl [0, 1, 2, 3, 4, 5, 6, 7, 8, 9, 10, 11, 12, 13, 14, 15, 16, 17, 18, 19, 20, 21, 22, 23, 24, 25, 26, 27, 28, 29, 30, 31, 32] rfl (by decide) (zx_up C hA htab hlk hQ (Nat.le_of_ble_eq_true rfl) (Nat.le_of_ble_eq_true rfl))
abbrev rtX1_insultsAt : Room := { frames := 7, cells := 1, slots := 6, locals := 111 }
set_option maxHeartbeats 4000000 in
set_option maxRecDepth 100000 in
theorem k_X1_insultsAt_t (l : Launch) (D : va_G) (cI cZ : ClassId) (q h k : Nat → Nat) (b : Nat) (y : Int32) (n : Nat) (r : Int32) (f0 f1 f2 f3 f4 f5 f6 f7 f8 f9 f10 f11 f12 f13 : Nat → Int32) (n1 : Nat) (r1 : Int32) (g0 g1 g2 g3 g4 g5 g6 g7 g8 g9 g10 g11 g12 g13 : Nat → Int32) (bp bn : Nat → Int32) (i : Int32) (hn : n ≤ 16) (hf : isP n i = false) (hl : l.stackTraces = false) : zv_T l yX1_insultsAt wsX1_insultsAt rtX1_insultsAt xIO D vwCl (tyL cI cZ) [.ref (q 0), .int i] (cR cI cZ q h k (nI b) y (nI n) r f0 f1 f2 f3 f4 f5 f6 f7 f8 f9 f10 f11 f12 f13 (nI n1) r1 g0 g1 g2 g3 g4 g5 g6 g7 g8 g9 g10 g11 g12 g13 bp bn) := by
  refine zv_T.of cX1_insultsAt 4 (some .int) (by decide) rfl (Nat.le_of_ble_eq_true rfl) ?_
  intro pP eE sS mM aA bB mT cD A C htab hlk hA hE Q hQ
  refine zv_go (pc' := 0) rfl (lv' := [(0, .ref (q 0)), (1, .int i)]) rfl rfl rfl rfl ?_
  refine zv_aload_n C dX1_insultsAt_0 1 rfl 0 rfl ?_
  refine zv_iload_n C dX1_insultsAt_1 2 rfl 1 rfl ?_
  exact zv_tV (rest := []) C hA hE (k_X1_requirePlace_t l D cI cZ q h k b y n r f0 f1 f2 f3 f4 f5 f6 f7 f8 f9 f10 f11 f12 f13 n1 r1 g0 g1 g2 g3 g4 g5 g6 g7 g8 g9 g10 g11 g12 g13 bp bn i (by omega) hf hl) (cwV 1 C.1.2.2.2.2 gX1_insultsAt_X1_requirePlace rfl rfl rfl (by decide +kernel) ⟨Nat.le_of_ble_eq_true rfl, Nat.le_of_ble_eq_true rfl⟩) dX1_insultsAt_2 (ci := 1) 0 rfl rfl rfl rfl (Nat.le_of_ble_eq_true rfl) ⟨Nat.le_of_ble_eq_true rfl, Nat.le_of_ble_eq_true rfl⟩ [0, 1] rfl [0, 1, 2, 3, 4, 5, 6, 7, 8, 9, 10, 11, 12, 13, 14, 15, 16, 17, 18, 19, 20, 21, 22, 23, 24, 25, 26, 27, 28, 29, 30, 31, 32] rfl (by decide) (zx_up C hA htab hlk hQ (Nat.le_of_ble_eq_true rfl) (Nat.le_of_ble_eq_true rfl))
abbrev rtX1_yearsUntilRenamed : Room := { frames := 7, cells := 1, slots := 6, locals := 111 }
set_option maxHeartbeats 4000000 in
set_option maxRecDepth 100000 in
theorem k_X1_yearsUntilRenamed_t (l : Launch) (D : va_G) (cI cZ : ClassId) (q h k : Nat → Nat) (b : Nat) (y : Int32) (n : Nat) (r : Int32) (f0 f1 f2 f3 f4 f5 f6 f7 f8 f9 f10 f11 f12 f13 : Nat → Int32) (n1 : Nat) (r1 : Int32) (g0 g1 g2 g3 g4 g5 g6 g7 g8 g9 g10 g11 g12 g13 : Nat → Int32) (bp bn : Nat → Int32) (i : Int32) (hn : n ≤ 16) (hf : isP n i = false) (hl : l.stackTraces = false) : zv_T l yX1_yearsUntilRenamed wsX1_yearsUntilRenamed rtX1_yearsUntilRenamed xIO D vwCl (tyL cI cZ) [.ref (q 0), .int i] (cR cI cZ q h k (nI b) y (nI n) r f0 f1 f2 f3 f4 f5 f6 f7 f8 f9 f10 f11 f12 f13 (nI n1) r1 g0 g1 g2 g3 g4 g5 g6 g7 g8 g9 g10 g11 g12 g13 bp bn) := by
  refine zv_T.of cX1_yearsUntilRenamed 3 (some .int) (by decide) rfl (Nat.le_of_ble_eq_true rfl) ?_
  intro pP eE sS mM aA bB mT cD A C htab hlk hA hE Q hQ
  refine zv_go (pc' := 0) rfl (lv' := [(0, .ref (q 0)), (1, .int i)]) rfl rfl rfl rfl ?_
  refine zv_aload_n C dX1_yearsUntilRenamed_0 1 rfl 0 rfl ?_
  refine zv_iload_n C dX1_yearsUntilRenamed_1 2 rfl 1 rfl ?_
  exact zv_tV (rest := []) C hA hE (k_X1_requirePlace_t l D cI cZ q h k b y n r f0 f1 f2 f3 f4 f5 f6 f7 f8 f9 f10 f11 f12 f13 n1 r1 g0 g1 g2 g3 g4 g5 g6 g7 g8 g9 g10 g11 g12 g13 bp bn i (by omega) hf hl) (cwV 1 C.1.2.2.2.2 gX1_yearsUntilRenamed_X1_requirePlace rfl rfl rfl (by decide +kernel) ⟨Nat.le_of_ble_eq_true rfl, Nat.le_of_ble_eq_true rfl⟩) dX1_yearsUntilRenamed_2 (ci := 1) 0 rfl rfl rfl rfl (Nat.le_of_ble_eq_true rfl) ⟨Nat.le_of_ble_eq_true rfl, Nat.le_of_ble_eq_true rfl⟩ [0, 1] rfl [0, 1, 2, 3, 4, 5, 6, 7, 8, 9, 10, 11, 12, 13, 14, 15, 16, 17, 18, 19, 20, 21, 22, 23, 24, 25, 26, 27, 28, 29, 30, 31, 32] rfl (by decide) (zx_up C hA htab hlk hQ (Nat.le_of_ble_eq_true rfl) (Nat.le_of_ble_eq_true rfl))
abbrev rtX1_renamedByDelta : Room := { frames := 7, cells := 1, slots := 6, locals := 111 }
set_option maxHeartbeats 4000000 in
set_option maxRecDepth 100000 in
theorem k_X1_renamedByDelta_t (l : Launch) (D : va_G) (cI cZ : ClassId) (q h k : Nat → Nat) (b : Nat) (y : Int32) (n : Nat) (r : Int32) (f0 f1 f2 f3 f4 f5 f6 f7 f8 f9 f10 f11 f12 f13 : Nat → Int32) (n1 : Nat) (r1 : Int32) (g0 g1 g2 g3 g4 g5 g6 g7 g8 g9 g10 g11 g12 g13 : Nat → Int32) (bp bn : Nat → Int32) (i : Int32) (hn : n ≤ 16) (hf : isP n i = false) (hl : l.stackTraces = false) : zv_T l yX1_renamedByDelta wsX1_renamedByDelta rtX1_renamedByDelta xIO D vwCl (tyL cI cZ) [.ref (q 0), .int i] (cR cI cZ q h k (nI b) y (nI n) r f0 f1 f2 f3 f4 f5 f6 f7 f8 f9 f10 f11 f12 f13 (nI n1) r1 g0 g1 g2 g3 g4 g5 g6 g7 g8 g9 g10 g11 g12 g13 bp bn) := by
  refine zv_T.of cX1_renamedByDelta 2 (some .int) (by decide) rfl (Nat.le_of_ble_eq_true rfl) ?_
  intro pP eE sS mM aA bB mT cD A C htab hlk hA hE Q hQ
  refine zv_go (pc' := 0) rfl (lv' := [(0, .ref (q 0)), (1, .int i)]) rfl rfl rfl rfl ?_
  refine zv_aload_n C dX1_renamedByDelta_0 1 rfl 0 rfl ?_
  refine zv_iload_n C dX1_renamedByDelta_1 2 rfl 1 rfl ?_
  exact zv_tV (rest := []) C hA hE (k_X1_requirePlace_t l D cI cZ q h k b y n r f0 f1 f2 f3 f4 f5 f6 f7 f8 f9 f10 f11 f12 f13 n1 r1 g0 g1 g2 g3 g4 g5 g6 g7 g8 g9 g10 g11 g12 g13 bp bn i (by omega) hf hl) (cwV 1 C.1.2.2.2.2 gX1_renamedByDelta_X1_requirePlace rfl rfl rfl (by decide +kernel) ⟨Nat.le_of_ble_eq_true rfl, Nat.le_of_ble_eq_true rfl⟩) dX1_renamedByDelta_2 (ci := 1) 0 rfl rfl rfl rfl (Nat.le_of_ble_eq_true rfl) ⟨Nat.le_of_ble_eq_true rfl, Nat.le_of_ble_eq_true rfl⟩ [0, 1] rfl [0, 1, 2, 3, 4, 5, 6, 7, 8, 9, 10, 11, 12, 13, 14, 15, 16, 17, 18, 19, 20, 21, 22, 23, 24, 25, 26, 27, 28, 29, 30, 31, 32] rfl (by decide) (zx_up C hA htab hlk hQ (Nat.le_of_ble_eq_true rfl) (Nat.le_of_ble_eq_true rfl))
set_option maxHeartbeats 4000000 in
set_option maxRecDepth 100000 in
theorem k_X1_build_t2 (l : Launch) (D : va_G) (cI cZ : ClassId) (q h k : Nat → Nat) (b : Nat) (y : Int32) (n : Nat) (r : Int32) (f0 f1 f2 f3 f4 f5 f6 f7 f8 f9 f10 f11 f12 f13 : Nat → Int32) (n1 : Nat) (r1 : Int32) (g0 g1 g2 g3 g4 g5 g6 g7 g8 g9 g10 g11 g12 g13 : Nat → Int32) (bp bn : Nat → Int32) (p : Nat) (hn : n ≤ 16) (hp : p < n) (hb : b = 16) (hl : l.stackTraces = false) : zv_T l yX1_build wsX1_build rtX1_build xIS D vwCl (tyL cI cZ) [.ref (q 0), .int (nI p)] (cR cI cZ q h k (nI b) y (nI n) r f0 f1 f2 f3 f4 f5 f6 f7 f8 f9 f10 f11 f12 f13 (nI n1) r1 g0 g1 g2 g3 g4 g5 g6 g7 g8 g9 g10 g11 g12 g13 bp bn) := by
  refine zv_T.of cX1_build 3 (some .int) (by decide) rfl (Nat.le_of_ble_eq_true rfl) ?_
  intro pP eE sS mM aA bB mT cD A C htab hlk hA hE Q hQ
  have inX1 : ∀ w ∈ u_ws RX1 TX1 6, w ∈ wsX1_build := by decide +kernel
  have lk26 : Cond.fieldLink RX1 26 "RiverNames" "bridgeCount" "I" ∈ wsX1_build := by decide +kernel
  refine zv_go (pc' := 0) rfl (lv' := [(0, .ref (q 0)), (1, .int (nI p))]) rfl rfl rfl rfl ?_
  refine zv_aload_n C dX1_build_0 1 rfl 0 rfl ?_
  refine zv_iload_n C dX1_build_1 2 rfl 1 rfl ?_
  refine zv_callVR (rest := []) C (k_X1_requirePlace l D cI cZ q h k b y n r f0 f1 f2 f3 f4 f5 f6 f7 f8 f9 f10 f11 f12 f13 n1 r1 g0 g1 g2 g3 g4 g5 g6 g7 g8 g9 g10 g11 g12 g13 bp bn p (by omega) (by omega)) (cwV 1 C.1.2.2.2.2 gX1_build_X1_requirePlace rfl rfl rfl (by decide +kernel) ⟨Nat.le_of_ble_eq_true rfl, Nat.le_of_ble_eq_true rfl⟩) dX1_build_2 5 rfl (ci := 1) 0 rfl rfl rfl rfl (Nat.le_of_ble_eq_true rfl) ⟨Nat.le_of_ble_eq_true rfl, Nat.le_of_ble_eq_true rfl⟩ [0, 1] rfl [0, 1, 2, 3, 4, 5, 6, 7, 8, 9, 10, 11, 12, 13, 14, 15, 16, 17, 18, 19, 20, 21, 22, 23, 24, 25, 26, 27, 28, 29, 30, 31, 32] rfl (by decide) (fun v hv => ?_)
  subst hv
  refine zv_go rfl rfl (st' := []) rfl (kc' := 0) rfl (ns' := 0) rfl ?_
  refine zv_aload_n C dX1_build_5 6 rfl 0 rfl ?_
  refine zv_get (ci := 1) C inX1 rfl dX1_build_6 9 rfl 0 4 rfl (by decide) lk26 rfl ?_
  refine zv_bipush (v := 16) C dX1_build_9 11 rfl (by decide) ?_
  refine zv_icmp_lt C dX1_build_11 14 24 rfl (by decide) (fun c1 => ?_) (fun c1 => ?_)
  · exact absurd c1 (by rw [hb]; exact nI_nlt (Nat.le_refl 16) (by omega))
  · exact zv_thr (E := xIS) (text := "there are 16 bridges") (is := 98) C hA hl hE htab hlk hQ dX1_build_14 dX1_build_17 dX1_build_18 dX1_build_20 dX1_build_23 (by decide) (by decide +kernel) (by decide +kernel) (by decide +kernel) (by decide +kernel) xb_is (by decide +kernel) ⟨Nat.le_of_ble_eq_true rfl, Nat.le_of_ble_eq_true rfl, Nat.le_of_ble_eq_true rfl, Nat.le_of_ble_eq_true rfl⟩ (Nat.le_of_ble_eq_true rfl) (Nat.le_of_ble_eq_true rfl) (Nat.le_of_ble_eq_true rfl)
abbrev rtX1_placeOf : Room := { frames := 7, cells := 1, slots := 6, locals := 111 }
set_option maxHeartbeats 4000000 in
set_option maxRecDepth 100000 in
theorem k_X1_placeOf_t (l : Launch) (D : va_G) (cI cZ : ClassId) (q h k : Nat → Nat) (b : Nat) (y : Int32) (n : Nat) (r : Int32) (f0 f1 f2 f3 f4 f5 f6 f7 f8 f9 f10 f11 f12 f13 : Nat → Int32) (n1 : Nat) (r1 : Int32) (g0 g1 g2 g3 g4 g5 g6 g7 g8 g9 g10 g11 g12 g13 : Nat → Int32) (bp bn : Nat → Int32) (i : Int32) (hb : b ≤ 16) (hf : isP b i = false) (hl : l.stackTraces = false) : zv_T l yX1_placeOf wsX1_placeOf rtX1_placeOf xIO D vwCl (tyL cI cZ) [.ref (q 0), .int i] (cR cI cZ q h k (nI b) y (nI n) r f0 f1 f2 f3 f4 f5 f6 f7 f8 f9 f10 f11 f12 f13 (nI n1) r1 g0 g1 g2 g3 g4 g5 g6 g7 g8 g9 g10 g11 g12 g13 bp bn) := by
  refine zv_T.of cX1_placeOf 2 (some .int) (by decide) rfl (Nat.le_of_ble_eq_true rfl) ?_
  intro pP eE sS mM aA bB mT cD A C htab hlk hA hE Q hQ
  refine zv_go (pc' := 0) rfl (lv' := [(0, .ref (q 0)), (1, .int i)]) rfl rfl rfl rfl ?_
  refine zv_aload_n C dX1_placeOf_0 1 rfl 0 rfl ?_
  refine zv_iload_n C dX1_placeOf_1 2 rfl 1 rfl ?_
  exact zv_tV (rest := []) C hA hE (k_X1_requireBridge_t l D cI cZ q h k b y n r f0 f1 f2 f3 f4 f5 f6 f7 f8 f9 f10 f11 f12 f13 n1 r1 g0 g1 g2 g3 g4 g5 g6 g7 g8 g9 g10 g11 g12 g13 bp bn i (by omega) hf hl) (cwV 1 C.1.2.2.2.2 gX1_placeOf_X1_requireBridge rfl rfl rfl (by decide +kernel) ⟨Nat.le_of_ble_eq_true rfl, Nat.le_of_ble_eq_true rfl⟩) dX1_placeOf_2 (ci := 1) 0 rfl rfl rfl rfl (Nat.le_of_ble_eq_true rfl) ⟨Nat.le_of_ble_eq_true rfl, Nat.le_of_ble_eq_true rfl⟩ [0, 1] rfl [0, 1, 2, 3, 4, 5, 6, 7, 8, 9, 10, 11, 12, 13, 14, 15, 16, 17, 18, 19, 20, 21, 22, 23, 24, 25, 26, 27, 28, 29, 30, 31, 32] rfl (by decide) (zx_up C hA htab hlk hQ (Nat.le_of_ble_eq_true rfl) (Nat.le_of_ble_eq_true rfl))
abbrev rtX1_keeps : Room := { frames := 7, cells := 1, slots := 6, locals := 111 }
set_option maxHeartbeats 4000000 in
set_option maxRecDepth 100000 in
theorem k_X1_keeps_t (l : Launch) (D : va_G) (cI cZ : ClassId) (q h k : Nat → Nat) (b : Nat) (y : Int32) (n : Nat) (r : Int32) (f0 f1 f2 f3 f4 f5 f6 f7 f8 f9 f10 f11 f12 f13 : Nat → Int32) (n1 : Nat) (r1 : Int32) (g0 g1 g2 g3 g4 g5 g6 g7 g8 g9 g10 g11 g12 g13 : Nat → Int32) (bp bn : Nat → Int32) (i : Int32) (hb : b ≤ 16) (hf : isP b i = false) (hl : l.stackTraces = false) : zv_T l yX1_keeps wsX1_keeps rtX1_keeps xIO D vwCl (tyL cI cZ) [.ref (q 0), .int i] (cR cI cZ q h k (nI b) y (nI n) r f0 f1 f2 f3 f4 f5 f6 f7 f8 f9 f10 f11 f12 f13 (nI n1) r1 g0 g1 g2 g3 g4 g5 g6 g7 g8 g9 g10 g11 g12 g13 bp bn) := by
  refine zv_T.of cX1_keeps 2 (some .int) (by decide) rfl (Nat.le_of_ble_eq_true rfl) ?_
  intro pP eE sS mM aA bB mT cD A C htab hlk hA hE Q hQ
  refine zv_go (pc' := 0) rfl (lv' := [(0, .ref (q 0)), (1, .int i)]) rfl rfl rfl rfl ?_
  refine zv_aload_n C dX1_keeps_0 1 rfl 0 rfl ?_
  refine zv_iload_n C dX1_keeps_1 2 rfl 1 rfl ?_
  exact zv_tV (rest := []) C hA hE (k_X1_requireBridge_t l D cI cZ q h k b y n r f0 f1 f2 f3 f4 f5 f6 f7 f8 f9 f10 f11 f12 f13 n1 r1 g0 g1 g2 g3 g4 g5 g6 g7 g8 g9 g10 g11 g12 g13 bp bn i (by omega) hf hl) (cwV 1 C.1.2.2.2.2 gX1_keeps_X1_requireBridge rfl rfl rfl (by decide +kernel) ⟨Nat.le_of_ble_eq_true rfl, Nat.le_of_ble_eq_true rfl⟩) dX1_keeps_2 (ci := 1) 0 rfl rfl rfl rfl (Nat.le_of_ble_eq_true rfl) ⟨Nat.le_of_ble_eq_true rfl, Nat.le_of_ble_eq_true rfl⟩ [0, 1] rfl [0, 1, 2, 3, 4, 5, 6, 7, 8, 9, 10, 11, 12, 13, 14, 15, 16, 17, 18, 19, 20, 21, 22, 23, 24, 25, 26, 27, 28, 29, 30, 31, 32] rfl (by decide) (zx_up C hA htab hlk hQ (Nat.le_of_ble_eq_true rfl) (Nat.le_of_ble_eq_true rfl))
abbrev rtX1_isInsulted : Room := { frames := 7, cells := 1, slots := 6, locals := 111 }
set_option maxHeartbeats 4000000 in
set_option maxRecDepth 100000 in
theorem k_X1_isInsulted_t (l : Launch) (D : va_G) (cI cZ : ClassId) (q h k : Nat → Nat) (b : Nat) (y : Int32) (n : Nat) (r : Int32) (f0 f1 f2 f3 f4 f5 f6 f7 f8 f9 f10 f11 f12 f13 : Nat → Int32) (n1 : Nat) (r1 : Int32) (g0 g1 g2 g3 g4 g5 g6 g7 g8 g9 g10 g11 g12 g13 : Nat → Int32) (bp bn : Nat → Int32) (i : Int32) (hb : b ≤ 16) (hf : isP b i = false) (hl : l.stackTraces = false) : zv_T l yX1_isInsulted wsX1_isInsulted rtX1_isInsulted xIO D vwCl (tyL cI cZ) [.ref (q 0), .int i] (cR cI cZ q h k (nI b) y (nI n) r f0 f1 f2 f3 f4 f5 f6 f7 f8 f9 f10 f11 f12 f13 (nI n1) r1 g0 g1 g2 g3 g4 g5 g6 g7 g8 g9 g10 g11 g12 g13 bp bn) := by
  refine zv_T.of cX1_isInsulted 2 (some .boolean) (by decide) rfl (Nat.le_of_ble_eq_true rfl) ?_
  intro pP eE sS mM aA bB mT cD A C htab hlk hA hE Q hQ
  refine zv_go (pc' := 0) rfl (lv' := [(0, .ref (q 0)), (1, .int i)]) rfl rfl rfl rfl ?_
  refine zv_aload_n C dX1_isInsulted_0 1 rfl 0 rfl ?_
  refine zv_iload_n C dX1_isInsulted_1 2 rfl 1 rfl ?_
  exact zv_tV (rest := []) C hA hE (k_X1_requireBridge_t l D cI cZ q h k b y n r f0 f1 f2 f3 f4 f5 f6 f7 f8 f9 f10 f11 f12 f13 n1 r1 g0 g1 g2 g3 g4 g5 g6 g7 g8 g9 g10 g11 g12 g13 bp bn i (by omega) hf hl) (cwV 1 C.1.2.2.2.2 gX1_isInsulted_X1_requireBridge rfl rfl rfl (by decide +kernel) ⟨Nat.le_of_ble_eq_true rfl, Nat.le_of_ble_eq_true rfl⟩) dX1_isInsulted_2 (ci := 1) 0 rfl rfl rfl rfl (Nat.le_of_ble_eq_true rfl) ⟨Nat.le_of_ble_eq_true rfl, Nat.le_of_ble_eq_true rfl⟩ [0, 1] rfl [0, 1, 2, 3, 4, 5, 6, 7, 8, 9, 10, 11, 12, 13, 14, 15, 16, 17, 18, 19, 20, 21, 22, 23, 24, 25, 26, 27, 28, 29, 30, 31, 32] rfl (by decide) (zx_up C hA htab hlk hQ (Nat.le_of_ble_eq_true rfl) (Nat.le_of_ble_eq_true rfl))
abbrev rtX1_nameIn : Room := { frames := 7, cells := 1, slots := 6, locals := 111 }
set_option maxHeartbeats 4000000 in
set_option maxRecDepth 100000 in
theorem k_X1_nameIn_t1 (l : Launch) (D : va_G) (cI cZ : ClassId) (q h k : Nat → Nat) (b : Nat) (y : Int32) (n : Nat) (r : Int32) (f0 f1 f2 f3 f4 f5 f6 f7 f8 f9 f10 f11 f12 f13 : Nat → Int32) (n1 : Nat) (r1 : Int32) (g0 g1 g2 g3 g4 g5 g6 g7 g8 g9 g10 g11 g12 g13 : Nat → Int32) (bp bn : Nat → Int32) (i j : Int32) (hn : n ≤ 16) (hf : isP n i = false) (hl : l.stackTraces = false) : zv_T l yX1_nameIn wsX1_nameIn rtX1_nameIn xIO D vwCl (tyL cI cZ) [.ref (q 0), .int i, .int j] (cR cI cZ q h k (nI b) y (nI n) r f0 f1 f2 f3 f4 f5 f6 f7 f8 f9 f10 f11 f12 f13 (nI n1) r1 g0 g1 g2 g3 g4 g5 g6 g7 g8 g9 g10 g11 g12 g13 bp bn) := by
  refine zv_T.of cX1_nameIn 3 (some .int) (by decide) rfl (Nat.le_of_ble_eq_true rfl) ?_
  intro pP eE sS mM aA bB mT cD A C htab hlk hA hE Q hQ
  refine zv_go (pc' := 0) rfl (lv' := [(0, .ref (q 0)), (1, .int i), (2, .int j)]) rfl rfl rfl rfl ?_
  refine zv_aload_n C dX1_nameIn_0 1 rfl 0 rfl ?_
  refine zv_iload_n C dX1_nameIn_1 2 rfl 1 rfl ?_
  exact zv_tV (rest := []) C hA hE (k_X1_requirePlace_t l D cI cZ q h k b y n r f0 f1 f2 f3 f4 f5 f6 f7 f8 f9 f10 f11 f12 f13 n1 r1 g0 g1 g2 g3 g4 g5 g6 g7 g8 g9 g10 g11 g12 g13 bp bn i (by omega) hf hl) (cwV 1 C.1.2.2.2.2 gX1_nameIn_X1_requirePlace rfl rfl rfl (by decide +kernel) ⟨Nat.le_of_ble_eq_true rfl, Nat.le_of_ble_eq_true rfl⟩) dX1_nameIn_2 (ci := 1) 0 rfl rfl rfl rfl (Nat.le_of_ble_eq_true rfl) ⟨Nat.le_of_ble_eq_true rfl, Nat.le_of_ble_eq_true rfl⟩ [0, 1] rfl [0, 1, 2, 3, 4, 5, 6, 7, 8, 9, 10, 11, 12, 13, 14, 15, 16, 17, 18, 19, 20, 21, 22, 23, 24, 25, 26, 27, 28, 29, 30, 31, 32] rfl (by decide) (zx_up C hA htab hlk hQ (Nat.le_of_ble_eq_true rfl) (Nat.le_of_ble_eq_true rfl))
set_option maxHeartbeats 4000000 in
set_option maxRecDepth 100000 in
theorem k_X1_nameIn_t2 (l : Launch) (D : va_G) (cI cZ : ClassId) (q h k : Nat → Nat) (b : Nat) (y : Int32) (n : Nat) (r : Int32) (f0 f1 f2 f3 f4 f5 f6 f7 f8 f9 f10 f11 f12 f13 : Nat → Int32) (n1 : Nat) (r1 : Int32) (g0 g1 g2 g3 g4 g5 g6 g7 g8 g9 g10 g11 g12 g13 : Nat → Int32) (bp bn : Nat → Int32) (p : Nat) (j : Int32) (hn : n ≤ 16) (hp : p < n) (h1 : isI j 1 50 = false) (hl : l.stackTraces = false) : zv_T l yX1_nameIn wsX1_nameIn rtX1_nameIn xIA D vwCl (tyL cI cZ) [.ref (q 0), .int (nI p), .int j] (cR cI cZ q h k (nI b) y (nI n) r f0 f1 f2 f3 f4 f5 f6 f7 f8 f9 f10 f11 f12 f13 (nI n1) r1 g0 g1 g2 g3 g4 g5 g6 g7 g8 g9 g10 g11 g12 g13 bp bn) := by
  refine zv_T.of cX1_nameIn 3 (some .int) (by decide) rfl (Nat.le_of_ble_eq_true rfl) ?_
  intro pP eE sS mM aA bB mT cD A C htab hlk hA hE Q hQ
  refine zv_go (pc' := 0) rfl (lv' := [(0, .ref (q 0)), (1, .int (nI p)), (2, .int j)]) rfl rfl rfl rfl ?_
  refine zv_aload_n C dX1_nameIn_0 1 rfl 0 rfl ?_
  refine zv_iload_n C dX1_nameIn_1 2 rfl 1 rfl ?_
  refine zv_callVR (rest := []) C (k_X1_requirePlace l D cI cZ q h k b y n r f0 f1 f2 f3 f4 f5 f6 f7 f8 f9 f10 f11 f12 f13 n1 r1 g0 g1 g2 g3 g4 g5 g6 g7 g8 g9 g10 g11 g12 g13 bp bn p (by omega) (by omega)) (cwV 1 C.1.2.2.2.2 gX1_nameIn_X1_requirePlace rfl rfl rfl (by decide +kernel) ⟨Nat.le_of_ble_eq_true rfl, Nat.le_of_ble_eq_true rfl⟩) dX1_nameIn_2 5 rfl (ci := 1) 0 rfl rfl rfl rfl (Nat.le_of_ble_eq_true rfl) ⟨Nat.le_of_ble_eq_true rfl, Nat.le_of_ble_eq_true rfl⟩ [0, 1] rfl [0, 1, 2, 3, 4, 5, 6, 7, 8, 9, 10, 11, 12, 13, 14, 15, 16, 17, 18, 19, 20, 21, 22, 23, 24, 25, 26, 27, 28, 29, 30, 31, 32] rfl (by decide) (fun v hv => ?_)
  subst hv
  refine zv_go rfl rfl (st' := []) rfl (kc' := 0) rfl (ns' := 0) rfl ?_
  refine zv_iload_n C dX1_nameIn_5 6 rfl 2 rfl ?_
  exact zv_tS (rest := []) C hA hE (k_X1_requireYears_t l D cI cZ j h1 hl) (cwS 1 C.1.2.2.2.2 gX1_nameIn_X1_requireYears rfl rfl rfl (by decide +kernel) ⟨Nat.le_of_ble_eq_true rfl, Nat.le_of_ble_eq_true rfl⟩) dX1_nameIn_6 rfl rfl (Nat.le_of_ble_eq_true rfl) ⟨Nat.le_of_ble_eq_true rfl, Nat.le_of_ble_eq_true rfl⟩ [0, 1] rfl [] rfl (by decide) (zx_up C hA htab hlk hQ (Nat.le_of_ble_eq_true rfl) (Nat.le_of_ble_eq_true rfl))
