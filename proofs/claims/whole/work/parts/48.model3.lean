abbrev rmX2_leadsTo : Room := { frames := 2, cells := 0, slots := 0, locals := 43 }
set_option maxHeartbeats 4000000 in
set_option maxRecDepth 100000 in
theorem k_X2_leadsTo_ok (l : Launch) (D : va_G) (cI cZ : ClassId) (h : Nat → Nat) (t : Int32) (n : Nat) (r y : Int32) (b : Nat) (f0 f1 f2 f3 f4 f5 f6 f7 f8 f9 f10 f11 f12 f13 : Nat → Int32) (p : Nat) (hn : n ≤ 16) (hp : p < n) : zv_M l yX2_leadsTo wsX2_leadsTo rmX2_leadsTo D vwCl (tyL cI cZ) [.ref (h 0), .int (nI p)] (cM cI cZ h t (nI n) r y (nI b) f0 f1 f2 f3 f4 f5 f6 f7 f8 f9 f10 f11 f12 f13) (fun v w => v = some (.int (f0 p)) ∧ w = (cM cI cZ h 0 (nI n) r y (nI b) f0 f1 f2 f3 f4 f5 f6 f7 f8 f9 f10 f11 f12 f13)) := by
  refine zv_M.of cX2_leadsTo 2 (some .int) (by decide) rfl (Nat.le_of_ble_eq_true rfl) ?_
  intro pP eE sS mM aA bB mT cD A C hr hlk hnm Q hQ
  have inX2 : ∀ w ∈ u_ws RX2 TX2 19, w ∈ wsX2_leadsTo := by decide +kernel
  have lk53 : Cond.fieldLink RX2 53 "RiverNamesModel" "thrown" "I" ∈ wsX2_leadsTo := by decide +kernel
  have lk9 : Cond.fieldLink RX2 9 "RiverNamesModel" "to" "[I" ∈ wsX2_leadsTo := by decide +kernel
  refine zv_go (pc' := 0) rfl (lv' := [(0, .ref (h 0)), (1, .int (nI p))]) rfl rfl rfl rfl ?_
  refine zv_aload_n C dX2_leadsTo_0 1 rfl 0 rfl ?_
  refine zv_iconst (v := 0) C dX2_leadsTo_1 2 rfl (by decide) ?_
  refine zv_put (ci := 2) C inX2 rfl tyX2_ok nmX2 dX2_leadsTo_2 5 rfl 0 0 rfl (by decide) lk53 rfl rfl rfl (Nat.le_of_ble_eq_true rfl) (cM cI cZ h 0 (nI n) r y (nI b) f0 f1 f2 f3 f4 f5 f6 f7 f8 f9 f10 f11 f12 f13) rfl ?_
  refine zv_aload_n C dX2_leadsTo_5 6 rfl 0 rfl ?_
  refine zv_iload_n C dX2_leadsTo_6 7 rfl 1 rfl ?_
  refine zv_callVR (rest := []) C (k_X2_isPlace l D cI cZ h 0 n r y b f0 f1 f2 f3 f4 f5 f6 f7 f8 f9 f10 f11 f12 f13 (nI p) (by omega)) (cwV 1 C.1.2.2.2.2 gX2_leadsTo_X2_isPlace rfl rfl rfl (by decide +kernel) ⟨Nat.le_of_ble_eq_true rfl, Nat.le_of_ble_eq_true rfl⟩) dX2_leadsTo_7 10 rfl (ci := 2) 0 rfl rfl rfl rfl (Nat.le_of_ble_eq_true rfl) ⟨Nat.le_of_ble_eq_true rfl, Nat.le_of_ble_eq_true rfl⟩ [0, 1] rfl [0, 1, 2, 3, 4, 5, 6, 7, 8, 9, 10, 11, 12, 13, 14] rfl (by decide) (fun v hv => ?_)
  subst hv
  refine zv_go rfl rfl (st' := [.int (zb (isP n (nI p)))]) rfl (kc' := 0) rfl (ns' := 0) rfl ?_
  refine zv_if_eq C dX2_leadsTo_10 13 22 rfl (by decide) (fun c1 => ?_) (fun c1 => ?_)
  · exact absurd (isP_nI (by omega) hp) (by rw [zb_eq0.mp c1]; decide)
  · refine zv_aload_n C dX2_leadsTo_13 14 rfl 0 rfl ?_
    refine zv_get (ci := 2) C inX2 rfl dX2_leadsTo_14 17 rfl 0 4 rfl (by decide) lk9 rfl ?_
    refine zv_iload_n C dX2_leadsTo_17 18 rfl 1 rfl ?_
    refine zv_iald (v := (f0 p)) C dX2_leadsTo_18 19 rfl 1 0 p rfl rfl rfl (by omega) (by decide) rfl ?_
    refine zv_goto C dX2_leadsTo_19 27 (by decide) ?_
    exact zv_iret C hr hlk hQ dX2_leadsTo_27 ⟨rfl, rfl⟩
set_option maxHeartbeats 4000000 in
set_option maxRecDepth 100000 in
theorem k_X2_leadsTo_no (l : Launch) (D : va_G) (cI cZ : ClassId) (h : Nat → Nat) (t : Int32) (n : Nat) (r y : Int32) (b : Nat) (f0 f1 f2 f3 f4 f5 f6 f7 f8 f9 f10 f11 f12 f13 : Nat → Int32) (i : Int32) (hn : n ≤ 16) (hf : isP n i = false) : zv_M l yX2_leadsTo wsX2_leadsTo rmX2_leadsTo D vwCl (tyL cI cZ) [.ref (h 0), .int i] (cM cI cZ h t (nI n) r y (nI b) f0 f1 f2 f3 f4 f5 f6 f7 f8 f9 f10 f11 f12 f13) (fun v w => v = some (.int 0) ∧ w = (cM cI cZ h 1 (nI n) r y (nI b) f0 f1 f2 f3 f4 f5 f6 f7 f8 f9 f10 f11 f12 f13)) := by
  refine zv_M.of cX2_leadsTo 2 (some .int) (by decide) rfl (Nat.le_of_ble_eq_true rfl) ?_
  intro pP eE sS mM aA bB mT cD A C hr hlk hnm Q hQ
  have inX2 : ∀ w ∈ u_ws RX2 TX2 19, w ∈ wsX2_leadsTo := by decide +kernel
  have lk53 : Cond.fieldLink RX2 53 "RiverNamesModel" "thrown" "I" ∈ wsX2_leadsTo := by decide +kernel
  refine zv_go (pc' := 0) rfl (lv' := [(0, .ref (h 0)), (1, .int i)]) rfl rfl rfl rfl ?_
  refine zv_aload_n C dX2_leadsTo_0 1 rfl 0 rfl ?_
  refine zv_iconst (v := 0) C dX2_leadsTo_1 2 rfl (by decide) ?_
  refine zv_put (ci := 2) C inX2 rfl tyX2_ok nmX2 dX2_leadsTo_2 5 rfl 0 0 rfl (by decide) lk53 rfl rfl rfl (Nat.le_of_ble_eq_true rfl) (cM cI cZ h 0 (nI n) r y (nI b) f0 f1 f2 f3 f4 f5 f6 f7 f8 f9 f10 f11 f12 f13) rfl ?_
  refine zv_aload_n C dX2_leadsTo_5 6 rfl 0 rfl ?_
  refine zv_iload_n C dX2_leadsTo_6 7 rfl 1 rfl ?_
  refine zv_callVR (rest := []) C (k_X2_isPlace l D cI cZ h 0 n r y b f0 f1 f2 f3 f4 f5 f6 f7 f8 f9 f10 f11 f12 f13 i (by omega)) (cwV 1 C.1.2.2.2.2 gX2_leadsTo_X2_isPlace rfl rfl rfl (by decide +kernel) ⟨Nat.le_of_ble_eq_true rfl, Nat.le_of_ble_eq_true rfl⟩) dX2_leadsTo_7 10 rfl (ci := 2) 0 rfl rfl rfl rfl (Nat.le_of_ble_eq_true rfl) ⟨Nat.le_of_ble_eq_true rfl, Nat.le_of_ble_eq_true rfl⟩ [0, 1] rfl [0, 1, 2, 3, 4, 5, 6, 7, 8, 9, 10, 11, 12, 13, 14] rfl (by decide) (fun v hv => ?_)
  subst hv
  refine zv_go rfl rfl (st' := [.int (zb (isP n i))]) rfl (kc' := 0) rfl (ns' := 0) rfl ?_
  refine zv_if_eq C dX2_leadsTo_10 13 22 rfl (by decide) (fun c1 => ?_) (fun c1 => ?_)
  · refine zv_aload_n C dX2_leadsTo_22 23 rfl 0 rfl ?_
    refine zv_iconst (v := 1) C dX2_leadsTo_23 24 rfl (by decide) ?_
    refine zv_callV (rest := []) (wr := []) C (k_X2_no l D cI cZ h 0 n r y b f0 f1 f2 f3 f4 f5 f6 f7 f8 f9 f10 f11 f12 f13 1) (cwV 1 C.1.2.2.2.2 gX2_leadsTo_X2_no rfl rfl rfl (by decide +kernel) ⟨Nat.le_of_ble_eq_true rfl, Nat.le_of_ble_eq_true rfl⟩) dX2_leadsTo_24 27 rfl (ci := 2) 0 rfl rfl rfl rfl (Nat.le_of_ble_eq_true rfl) ⟨Nat.le_of_ble_eq_true rfl, Nat.le_of_ble_eq_true rfl⟩ [0, 1] rfl [0, 1, 2, 3, 4, 5, 6, 7, 8, 9, 10, 11, 12, 13, 14] rfl (by decide) [] rfl (by decide) (by decide +kernel) (fun v w hv => ?_)
    obtain ⟨rfl, rfl⟩ := hv
    refine zv_go rfl rfl (st' := [.int 0]) rfl (kc' := 0) rfl (ns' := 0) rfl ?_
    refine zv_wd (ws' := (cM cI cZ h 1 (nI n) r y (nI b) f0 f1 f2 f3 f4 f5 f6 f7 f8 f9 f10 f11 f12 f13)) rfl ?_
    exact zv_iret C hr hlk hQ dX2_leadsTo_27 ⟨rfl, rfl⟩
  · exact absurd hf (by rw [zb_ne0.mp c1]; decide)
abbrev rmX2_hasSpring : Room := { frames := 2, cells := 0, slots := 0, locals := 43 }
set_option maxHeartbeats 4000000 in
set_option maxRecDepth 100000 in
theorem k_X2_hasSpring_ok (l : Launch) (D : va_G) (cI cZ : ClassId) (h : Nat → Nat) (t : Int32) (n : Nat) (r y : Int32) (b : Nat) (f0 f1 f2 f3 f4 f5 f6 f7 f8 f9 f10 f11 f12 f13 : Nat → Int32) (p : Nat) (hn : n ≤ 16) (hp : p < n) (hz : zo (f1 p)) : zv_M l yX2_hasSpring wsX2_hasSpring rmX2_hasSpring D vwCl (tyL cI cZ) [.ref (h 0), .int (nI p)] (cM cI cZ h t (nI n) r y (nI b) f0 f1 f2 f3 f4 f5 f6 f7 f8 f9 f10 f11 f12 f13) (fun v w => v = some (.int (f1 p)) ∧ w = (cM cI cZ h 0 (nI n) r y (nI b) f0 f1 f2 f3 f4 f5 f6 f7 f8 f9 f10 f11 f12 f13)) := by
  refine zv_M.of cX2_hasSpring 2 (some .boolean) (by decide) rfl (Nat.le_of_ble_eq_true rfl) ?_
  intro pP eE sS mM aA bB mT cD A C hr hlk hnm Q hQ
  have inX2 : ∀ w ∈ u_ws RX2 TX2 19, w ∈ wsX2_hasSpring := by decide +kernel
  have lk53 : Cond.fieldLink RX2 53 "RiverNamesModel" "thrown" "I" ∈ wsX2_hasSpring := by decide +kernel
  have lk13 : Cond.fieldLink RX2 13 "RiverNamesModel" "has" "[Z" ∈ wsX2_hasSpring := by decide +kernel
  refine zv_go (pc' := 0) rfl (lv' := [(0, .ref (h 0)), (1, .int (nI p))]) rfl rfl rfl rfl ?_
  refine zv_aload_n C dX2_hasSpring_0 1 rfl 0 rfl ?_
  refine zv_iconst (v := 0) C dX2_hasSpring_1 2 rfl (by decide) ?_
  refine zv_put (ci := 2) C inX2 rfl tyX2_ok nmX2 dX2_hasSpring_2 5 rfl 0 0 rfl (by decide) lk53 rfl rfl rfl (Nat.le_of_ble_eq_true rfl) (cM cI cZ h 0 (nI n) r y (nI b) f0 f1 f2 f3 f4 f5 f6 f7 f8 f9 f10 f11 f12 f13) rfl ?_
  refine zv_aload_n C dX2_hasSpring_5 6 rfl 0 rfl ?_
  refine zv_iload_n C dX2_hasSpring_6 7 rfl 1 rfl ?_
  refine zv_callVR (rest := []) C (k_X2_isPlace l D cI cZ h 0 n r y b f0 f1 f2 f3 f4 f5 f6 f7 f8 f9 f10 f11 f12 f13 (nI p) (by omega)) (cwV 1 C.1.2.2.2.2 gX2_hasSpring_X2_isPlace rfl rfl rfl (by decide +kernel) ⟨Nat.le_of_ble_eq_true rfl, Nat.le_of_ble_eq_true rfl⟩) dX2_hasSpring_7 10 rfl (ci := 2) 0 rfl rfl rfl rfl (Nat.le_of_ble_eq_true rfl) ⟨Nat.le_of_ble_eq_true rfl, Nat.le_of_ble_eq_true rfl⟩ [0, 1] rfl [0, 1, 2, 3, 4, 5, 6, 7, 8, 9, 10, 11, 12, 13, 14] rfl (by decide) (fun v hv => ?_)
  subst hv
  refine zv_go rfl rfl (st' := [.int (zb (isP n (nI p)))]) rfl (kc' := 0) rfl (ns' := 0) rfl ?_
  refine zv_if_eq C dX2_hasSpring_10 13 22 rfl (by decide) (fun c1 => ?_) (fun c1 => ?_)
  · exact absurd (isP_nI (by omega) hp) (by rw [zb_eq0.mp c1]; decide)
  · refine zv_aload_n C dX2_hasSpring_13 14 rfl 0 rfl ?_
    refine zv_get (ci := 2) C inX2 rfl dX2_hasSpring_14 17 rfl 0 5 rfl (by decide) lk13 rfl ?_
    refine zv_iload_n C dX2_hasSpring_17 18 rfl 1 rfl ?_
    refine zv_zald (v := (f1 p)) C dX2_hasSpring_18 19 rfl 2 1 p rfl rfl rfl (by omega) (by decide) rfl ?_
    refine zv_goto C dX2_hasSpring_19 27 (by decide) ?_
    exact zv_zret C (zo_narrow (by assumption)) hr hlk hQ dX2_hasSpring_27 ⟨rfl, rfl⟩
set_option maxHeartbeats 4000000 in
set_option maxRecDepth 100000 in
theorem k_X2_hasSpring_no (l : Launch) (D : va_G) (cI cZ : ClassId) (h : Nat → Nat) (t : Int32) (n : Nat) (r y : Int32) (b : Nat) (f0 f1 f2 f3 f4 f5 f6 f7 f8 f9 f10 f11 f12 f13 : Nat → Int32) (i : Int32) (hn : n ≤ 16) (hf : isP n i = false) : zv_M l yX2_hasSpring wsX2_hasSpring rmX2_hasSpring D vwCl (tyL cI cZ) [.ref (h 0), .int i] (cM cI cZ h t (nI n) r y (nI b) f0 f1 f2 f3 f4 f5 f6 f7 f8 f9 f10 f11 f12 f13) (fun v w => v = some (.int 0) ∧ w = (cM cI cZ h 1 (nI n) r y (nI b) f0 f1 f2 f3 f4 f5 f6 f7 f8 f9 f10 f11 f12 f13)) := by
  refine zv_M.of cX2_hasSpring 2 (some .boolean) (by decide) rfl (Nat.le_of_ble_eq_true rfl) ?_
  intro pP eE sS mM aA bB mT cD A C hr hlk hnm Q hQ
  have inX2 : ∀ w ∈ u_ws RX2 TX2 19, w ∈ wsX2_hasSpring := by decide +kernel
  have lk53 : Cond.fieldLink RX2 53 "RiverNamesModel" "thrown" "I" ∈ wsX2_hasSpring := by decide +kernel
  refine zv_go (pc' := 0) rfl (lv' := [(0, .ref (h 0)), (1, .int i)]) rfl rfl rfl rfl ?_
  refine zv_aload_n C dX2_hasSpring_0 1 rfl 0 rfl ?_
  refine zv_iconst (v := 0) C dX2_hasSpring_1 2 rfl (by decide) ?_
  refine zv_put (ci := 2) C inX2 rfl tyX2_ok nmX2 dX2_hasSpring_2 5 rfl 0 0 rfl (by decide) lk53 rfl rfl rfl (Nat.le_of_ble_eq_true rfl) (cM cI cZ h 0 (nI n) r y (nI b) f0 f1 f2 f3 f4 f5 f6 f7 f8 f9 f10 f11 f12 f13) rfl ?_
  refine zv_aload_n C dX2_hasSpring_5 6 rfl 0 rfl ?_
  refine zv_iload_n C dX2_hasSpring_6 7 rfl 1 rfl ?_
  refine zv_callVR (rest := []) C (k_X2_isPlace l D cI cZ h 0 n r y b f0 f1 f2 f3 f4 f5 f6 f7 f8 f9 f10 f11 f12 f13 i (by omega)) (cwV 1 C.1.2.2.2.2 gX2_hasSpring_X2_isPlace rfl rfl rfl (by decide +kernel) ⟨Nat.le_of_ble_eq_true rfl, Nat.le_of_ble_eq_true rfl⟩) dX2_hasSpring_7 10 rfl (ci := 2) 0 rfl rfl rfl rfl (Nat.le_of_ble_eq_true rfl) ⟨Nat.le_of_ble_eq_true rfl, Nat.le_of_ble_eq_true rfl⟩ [0, 1] rfl [0, 1, 2, 3, 4, 5, 6, 7, 8, 9, 10, 11, 12, 13, 14] rfl (by decide) (fun v hv => ?_)
  subst hv
  refine zv_go rfl rfl (st' := [.int (zb (isP n i))]) rfl (kc' := 0) rfl (ns' := 0) rfl ?_
  refine zv_if_eq C dX2_hasSpring_10 13 22 rfl (by decide) (fun c1 => ?_) (fun c1 => ?_)
  · refine zv_aload_n C dX2_hasSpring_22 23 rfl 0 rfl ?_
    refine zv_iconst (v := 1) C dX2_hasSpring_23 24 rfl (by decide) ?_
    refine zv_callV (rest := []) (wr := []) C (k_X2_isNot l D cI cZ h 0 n r y b f0 f1 f2 f3 f4 f5 f6 f7 f8 f9 f10 f11 f12 f13 1) (cwV 1 C.1.2.2.2.2 gX2_hasSpring_X2_isNot rfl rfl rfl (by decide +kernel) ⟨Nat.le_of_ble_eq_true rfl, Nat.le_of_ble_eq_true rfl⟩) dX2_hasSpring_24 27 rfl (ci := 2) 0 rfl rfl rfl rfl (Nat.le_of_ble_eq_true rfl) ⟨Nat.le_of_ble_eq_true rfl, Nat.le_of_ble_eq_true rfl⟩ [0, 1] rfl [0, 1, 2, 3, 4, 5, 6, 7, 8, 9, 10, 11, 12, 13, 14] rfl (by decide) [] rfl (by decide) (by decide +kernel) (fun v w hv => ?_)
    obtain ⟨rfl, rfl⟩ := hv
    refine zv_go rfl rfl (st' := [.int 0]) rfl (kc' := 0) rfl (ns' := 0) rfl ?_
    refine zv_wd (ws' := (cM cI cZ h 1 (nI n) r y (nI b) f0 f1 f2 f3 f4 f5 f6 f7 f8 f9 f10 f11 f12 f13)) rfl ?_
    exact zv_zret C (by decide) hr hlk hQ dX2_hasSpring_27 ⟨rfl, rfl⟩
  · exact absurd hf (by rw [zb_ne0.mp c1]; decide)
abbrev rmX2_springOf : Room := { frames := 2, cells := 0, slots := 0, locals := 43 }
set_option maxHeartbeats 4000000 in
set_option maxRecDepth 100000 in
theorem k_X2_springOf_ok (l : Launch) (D : va_G) (cI cZ : ClassId) (h : Nat → Nat) (t : Int32) (n : Nat) (r y : Int32) (b : Nat) (f0 f1 f2 f3 f4 f5 f6 f7 f8 f9 f10 f11 f12 f13 : Nat → Int32) (p : Nat) (hn : n ≤ 16) (hp : p < n) : zv_M l yX2_springOf wsX2_springOf rmX2_springOf D vwCl (tyL cI cZ) [.ref (h 0), .int (nI p)] (cM cI cZ h t (nI n) r y (nI b) f0 f1 f2 f3 f4 f5 f6 f7 f8 f9 f10 f11 f12 f13) (fun v w => v = some (.int (f3 p)) ∧ w = (cM cI cZ h 0 (nI n) r y (nI b) f0 f1 f2 f3 f4 f5 f6 f7 f8 f9 f10 f11 f12 f13)) := by
  refine zv_M.of cX2_springOf 2 (some .int) (by decide) rfl (Nat.le_of_ble_eq_true rfl) ?_
  intro pP eE sS mM aA bB mT cD A C hr hlk hnm Q hQ
  have inX2 : ∀ w ∈ u_ws RX2 TX2 19, w ∈ wsX2_springOf := by decide +kernel
  have lk53 : Cond.fieldLink RX2 53 "RiverNamesModel" "thrown" "I" ∈ wsX2_springOf := by decide +kernel
  have lk20 : Cond.fieldLink RX2 20 "RiverNamesModel" "spring" "[I" ∈ wsX2_springOf := by decide +kernel
  refine zv_go (pc' := 0) rfl (lv' := [(0, .ref (h 0)), (1, .int (nI p))]) rfl rfl rfl rfl ?_
  refine zv_aload_n C dX2_springOf_0 1 rfl 0 rfl ?_
  refine zv_iconst (v := 0) C dX2_springOf_1 2 rfl (by decide) ?_
  refine zv_put (ci := 2) C inX2 rfl tyX2_ok nmX2 dX2_springOf_2 5 rfl 0 0 rfl (by decide) lk53 rfl rfl rfl (Nat.le_of_ble_eq_true rfl) (cM cI cZ h 0 (nI n) r y (nI b) f0 f1 f2 f3 f4 f5 f6 f7 f8 f9 f10 f11 f12 f13) rfl ?_
  refine zv_aload_n C dX2_springOf_5 6 rfl 0 rfl ?_
  refine zv_iload_n C dX2_springOf_6 7 rfl 1 rfl ?_
  refine zv_callVR (rest := []) C (k_X2_isPlace l D cI cZ h 0 n r y b f0 f1 f2 f3 f4 f5 f6 f7 f8 f9 f10 f11 f12 f13 (nI p) (by omega)) (cwV 1 C.1.2.2.2.2 gX2_springOf_X2_isPlace rfl rfl rfl (by decide +kernel) ⟨Nat.le_of_ble_eq_true rfl, Nat.le_of_ble_eq_true rfl⟩) dX2_springOf_7 10 rfl (ci := 2) 0 rfl rfl rfl rfl (Nat.le_of_ble_eq_true rfl) ⟨Nat.le_of_ble_eq_true rfl, Nat.le_of_ble_eq_true rfl⟩ [0, 1] rfl [0, 1, 2, 3, 4, 5, 6, 7, 8, 9, 10, 11, 12, 13, 14] rfl (by decide) (fun v hv => ?_)
  subst hv
  refine zv_go rfl rfl (st' := [.int (zb (isP n (nI p)))]) rfl (kc' := 0) rfl (ns' := 0) rfl ?_
  refine zv_if_eq C dX2_springOf_10 13 22 rfl (by decide) (fun c1 => ?_) (fun c1 => ?_)
  · exact absurd (isP_nI (by omega) hp) (by rw [zb_eq0.mp c1]; decide)
  · refine zv_aload_n C dX2_springOf_13 14 rfl 0 rfl ?_
    refine zv_get (ci := 2) C inX2 rfl dX2_springOf_14 17 rfl 0 7 rfl (by decide) lk20 rfl ?_
    refine zv_iload_n C dX2_springOf_17 18 rfl 1 rfl ?_
    refine zv_iald (v := (f3 p)) C dX2_springOf_18 19 rfl 4 0 p rfl rfl rfl (by omega) (by decide) rfl ?_
    refine zv_goto C dX2_springOf_19 27 (by decide) ?_
    exact zv_iret C hr hlk hQ dX2_springOf_27 ⟨rfl, rfl⟩
set_option maxHeartbeats 4000000 in
set_option maxRecDepth 100000 in
theorem k_X2_springOf_no (l : Launch) (D : va_G) (cI cZ : ClassId) (h : Nat → Nat) (t : Int32) (n : Nat) (r y : Int32) (b : Nat) (f0 f1 f2 f3 f4 f5 f6 f7 f8 f9 f10 f11 f12 f13 : Nat → Int32) (i : Int32) (hn : n ≤ 16) (hf : isP n i = false) : zv_M l yX2_springOf wsX2_springOf rmX2_springOf D vwCl (tyL cI cZ) [.ref (h 0), .int i] (cM cI cZ h t (nI n) r y (nI b) f0 f1 f2 f3 f4 f5 f6 f7 f8 f9 f10 f11 f12 f13) (fun v w => v = some (.int 0) ∧ w = (cM cI cZ h 1 (nI n) r y (nI b) f0 f1 f2 f3 f4 f5 f6 f7 f8 f9 f10 f11 f12 f13)) := by
  refine zv_M.of cX2_springOf 2 (some .int) (by decide) rfl (Nat.le_of_ble_eq_true rfl) ?_
  intro pP eE sS mM aA bB mT cD A C hr hlk hnm Q hQ
  have inX2 : ∀ w ∈ u_ws RX2 TX2 19, w ∈ wsX2_springOf := by decide +kernel
  have lk53 : Cond.fieldLink RX2 53 "RiverNamesModel" "thrown" "I" ∈ wsX2_springOf := by decide +kernel
  refine zv_go (pc' := 0) rfl (lv' := [(0, .ref (h 0)), (1, .int i)]) rfl rfl rfl rfl ?_
  refine zv_aload_n C dX2_springOf_0 1 rfl 0 rfl ?_
  refine zv_iconst (v := 0) C dX2_springOf_1 2 rfl (by decide) ?_
  refine zv_put (ci := 2) C inX2 rfl tyX2_ok nmX2 dX2_springOf_2 5 rfl 0 0 rfl (by decide) lk53 rfl rfl rfl (Nat.le_of_ble_eq_true rfl) (cM cI cZ h 0 (nI n) r y (nI b) f0 f1 f2 f3 f4 f5 f6 f7 f8 f9 f10 f11 f12 f13) rfl ?_
  refine zv_aload_n C dX2_springOf_5 6 rfl 0 rfl ?_
  refine zv_iload_n C dX2_springOf_6 7 rfl 1 rfl ?_
  refine zv_callVR (rest := []) C (k_X2_isPlace l D cI cZ h 0 n r y b f0 f1 f2 f3 f4 f5 f6 f7 f8 f9 f10 f11 f12 f13 i (by omega)) (cwV 1 C.1.2.2.2.2 gX2_springOf_X2_isPlace rfl rfl rfl (by decide +kernel) ⟨Nat.le_of_ble_eq_true rfl, Nat.le_of_ble_eq_true rfl⟩) dX2_springOf_7 10 rfl (ci := 2) 0 rfl rfl rfl rfl (Nat.le_of_ble_eq_true rfl) ⟨Nat.le_of_ble_eq_true rfl, Nat.le_of_ble_eq_true rfl⟩ [0, 1] rfl [0, 1, 2, 3, 4, 5, 6, 7, 8, 9, 10, 11, 12, 13, 14] rfl (by decide) (fun v hv => ?_)
  subst hv
  refine zv_go rfl rfl (st' := [.int (zb (isP n i))]) rfl (kc' := 0) rfl (ns' := 0) rfl ?_
  refine zv_if_eq C dX2_springOf_10 13 22 rfl (by decide) (fun c1 => ?_) (fun c1 => ?_)
  · refine zv_aload_n C dX2_springOf_22 23 rfl 0 rfl ?_
    refine zv_iconst (v := 1) C dX2_springOf_23 24 rfl (by decide) ?_
    refine zv_callV (rest := []) (wr := []) C (k_X2_no l D cI cZ h 0 n r y b f0 f1 f2 f3 f4 f5 f6 f7 f8 f9 f10 f11 f12 f13 1) (cwV 1 C.1.2.2.2.2 gX2_springOf_X2_no rfl rfl rfl (by decide +kernel) ⟨Nat.le_of_ble_eq_true rfl, Nat.le_of_ble_eq_true rfl⟩) dX2_springOf_24 27 rfl (ci := 2) 0 rfl rfl rfl rfl (Nat.le_of_ble_eq_true rfl) ⟨Nat.le_of_ble_eq_true rfl, Nat.le_of_ble_eq_true rfl⟩ [0, 1] rfl [0, 1, 2, 3, 4, 5, 6, 7, 8, 9, 10, 11, 12, 13, 14] rfl (by decide) [] rfl (by decide) (by decide +kernel) (fun v w hv => ?_)
    obtain ⟨rfl, rfl⟩ := hv
    refine zv_go rfl rfl (st' := [.int 0]) rfl (kc' := 0) rfl (ns' := 0) rfl ?_
    refine zv_wd (ws' := (cM cI cZ h 1 (nI n) r y (nI b) f0 f1 f2 f3 f4 f5 f6 f7 f8 f9 f10 f11 f12 f13)) rfl ?_
    exact zv_iret C hr hlk hQ dX2_springOf_27 ⟨rfl, rfl⟩
  · exact absurd hf (by rw [zb_ne0.mp c1]; decide)
abbrev rmX2_placeOf : Room := { frames := 2, cells := 0, slots := 0, locals := 43 }
set_option maxHeartbeats 4000000 in
set_option maxRecDepth 100000 in
theorem k_X2_placeOf_ok (l : Launch) (D : va_G) (cI cZ : ClassId) (h : Nat → Nat) (t : Int32) (n : Nat) (r y : Int32) (b : Nat) (f0 f1 f2 f3 f4 f5 f6 f7 f8 f9 f10 f11 f12 f13 : Nat → Int32) (p : Nat) (hb : b ≤ 16) (hp : p < b) : zv_M l yX2_placeOf wsX2_placeOf rmX2_placeOf D vwCl (tyL cI cZ) [.ref (h 0), .int (nI p)] (cM cI cZ h t (nI n) r y (nI b) f0 f1 f2 f3 f4 f5 f6 f7 f8 f9 f10 f11 f12 f13) (fun v w => v = some (.int (f6 p)) ∧ w = (cM cI cZ h 0 (nI n) r y (nI b) f0 f1 f2 f3 f4 f5 f6 f7 f8 f9 f10 f11 f12 f13)) := by
  refine zv_M.of cX2_placeOf 2 (some .int) (by decide) rfl (Nat.le_of_ble_eq_true rfl) ?_
  intro pP eE sS mM aA bB mT cD A C hr hlk hnm Q hQ
  have inX2 : ∀ w ∈ u_ws RX2 TX2 19, w ∈ wsX2_placeOf := by decide +kernel
  have lk53 : Cond.fieldLink RX2 53 "RiverNamesModel" "thrown" "I" ∈ wsX2_placeOf := by decide +kernel
  have lk29 : Cond.fieldLink RX2 29 "RiverNamesModel" "at" "[I" ∈ wsX2_placeOf := by decide +kernel
  refine zv_go (pc' := 0) rfl (lv' := [(0, .ref (h 0)), (1, .int (nI p))]) rfl rfl rfl rfl ?_
  refine zv_aload_n C dX2_placeOf_0 1 rfl 0 rfl ?_
  refine zv_iconst (v := 0) C dX2_placeOf_1 2 rfl (by decide) ?_
  refine zv_put (ci := 2) C inX2 rfl tyX2_ok nmX2 dX2_placeOf_2 5 rfl 0 0 rfl (by decide) lk53 rfl rfl rfl (Nat.le_of_ble_eq_true rfl) (cM cI cZ h 0 (nI n) r y (nI b) f0 f1 f2 f3 f4 f5 f6 f7 f8 f9 f10 f11 f12 f13) rfl ?_
  refine zv_aload_n C dX2_placeOf_5 6 rfl 0 rfl ?_
  refine zv_iload_n C dX2_placeOf_6 7 rfl 1 rfl ?_
  refine zv_callVR (rest := []) C (k_X2_isBridge l D cI cZ h 0 n r y b f0 f1 f2 f3 f4 f5 f6 f7 f8 f9 f10 f11 f12 f13 (nI p) (by omega)) (cwV 1 C.1.2.2.2.2 gX2_placeOf_X2_isBridge rfl rfl rfl (by decide +kernel) ⟨Nat.le_of_ble_eq_true rfl, Nat.le_of_ble_eq_true rfl⟩) dX2_placeOf_7 10 rfl (ci := 2) 0 rfl rfl rfl rfl (Nat.le_of_ble_eq_true rfl) ⟨Nat.le_of_ble_eq_true rfl, Nat.le_of_ble_eq_true rfl⟩ [0, 1] rfl [0, 1, 2, 3, 4, 5, 6, 7, 8, 9, 10, 11, 12, 13, 14] rfl (by decide) (fun v hv => ?_)
  subst hv
  refine zv_go rfl rfl (st' := [.int (zb (isP b (nI p)))]) rfl (kc' := 0) rfl (ns' := 0) rfl ?_
  refine zv_if_eq C dX2_placeOf_10 13 22 rfl (by decide) (fun c1 => ?_) (fun c1 => ?_)
  · exact absurd (isP_nI (by omega) hp) (by rw [zb_eq0.mp c1]; decide)
  · refine zv_aload_n C dX2_placeOf_13 14 rfl 0 rfl ?_
    refine zv_get (ci := 2) C inX2 rfl dX2_placeOf_14 17 rfl 0 11 rfl (by decide) lk29 rfl ?_
    refine zv_iload_n C dX2_placeOf_17 18 rfl 1 rfl ?_
    refine zv_iald (v := (f6 p)) C dX2_placeOf_18 19 rfl 7 0 p rfl rfl rfl (by omega) (by decide) rfl ?_
    refine zv_goto C dX2_placeOf_19 27 (by decide) ?_
    exact zv_iret C hr hlk hQ dX2_placeOf_27 ⟨rfl, rfl⟩
set_option maxHeartbeats 4000000 in
set_option maxRecDepth 100000 in
theorem k_X2_placeOf_no (l : Launch) (D : va_G) (cI cZ : ClassId) (h : Nat → Nat) (t : Int32) (n : Nat) (r y : Int32) (b : Nat) (f0 f1 f2 f3 f4 f5 f6 f7 f8 f9 f10 f11 f12 f13 : Nat → Int32) (i : Int32) (hb : b ≤ 16) (hf : isP b i = false) : zv_M l yX2_placeOf wsX2_placeOf rmX2_placeOf D vwCl (tyL cI cZ) [.ref (h 0), .int i] (cM cI cZ h t (nI n) r y (nI b) f0 f1 f2 f3 f4 f5 f6 f7 f8 f9 f10 f11 f12 f13) (fun v w => v = some (.int 0) ∧ w = (cM cI cZ h 1 (nI n) r y (nI b) f0 f1 f2 f3 f4 f5 f6 f7 f8 f9 f10 f11 f12 f13)) := by
  refine zv_M.of cX2_placeOf 2 (some .int) (by decide) rfl (Nat.le_of_ble_eq_true rfl) ?_
  intro pP eE sS mM aA bB mT cD A C hr hlk hnm Q hQ
  have inX2 : ∀ w ∈ u_ws RX2 TX2 19, w ∈ wsX2_placeOf := by decide +kernel
  have lk53 : Cond.fieldLink RX2 53 "RiverNamesModel" "thrown" "I" ∈ wsX2_placeOf := by decide +kernel
  refine zv_go (pc' := 0) rfl (lv' := [(0, .ref (h 0)), (1, .int i)]) rfl rfl rfl rfl ?_
  refine zv_aload_n C dX2_placeOf_0 1 rfl 0 rfl ?_
  refine zv_iconst (v := 0) C dX2_placeOf_1 2 rfl (by decide) ?_
  refine zv_put (ci := 2) C inX2 rfl tyX2_ok nmX2 dX2_placeOf_2 5 rfl 0 0 rfl (by decide) lk53 rfl rfl rfl (Nat.le_of_ble_eq_true rfl) (cM cI cZ h 0 (nI n) r y (nI b) f0 f1 f2 f3 f4 f5 f6 f7 f8 f9 f10 f11 f12 f13) rfl ?_
  refine zv_aload_n C dX2_placeOf_5 6 rfl 0 rfl ?_
  refine zv_iload_n C dX2_placeOf_6 7 rfl 1 rfl ?_
  refine zv_callVR (rest := []) C (k_X2_isBridge l D cI cZ h 0 n r y b f0 f1 f2 f3 f4 f5 f6 f7 f8 f9 f10 f11 f12 f13 i (by omega)) (cwV 1 C.1.2.2.2.2 gX2_placeOf_X2_isBridge rfl rfl rfl (by decide +kernel) ⟨Nat.le_of_ble_eq_true rfl, Nat.le_of_ble_eq_true rfl⟩) dX2_placeOf_7 10 rfl (ci := 2) 0 rfl rfl rfl rfl (Nat.le_of_ble_eq_true rfl) ⟨Nat.le_of_ble_eq_true rfl, Nat.le_of_ble_eq_true rfl⟩ [0, 1] rfl [0, 1, 2, 3, 4, 5, 6, 7, 8, 9, 10, 11, 12, 13, 14] rfl (by decide) (fun v hv => ?_)
  subst hv
  refine zv_go rfl rfl (st' := [.int (zb (isP b i))]) rfl (kc' := 0) rfl (ns' := 0) rfl ?_
  refine zv_if_eq C dX2_placeOf_10 13 22 rfl (by decide) (fun c1 => ?_) (fun c1 => ?_)
  · refine zv_aload_n C dX2_placeOf_22 23 rfl 0 rfl ?_
    refine zv_iconst (v := 1) C dX2_placeOf_23 24 rfl (by decide) ?_
    refine zv_callV (rest := []) (wr := []) C (k_X2_no l D cI cZ h 0 n r y b f0 f1 f2 f3 f4 f5 f6 f7 f8 f9 f10 f11 f12 f13 1) (cwV 1 C.1.2.2.2.2 gX2_placeOf_X2_no rfl rfl rfl (by decide +kernel) ⟨Nat.le_of_ble_eq_true rfl, Nat.le_of_ble_eq_true rfl⟩) dX2_placeOf_24 27 rfl (ci := 2) 0 rfl rfl rfl rfl (Nat.le_of_ble_eq_true rfl) ⟨Nat.le_of_ble_eq_true rfl, Nat.le_of_ble_eq_true rfl⟩ [0, 1] rfl [0, 1, 2, 3, 4, 5, 6, 7, 8, 9, 10, 11, 12, 13, 14] rfl (by decide) [] rfl (by decide) (by decide +kernel) (fun v w hv => ?_)
    obtain ⟨rfl, rfl⟩ := hv
    refine zv_go rfl rfl (st' := [.int 0]) rfl (kc' := 0) rfl (ns' := 0) rfl ?_
    refine zv_wd (ws' := (cM cI cZ h 1 (nI n) r y (nI b) f0 f1 f2 f3 f4 f5 f6 f7 f8 f9 f10 f11 f12 f13)) rfl ?_
    exact zv_iret C hr hlk hQ dX2_placeOf_27 ⟨rfl, rfl⟩
  · exact absurd hf (by rw [zb_ne0.mp c1]; decide)
abbrev rmX2_keeps : Room := { frames := 2, cells := 0, slots := 0, locals := 43 }
set_option maxHeartbeats 4000000 in
set_option maxRecDepth 100000 in
theorem k_X2_keeps_ok (l : Launch) (D : va_G) (cI cZ : ClassId) (h : Nat → Nat) (t : Int32) (n : Nat) (r y : Int32) (b : Nat) (f0 f1 f2 f3 f4 f5 f6 f7 f8 f9 f10 f11 f12 f13 : Nat → Int32) (p : Nat) (hb : b ≤ 16) (hp : p < b) : zv_M l yX2_keeps wsX2_keeps rmX2_keeps D vwCl (tyL cI cZ) [.ref (h 0), .int (nI p)] (cM cI cZ h t (nI n) r y (nI b) f0 f1 f2 f3 f4 f5 f6 f7 f8 f9 f10 f11 f12 f13) (fun v w => v = some (.int (f7 p)) ∧ w = (cM cI cZ h 0 (nI n) r y (nI b) f0 f1 f2 f3 f4 f5 f6 f7 f8 f9 f10 f11 f12 f13)) := by
  refine zv_M.of cX2_keeps 2 (some .int) (by decide) rfl (Nat.le_of_ble_eq_true rfl) ?_
  intro pP eE sS mM aA bB mT cD A C hr hlk hnm Q hQ
  have inX2 : ∀ w ∈ u_ws RX2 TX2 19, w ∈ wsX2_keeps := by decide +kernel
  have lk53 : Cond.fieldLink RX2 53 "RiverNamesModel" "thrown" "I" ∈ wsX2_keeps := by decide +kernel
  have lk32 : Cond.fieldLink RX2 32 "RiverNamesModel" "kept" "[I" ∈ wsX2_keeps := by decide +kernel
  refine zv_go (pc' := 0) rfl (lv' := [(0, .ref (h 0)), (1, .int (nI p))]) rfl rfl rfl rfl ?_
  refine zv_aload_n C dX2_keeps_0 1 rfl 0 rfl ?_
  refine zv_iconst (v := 0) C dX2_keeps_1 2 rfl (by decide) ?_
  refine zv_put (ci := 2) C inX2 rfl tyX2_ok nmX2 dX2_keeps_2 5 rfl 0 0 rfl (by decide) lk53 rfl rfl rfl (Nat.le_of_ble_eq_true rfl) (cM cI cZ h 0 (nI n) r y (nI b) f0 f1 f2 f3 f4 f5 f6 f7 f8 f9 f10 f11 f12 f13) rfl ?_
  refine zv_aload_n C dX2_keeps_5 6 rfl 0 rfl ?_
  refine zv_iload_n C dX2_keeps_6 7 rfl 1 rfl ?_
  refine zv_callVR (rest := []) C (k_X2_isBridge l D cI cZ h 0 n r y b f0 f1 f2 f3 f4 f5 f6 f7 f8 f9 f10 f11 f12 f13 (nI p) (by omega)) (cwV 1 C.1.2.2.2.2 gX2_keeps_X2_isBridge rfl rfl rfl (by decide +kernel) ⟨Nat.le_of_ble_eq_true rfl, Nat.le_of_ble_eq_true rfl⟩) dX2_keeps_7 10 rfl (ci := 2) 0 rfl rfl rfl rfl (Nat.le_of_ble_eq_true rfl) ⟨Nat.le_of_ble_eq_true rfl, Nat.le_of_ble_eq_true rfl⟩ [0, 1] rfl [0, 1, 2, 3, 4, 5, 6, 7, 8, 9, 10, 11, 12, 13, 14] rfl (by decide) (fun v hv => ?_)
  subst hv
  refine zv_go rfl rfl (st' := [.int (zb (isP b (nI p)))]) rfl (kc' := 0) rfl (ns' := 0) rfl ?_
  refine zv_if_eq C dX2_keeps_10 13 22 rfl (by decide) (fun c1 => ?_) (fun c1 => ?_)
  · exact absurd (isP_nI (by omega) hp) (by rw [zb_eq0.mp c1]; decide)
  · refine zv_aload_n C dX2_keeps_13 14 rfl 0 rfl ?_
    refine zv_get (ci := 2) C inX2 rfl dX2_keeps_14 17 rfl 0 12 rfl (by decide) lk32 rfl ?_
    refine zv_iload_n C dX2_keeps_17 18 rfl 1 rfl ?_
    refine zv_iald (v := (f7 p)) C dX2_keeps_18 19 rfl 8 0 p rfl rfl rfl (by omega) (by decide) rfl ?_
    refine zv_goto C dX2_keeps_19 27 (by decide) ?_
    exact zv_iret C hr hlk hQ dX2_keeps_27 ⟨rfl, rfl⟩
set_option maxHeartbeats 4000000 in
set_option maxRecDepth 100000 in
theorem k_X2_keeps_no (l : Launch) (D : va_G) (cI cZ : ClassId) (h : Nat → Nat) (t : Int32) (n : Nat) (r y : Int32) (b : Nat) (f0 f1 f2 f3 f4 f5 f6 f7 f8 f9 f10 f11 f12 f13 : Nat → Int32) (i : Int32) (hb : b ≤ 16) (hf : isP b i = false) : zv_M l yX2_keeps wsX2_keeps rmX2_keeps D vwCl (tyL cI cZ) [.ref (h 0), .int i] (cM cI cZ h t (nI n) r y (nI b) f0 f1 f2 f3 f4 f5 f6 f7 f8 f9 f10 f11 f12 f13) (fun v w => v = some (.int 0) ∧ w = (cM cI cZ h 1 (nI n) r y (nI b) f0 f1 f2 f3 f4 f5 f6 f7 f8 f9 f10 f11 f12 f13)) := by
  refine zv_M.of cX2_keeps 2 (some .int) (by decide) rfl (Nat.le_of_ble_eq_true rfl) ?_
  intro pP eE sS mM aA bB mT cD A C hr hlk hnm Q hQ
  have inX2 : ∀ w ∈ u_ws RX2 TX2 19, w ∈ wsX2_keeps := by decide +kernel
  have lk53 : Cond.fieldLink RX2 53 "RiverNamesModel" "thrown" "I" ∈ wsX2_keeps := by decide +kernel
  refine zv_go (pc' := 0) rfl (lv' := [(0, .ref (h 0)), (1, .int i)]) rfl rfl rfl rfl ?_
  refine zv_aload_n C dX2_keeps_0 1 rfl 0 rfl ?_
  refine zv_iconst (v := 0) C dX2_keeps_1 2 rfl (by decide) ?_
  refine zv_put (ci := 2) C inX2 rfl tyX2_ok nmX2 dX2_keeps_2 5 rfl 0 0 rfl (by decide) lk53 rfl rfl rfl (Nat.le_of_ble_eq_true rfl) (cM cI cZ h 0 (nI n) r y (nI b) f0 f1 f2 f3 f4 f5 f6 f7 f8 f9 f10 f11 f12 f13) rfl ?_
  refine zv_aload_n C dX2_keeps_5 6 rfl 0 rfl ?_
  refine zv_iload_n C dX2_keeps_6 7 rfl 1 rfl ?_
  refine zv_callVR (rest := []) C (k_X2_isBridge l D cI cZ h 0 n r y b f0 f1 f2 f3 f4 f5 f6 f7 f8 f9 f10 f11 f12 f13 i (by omega)) (cwV 1 C.1.2.2.2.2 gX2_keeps_X2_isBridge rfl rfl rfl (by decide +kernel) ⟨Nat.le_of_ble_eq_true rfl, Nat.le_of_ble_eq_true rfl⟩) dX2_keeps_7 10 rfl (ci := 2) 0 rfl rfl rfl rfl (Nat.le_of_ble_eq_true rfl) ⟨Nat.le_of_ble_eq_true rfl, Nat.le_of_ble_eq_true rfl⟩ [0, 1] rfl [0, 1, 2, 3, 4, 5, 6, 7, 8, 9, 10, 11, 12, 13, 14] rfl (by decide) (fun v hv => ?_)
  subst hv
  refine zv_go rfl rfl (st' := [.int (zb (isP b i))]) rfl (kc' := 0) rfl (ns' := 0) rfl ?_
  refine zv_if_eq C dX2_keeps_10 13 22 rfl (by decide) (fun c1 => ?_) (fun c1 => ?_)
  · refine zv_aload_n C dX2_keeps_22 23 rfl 0 rfl ?_
    refine zv_iconst (v := 1) C dX2_keeps_23 24 rfl (by decide) ?_
    refine zv_callV (rest := []) (wr := []) C (k_X2_no l D cI cZ h 0 n r y b f0 f1 f2 f3 f4 f5 f6 f7 f8 f9 f10 f11 f12 f13 1) (cwV 1 C.1.2.2.2.2 gX2_keeps_X2_no rfl rfl rfl (by decide +kernel) ⟨Nat.le_of_ble_eq_true rfl, Nat.le_of_ble_eq_true rfl⟩) dX2_keeps_24 27 rfl (ci := 2) 0 rfl rfl rfl rfl (Nat.le_of_ble_eq_true rfl) ⟨Nat.le_of_ble_eq_true rfl, Nat.le_of_ble_eq_true rfl⟩ [0, 1] rfl [0, 1, 2, 3, 4, 5, 6, 7, 8, 9, 10, 11, 12, 13, 14] rfl (by decide) [] rfl (by decide) (by decide +kernel) (fun v w hv => ?_)
    obtain ⟨rfl, rfl⟩ := hv
    refine zv_go rfl rfl (st' := [.int 0]) rfl (kc' := 0) rfl (ns' := 0) rfl ?_
    refine zv_wd (ws' := (cM cI cZ h 1 (nI n) r y (nI b) f0 f1 f2 f3 f4 f5 f6 f7 f8 f9 f10 f11 f12 f13)) rfl ?_
    exact zv_iret C hr hlk hQ dX2_keeps_27 ⟨rfl, rfl⟩
  · exact absurd hf (by rw [zb_ne0.mp c1]; decide)
abbrev rmX2_year : Room := { frames := 1, cells := 0, slots := 0, locals := 21 }
set_option maxHeartbeats 4000000 in
set_option maxRecDepth 100000 in
theorem k_X2_year (l : Launch) (D : va_G) (cI cZ : ClassId) (h : Nat → Nat) (t : Int32) (n : Nat) (r y : Int32) (b : Nat) (f0 f1 f2 f3 f4 f5 f6 f7 f8 f9 f10 f11 f12 f13 : Nat → Int32) : zv_M l yX2_year wsX2_year rmX2_year D vwCl (tyL cI cZ) [.ref (h 0)] (cM cI cZ h t (nI n) r y (nI b) f0 f1 f2 f3 f4 f5 f6 f7 f8 f9 f10 f11 f12 f13) (fun v w => v = some (.int y) ∧ w = (cM cI cZ h 0 (nI n) r y (nI b) f0 f1 f2 f3 f4 f5 f6 f7 f8 f9 f10 f11 f12 f13)) := by
  refine zv_M.of cX2_year 1 (some .int) (by decide) rfl (Nat.le_of_ble_eq_true rfl) ?_
  intro pP eE sS mM aA bB mT cD A C hr hlk hnm Q hQ
  have inX2 : ∀ w ∈ u_ws RX2 TX2 19, w ∈ wsX2_year := by decide +kernel
  have lk132 : Cond.fieldLink RX2 132 "RiverNamesModel" "year" "I" ∈ wsX2_year := by decide +kernel
  refine zv_go (pc' := 0) rfl (lv' := [(0, .ref (h 0))]) rfl rfl rfl rfl ?_
  refine zv_aload_n C dX2_year_0 1 rfl 0 rfl ?_
  refine zv_aload_n C dX2_year_1 2 rfl 0 rfl ?_
  refine zv_get (ci := 2) C inX2 rfl dX2_year_2 5 rfl 0 3 rfl (by decide) lk132 rfl ?_
  refine zv_callV (rest := []) (wr := []) C (k_X2_ok l D cI cZ h t n r y b f0 f1 f2 f3 f4 f5 f6 f7 f8 f9 f10 f11 f12 f13 y) (cwV 1 C.1.2.2.2.2 gX2_year_X2_ok rfl rfl rfl (by decide +kernel) ⟨Nat.le_of_ble_eq_true rfl, Nat.le_of_ble_eq_true rfl⟩) dX2_year_5 8 rfl (ci := 2) 0 rfl rfl rfl rfl (Nat.le_of_ble_eq_true rfl) ⟨Nat.le_of_ble_eq_true rfl, Nat.le_of_ble_eq_true rfl⟩ [0, 1] rfl [0, 1, 2, 3, 4, 5, 6, 7, 8, 9, 10, 11, 12, 13, 14] rfl (by decide) [] rfl (by decide) (by decide +kernel) (fun v w hv => ?_)
  obtain ⟨rfl, rfl⟩ := hv
  refine zv_go rfl rfl (st' := [.int y]) rfl (kc' := 0) rfl (ns' := 0) rfl ?_
  refine zv_wd (ws' := (cM cI cZ h 0 (nI n) r y (nI b) f0 f1 f2 f3 f4 f5 f6 f7 f8 f9 f10 f11 f12 f13)) rfl ?_
  exact zv_iret C hr hlk hQ dX2_year_8 ⟨rfl, rfl⟩
abbrev rmX2_places : Room := { frames := 1, cells := 0, slots := 0, locals := 21 }
set_option maxHeartbeats 4000000 in
set_option maxRecDepth 100000 in
theorem k_X2_places (l : Launch) (D : va_G) (cI cZ : ClassId) (h : Nat → Nat) (t : Int32) (n : Nat) (r y : Int32) (b : Nat) (f0 f1 f2 f3 f4 f5 f6 f7 f8 f9 f10 f11 f12 f13 : Nat → Int32) : zv_M l yX2_places wsX2_places rmX2_places D vwCl (tyL cI cZ) [.ref (h 0)] (cM cI cZ h t (nI n) r y (nI b) f0 f1 f2 f3 f4 f5 f6 f7 f8 f9 f10 f11 f12 f13) (fun v w => v = some (.int (nI n)) ∧ w = (cM cI cZ h 0 (nI n) r y (nI b) f0 f1 f2 f3 f4 f5 f6 f7 f8 f9 f10 f11 f12 f13)) := by
  refine zv_M.of cX2_places 1 (some .int) (by decide) rfl (Nat.le_of_ble_eq_true rfl) ?_
  intro pP eE sS mM aA bB mT cD A C hr hlk hnm Q hQ
  have inX2 : ∀ w ∈ u_ws RX2 TX2 19, w ∈ wsX2_places := by decide +kernel
  have lk57 : Cond.fieldLink RX2 57 "RiverNamesModel" "places" "I" ∈ wsX2_places := by decide +kernel
  refine zv_go (pc' := 0) rfl (lv' := [(0, .ref (h 0))]) rfl rfl rfl rfl ?_
  refine zv_aload_n C dX2_places_0 1 rfl 0 rfl ?_
  refine zv_aload_n C dX2_places_1 2 rfl 0 rfl ?_
  refine zv_get (ci := 2) C inX2 rfl dX2_places_2 5 rfl 0 1 rfl (by decide) lk57 rfl ?_
  refine zv_callV (rest := []) (wr := []) C (k_X2_ok l D cI cZ h t n r y b f0 f1 f2 f3 f4 f5 f6 f7 f8 f9 f10 f11 f12 f13 (nI n)) (cwV 1 C.1.2.2.2.2 gX2_places_X2_ok rfl rfl rfl (by decide +kernel) ⟨Nat.le_of_ble_eq_true rfl, Nat.le_of_ble_eq_true rfl⟩) dX2_places_5 8 rfl (ci := 2) 0 rfl rfl rfl rfl (Nat.le_of_ble_eq_true rfl) ⟨Nat.le_of_ble_eq_true rfl, Nat.le_of_ble_eq_true rfl⟩ [0, 1] rfl [0, 1, 2, 3, 4, 5, 6, 7, 8, 9, 10, 11, 12, 13, 14] rfl (by decide) [] rfl (by decide) (by decide +kernel) (fun v w hv => ?_)
  obtain ⟨rfl, rfl⟩ := hv
  refine zv_go rfl rfl (st' := [.int (nI n)]) rfl (kc' := 0) rfl (ns' := 0) rfl ?_
  refine zv_wd (ws' := (cM cI cZ h 0 (nI n) r y (nI b) f0 f1 f2 f3 f4 f5 f6 f7 f8 f9 f10 f11 f12 f13)) rfl ?_
  exact zv_iret C hr hlk hQ dX2_places_8 ⟨rfl, rfl⟩
abbrev rmX2_bridges : Room := { frames := 1, cells := 0, slots := 0, locals := 21 }
set_option maxHeartbeats 4000000 in
set_option maxRecDepth 100000 in
theorem k_X2_bridges (l : Launch) (D : va_G) (cI cZ : ClassId) (h : Nat → Nat) (t : Int32) (n : Nat) (r y : Int32) (b : Nat) (f0 f1 f2 f3 f4 f5 f6 f7 f8 f9 f10 f11 f12 f13 : Nat → Int32) : zv_M l yX2_bridges wsX2_bridges rmX2_bridges D vwCl (tyL cI cZ) [.ref (h 0)] (cM cI cZ h t (nI n) r y (nI b) f0 f1 f2 f3 f4 f5 f6 f7 f8 f9 f10 f11 f12 f13) (fun v w => v = some (.int (nI b)) ∧ w = (cM cI cZ h 0 (nI n) r y (nI b) f0 f1 f2 f3 f4 f5 f6 f7 f8 f9 f10 f11 f12 f13)) := by
  refine zv_M.of cX2_bridges 1 (some .int) (by decide) rfl (Nat.le_of_ble_eq_true rfl) ?_
  intro pP eE sS mM aA bB mT cD A C hr hlk hnm Q hQ
  have inX2 : ∀ w ∈ u_ws RX2 TX2 19, w ∈ wsX2_bridges := by decide +kernel
  have lk64 : Cond.fieldLink RX2 64 "RiverNamesModel" "bridges" "I" ∈ wsX2_bridges := by decide +kernel
  refine zv_go (pc' := 0) rfl (lv' := [(0, .ref (h 0))]) rfl rfl rfl rfl ?_
  refine zv_aload_n C dX2_bridges_0 1 rfl 0 rfl ?_
  refine zv_aload_n C dX2_bridges_1 2 rfl 0 rfl ?_
  refine zv_get (ci := 2) C inX2 rfl dX2_bridges_2 5 rfl 0 10 rfl (by decide) lk64 rfl ?_
  refine zv_callV (rest := []) (wr := []) C (k_X2_ok l D cI cZ h t n r y b f0 f1 f2 f3 f4 f5 f6 f7 f8 f9 f10 f11 f12 f13 (nI b)) (cwV 1 C.1.2.2.2.2 gX2_bridges_X2_ok rfl rfl rfl (by decide +kernel) ⟨Nat.le_of_ble_eq_true rfl, Nat.le_of_ble_eq_true rfl⟩) dX2_bridges_5 8 rfl (ci := 2) 0 rfl rfl rfl rfl (Nat.le_of_ble_eq_true rfl) ⟨Nat.le_of_ble_eq_true rfl, Nat.le_of_ble_eq_true rfl⟩ [0, 1] rfl [0, 1, 2, 3, 4, 5, 6, 7, 8, 9, 10, 11, 12, 13, 14] rfl (by decide) [] rfl (by decide) (by decide +kernel) (fun v w hv => ?_)
  obtain ⟨rfl, rfl⟩ := hv
  refine zv_go rfl rfl (st' := [.int (nI b)]) rfl (kc' := 0) rfl (ns' := 0) rfl ?_
  refine zv_wd (ws' := (cM cI cZ h 0 (nI n) r y (nI b) f0 f1 f2 f3 f4 f5 f6 f7 f8 f9 f10 f11 f12 f13)) rfl ?_
  exact zv_iret C hr hlk hQ dX2_bridges_8 ⟨rfl, rfl⟩
abbrev rmX2_addPlace : Room := { frames := 1, cells := 0, slots := 0, locals := 24 }
set_option maxHeartbeats 4000000 in
set_option maxRecDepth 100000 in
theorem k_X2_addPlace_ok (l : Launch) (D : va_G) (cI cZ : ClassId) (h : Nat → Nat) (t : Int32) (n : Nat) (r y : Int32) (b : Nat) (f0 f1 f2 f3 f4 f5 f6 f7 f8 f9 f10 f11 f12 f13 : Nat → Int32) (hn : n < 16) : zv_M l yX2_addPlace wsX2_addPlace rmX2_addPlace D vwCl (tyL cI cZ) [.ref (h 0)] (cM cI cZ h t (nI n) r y (nI b) f0 f1 f2 f3 f4 f5 f6 f7 f8 f9 f10 f11 f12 f13) (fun v w => v = some (.int (nI n)) ∧ w = (cM cI cZ h 0 (nI (n + 1)) r y (nI b) (upd f0 n (-1 : Int32)) (upd f1 n 0) (upd f2 n (-1 : Int32)) (upd f3 n 0) (upd f4 n 0) f5 f6 f7 f8 f9 f10 f11 f12 f13)) := by
  refine zv_M.of cX2_addPlace 1 (some .int) (by decide) rfl (Nat.le_of_ble_eq_true rfl) ?_
  intro pP eE sS mM aA bB mT cD A C hr hlk hnm Q hQ
  have inX2 : ∀ w ∈ u_ws RX2 TX2 19, w ∈ wsX2_addPlace := by decide +kernel
  have lk53 : Cond.fieldLink RX2 53 "RiverNamesModel" "thrown" "I" ∈ wsX2_addPlace := by decide +kernel
  have lk57 : Cond.fieldLink RX2 57 "RiverNamesModel" "places" "I" ∈ wsX2_addPlace := by decide +kernel
  refine zv_go (pc' := 0) rfl (lv' := [(0, .ref (h 0))]) rfl rfl rfl rfl ?_
  refine zv_aload_n C dX2_addPlace_0 1 rfl 0 rfl ?_
  refine zv_iconst (v := 0) C dX2_addPlace_1 2 rfl (by decide) ?_
  refine zv_put (ci := 2) C inX2 rfl tyX2_ok nmX2 dX2_addPlace_2 5 rfl 0 0 rfl (by decide) lk53 rfl rfl rfl (Nat.le_of_ble_eq_true rfl) (cM cI cZ h 0 (nI n) r y (nI b) f0 f1 f2 f3 f4 f5 f6 f7 f8 f9 f10 f11 f12 f13) rfl ?_
  refine zv_aload_n C dX2_addPlace_5 6 rfl 0 rfl ?_
  refine zv_get (ci := 2) C inX2 rfl dX2_addPlace_6 9 rfl 0 1 rfl (by decide) lk57 rfl ?_
  refine zv_bipush (v := 16) C dX2_addPlace_9 11 rfl (by decide) ?_
  refine zv_icmp_ne C dX2_addPlace_11 14 22 rfl (by decide) (fun c1 => ?_) (fun c1 => ?_)
  · refine zv_aload_n C dX2_addPlace_22 23 rfl 0 rfl ?_
    refine zv_iconst (v := 0) C dX2_addPlace_23 24 rfl (by decide) ?_
    refine zv_iconst (v := (-1 : Int32)) C dX2_addPlace_24 25 rfl (by decide) ?_
    refine zv_iconst (v := 0) C dX2_addPlace_25 26 rfl (by decide) ?_
    refine zv_iconst (v := 0) C dX2_addPlace_26 27 rfl (by decide) ?_
    refine zv_callV (rest := []) (wr := []) C (k_X2_add l D cI cZ h 0 n r y b f0 f1 f2 f3 f4 f5 f6 f7 f8 f9 f10 f11 f12 f13 0 (-1 : Int32) 0 0 (by simp [zo]) (by omega)) (cwV 4 C.1.2.2.2.2 gX2_addPlace_X2_add rfl rfl rfl (by decide +kernel) ⟨Nat.le_of_ble_eq_true rfl, Nat.le_of_ble_eq_true rfl⟩) dX2_addPlace_27 30 rfl (ci := 2) 0 rfl rfl rfl rfl (Nat.le_of_ble_eq_true rfl) ⟨Nat.le_of_ble_eq_true rfl, Nat.le_of_ble_eq_true rfl⟩ [0, 1] rfl [0, 1, 2, 3, 4, 5, 6, 7, 8, 9, 10, 11, 12, 13, 14] rfl (by decide) [] rfl (by decide) (by decide +kernel) (fun v w hv => ?_)
    obtain ⟨rfl, rfl⟩ := hv
    refine zv_go rfl rfl (st' := [.int (nI n)]) rfl (kc' := 0) rfl (ns' := 0) rfl ?_
    refine zv_wd (ws' := (cM cI cZ h 0 (nI (n + 1)) r y (nI b) (upd f0 n (-1 : Int32)) (upd f1 n 0) (upd f2 n (-1 : Int32)) (upd f3 n 0) (upd f4 n 0) f5 f6 f7 f8 f9 f10 f11 f12 f13)) rfl ?_
    exact zv_iret C hr hlk hQ dX2_addPlace_30 ⟨rfl, rfl⟩
  · exact absurd (zn_eq (a := n) (b := 16) (by omega) (by omega) c1) (by omega)
set_option maxHeartbeats 4000000 in
set_option maxRecDepth 100000 in
theorem k_X2_addPlace_no (l : Launch) (D : va_G) (cI cZ : ClassId) (h : Nat → Nat) (t : Int32) (n : Nat) (r y : Int32) (b : Nat) (f0 f1 f2 f3 f4 f5 f6 f7 f8 f9 f10 f11 f12 f13 : Nat → Int32) (hn : n = 16) : zv_M l yX2_addPlace wsX2_addPlace rmX2_addPlace D vwCl (tyL cI cZ) [.ref (h 0)] (cM cI cZ h t (nI n) r y (nI b) f0 f1 f2 f3 f4 f5 f6 f7 f8 f9 f10 f11 f12 f13) (fun v w => v = some (.int 0) ∧ w = (cM cI cZ h 1 (nI n) r y (nI b) f0 f1 f2 f3 f4 f5 f6 f7 f8 f9 f10 f11 f12 f13)) := by
  refine zv_M.of cX2_addPlace 1 (some .int) (by decide) rfl (Nat.le_of_ble_eq_true rfl) ?_
  intro pP eE sS mM aA bB mT cD A C hr hlk hnm Q hQ
  have inX2 : ∀ w ∈ u_ws RX2 TX2 19, w ∈ wsX2_addPlace := by decide +kernel
  have lk53 : Cond.fieldLink RX2 53 "RiverNamesModel" "thrown" "I" ∈ wsX2_addPlace := by decide +kernel
  have lk57 : Cond.fieldLink RX2 57 "RiverNamesModel" "places" "I" ∈ wsX2_addPlace := by decide +kernel
  refine zv_go (pc' := 0) rfl (lv' := [(0, .ref (h 0))]) rfl rfl rfl rfl ?_
  refine zv_aload_n C dX2_addPlace_0 1 rfl 0 rfl ?_
  refine zv_iconst (v := 0) C dX2_addPlace_1 2 rfl (by decide) ?_
  refine zv_put (ci := 2) C inX2 rfl tyX2_ok nmX2 dX2_addPlace_2 5 rfl 0 0 rfl (by decide) lk53 rfl rfl rfl (Nat.le_of_ble_eq_true rfl) (cM cI cZ h 0 (nI n) r y (nI b) f0 f1 f2 f3 f4 f5 f6 f7 f8 f9 f10 f11 f12 f13) rfl ?_
  refine zv_aload_n C dX2_addPlace_5 6 rfl 0 rfl ?_
  refine zv_get (ci := 2) C inX2 rfl dX2_addPlace_6 9 rfl 0 1 rfl (by decide) lk57 rfl ?_
  refine zv_bipush (v := 16) C dX2_addPlace_9 11 rfl (by decide) ?_
  refine zv_icmp_ne C dX2_addPlace_11 14 22 rfl (by decide) (fun c1 => ?_) (fun c1 => ?_)
  · exact absurd (by rw [hn]; rfl) c1
  · refine zv_aload_n C dX2_addPlace_14 15 rfl 0 rfl ?_
    refine zv_iconst (v := 1) C dX2_addPlace_15 16 rfl (by decide) ?_
    refine zv_callV (rest := []) (wr := []) C (k_X2_no l D cI cZ h 0 n r y b f0 f1 f2 f3 f4 f5 f6 f7 f8 f9 f10 f11 f12 f13 1) (cwV 1 C.1.2.2.2.2 gX2_addPlace_X2_no rfl rfl rfl (by decide +kernel) ⟨Nat.le_of_ble_eq_true rfl, Nat.le_of_ble_eq_true rfl⟩) dX2_addPlace_16 19 rfl (ci := 2) 0 rfl rfl rfl rfl (Nat.le_of_ble_eq_true rfl) ⟨Nat.le_of_ble_eq_true rfl, Nat.le_of_ble_eq_true rfl⟩ [0, 1] rfl [0, 1, 2, 3, 4, 5, 6, 7, 8, 9, 10, 11, 12, 13, 14] rfl (by decide) [] rfl (by decide) (by decide +kernel) (fun v w hv => ?_)
    obtain ⟨rfl, rfl⟩ := hv
    refine zv_go rfl rfl (st' := [.int 0]) rfl (kc' := 0) rfl (ns' := 0) rfl ?_
    refine zv_wd (ws' := (cM cI cZ h 1 (nI n) r y (nI b) f0 f1 f2 f3 f4 f5 f6 f7 f8 f9 f10 f11 f12 f13)) rfl ?_
    refine zv_goto C dX2_addPlace_19 30 (by decide) ?_
    exact zv_iret C hr hlk hQ dX2_addPlace_30 ⟨rfl, rfl⟩
abbrev rmX2_addSpring : Room := { frames := 1, cells := 0, slots := 0, locals := 24 }
set_option maxHeartbeats 4000000 in
set_option maxRecDepth 100000 in
theorem k_X2_addSpring_ok (l : Launch) (D : va_G) (cI cZ : ClassId) (h : Nat → Nat) (t : Int32) (n : Nat) (r y : Int32) (b : Nat) (f0 f1 f2 f3 f4 f5 f6 f7 f8 f9 f10 f11 f12 f13 : Nat → Int32) (nm wa sw : Int32) (h1 : isI nm 0 9 = true) (h2 : isI wa 0 99 = true) (h3 : isI sw (-9) 9 = true) (hn : n < 16) : zv_M l yX2_addSpring wsX2_addSpring rmX2_addSpring D vwCl (tyL cI cZ) [.ref (h 0), .int nm, .int wa, .int sw] (cM cI cZ h t (nI n) r y (nI b) f0 f1 f2 f3 f4 f5 f6 f7 f8 f9 f10 f11 f12 f13) (fun v w => v = some (.int (nI n)) ∧ w = (cM cI cZ h 0 (nI (n + 1)) r y (nI b) (upd f0 n (-1 : Int32)) (upd f1 n 1) (upd f2 n nm) (upd f3 n wa) (upd f4 n sw) f5 f6 f7 f8 f9 f10 f11 f12 f13)) := by
  refine zv_M.of cX2_addSpring 4 (some .int) (by decide) rfl (Nat.le_of_ble_eq_true rfl) ?_
  intro pP eE sS mM aA bB mT cD A C hr hlk hnm Q hQ
  have inX2 : ∀ w ∈ u_ws RX2 TX2 19, w ∈ wsX2_addSpring := by decide +kernel
  have lk53 : Cond.fieldLink RX2 53 "RiverNamesModel" "thrown" "I" ∈ wsX2_addSpring := by decide +kernel
  have lk57 : Cond.fieldLink RX2 57 "RiverNamesModel" "places" "I" ∈ wsX2_addSpring := by decide +kernel
  refine zv_go (pc' := 0) rfl (lv' := [(0, .ref (h 0)), (1, .int nm), (2, .int wa), (3, .int sw)]) rfl rfl rfl rfl ?_
  refine zv_aload_n C dX2_addSpring_0 1 rfl 0 rfl ?_
  refine zv_iconst (v := 0) C dX2_addSpring_1 2 rfl (by decide) ?_
  refine zv_put (ci := 2) C inX2 rfl tyX2_ok nmX2 dX2_addSpring_2 5 rfl 0 0 rfl (by decide) lk53 rfl rfl rfl (Nat.le_of_ble_eq_true rfl) (cM cI cZ h 0 (nI n) r y (nI b) f0 f1 f2 f3 f4 f5 f6 f7 f8 f9 f10 f11 f12 f13) rfl ?_
  refine zv_iload_n C dX2_addSpring_5 6 rfl 1 rfl ?_
  refine zv_iconst (v := 0) C dX2_addSpring_6 7 rfl (by decide) ?_
  refine zv_bipush (v := 9) C dX2_addSpring_7 9 rfl (by decide) ?_
  refine zv_callSR (rest := []) C (k_X2_isIn l D cI cZ nm 0 9) (cwS 3 C.1.2.2.2.2 gX2_addSpring_X2_isIn rfl rfl rfl (by decide +kernel) ⟨Nat.le_of_ble_eq_true rfl, Nat.le_of_ble_eq_true rfl⟩) dX2_addSpring_9 12 rfl rfl rfl (Nat.le_of_ble_eq_true rfl) ⟨Nat.le_of_ble_eq_true rfl, Nat.le_of_ble_eq_true rfl⟩ [0, 1] rfl [] rfl (by decide) (fun v hv => ?_)
  subst hv
  refine zv_go rfl rfl (st' := [.int (zb (isI nm 0 9))]) rfl (kc' := 0) rfl (ns' := 0) rfl ?_
  refine zv_if_ne C dX2_addSpring_12 15 21 rfl (by decide) (fun c1 => ?_) (fun c1 => ?_)
  · refine zv_iload_n C dX2_addSpring_21 22 rfl 2 rfl ?_
    refine zv_iconst (v := 0) C dX2_addSpring_22 23 rfl (by decide) ?_
    refine zv_bipush (v := 99) C dX2_addSpring_23 25 rfl (by decide) ?_
    refine zv_callSR (rest := []) C (k_X2_isIn l D cI cZ wa 0 99) (cwS 3 C.1.2.2.2.2 gX2_addSpring_X2_isIn rfl rfl rfl (by decide +kernel) ⟨Nat.le_of_ble_eq_true rfl, Nat.le_of_ble_eq_true rfl⟩) dX2_addSpring_25 28 rfl rfl rfl (Nat.le_of_ble_eq_true rfl) ⟨Nat.le_of_ble_eq_true rfl, Nat.le_of_ble_eq_true rfl⟩ [0, 1] rfl [] rfl (by decide) (fun v hv => ?_)
    subst hv
    refine zv_go rfl rfl (st' := [.int (zb (isI wa 0 99))]) rfl (kc' := 0) rfl (ns' := 0) rfl ?_
    refine zv_if_eq C dX2_addSpring_28 31 42 rfl (by decide) (fun c2 => ?_) (fun c2 => ?_)
    · exact absurd h2 (by rw [zb_eq0.mp c2]; decide)
    · refine zv_iload_n C dX2_addSpring_31 32 rfl 3 rfl ?_
      refine zv_bipush (v := (-9 : Int32)) C dX2_addSpring_32 34 rfl (by decide) ?_
      refine zv_bipush (v := 9) C dX2_addSpring_34 36 rfl (by decide) ?_
      refine zv_callSR (rest := []) C (k_X2_isIn l D cI cZ sw (-9 : Int32) 9) (cwS 3 C.1.2.2.2.2 gX2_addSpring_X2_isIn rfl rfl rfl (by decide +kernel) ⟨Nat.le_of_ble_eq_true rfl, Nat.le_of_ble_eq_true rfl⟩) dX2_addSpring_36 39 rfl rfl rfl (Nat.le_of_ble_eq_true rfl) ⟨Nat.le_of_ble_eq_true rfl, Nat.le_of_ble_eq_true rfl⟩ [0, 1] rfl [] rfl (by decide) (fun v hv => ?_)
      subst hv
      refine zv_go rfl rfl (st' := [.int (zb (isI sw (-9 : Int32) 9))]) rfl (kc' := 0) rfl (ns' := 0) rfl ?_
      refine zv_if_ne C dX2_addSpring_39 42 48 rfl (by decide) (fun c3 => ?_) (fun c3 => ?_)
      · refine zv_aload_n C dX2_addSpring_48 49 rfl 0 rfl ?_
        refine zv_get (ci := 2) C inX2 rfl dX2_addSpring_49 52 rfl 0 1 rfl (by decide) lk57 rfl ?_
        refine zv_bipush (v := 16) C dX2_addSpring_52 54 rfl (by decide) ?_
        refine zv_icmp_ne C dX2_addSpring_54 57 65 rfl (by decide) (fun c4 => ?_) (fun c4 => ?_)
        · refine zv_aload_n C dX2_addSpring_65 66 rfl 0 rfl ?_
          refine zv_iconst (v := 1) C dX2_addSpring_66 67 rfl (by decide) ?_
          refine zv_iload_n C dX2_addSpring_67 68 rfl 1 rfl ?_
          refine zv_iload_n C dX2_addSpring_68 69 rfl 2 rfl ?_
          refine zv_iload_n C dX2_addSpring_69 70 rfl 3 rfl ?_
          refine zv_callV (rest := []) (wr := []) C (k_X2_add l D cI cZ h 0 n r y b f0 f1 f2 f3 f4 f5 f6 f7 f8 f9 f10 f11 f12 f13 1 nm wa sw (by simp [zo]) (by omega)) (cwV 4 C.1.2.2.2.2 gX2_addSpring_X2_add rfl rfl rfl (by decide +kernel) ⟨Nat.le_of_ble_eq_true rfl, Nat.le_of_ble_eq_true rfl⟩) dX2_addSpring_70 73 rfl (ci := 2) 0 rfl rfl rfl rfl (Nat.le_of_ble_eq_true rfl) ⟨Nat.le_of_ble_eq_true rfl, Nat.le_of_ble_eq_true rfl⟩ [0, 1] rfl [0, 1, 2, 3, 4, 5, 6, 7, 8, 9, 10, 11, 12, 13, 14] rfl (by decide) [] rfl (by decide) (by decide +kernel) (fun v w hv => ?_)
          obtain ⟨rfl, rfl⟩ := hv
          refine zv_go rfl rfl (st' := [.int (nI n)]) rfl (kc' := 0) rfl (ns' := 0) rfl ?_
          refine zv_wd (ws' := (cM cI cZ h 0 (nI (n + 1)) r y (nI b) (upd f0 n (-1 : Int32)) (upd f1 n 1) (upd f2 n nm) (upd f3 n wa) (upd f4 n sw) f5 f6 f7 f8 f9 f10 f11 f12 f13)) rfl ?_
          exact zv_iret C hr hlk hQ dX2_addSpring_73 ⟨rfl, rfl⟩
        · exact absurd (zn_eq (a := n) (b := 16) (by omega) (by omega) c4) (by omega)
      · exact absurd h3 (by rw [zb_eq0.mp c3]; decide)
  · exact absurd h1 (by rw [zb_eq0.mp c1]; decide)
set_option maxHeartbeats 4000000 in
set_option maxRecDepth 100000 in
theorem k_X2_addSpring_n1 (l : Launch) (D : va_G) (cI cZ : ClassId) (h : Nat → Nat) (t : Int32) (n : Nat) (r y : Int32) (b : Nat) (f0 f1 f2 f3 f4 f5 f6 f7 f8 f9 f10 f11 f12 f13 : Nat → Int32) (nm wa sw : Int32) (h1 : isI nm 0 9 = false) : zv_M l yX2_addSpring wsX2_addSpring rmX2_addSpring D vwCl (tyL cI cZ) [.ref (h 0), .int nm, .int wa, .int sw] (cM cI cZ h t (nI n) r y (nI b) f0 f1 f2 f3 f4 f5 f6 f7 f8 f9 f10 f11 f12 f13) (fun v w => v = some (.int 0) ∧ w = (cM cI cZ h 1 (nI n) r y (nI b) f0 f1 f2 f3 f4 f5 f6 f7 f8 f9 f10 f11 f12 f13)) := by
  refine zv_M.of cX2_addSpring 4 (some .int) (by decide) rfl (Nat.le_of_ble_eq_true rfl) ?_
  intro pP eE sS mM aA bB mT cD A C hr hlk hnm Q hQ
  have inX2 : ∀ w ∈ u_ws RX2 TX2 19, w ∈ wsX2_addSpring := by decide +kernel
  have lk53 : Cond.fieldLink RX2 53 "RiverNamesModel" "thrown" "I" ∈ wsX2_addSpring := by decide +kernel
  refine zv_go (pc' := 0) rfl (lv' := [(0, .ref (h 0)), (1, .int nm), (2, .int wa), (3, .int sw)]) rfl rfl rfl rfl ?_
  refine zv_aload_n C dX2_addSpring_0 1 rfl 0 rfl ?_
  refine zv_iconst (v := 0) C dX2_addSpring_1 2 rfl (by decide) ?_
  refine zv_put (ci := 2) C inX2 rfl tyX2_ok nmX2 dX2_addSpring_2 5 rfl 0 0 rfl (by decide) lk53 rfl rfl rfl (Nat.le_of_ble_eq_true rfl) (cM cI cZ h 0 (nI n) r y (nI b) f0 f1 f2 f3 f4 f5 f6 f7 f8 f9 f10 f11 f12 f13) rfl ?_
  refine zv_iload_n C dX2_addSpring_5 6 rfl 1 rfl ?_
  refine zv_iconst (v := 0) C dX2_addSpring_6 7 rfl (by decide) ?_
  refine zv_bipush (v := 9) C dX2_addSpring_7 9 rfl (by decide) ?_
  refine zv_callSR (rest := []) C (k_X2_isIn l D cI cZ nm 0 9) (cwS 3 C.1.2.2.2.2 gX2_addSpring_X2_isIn rfl rfl rfl (by decide +kernel) ⟨Nat.le_of_ble_eq_true rfl, Nat.le_of_ble_eq_true rfl⟩) dX2_addSpring_9 12 rfl rfl rfl (Nat.le_of_ble_eq_true rfl) ⟨Nat.le_of_ble_eq_true rfl, Nat.le_of_ble_eq_true rfl⟩ [0, 1] rfl [] rfl (by decide) (fun v hv => ?_)
  subst hv
  refine zv_go rfl rfl (st' := [.int (zb (isI nm 0 9))]) rfl (kc' := 0) rfl (ns' := 0) rfl ?_
  refine zv_if_ne C dX2_addSpring_12 15 21 rfl (by decide) (fun c1 => ?_) (fun c1 => ?_)
  · exact absurd h1 (by rw [zb_ne0.mp c1]; decide)
  · refine zv_aload_n C dX2_addSpring_15 16 rfl 0 rfl ?_
    refine zv_iconst (v := 1) C dX2_addSpring_16 17 rfl (by decide) ?_
    refine zv_callV (rest := []) (wr := []) C (k_X2_no l D cI cZ h 0 n r y b f0 f1 f2 f3 f4 f5 f6 f7 f8 f9 f10 f11 f12 f13 1) (cwV 1 C.1.2.2.2.2 gX2_addSpring_X2_no rfl rfl rfl (by decide +kernel) ⟨Nat.le_of_ble_eq_true rfl, Nat.le_of_ble_eq_true rfl⟩) dX2_addSpring_17 20 rfl (ci := 2) 0 rfl rfl rfl rfl (Nat.le_of_ble_eq_true rfl) ⟨Nat.le_of_ble_eq_true rfl, Nat.le_of_ble_eq_true rfl⟩ [0, 1] rfl [0, 1, 2, 3, 4, 5, 6, 7, 8, 9, 10, 11, 12, 13, 14] rfl (by decide) [] rfl (by decide) (by decide +kernel) (fun v w hv => ?_)
    obtain ⟨rfl, rfl⟩ := hv
    refine zv_go rfl rfl (st' := [.int 0]) rfl (kc' := 0) rfl (ns' := 0) rfl ?_
    refine zv_wd (ws' := (cM cI cZ h 1 (nI n) r y (nI b) f0 f1 f2 f3 f4 f5 f6 f7 f8 f9 f10 f11 f12 f13)) rfl ?_
    exact zv_iret C hr hlk hQ dX2_addSpring_20 ⟨rfl, rfl⟩
set_option maxHeartbeats 4000000 in
set_option maxRecDepth 100000 in
theorem k_X2_addSpring_n2 (l : Launch) (D : va_G) (cI cZ : ClassId) (h : Nat → Nat) (t : Int32) (n : Nat) (r y : Int32) (b : Nat) (f0 f1 f2 f3 f4 f5 f6 f7 f8 f9 f10 f11 f12 f13 : Nat → Int32) (nm wa sw : Int32) (h1 : isI nm 0 9 = true) (h2 : isI wa 0 99 = false) : zv_M l yX2_addSpring wsX2_addSpring rmX2_addSpring D vwCl (tyL cI cZ) [.ref (h 0), .int nm, .int wa, .int sw] (cM cI cZ h t (nI n) r y (nI b) f0 f1 f2 f3 f4 f5 f6 f7 f8 f9 f10 f11 f12 f13) (fun v w => v = some (.int 0) ∧ w = (cM cI cZ h 2 (nI n) r y (nI b) f0 f1 f2 f3 f4 f5 f6 f7 f8 f9 f10 f11 f12 f13)) := by
  refine zv_M.of cX2_addSpring 4 (some .int) (by decide) rfl (Nat.le_of_ble_eq_true rfl) ?_
  intro pP eE sS mM aA bB mT cD A C hr hlk hnm Q hQ
  have inX2 : ∀ w ∈ u_ws RX2 TX2 19, w ∈ wsX2_addSpring := by decide +kernel
  have lk53 : Cond.fieldLink RX2 53 "RiverNamesModel" "thrown" "I" ∈ wsX2_addSpring := by decide +kernel
  refine zv_go (pc' := 0) rfl (lv' := [(0, .ref (h 0)), (1, .int nm), (2, .int wa), (3, .int sw)]) rfl rfl rfl rfl ?_
  refine zv_aload_n C dX2_addSpring_0 1 rfl 0 rfl ?_
  refine zv_iconst (v := 0) C dX2_addSpring_1 2 rfl (by decide) ?_
  refine zv_put (ci := 2) C inX2 rfl tyX2_ok nmX2 dX2_addSpring_2 5 rfl 0 0 rfl (by decide) lk53 rfl rfl rfl (Nat.le_of_ble_eq_true rfl) (cM cI cZ h 0 (nI n) r y (nI b) f0 f1 f2 f3 f4 f5 f6 f7 f8 f9 f10 f11 f12 f13) rfl ?_
  refine zv_iload_n C dX2_addSpring_5 6 rfl 1 rfl ?_
  refine zv_iconst (v := 0) C dX2_addSpring_6 7 rfl (by decide) ?_
  refine zv_bipush (v := 9) C dX2_addSpring_7 9 rfl (by decide) ?_
  refine zv_callSR (rest := []) C (k_X2_isIn l D cI cZ nm 0 9) (cwS 3 C.1.2.2.2.2 gX2_addSpring_X2_isIn rfl rfl rfl (by decide +kernel) ⟨Nat.le_of_ble_eq_true rfl, Nat.le_of_ble_eq_true rfl⟩) dX2_addSpring_9 12 rfl rfl rfl (Nat.le_of_ble_eq_true rfl) ⟨Nat.le_of_ble_eq_true rfl, Nat.le_of_ble_eq_true rfl⟩ [0, 1] rfl [] rfl (by decide) (fun v hv => ?_)
  subst hv
  refine zv_go rfl rfl (st' := [.int (zb (isI nm 0 9))]) rfl (kc' := 0) rfl (ns' := 0) rfl ?_
  refine zv_if_ne C dX2_addSpring_12 15 21 rfl (by decide) (fun c1 => ?_) (fun c1 => ?_)
  · refine zv_iload_n C dX2_addSpring_21 22 rfl 2 rfl ?_
    refine zv_iconst (v := 0) C dX2_addSpring_22 23 rfl (by decide) ?_
    refine zv_bipush (v := 99) C dX2_addSpring_23 25 rfl (by decide) ?_
    refine zv_callSR (rest := []) C (k_X2_isIn l D cI cZ wa 0 99) (cwS 3 C.1.2.2.2.2 gX2_addSpring_X2_isIn rfl rfl rfl (by decide +kernel) ⟨Nat.le_of_ble_eq_true rfl, Nat.le_of_ble_eq_true rfl⟩) dX2_addSpring_25 28 rfl rfl rfl (Nat.le_of_ble_eq_true rfl) ⟨Nat.le_of_ble_eq_true rfl, Nat.le_of_ble_eq_true rfl⟩ [0, 1] rfl [] rfl (by decide) (fun v hv => ?_)
    subst hv
    refine zv_go rfl rfl (st' := [.int (zb (isI wa 0 99))]) rfl (kc' := 0) rfl (ns' := 0) rfl ?_
    refine zv_if_eq C dX2_addSpring_28 31 42 rfl (by decide) (fun c2 => ?_) (fun c2 => ?_)
    · refine zv_aload_n C dX2_addSpring_42 43 rfl 0 rfl ?_
      refine zv_iconst (v := 2) C dX2_addSpring_43 44 rfl (by decide) ?_
      refine zv_callV (rest := []) (wr := []) C (k_X2_no l D cI cZ h 0 n r y b f0 f1 f2 f3 f4 f5 f6 f7 f8 f9 f10 f11 f12 f13 2) (cwV 1 C.1.2.2.2.2 gX2_addSpring_X2_no rfl rfl rfl (by decide +kernel) ⟨Nat.le_of_ble_eq_true rfl, Nat.le_of_ble_eq_true rfl⟩) dX2_addSpring_44 47 rfl (ci := 2) 0 rfl rfl rfl rfl (Nat.le_of_ble_eq_true rfl) ⟨Nat.le_of_ble_eq_true rfl, Nat.le_of_ble_eq_true rfl⟩ [0, 1] rfl [0, 1, 2, 3, 4, 5, 6, 7, 8, 9, 10, 11, 12, 13, 14] rfl (by decide) [] rfl (by decide) (by decide +kernel) (fun v w hv => ?_)
      obtain ⟨rfl, rfl⟩ := hv
      refine zv_go rfl rfl (st' := [.int 0]) rfl (kc' := 0) rfl (ns' := 0) rfl ?_
      refine zv_wd (ws' := (cM cI cZ h 2 (nI n) r y (nI b) f0 f1 f2 f3 f4 f5 f6 f7 f8 f9 f10 f11 f12 f13)) rfl ?_
      exact zv_iret C hr hlk hQ dX2_addSpring_47 ⟨rfl, rfl⟩
    · exact absurd h2 (by rw [zb_ne0.mp c2]; decide)
  · exact absurd h1 (by rw [zb_eq0.mp c1]; decide)
set_option maxHeartbeats 4000000 in
set_option maxRecDepth 100000 in
theorem k_X2_addSpring_n3 (l : Launch) (D : va_G) (cI cZ : ClassId) (h : Nat → Nat) (t : Int32) (n : Nat) (r y : Int32) (b : Nat) (f0 f1 f2 f3 f4 f5 f6 f7 f8 f9 f10 f11 f12 f13 : Nat → Int32) (nm wa sw : Int32) (h1 : isI nm 0 9 = true) (h2 : isI wa 0 99 = true) (h3 : isI sw (-9) 9 = false) : zv_M l yX2_addSpring wsX2_addSpring rmX2_addSpring D vwCl (tyL cI cZ) [.ref (h 0), .int nm, .int wa, .int sw] (cM cI cZ h t (nI n) r y (nI b) f0 f1 f2 f3 f4 f5 f6 f7 f8 f9 f10 f11 f12 f13) (fun v w => v = some (.int 0) ∧ w = (cM cI cZ h 2 (nI n) r y (nI b) f0 f1 f2 f3 f4 f5 f6 f7 f8 f9 f10 f11 f12 f13)) := by
  refine zv_M.of cX2_addSpring 4 (some .int) (by decide) rfl (Nat.le_of_ble_eq_true rfl) ?_
  intro pP eE sS mM aA bB mT cD A C hr hlk hnm Q hQ
  have inX2 : ∀ w ∈ u_ws RX2 TX2 19, w ∈ wsX2_addSpring := by decide +kernel
  have lk53 : Cond.fieldLink RX2 53 "RiverNamesModel" "thrown" "I" ∈ wsX2_addSpring := by decide +kernel
  refine zv_go (pc' := 0) rfl (lv' := [(0, .ref (h 0)), (1, .int nm), (2, .int wa), (3, .int sw)]) rfl rfl rfl rfl ?_
  refine zv_aload_n C dX2_addSpring_0 1 rfl 0 rfl ?_
  refine zv_iconst (v := 0) C dX2_addSpring_1 2 rfl (by decide) ?_
  refine zv_put (ci := 2) C inX2 rfl tyX2_ok nmX2 dX2_addSpring_2 5 rfl 0 0 rfl (by decide) lk53 rfl rfl rfl (Nat.le_of_ble_eq_true rfl) (cM cI cZ h 0 (nI n) r y (nI b) f0 f1 f2 f3 f4 f5 f6 f7 f8 f9 f10 f11 f12 f13) rfl ?_
  refine zv_iload_n C dX2_addSpring_5 6 rfl 1 rfl ?_
  refine zv_iconst (v := 0) C dX2_addSpring_6 7 rfl (by decide) ?_
  refine zv_bipush (v := 9) C dX2_addSpring_7 9 rfl (by decide) ?_
  refine zv_callSR (rest := []) C (k_X2_isIn l D cI cZ nm 0 9) (cwS 3 C.1.2.2.2.2 gX2_addSpring_X2_isIn rfl rfl rfl (by decide +kernel) ⟨Nat.le_of_ble_eq_true rfl, Nat.le_of_ble_eq_true rfl⟩) dX2_addSpring_9 12 rfl rfl rfl (Nat.le_of_ble_eq_true rfl) ⟨Nat.le_of_ble_eq_true rfl, Nat.le_of_ble_eq_true rfl⟩ [0, 1] rfl [] rfl (by decide) (fun v hv => ?_)
  subst hv
  refine zv_go rfl rfl (st' := [.int (zb (isI nm 0 9))]) rfl (kc' := 0) rfl (ns' := 0) rfl ?_
  refine zv_if_ne C dX2_addSpring_12 15 21 rfl (by decide) (fun c1 => ?_) (fun c1 => ?_)
  · refine zv_iload_n C dX2_addSpring_21 22 rfl 2 rfl ?_
    refine zv_iconst (v := 0) C dX2_addSpring_22 23 rfl (by decide) ?_
    refine zv_bipush (v := 99) C dX2_addSpring_23 25 rfl (by decide) ?_
    refine zv_callSR (rest := []) C (k_X2_isIn l D cI cZ wa 0 99) (cwS 3 C.1.2.2.2.2 gX2_addSpring_X2_isIn rfl rfl rfl (by decide +kernel) ⟨Nat.le_of_ble_eq_true rfl, Nat.le_of_ble_eq_true rfl⟩) dX2_addSpring_25 28 rfl rfl rfl (Nat.le_of_ble_eq_true rfl) ⟨Nat.le_of_ble_eq_true rfl, Nat.le_of_ble_eq_true rfl⟩ [0, 1] rfl [] rfl (by decide) (fun v hv => ?_)
    subst hv
    refine zv_go rfl rfl (st' := [.int (zb (isI wa 0 99))]) rfl (kc' := 0) rfl (ns' := 0) rfl ?_
    refine zv_if_eq C dX2_addSpring_28 31 42 rfl (by decide) (fun c2 => ?_) (fun c2 => ?_)
    · exact absurd h2 (by rw [zb_eq0.mp c2]; decide)
    · refine zv_iload_n C dX2_addSpring_31 32 rfl 3 rfl ?_
      refine zv_bipush (v := (-9 : Int32)) C dX2_addSpring_32 34 rfl (by decide) ?_
      refine zv_bipush (v := 9) C dX2_addSpring_34 36 rfl (by decide) ?_
      refine zv_callSR (rest := []) C (k_X2_isIn l D cI cZ sw (-9 : Int32) 9) (cwS 3 C.1.2.2.2.2 gX2_addSpring_X2_isIn rfl rfl rfl (by decide +kernel) ⟨Nat.le_of_ble_eq_true rfl, Nat.le_of_ble_eq_true rfl⟩) dX2_addSpring_36 39 rfl rfl rfl (Nat.le_of_ble_eq_true rfl) ⟨Nat.le_of_ble_eq_true rfl, Nat.le_of_ble_eq_true rfl⟩ [0, 1] rfl [] rfl (by decide) (fun v hv => ?_)
      subst hv
      refine zv_go rfl rfl (st' := [.int (zb (isI sw (-9 : Int32) 9))]) rfl (kc' := 0) rfl (ns' := 0) rfl ?_
      refine zv_if_ne C dX2_addSpring_39 42 48 rfl (by decide) (fun c3 => ?_) (fun c3 => ?_)
      · exact absurd h3 (by rw [zb_ne0.mp c3]; decide)
      · refine zv_aload_n C dX2_addSpring_42 43 rfl 0 rfl ?_
        refine zv_iconst (v := 2) C dX2_addSpring_43 44 rfl (by decide) ?_
        refine zv_callV (rest := []) (wr := []) C (k_X2_no l D cI cZ h 0 n r y b f0 f1 f2 f3 f4 f5 f6 f7 f8 f9 f10 f11 f12 f13 2) (cwV 1 C.1.2.2.2.2 gX2_addSpring_X2_no rfl rfl rfl (by decide +kernel) ⟨Nat.le_of_ble_eq_true rfl, Nat.le_of_ble_eq_true rfl⟩) dX2_addSpring_44 47 rfl (ci := 2) 0 rfl rfl rfl rfl (Nat.le_of_ble_eq_true rfl) ⟨Nat.le_of_ble_eq_true rfl, Nat.le_of_ble_eq_true rfl⟩ [0, 1] rfl [0, 1, 2, 3, 4, 5, 6, 7, 8, 9, 10, 11, 12, 13, 14] rfl (by decide) [] rfl (by decide) (by decide +kernel) (fun v w hv => ?_)
        obtain ⟨rfl, rfl⟩ := hv
        refine zv_go rfl rfl (st' := [.int 0]) rfl (kc' := 0) rfl (ns' := 0) rfl ?_
        refine zv_wd (ws' := (cM cI cZ h 2 (nI n) r y (nI b) f0 f1 f2 f3 f4 f5 f6 f7 f8 f9 f10 f11 f12 f13)) rfl ?_
        exact zv_iret C hr hlk hQ dX2_addSpring_47 ⟨rfl, rfl⟩
  · exact absurd h1 (by rw [zb_eq0.mp c1]; decide)
set_option maxHeartbeats 4000000 in
set_option maxRecDepth 100000 in
theorem k_X2_addSpring_n4 (l : Launch) (D : va_G) (cI cZ : ClassId) (h : Nat → Nat) (t : Int32) (n : Nat) (r y : Int32) (b : Nat) (f0 f1 f2 f3 f4 f5 f6 f7 f8 f9 f10 f11 f12 f13 : Nat → Int32) (nm wa sw : Int32) (h1 : isI nm 0 9 = true) (h2 : isI wa 0 99 = true) (h3 : isI sw (-9) 9 = true) (hn : n = 16) : zv_M l yX2_addSpring wsX2_addSpring rmX2_addSpring D vwCl (tyL cI cZ) [.ref (h 0), .int nm, .int wa, .int sw] (cM cI cZ h t (nI n) r y (nI b) f0 f1 f2 f3 f4 f5 f6 f7 f8 f9 f10 f11 f12 f13) (fun v w => v = some (.int 0) ∧ w = (cM cI cZ h 3 (nI n) r y (nI b) f0 f1 f2 f3 f4 f5 f6 f7 f8 f9 f10 f11 f12 f13)) := by
  refine zv_M.of cX2_addSpring 4 (some .int) (by decide) rfl (Nat.le_of_ble_eq_true rfl) ?_
  intro pP eE sS mM aA bB mT cD A C hr hlk hnm Q hQ
  have inX2 : ∀ w ∈ u_ws RX2 TX2 19, w ∈ wsX2_addSpring := by decide +kernel
  have lk53 : Cond.fieldLink RX2 53 "RiverNamesModel" "thrown" "I" ∈ wsX2_addSpring := by decide +kernel
  have lk57 : Cond.fieldLink RX2 57 "RiverNamesModel" "places" "I" ∈ wsX2_addSpring := by decide +kernel
  refine zv_go (pc' := 0) rfl (lv' := [(0, .ref (h 0)), (1, .int nm), (2, .int wa), (3, .int sw)]) rfl rfl rfl rfl ?_
  refine zv_aload_n C dX2_addSpring_0 1 rfl 0 rfl ?_
  refine zv_iconst (v := 0) C dX2_addSpring_1 2 rfl (by decide) ?_
  refine zv_put (ci := 2) C inX2 rfl tyX2_ok nmX2 dX2_addSpring_2 5 rfl 0 0 rfl (by decide) lk53 rfl rfl rfl (Nat.le_of_ble_eq_true rfl) (cM cI cZ h 0 (nI n) r y (nI b) f0 f1 f2 f3 f4 f5 f6 f7 f8 f9 f10 f11 f12 f13) rfl ?_
  refine zv_iload_n C dX2_addSpring_5 6 rfl 1 rfl ?_
  refine zv_iconst (v := 0) C dX2_addSpring_6 7 rfl (by decide) ?_
  refine zv_bipush (v := 9) C dX2_addSpring_7 9 rfl (by decide) ?_
  refine zv_callSR (rest := []) C (k_X2_isIn l D cI cZ nm 0 9) (cwS 3 C.1.2.2.2.2 gX2_addSpring_X2_isIn rfl rfl rfl (by decide +kernel) ⟨Nat.le_of_ble_eq_true rfl, Nat.le_of_ble_eq_true rfl⟩) dX2_addSpring_9 12 rfl rfl rfl (Nat.le_of_ble_eq_true rfl) ⟨Nat.le_of_ble_eq_true rfl, Nat.le_of_ble_eq_true rfl⟩ [0, 1] rfl [] rfl (by decide) (fun v hv => ?_)
  subst hv
  refine zv_go rfl rfl (st' := [.int (zb (isI nm 0 9))]) rfl (kc' := 0) rfl (ns' := 0) rfl ?_
  refine zv_if_ne C dX2_addSpring_12 15 21 rfl (by decide) (fun c1 => ?_) (fun c1 => ?_)
  · refine zv_iload_n C dX2_addSpring_21 22 rfl 2 rfl ?_
    refine zv_iconst (v := 0) C dX2_addSpring_22 23 rfl (by decide) ?_
    refine zv_bipush (v := 99) C dX2_addSpring_23 25 rfl (by decide) ?_
    refine zv_callSR (rest := []) C (k_X2_isIn l D cI cZ wa 0 99) (cwS 3 C.1.2.2.2.2 gX2_addSpring_X2_isIn rfl rfl rfl (by decide +kernel) ⟨Nat.le_of_ble_eq_true rfl, Nat.le_of_ble_eq_true rfl⟩) dX2_addSpring_25 28 rfl rfl rfl (Nat.le_of_ble_eq_true rfl) ⟨Nat.le_of_ble_eq_true rfl, Nat.le_of_ble_eq_true rfl⟩ [0, 1] rfl [] rfl (by decide) (fun v hv => ?_)
    subst hv
    refine zv_go rfl rfl (st' := [.int (zb (isI wa 0 99))]) rfl (kc' := 0) rfl (ns' := 0) rfl ?_
    refine zv_if_eq C dX2_addSpring_28 31 42 rfl (by decide) (fun c2 => ?_) (fun c2 => ?_)
    · exact absurd h2 (by rw [zb_eq0.mp c2]; decide)
    · refine zv_iload_n C dX2_addSpring_31 32 rfl 3 rfl ?_
      refine zv_bipush (v := (-9 : Int32)) C dX2_addSpring_32 34 rfl (by decide) ?_
      refine zv_bipush (v := 9) C dX2_addSpring_34 36 rfl (by decide) ?_
      refine zv_callSR (rest := []) C (k_X2_isIn l D cI cZ sw (-9 : Int32) 9) (cwS 3 C.1.2.2.2.2 gX2_addSpring_X2_isIn rfl rfl rfl (by decide +kernel) ⟨Nat.le_of_ble_eq_true rfl, Nat.le_of_ble_eq_true rfl⟩) dX2_addSpring_36 39 rfl rfl rfl (Nat.le_of_ble_eq_true rfl) ⟨Nat.le_of_ble_eq_true rfl, Nat.le_of_ble_eq_true rfl⟩ [0, 1] rfl [] rfl (by decide) (fun v hv => ?_)
      subst hv
      refine zv_go rfl rfl (st' := [.int (zb (isI sw (-9 : Int32) 9))]) rfl (kc' := 0) rfl (ns' := 0) rfl ?_
      refine zv_if_ne C dX2_addSpring_39 42 48 rfl (by decide) (fun c3 => ?_) (fun c3 => ?_)
      · refine zv_aload_n C dX2_addSpring_48 49 rfl 0 rfl ?_
        refine zv_get (ci := 2) C inX2 rfl dX2_addSpring_49 52 rfl 0 1 rfl (by decide) lk57 rfl ?_
        refine zv_bipush (v := 16) C dX2_addSpring_52 54 rfl (by decide) ?_
        refine zv_icmp_ne C dX2_addSpring_54 57 65 rfl (by decide) (fun c4 => ?_) (fun c4 => ?_)
        · exact absurd (by rw [hn]; rfl) c4
        · refine zv_aload_n C dX2_addSpring_57 58 rfl 0 rfl ?_
          refine zv_iconst (v := 3) C dX2_addSpring_58 59 rfl (by decide) ?_
          refine zv_callV (rest := []) (wr := []) C (k_X2_no l D cI cZ h 0 n r y b f0 f1 f2 f3 f4 f5 f6 f7 f8 f9 f10 f11 f12 f13 3) (cwV 1 C.1.2.2.2.2 gX2_addSpring_X2_no rfl rfl rfl (by decide +kernel) ⟨Nat.le_of_ble_eq_true rfl, Nat.le_of_ble_eq_true rfl⟩) dX2_addSpring_59 62 rfl (ci := 2) 0 rfl rfl rfl rfl (Nat.le_of_ble_eq_true rfl) ⟨Nat.le_of_ble_eq_true rfl, Nat.le_of_ble_eq_true rfl⟩ [0, 1] rfl [0, 1, 2, 3, 4, 5, 6, 7, 8, 9, 10, 11, 12, 13, 14] rfl (by decide) [] rfl (by decide) (by decide +kernel) (fun v w hv => ?_)
          obtain ⟨rfl, rfl⟩ := hv
          refine zv_go rfl rfl (st' := [.int 0]) rfl (kc' := 0) rfl (ns' := 0) rfl ?_
          refine zv_wd (ws' := (cM cI cZ h 3 (nI n) r y (nI b) f0 f1 f2 f3 f4 f5 f6 f7 f8 f9 f10 f11 f12 f13)) rfl ?_
          refine zv_goto C dX2_addSpring_62 73 (by decide) ?_
          exact zv_iret C hr hlk hQ dX2_addSpring_73 ⟨rfl, rfl⟩
      · exact absurd h3 (by rw [zb_eq0.mp c3]; decide)
  · exact absurd h1 (by rw [zb_eq0.mp c1]; decide)
abbrev rmX2_lead : Room := { frames := 2, cells := 0, slots := 0, locals := 43 }
set_option maxHeartbeats 4000000 in
set_option maxRecDepth 100000 in
theorem k_X2_lead_ok (l : Launch) (D : va_G) (cI cZ : ClassId) (h : Nat → Nat) (t : Int32) (n : Nat) (r y : Int32) (b : Nat) (f0 f1 f2 f3 f4 f5 f6 f7 f8 f9 f10 f11 f12 f13 : Nat → Int32) (p q : Nat) (s : Nat → Int32) (d : Nat → Nat) (hn : n ≤ 16) (hD : Dep n f0 s d) (hp : p < n) (hq : q < n) (hne : ¬ p = q) (hfl : fl f0 (nI p) 16 (f0 q) = false) : zv_M l yX2_lead wsX2_lead rmX2_lead D vwCl (tyL cI cZ) [.ref (h 0), .int (nI p), .int (nI q)] (cM cI cZ h t (nI n) r y (nI b) f0 f1 f2 f3 f4 f5 f6 f7 f8 f9 f10 f11 f12 f13) (fun v w => v = some (.int (f0 p)) ∧ w = (cM cI cZ h 0 (nI n) r y (nI b) (upd f0 p (nI q)) f1 f2 f3 f4 f5 f6 f7 f8 f9 f10 f11 f12 f13)) := by
  refine zv_M.of cX2_lead 4 (some .int) (by decide) rfl (Nat.le_of_ble_eq_true rfl) ?_
  intro pP eE sS mM aA bB mT cD A C hr hlk hnm Q hQ
  have inX2 : ∀ w ∈ u_ws RX2 TX2 19, w ∈ wsX2_lead := by decide +kernel
  have lk53 : Cond.fieldLink RX2 53 "RiverNamesModel" "thrown" "I" ∈ wsX2_lead := by decide +kernel
  have lk9 : Cond.fieldLink RX2 9 "RiverNamesModel" "to" "[I" ∈ wsX2_lead := by decide +kernel
  refine zv_go (pc' := 0) rfl (lv' := [(0, .ref (h 0)), (1, .int (nI p)), (2, .int (nI q))]) rfl rfl rfl rfl ?_
  refine zv_aload_n C dX2_lead_0 1 rfl 0 rfl ?_
  refine zv_iconst (v := 0) C dX2_lead_1 2 rfl (by decide) ?_
  refine zv_put (ci := 2) C inX2 rfl tyX2_ok nmX2 dX2_lead_2 5 rfl 0 0 rfl (by decide) lk53 rfl rfl rfl (Nat.le_of_ble_eq_true rfl) (cM cI cZ h 0 (nI n) r y (nI b) f0 f1 f2 f3 f4 f5 f6 f7 f8 f9 f10 f11 f12 f13) rfl ?_
  refine zv_aload_n C dX2_lead_5 6 rfl 0 rfl ?_
  refine zv_iload_n C dX2_lead_6 7 rfl 1 rfl ?_
  refine zv_callVR (rest := []) C (k_X2_isPlace l D cI cZ h 0 n r y b f0 f1 f2 f3 f4 f5 f6 f7 f8 f9 f10 f11 f12 f13 (nI p) (by omega)) (cwV 1 C.1.2.2.2.2 gX2_lead_X2_isPlace rfl rfl rfl (by decide +kernel) ⟨Nat.le_of_ble_eq_true rfl, Nat.le_of_ble_eq_true rfl⟩) dX2_lead_7 10 rfl (ci := 2) 0 rfl rfl rfl rfl (Nat.le_of_ble_eq_true rfl) ⟨Nat.le_of_ble_eq_true rfl, Nat.le_of_ble_eq_true rfl⟩ [0, 1] rfl [0, 1, 2, 3, 4, 5, 6, 7, 8, 9, 10, 11, 12, 13, 14] rfl (by decide) (fun v hv => ?_)
  subst hv
  refine zv_go rfl rfl (st' := [.int (zb (isP n (nI p)))]) rfl (kc' := 0) rfl (ns' := 0) rfl ?_
  refine zv_if_eq C dX2_lead_10 13 21 rfl (by decide) (fun c1 => ?_) (fun c1 => ?_)
  · exact absurd (isP_nI (by omega) hp) (by rw [zb_eq0.mp c1]; decide)
  · refine zv_aload_n C dX2_lead_13 14 rfl 0 rfl ?_
    refine zv_iload_n C dX2_lead_14 15 rfl 2 rfl ?_
    refine zv_callVR (rest := []) C (k_X2_isPlace l D cI cZ h 0 n r y b f0 f1 f2 f3 f4 f5 f6 f7 f8 f9 f10 f11 f12 f13 (nI q) (by omega)) (cwV 1 C.1.2.2.2.2 gX2_lead_X2_isPlace rfl rfl rfl (by decide +kernel) ⟨Nat.le_of_ble_eq_true rfl, Nat.le_of_ble_eq_true rfl⟩) dX2_lead_15 18 rfl (ci := 2) 0 rfl rfl rfl rfl (Nat.le_of_ble_eq_true rfl) ⟨Nat.le_of_ble_eq_true rfl, Nat.le_of_ble_eq_true rfl⟩ [0, 1] rfl [0, 1, 2, 3, 4, 5, 6, 7, 8, 9, 10, 11, 12, 13, 14] rfl (by decide) (fun v hv => ?_)
    subst hv
    refine zv_go rfl rfl (st' := [.int (zb (isP n (nI q)))]) rfl (kc' := 0) rfl (ns' := 0) rfl ?_
    refine zv_if_ne C dX2_lead_18 21 27 rfl (by decide) (fun c2 => ?_) (fun c2 => ?_)
    · refine zv_iload_n C dX2_lead_27 28 rfl 1 rfl ?_
      refine zv_iload_n C dX2_lead_28 29 rfl 2 rfl ?_
      refine zv_icmp_eq C dX2_lead_29 32 41 rfl (by decide) (fun c3 => ?_) (fun c3 => ?_)
      · exact absurd (zn_eq (a := p) (b := q) (by omega) (by omega) c3) hne
      · replace c3 := zn_eq' (a := p) (b := q) (by omega) (by omega) c3
        refine zv_aload_n C dX2_lead_32 33 rfl 0 rfl ?_
        refine zv_iload_n C dX2_lead_33 34 rfl 2 rfl ?_
        refine zv_iload_n C dX2_lead_34 35 rfl 1 rfl ?_
        refine zv_callVR (rest := []) C (k_X2_above l D cI cZ h 0 n r y b f0 f1 f2 f3 f4 f5 f6 f7 f8 f9 f10 f11 f12 f13 q p s d (by omega) (by assumption) (by omega) (by omega)) (cwV 2 C.1.2.2.2.2 gX2_lead_X2_above rfl rfl rfl (by decide +kernel) ⟨Nat.le_of_ble_eq_true rfl, Nat.le_of_ble_eq_true rfl⟩) dX2_lead_35 38 rfl (ci := 2) 0 rfl rfl rfl rfl (Nat.le_of_ble_eq_true rfl) ⟨Nat.le_of_ble_eq_true rfl, Nat.le_of_ble_eq_true rfl⟩ [0, 1] rfl [0, 1, 2, 3, 4, 5, 6, 7, 8, 9, 10, 11, 12, 13, 14] rfl (by decide) (fun v hv => ?_)
        subst hv
        refine zv_go rfl rfl (st' := [.int (zb (fl f0 (nI p) 16 (f0 q)))]) rfl (kc' := 0) rfl (ns' := 0) rfl ?_
        refine zv_if_eq C dX2_lead_38 41 47 rfl (by decide) (fun c4 => ?_) (fun c4 => ?_)
        · refine zv_aload_n C dX2_lead_47 48 rfl 0 rfl ?_
          refine zv_get (ci := 2) C inX2 rfl dX2_lead_48 51 rfl 0 4 rfl (by decide) lk9 rfl ?_
          refine zv_iload_n C dX2_lead_51 52 rfl 1 rfl ?_
          refine zv_iald (v := (f0 p)) C dX2_lead_52 53 rfl 1 0 p rfl rfl rfl (by omega) (by decide) rfl ?_
          refine zv_istore_n C dX2_lead_53 54 rfl [(3, .int (f0 p)), (0, .ref (h 0)), (1, .int (nI p)), (2, .int (nI q))] (by decide) rfl ?_
          refine zv_aload_n C dX2_lead_54 55 rfl 1 rfl ?_
          refine zv_get (ci := 2) C inX2 rfl dX2_lead_55 58 rfl 0 4 rfl (by decide) lk9 rfl ?_
          refine zv_iload_n C dX2_lead_58 59 rfl 2 rfl ?_
          refine zv_iload_n C dX2_lead_59 60 rfl 3 rfl ?_
          refine zv_iast (x' := (nI q)) C dX2_lead_60 61 rfl 1 0 p rfl rfl rfl (by omega) (by decide) rfl (cM cI cZ h 0 (nI n) r y (nI b) (upd f0 p (nI q)) f1 f2 f3 f4 f5 f6 f7 f8 f9 f10 f11 f12 f13) rfl ?_
          refine zv_iload_n C dX2_lead_61 62 rfl 0 rfl ?_
          exact zv_iret C hr hlk hQ dX2_lead_62 ⟨rfl, rfl⟩
        · exact absurd hfl (by rw [zb_ne0.mp c4]; decide)
    · exact absurd (isP_nI (by omega) hq) (by rw [zb_eq0.mp c2]; decide)
set_option maxHeartbeats 4000000 in
set_option maxRecDepth 100000 in
theorem k_X2_lead_n1 (l : Launch) (D : va_G) (cI cZ : ClassId) (h : Nat → Nat) (t : Int32) (n : Nat) (r y : Int32) (b : Nat) (f0 f1 f2 f3 f4 f5 f6 f7 f8 f9 f10 f11 f12 f13 : Nat → Int32) (i j : Int32) (hn : n ≤ 16) (hf : isP n i = false) : zv_M l yX2_lead wsX2_lead rmX2_lead D vwCl (tyL cI cZ) [.ref (h 0), .int i, .int j] (cM cI cZ h t (nI n) r y (nI b) f0 f1 f2 f3 f4 f5 f6 f7 f8 f9 f10 f11 f12 f13) (fun v w => v = some (.int 0) ∧ w = (cM cI cZ h 1 (nI n) r y (nI b) f0 f1 f2 f3 f4 f5 f6 f7 f8 f9 f10 f11 f12 f13)) := by
  refine zv_M.of cX2_lead 4 (some .int) (by decide) rfl (Nat.le_of_ble_eq_true rfl) ?_
  intro pP eE sS mM aA bB mT cD A C hr hlk hnm Q hQ
  have inX2 : ∀ w ∈ u_ws RX2 TX2 19, w ∈ wsX2_lead := by decide +kernel
  have lk53 : Cond.fieldLink RX2 53 "RiverNamesModel" "thrown" "I" ∈ wsX2_lead := by decide +kernel
  refine zv_go (pc' := 0) rfl (lv' := [(0, .ref (h 0)), (1, .int i), (2, .int j)]) rfl rfl rfl rfl ?_
  refine zv_aload_n C dX2_lead_0 1 rfl 0 rfl ?_
  refine zv_iconst (v := 0) C dX2_lead_1 2 rfl (by decide) ?_
  refine zv_put (ci := 2) C inX2 rfl tyX2_ok nmX2 dX2_lead_2 5 rfl 0 0 rfl (by decide) lk53 rfl rfl rfl (Nat.le_of_ble_eq_true rfl) (cM cI cZ h 0 (nI n) r y (nI b) f0 f1 f2 f3 f4 f5 f6 f7 f8 f9 f10 f11 f12 f13) rfl ?_
  refine zv_aload_n C dX2_lead_5 6 rfl 0 rfl ?_
  refine zv_iload_n C dX2_lead_6 7 rfl 1 rfl ?_
  refine zv_callVR (rest := []) C (k_X2_isPlace l D cI cZ h 0 n r y b f0 f1 f2 f3 f4 f5 f6 f7 f8 f9 f10 f11 f12 f13 i (by omega)) (cwV 1 C.1.2.2.2.2 gX2_lead_X2_isPlace rfl rfl rfl (by decide +kernel) ⟨Nat.le_of_ble_eq_true rfl, Nat.le_of_ble_eq_true rfl⟩) dX2_lead_7 10 rfl (ci := 2) 0 rfl rfl rfl rfl (Nat.le_of_ble_eq_true rfl) ⟨Nat.le_of_ble_eq_true rfl, Nat.le_of_ble_eq_true rfl⟩ [0, 1] rfl [0, 1, 2, 3, 4, 5, 6, 7, 8, 9, 10, 11, 12, 13, 14] rfl (by decide) (fun v hv => ?_)
  subst hv
  refine zv_go rfl rfl (st' := [.int (zb (isP n i))]) rfl (kc' := 0) rfl (ns' := 0) rfl ?_
  refine zv_if_eq C dX2_lead_10 13 21 rfl (by decide) (fun c1 => ?_) (fun c1 => ?_)
  · refine zv_aload_n C dX2_lead_21 22 rfl 0 rfl ?_
    refine zv_iconst (v := 1) C dX2_lead_22 23 rfl (by decide) ?_
    refine zv_callV (rest := []) (wr := []) C (k_X2_no l D cI cZ h 0 n r y b f0 f1 f2 f3 f4 f5 f6 f7 f8 f9 f10 f11 f12 f13 1) (cwV 1 C.1.2.2.2.2 gX2_lead_X2_no rfl rfl rfl (by decide +kernel) ⟨Nat.le_of_ble_eq_true rfl, Nat.le_of_ble_eq_true rfl⟩) dX2_lead_23 26 rfl (ci := 2) 0 rfl rfl rfl rfl (Nat.le_of_ble_eq_true rfl) ⟨Nat.le_of_ble_eq_true rfl, Nat.le_of_ble_eq_true rfl⟩ [0, 1] rfl [0, 1, 2, 3, 4, 5, 6, 7, 8, 9, 10, 11, 12, 13, 14] rfl (by decide) [] rfl (by decide) (by decide +kernel) (fun v w hv => ?_)
    obtain ⟨rfl, rfl⟩ := hv
    refine zv_go rfl rfl (st' := [.int 0]) rfl (kc' := 0) rfl (ns' := 0) rfl ?_
    refine zv_wd (ws' := (cM cI cZ h 1 (nI n) r y (nI b) f0 f1 f2 f3 f4 f5 f6 f7 f8 f9 f10 f11 f12 f13)) rfl ?_
    exact zv_iret C hr hlk hQ dX2_lead_26 ⟨rfl, rfl⟩
  · exact absurd hf (by rw [zb_ne0.mp c1]; decide)
set_option maxHeartbeats 4000000 in
set_option maxRecDepth 100000 in
theorem k_X2_lead_n2 (l : Launch) (D : va_G) (cI cZ : ClassId) (h : Nat → Nat) (t : Int32) (n : Nat) (r y : Int32) (b : Nat) (f0 f1 f2 f3 f4 f5 f6 f7 f8 f9 f10 f11 f12 f13 : Nat → Int32) (p : Nat) (j : Int32) (hn : n ≤ 16) (hp : p < n) (hf : isP n j = false) : zv_M l yX2_lead wsX2_lead rmX2_lead D vwCl (tyL cI cZ) [.ref (h 0), .int (nI p), .int j] (cM cI cZ h t (nI n) r y (nI b) f0 f1 f2 f3 f4 f5 f6 f7 f8 f9 f10 f11 f12 f13) (fun v w => v = some (.int 0) ∧ w = (cM cI cZ h 1 (nI n) r y (nI b) f0 f1 f2 f3 f4 f5 f6 f7 f8 f9 f10 f11 f12 f13)) := by
  refine zv_M.of cX2_lead 4 (some .int) (by decide) rfl (Nat.le_of_ble_eq_true rfl) ?_
  intro pP eE sS mM aA bB mT cD A C hr hlk hnm Q hQ
  have inX2 : ∀ w ∈ u_ws RX2 TX2 19, w ∈ wsX2_lead := by decide +kernel
  have lk53 : Cond.fieldLink RX2 53 "RiverNamesModel" "thrown" "I" ∈ wsX2_lead := by decide +kernel
  refine zv_go (pc' := 0) rfl (lv' := [(0, .ref (h 0)), (1, .int (nI p)), (2, .int j)]) rfl rfl rfl rfl ?_
  refine zv_aload_n C dX2_lead_0 1 rfl 0 rfl ?_
  refine zv_iconst (v := 0) C dX2_lead_1 2 rfl (by decide) ?_
  refine zv_put (ci := 2) C inX2 rfl tyX2_ok nmX2 dX2_lead_2 5 rfl 0 0 rfl (by decide) lk53 rfl rfl rfl (Nat.le_of_ble_eq_true rfl) (cM cI cZ h 0 (nI n) r y (nI b) f0 f1 f2 f3 f4 f5 f6 f7 f8 f9 f10 f11 f12 f13) rfl ?_
  refine zv_aload_n C dX2_lead_5 6 rfl 0 rfl ?_
  refine zv_iload_n C dX2_lead_6 7 rfl 1 rfl ?_
  refine zv_callVR (rest := []) C (k_X2_isPlace l D cI cZ h 0 n r y b f0 f1 f2 f3 f4 f5 f6 f7 f8 f9 f10 f11 f12 f13 (nI p) (by omega)) (cwV 1 C.1.2.2.2.2 gX2_lead_X2_isPlace rfl rfl rfl (by decide +kernel) ⟨Nat.le_of_ble_eq_true rfl, Nat.le_of_ble_eq_true rfl⟩) dX2_lead_7 10 rfl (ci := 2) 0 rfl rfl rfl rfl (Nat.le_of_ble_eq_true rfl) ⟨Nat.le_of_ble_eq_true rfl, Nat.le_of_ble_eq_true rfl⟩ [0, 1] rfl [0, 1, 2, 3, 4, 5, 6, 7, 8, 9, 10, 11, 12, 13, 14] rfl (by decide) (fun v hv => ?_)
  subst hv
  refine zv_go rfl rfl (st' := [.int (zb (isP n (nI p)))]) rfl (kc' := 0) rfl (ns' := 0) rfl ?_
  refine zv_if_eq C dX2_lead_10 13 21 rfl (by decide) (fun c1 => ?_) (fun c1 => ?_)
  · exact absurd (isP_nI (by omega) hp) (by rw [zb_eq0.mp c1]; decide)
  · refine zv_aload_n C dX2_lead_13 14 rfl 0 rfl ?_
    refine zv_iload_n C dX2_lead_14 15 rfl 2 rfl ?_
    refine zv_callVR (rest := []) C (k_X2_isPlace l D cI cZ h 0 n r y b f0 f1 f2 f3 f4 f5 f6 f7 f8 f9 f10 f11 f12 f13 j (by omega)) (cwV 1 C.1.2.2.2.2 gX2_lead_X2_isPlace rfl rfl rfl (by decide +kernel) ⟨Nat.le_of_ble_eq_true rfl, Nat.le_of_ble_eq_true rfl⟩) dX2_lead_15 18 rfl (ci := 2) 0 rfl rfl rfl rfl (Nat.le_of_ble_eq_true rfl) ⟨Nat.le_of_ble_eq_true rfl, Nat.le_of_ble_eq_true rfl⟩ [0, 1] rfl [0, 1, 2, 3, 4, 5, 6, 7, 8, 9, 10, 11, 12, 13, 14] rfl (by decide) (fun v hv => ?_)
    subst hv
    refine zv_go rfl rfl (st' := [.int (zb (isP n j))]) rfl (kc' := 0) rfl (ns' := 0) rfl ?_
    refine zv_if_ne C dX2_lead_18 21 27 rfl (by decide) (fun c2 => ?_) (fun c2 => ?_)
    · exact absurd hf (by rw [zb_ne0.mp c2]; decide)
    · refine zv_aload_n C dX2_lead_21 22 rfl 0 rfl ?_
      refine zv_iconst (v := 1) C dX2_lead_22 23 rfl (by decide) ?_
      refine zv_callV (rest := []) (wr := []) C (k_X2_no l D cI cZ h 0 n r y b f0 f1 f2 f3 f4 f5 f6 f7 f8 f9 f10 f11 f12 f13 1) (cwV 1 C.1.2.2.2.2 gX2_lead_X2_no rfl rfl rfl (by decide +kernel) ⟨Nat.le_of_ble_eq_true rfl, Nat.le_of_ble_eq_true rfl⟩) dX2_lead_23 26 rfl (ci := 2) 0 rfl rfl rfl rfl (Nat.le_of_ble_eq_true rfl) ⟨Nat.le_of_ble_eq_true rfl, Nat.le_of_ble_eq_true rfl⟩ [0, 1] rfl [0, 1, 2, 3, 4, 5, 6, 7, 8, 9, 10, 11, 12, 13, 14] rfl (by decide) [] rfl (by decide) (by decide +kernel) (fun v w hv => ?_)
      obtain ⟨rfl, rfl⟩ := hv
      refine zv_go rfl rfl (st' := [.int 0]) rfl (kc' := 0) rfl (ns' := 0) rfl ?_
      refine zv_wd (ws' := (cM cI cZ h 1 (nI n) r y (nI b) f0 f1 f2 f3 f4 f5 f6 f7 f8 f9 f10 f11 f12 f13)) rfl ?_
      exact zv_iret C hr hlk hQ dX2_lead_26 ⟨rfl, rfl⟩
set_option maxHeartbeats 4000000 in
set_option maxRecDepth 100000 in
theorem k_X2_lead_n3 (l : Launch) (D : va_G) (cI cZ : ClassId) (h : Nat → Nat) (t : Int32) (n : Nat) (r y : Int32) (b : Nat) (f0 f1 f2 f3 f4 f5 f6 f7 f8 f9 f10 f11 f12 f13 : Nat → Int32) (p q : Nat) (s : Nat → Int32) (d : Nat → Nat) (hn : n ≤ 16) (hD : Dep n f0 s d) (hp : p < n) (hq : q < n) (hor : p = q ∨ fl f0 (nI p) 16 (f0 q) = true) : zv_M l yX2_lead wsX2_lead rmX2_lead D vwCl (tyL cI cZ) [.ref (h 0), .int (nI p), .int (nI q)] (cM cI cZ h t (nI n) r y (nI b) f0 f1 f2 f3 f4 f5 f6 f7 f8 f9 f10 f11 f12 f13) (fun v w => v = some (.int 0) ∧ w = (cM cI cZ h 2 (nI n) r y (nI b) f0 f1 f2 f3 f4 f5 f6 f7 f8 f9 f10 f11 f12 f13)) := by
  refine zv_M.of cX2_lead 4 (some .int) (by decide) rfl (Nat.le_of_ble_eq_true rfl) ?_
  intro pP eE sS mM aA bB mT cD A C hr hlk hnm Q hQ
  have inX2 : ∀ w ∈ u_ws RX2 TX2 19, w ∈ wsX2_lead := by decide +kernel
  have lk53 : Cond.fieldLink RX2 53 "RiverNamesModel" "thrown" "I" ∈ wsX2_lead := by decide +kernel
  refine zv_go (pc' := 0) rfl (lv' := [(0, .ref (h 0)), (1, .int (nI p)), (2, .int (nI q))]) rfl rfl rfl rfl ?_
  refine zv_aload_n C dX2_lead_0 1 rfl 0 rfl ?_
  refine zv_iconst (v := 0) C dX2_lead_1 2 rfl (by decide) ?_
  refine zv_put (ci := 2) C inX2 rfl tyX2_ok nmX2 dX2_lead_2 5 rfl 0 0 rfl (by decide) lk53 rfl rfl rfl (Nat.le_of_ble_eq_true rfl) (cM cI cZ h 0 (nI n) r y (nI b) f0 f1 f2 f3 f4 f5 f6 f7 f8 f9 f10 f11 f12 f13) rfl ?_
  refine zv_aload_n C dX2_lead_5 6 rfl 0 rfl ?_
  refine zv_iload_n C dX2_lead_6 7 rfl 1 rfl ?_
  refine zv_callVR (rest := []) C (k_X2_isPlace l D cI cZ h 0 n r y b f0 f1 f2 f3 f4 f5 f6 f7 f8 f9 f10 f11 f12 f13 (nI p) (by omega)) (cwV 1 C.1.2.2.2.2 gX2_lead_X2_isPlace rfl rfl rfl (by decide +kernel) ⟨Nat.le_of_ble_eq_true rfl, Nat.le_of_ble_eq_true rfl⟩) dX2_lead_7 10 rfl (ci := 2) 0 rfl rfl rfl rfl (Nat.le_of_ble_eq_true rfl) ⟨Nat.le_of_ble_eq_true rfl, Nat.le_of_ble_eq_true rfl⟩ [0, 1] rfl [0, 1, 2, 3, 4, 5, 6, 7, 8, 9, 10, 11, 12, 13, 14] rfl (by decide) (fun v hv => ?_)
  subst hv
  refine zv_go rfl rfl (st' := [.int (zb (isP n (nI p)))]) rfl (kc' := 0) rfl (ns' := 0) rfl ?_
  refine zv_if_eq C dX2_lead_10 13 21 rfl (by decide) (fun c1 => ?_) (fun c1 => ?_)
  · exact absurd (isP_nI (by omega) hp) (by rw [zb_eq0.mp c1]; decide)
  · refine zv_aload_n C dX2_lead_13 14 rfl 0 rfl ?_
    refine zv_iload_n C dX2_lead_14 15 rfl 2 rfl ?_
    refine zv_callVR (rest := []) C (k_X2_isPlace l D cI cZ h 0 n r y b f0 f1 f2 f3 f4 f5 f6 f7 f8 f9 f10 f11 f12 f13 (nI q) (by omega)) (cwV 1 C.1.2.2.2.2 gX2_lead_X2_isPlace rfl rfl rfl (by decide +kernel) ⟨Nat.le_of_ble_eq_true rfl, Nat.le_of_ble_eq_true rfl⟩) dX2_lead_15 18 rfl (ci := 2) 0 rfl rfl rfl rfl (Nat.le_of_ble_eq_true rfl) ⟨Nat.le_of_ble_eq_true rfl, Nat.le_of_ble_eq_true rfl⟩ [0, 1] rfl [0, 1, 2, 3, 4, 5, 6, 7, 8, 9, 10, 11, 12, 13, 14] rfl (by decide) (fun v hv => ?_)
    subst hv
    refine zv_go rfl rfl (st' := [.int (zb (isP n (nI q)))]) rfl (kc' := 0) rfl (ns' := 0) rfl ?_
    refine zv_if_ne C dX2_lead_18 21 27 rfl (by decide) (fun c2 => ?_) (fun c2 => ?_)
    · refine zv_iload_n C dX2_lead_27 28 rfl 1 rfl ?_
      refine zv_iload_n C dX2_lead_28 29 rfl 2 rfl ?_
      refine zv_icmp_eq C dX2_lead_29 32 41 rfl (by decide) (fun c3 => ?_) (fun c3 => ?_)
      · replace c3 := zn_eq (a := p) (b := q) (by omega) (by omega) c3
        refine zv_aload_n C dX2_lead_41 42 rfl 0 rfl ?_
        refine zv_iconst (v := 2) C dX2_lead_42 43 rfl (by decide) ?_
        refine zv_callV (rest := []) (wr := []) C (k_X2_no l D cI cZ h 0 n r y b f0 f1 f2 f3 f4 f5 f6 f7 f8 f9 f10 f11 f12 f13 2) (cwV 1 C.1.2.2.2.2 gX2_lead_X2_no rfl rfl rfl (by decide +kernel) ⟨Nat.le_of_ble_eq_true rfl, Nat.le_of_ble_eq_true rfl⟩) dX2_lead_43 46 rfl (ci := 2) 0 rfl rfl rfl rfl (Nat.le_of_ble_eq_true rfl) ⟨Nat.le_of_ble_eq_true rfl, Nat.le_of_ble_eq_true rfl⟩ [0, 1] rfl [0, 1, 2, 3, 4, 5, 6, 7, 8, 9, 10, 11, 12, 13, 14] rfl (by decide) [] rfl (by decide) (by decide +kernel) (fun v w hv => ?_)
        obtain ⟨rfl, rfl⟩ := hv
        refine zv_go rfl rfl (st' := [.int 0]) rfl (kc' := 0) rfl (ns' := 0) rfl ?_
        refine zv_wd (ws' := (cM cI cZ h 2 (nI n) r y (nI b) f0 f1 f2 f3 f4 f5 f6 f7 f8 f9 f10 f11 f12 f13)) rfl ?_
        exact zv_iret C hr hlk hQ dX2_lead_46 ⟨rfl, rfl⟩
      · replace c3 := zn_eq' (a := p) (b := q) (by omega) (by omega) c3
        refine zv_aload_n C dX2_lead_32 33 rfl 0 rfl ?_
        refine zv_iload_n C dX2_lead_33 34 rfl 2 rfl ?_
        refine zv_iload_n C dX2_lead_34 35 rfl 1 rfl ?_
        refine zv_callVR (rest := []) C (k_X2_above l D cI cZ h 0 n r y b f0 f1 f2 f3 f4 f5 f6 f7 f8 f9 f10 f11 f12 f13 q p s d (by omega) (by assumption) (by omega) (by omega)) (cwV 2 C.1.2.2.2.2 gX2_lead_X2_above rfl rfl rfl (by decide +kernel) ⟨Nat.le_of_ble_eq_true rfl, Nat.le_of_ble_eq_true rfl⟩) dX2_lead_35 38 rfl (ci := 2) 0 rfl rfl rfl rfl (Nat.le_of_ble_eq_true rfl) ⟨Nat.le_of_ble_eq_true rfl, Nat.le_of_ble_eq_true rfl⟩ [0, 1] rfl [0, 1, 2, 3, 4, 5, 6, 7, 8, 9, 10, 11, 12, 13, 14] rfl (by decide) (fun v hv => ?_)
        subst hv
        refine zv_go rfl rfl (st' := [.int (zb (fl f0 (nI p) 16 (f0 q)))]) rfl (kc' := 0) rfl (ns' := 0) rfl ?_
        refine zv_if_eq C dX2_lead_38 41 47 rfl (by decide) (fun c4 => ?_) (fun c4 => ?_)
        · exact absurd hor (by rw [zb_eq0.mp c4]; exact fun z => z.elim c3 (by decide))
        · refine zv_aload_n C dX2_lead_41 42 rfl 0 rfl ?_
          refine zv_iconst (v := 2) C dX2_lead_42 43 rfl (by decide) ?_
          refine zv_callV (rest := []) (wr := []) C (k_X2_no l D cI cZ h 0 n r y b f0 f1 f2 f3 f4 f5 f6 f7 f8 f9 f10 f11 f12 f13 2) (cwV 1 C.1.2.2.2.2 gX2_lead_X2_no rfl rfl rfl (by decide +kernel) ⟨Nat.le_of_ble_eq_true rfl, Nat.le_of_ble_eq_true rfl⟩) dX2_lead_43 46 rfl (ci := 2) 0 rfl rfl rfl rfl (Nat.le_of_ble_eq_true rfl) ⟨Nat.le_of_ble_eq_true rfl, Nat.le_of_ble_eq_true rfl⟩ [0, 1] rfl [0, 1, 2, 3, 4, 5, 6, 7, 8, 9, 10, 11, 12, 13, 14] rfl (by decide) [] rfl (by decide) (by decide +kernel) (fun v w hv => ?_)
          obtain ⟨rfl, rfl⟩ := hv
          refine zv_go rfl rfl (st' := [.int 0]) rfl (kc' := 0) rfl (ns' := 0) rfl ?_
          refine zv_wd (ws' := (cM cI cZ h 2 (nI n) r y (nI b) f0 f1 f2 f3 f4 f5 f6 f7 f8 f9 f10 f11 f12 f13)) rfl ?_
          exact zv_iret C hr hlk hQ dX2_lead_46 ⟨rfl, rfl⟩
    · exact absurd (isP_nI (by omega) hq) (by rw [zb_eq0.mp c2]; decide)
abbrev rmX2_turnDelta : Room := { frames := 2, cells := 0, slots := 0, locals := 43 }
set_option maxHeartbeats 4000000 in
set_option maxRecDepth 100000 in
theorem k_X2_turnDelta_ok (l : Launch) (D : va_G) (cI cZ : ClassId) (h : Nat → Nat) (t : Int32) (n : Nat) (r y : Int32) (b : Nat) (f0 f1 f2 f3 f4 f5 f6 f7 f8 f9 f10 f11 f12 f13 : Nat → Int32) (p : Nat) (hn : n ≤ 16) (hp : p < n) : zv_M l yX2_turnDelta wsX2_turnDelta rmX2_turnDelta D vwCl (tyL cI cZ) [.ref (h 0), .int (nI p)] (cM cI cZ h t (nI n) r y (nI b) f0 f1 f2 f3 f4 f5 f6 f7 f8 f9 f10 f11 f12 f13) (fun v w => v = some (.int (tg (f5 p))) ∧ w = (cM cI cZ h 0 (nI n) r y (nI b) f0 f1 f2 f3 f4 (upd f5 p (tg (f5 p))) f6 f7 f8 f9 f10 f11 f12 f13)) := by
  refine zv_M.of cX2_turnDelta 2 (some .boolean) (by decide) rfl (Nat.le_of_ble_eq_true rfl) ?_
  intro pP eE sS mM aA bB mT cD A C hr hlk hnm Q hQ
  have inX2 : ∀ w ∈ u_ws RX2 TX2 19, w ∈ wsX2_turnDelta := by decide +kernel
  have lk53 : Cond.fieldLink RX2 53 "RiverNamesModel" "thrown" "I" ∈ wsX2_turnDelta := by decide +kernel
  have lk26 : Cond.fieldLink RX2 26 "RiverNamesModel" "delta" "[Z" ∈ wsX2_turnDelta := by decide +kernel
  refine zv_go (pc' := 0) rfl (lv' := [(0, .ref (h 0)), (1, .int (nI p))]) rfl rfl rfl rfl ?_
  refine zv_aload_n C dX2_turnDelta_0 1 rfl 0 rfl ?_
  refine zv_iconst (v := 0) C dX2_turnDelta_1 2 rfl (by decide) ?_
  refine zv_put (ci := 2) C inX2 rfl tyX2_ok nmX2 dX2_turnDelta_2 5 rfl 0 0 rfl (by decide) lk53 rfl rfl rfl (Nat.le_of_ble_eq_true rfl) (cM cI cZ h 0 (nI n) r y (nI b) f0 f1 f2 f3 f4 f5 f6 f7 f8 f9 f10 f11 f12 f13) rfl ?_
  refine zv_aload_n C dX2_turnDelta_5 6 rfl 0 rfl ?_
  refine zv_iload_n C dX2_turnDelta_6 7 rfl 1 rfl ?_
  refine zv_callVR (rest := []) C (k_X2_isPlace l D cI cZ h 0 n r y b f0 f1 f2 f3 f4 f5 f6 f7 f8 f9 f10 f11 f12 f13 (nI p) (by omega)) (cwV 1 C.1.2.2.2.2 gX2_turnDelta_X2_isPlace rfl rfl rfl (by decide +kernel) ⟨Nat.le_of_ble_eq_true rfl, Nat.le_of_ble_eq_true rfl⟩) dX2_turnDelta_7 10 rfl (ci := 2) 0 rfl rfl rfl rfl (Nat.le_of_ble_eq_true rfl) ⟨Nat.le_of_ble_eq_true rfl, Nat.le_of_ble_eq_true rfl⟩ [0, 1] rfl [0, 1, 2, 3, 4, 5, 6, 7, 8, 9, 10, 11, 12, 13, 14] rfl (by decide) (fun v hv => ?_)
  subst hv
  refine zv_go rfl rfl (st' := [.int (zb (isP n (nI p)))]) rfl (kc' := 0) rfl (ns' := 0) rfl ?_
  refine zv_if_ne C dX2_turnDelta_10 13 19 rfl (by decide) (fun c1 => ?_) (fun c1 => ?_)
  · refine zv_aload_n C dX2_turnDelta_19 20 rfl 0 rfl ?_
    refine zv_get (ci := 2) C inX2 rfl dX2_turnDelta_20 23 rfl 0 9 rfl (by decide) lk26 rfl ?_
    refine zv_iload_n C dX2_turnDelta_23 24 rfl 1 rfl ?_
    refine zv_aload_n C dX2_turnDelta_24 25 rfl 0 rfl ?_
    refine zv_get (ci := 2) C inX2 rfl dX2_turnDelta_25 28 rfl 0 9 rfl (by decide) lk26 rfl ?_
    refine zv_iload_n C dX2_turnDelta_28 29 rfl 1 rfl ?_
    refine zv_zald (v := (f5 p)) C dX2_turnDelta_29 30 rfl 6 1 p rfl rfl rfl (by omega) (by decide) rfl ?_
    refine zv_if_ne C dX2_turnDelta_30 33 37 rfl (by decide) (fun c2 => ?_) (fun c2 => ?_)
    · refine zv_iconst (v := 0) C dX2_turnDelta_37 38 rfl (by decide) ?_
      refine zv_zast (x' := (tg (f5 p))) C dX2_turnDelta_38 39 rfl 6 1 p rfl rfl rfl (by omega) (by decide) (by rw [tg_1 c2]; decide) (cM cI cZ h 0 (nI n) r y (nI b) f0 f1 f2 f3 f4 (upd f5 p (tg (f5 p))) f6 f7 f8 f9 f10 f11 f12 f13) rfl ?_
      refine zv_aload_n C dX2_turnDelta_39 40 rfl 0 rfl ?_
      refine zv_get (ci := 2) C inX2 rfl dX2_turnDelta_40 43 rfl 0 9 rfl (by decide) lk26 rfl ?_
      refine zv_iload_n C dX2_turnDelta_43 44 rfl 1 rfl ?_
      refine zv_zald (v := (tg (f5 p))) C dX2_turnDelta_44 45 rfl 6 1 p rfl rfl rfl (by omega) (by decide) (upd_at _ _ _) ?_
      have hz := zo_tg (f5 p)
      exact zv_zret C (zo_narrow (by assumption)) hr hlk hQ dX2_turnDelta_45 ⟨rfl, rfl⟩
    · refine zv_iconst (v := 1) C dX2_turnDelta_33 34 rfl (by decide) ?_
      refine zv_goto C dX2_turnDelta_34 38 (by decide) ?_
      refine zv_zast (x' := (tg (f5 p))) C dX2_turnDelta_38 39 rfl 6 1 p rfl rfl rfl (by omega) (by decide) (by rw [tg_0 c2]; decide) (cM cI cZ h 0 (nI n) r y (nI b) f0 f1 f2 f3 f4 (upd f5 p (tg (f5 p))) f6 f7 f8 f9 f10 f11 f12 f13) rfl ?_
      refine zv_aload_n C dX2_turnDelta_39 40 rfl 0 rfl ?_
      refine zv_get (ci := 2) C inX2 rfl dX2_turnDelta_40 43 rfl 0 9 rfl (by decide) lk26 rfl ?_
      refine zv_iload_n C dX2_turnDelta_43 44 rfl 1 rfl ?_
      refine zv_zald (v := (tg (f5 p))) C dX2_turnDelta_44 45 rfl 6 1 p rfl rfl rfl (by omega) (by decide) (upd_at _ _ _) ?_
      have hz := zo_tg (f5 p)
      exact zv_zret C (zo_narrow (by assumption)) hr hlk hQ dX2_turnDelta_45 ⟨rfl, rfl⟩
  · exact absurd (isP_nI (by omega) hp) (by rw [zb_eq0.mp c1]; decide)
set_option maxHeartbeats 4000000 in
set_option maxRecDepth 100000 in
theorem k_X2_turnDelta_no (l : Launch) (D : va_G) (cI cZ : ClassId) (h : Nat → Nat) (t : Int32) (n : Nat) (r y : Int32) (b : Nat) (f0 f1 f2 f3 f4 f5 f6 f7 f8 f9 f10 f11 f12 f13 : Nat → Int32) (i : Int32) (hn : n ≤ 16) (hf : isP n i = false) : zv_M l yX2_turnDelta wsX2_turnDelta rmX2_turnDelta D vwCl (tyL cI cZ) [.ref (h 0), .int i] (cM cI cZ h t (nI n) r y (nI b) f0 f1 f2 f3 f4 f5 f6 f7 f8 f9 f10 f11 f12 f13) (fun v w => v = some (.int 0) ∧ w = (cM cI cZ h 1 (nI n) r y (nI b) f0 f1 f2 f3 f4 f5 f6 f7 f8 f9 f10 f11 f12 f13)) := by
  refine zv_M.of cX2_turnDelta 2 (some .boolean) (by decide) rfl (Nat.le_of_ble_eq_true rfl) ?_
  intro pP eE sS mM aA bB mT cD A C hr hlk hnm Q hQ
  have inX2 : ∀ w ∈ u_ws RX2 TX2 19, w ∈ wsX2_turnDelta := by decide +kernel
  have lk53 : Cond.fieldLink RX2 53 "RiverNamesModel" "thrown" "I" ∈ wsX2_turnDelta := by decide +kernel
  refine zv_go (pc' := 0) rfl (lv' := [(0, .ref (h 0)), (1, .int i)]) rfl rfl rfl rfl ?_
  refine zv_aload_n C dX2_turnDelta_0 1 rfl 0 rfl ?_
  refine zv_iconst (v := 0) C dX2_turnDelta_1 2 rfl (by decide) ?_
  refine zv_put (ci := 2) C inX2 rfl tyX2_ok nmX2 dX2_turnDelta_2 5 rfl 0 0 rfl (by decide) lk53 rfl rfl rfl (Nat.le_of_ble_eq_true rfl) (cM cI cZ h 0 (nI n) r y (nI b) f0 f1 f2 f3 f4 f5 f6 f7 f8 f9 f10 f11 f12 f13) rfl ?_
  refine zv_aload_n C dX2_turnDelta_5 6 rfl 0 rfl ?_
  refine zv_iload_n C dX2_turnDelta_6 7 rfl 1 rfl ?_
  refine zv_callVR (rest := []) C (k_X2_isPlace l D cI cZ h 0 n r y b f0 f1 f2 f3 f4 f5 f6 f7 f8 f9 f10 f11 f12 f13 i (by omega)) (cwV 1 C.1.2.2.2.2 gX2_turnDelta_X2_isPlace rfl rfl rfl (by decide +kernel) ⟨Nat.le_of_ble_eq_true rfl, Nat.le_of_ble_eq_true rfl⟩) dX2_turnDelta_7 10 rfl (ci := 2) 0 rfl rfl rfl rfl (Nat.le_of_ble_eq_true rfl) ⟨Nat.le_of_ble_eq_true rfl, Nat.le_of_ble_eq_true rfl⟩ [0, 1] rfl [0, 1, 2, 3, 4, 5, 6, 7, 8, 9, 10, 11, 12, 13, 14] rfl (by decide) (fun v hv => ?_)
  subst hv
  refine zv_go rfl rfl (st' := [.int (zb (isP n i))]) rfl (kc' := 0) rfl (ns' := 0) rfl ?_
  refine zv_if_ne C dX2_turnDelta_10 13 19 rfl (by decide) (fun c1 => ?_) (fun c1 => ?_)
  · exact absurd hf (by rw [zb_ne0.mp c1]; decide)
  · refine zv_aload_n C dX2_turnDelta_13 14 rfl 0 rfl ?_
    refine zv_iconst (v := 1) C dX2_turnDelta_14 15 rfl (by decide) ?_
    refine zv_callV (rest := []) (wr := []) C (k_X2_isNot l D cI cZ h 0 n r y b f0 f1 f2 f3 f4 f5 f6 f7 f8 f9 f10 f11 f12 f13 1) (cwV 1 C.1.2.2.2.2 gX2_turnDelta_X2_isNot rfl rfl rfl (by decide +kernel) ⟨Nat.le_of_ble_eq_true rfl, Nat.le_of_ble_eq_true rfl⟩) dX2_turnDelta_15 18 rfl (ci := 2) 0 rfl rfl rfl rfl (Nat.le_of_ble_eq_true rfl) ⟨Nat.le_of_ble_eq_true rfl, Nat.le_of_ble_eq_true rfl⟩ [0, 1] rfl [0, 1, 2, 3, 4, 5, 6, 7, 8, 9, 10, 11, 12, 13, 14] rfl (by decide) [] rfl (by decide) (by decide +kernel) (fun v w hv => ?_)
    obtain ⟨rfl, rfl⟩ := hv
    refine zv_go rfl rfl (st' := [.int 0]) rfl (kc' := 0) rfl (ns' := 0) rfl ?_
    refine zv_wd (ws' := (cM cI cZ h 1 (nI n) r y (nI b) f0 f1 f2 f3 f4 f5 f6 f7 f8 f9 f10 f11 f12 f13)) rfl ?_
    exact zv_zret C (by decide) hr hlk hQ dX2_turnDelta_18 ⟨rfl, rfl⟩
abbrev rmX2_setRule : Room := { frames := 1, cells := 0, slots := 0, locals := 22 }
set_option maxHeartbeats 4000000 in
set_option maxRecDepth 100000 in
theorem k_X2_setRule_ok (l : Launch) (D : va_G) (cI cZ : ClassId) (h : Nat → Nat) (t : Int32) (n : Nat) (r y : Int32) (b : Nat) (f0 f1 f2 f3 f4 f5 f6 f7 f8 f9 f10 f11 f12 f13 : Nat → Int32) (i : Int32) (h1 : isI i 0 1 = true) : zv_M l yX2_setRule wsX2_setRule rmX2_setRule D vwCl (tyL cI cZ) [.ref (h 0), .int i] (cM cI cZ h t (nI n) r y (nI b) f0 f1 f2 f3 f4 f5 f6 f7 f8 f9 f10 f11 f12 f13) (fun v w => v = some (.int r) ∧ w = (cM cI cZ h 0 (nI n) i y (nI b) f0 f1 f2 f3 f4 f5 f6 f7 f8 f9 f10 f11 f12 f13)) := by
  refine zv_M.of cX2_setRule 3 (some .int) (by decide) rfl (Nat.le_of_ble_eq_true rfl) ?_
  intro pP eE sS mM aA bB mT cD A C hr hlk hnm Q hQ
  have inX2 : ∀ w ∈ u_ws RX2 TX2 19, w ∈ wsX2_setRule := by decide +kernel
  have lk53 : Cond.fieldLink RX2 53 "RiverNamesModel" "thrown" "I" ∈ wsX2_setRule := by decide +kernel
  have lk75 : Cond.fieldLink RX2 75 "RiverNamesModel" "rule" "I" ∈ wsX2_setRule := by decide +kernel
  refine zv_go (pc' := 0) rfl (lv' := [(0, .ref (h 0)), (1, .int i)]) rfl rfl rfl rfl ?_
  refine zv_aload_n C dX2_setRule_0 1 rfl 0 rfl ?_
  refine zv_iconst (v := 0) C dX2_setRule_1 2 rfl (by decide) ?_
  refine zv_put (ci := 2) C inX2 rfl tyX2_ok nmX2 dX2_setRule_2 5 rfl 0 0 rfl (by decide) lk53 rfl rfl rfl (Nat.le_of_ble_eq_true rfl) (cM cI cZ h 0 (nI n) r y (nI b) f0 f1 f2 f3 f4 f5 f6 f7 f8 f9 f10 f11 f12 f13) rfl ?_
  refine zv_iload_n C dX2_setRule_5 6 rfl 1 rfl ?_
  refine zv_iconst (v := 0) C dX2_setRule_6 7 rfl (by decide) ?_
  refine zv_iconst (v := 1) C dX2_setRule_7 8 rfl (by decide) ?_
  refine zv_callSR (rest := []) C (k_X2_isIn l D cI cZ i 0 1) (cwS 3 C.1.2.2.2.2 gX2_setRule_X2_isIn rfl rfl rfl (by decide +kernel) ⟨Nat.le_of_ble_eq_true rfl, Nat.le_of_ble_eq_true rfl⟩) dX2_setRule_8 11 rfl rfl rfl (Nat.le_of_ble_eq_true rfl) ⟨Nat.le_of_ble_eq_true rfl, Nat.le_of_ble_eq_true rfl⟩ [0, 1] rfl [] rfl (by decide) (fun v hv => ?_)
  subst hv
  refine zv_go rfl rfl (st' := [.int (zb (isI i 0 1))]) rfl (kc' := 0) rfl (ns' := 0) rfl ?_
  refine zv_if_ne C dX2_setRule_11 14 20 rfl (by decide) (fun c1 => ?_) (fun c1 => ?_)
  · refine zv_aload_n C dX2_setRule_20 21 rfl 0 rfl ?_
    refine zv_get (ci := 2) C inX2 rfl dX2_setRule_21 24 rfl 0 2 rfl (by decide) lk75 rfl ?_
    refine zv_istore_n C dX2_setRule_24 25 rfl [(2, .int r), (0, .ref (h 0)), (1, .int i)] (by decide) rfl ?_
    refine zv_aload_n C dX2_setRule_25 26 rfl 1 rfl ?_
    refine zv_iload_n C dX2_setRule_26 27 rfl 2 rfl ?_
    refine zv_put (ci := 2) C inX2 rfl tyX2_ok nmX2 dX2_setRule_27 30 rfl 0 2 rfl (by decide) lk75 rfl rfl rfl (Nat.le_of_ble_eq_true rfl) (cM cI cZ h 0 (nI n) i y (nI b) f0 f1 f2 f3 f4 f5 f6 f7 f8 f9 f10 f11 f12 f13) rfl ?_
    refine zv_iload_n C dX2_setRule_30 31 rfl 0 rfl ?_
    exact zv_iret C hr hlk hQ dX2_setRule_31 ⟨rfl, rfl⟩
  · exact absurd h1 (by rw [zb_eq0.mp c1]; decide)
set_option maxHeartbeats 4000000 in
set_option maxRecDepth 100000 in
theorem k_X2_setRule_no (l : Launch) (D : va_G) (cI cZ : ClassId) (h : Nat → Nat) (t : Int32) (n : Nat) (r y : Int32) (b : Nat) (f0 f1 f2 f3 f4 f5 f6 f7 f8 f9 f10 f11 f12 f13 : Nat → Int32) (i : Int32) (h1 : isI i 0 1 = false) : zv_M l yX2_setRule wsX2_setRule rmX2_setRule D vwCl (tyL cI cZ) [.ref (h 0), .int i] (cM cI cZ h t (nI n) r y (nI b) f0 f1 f2 f3 f4 f5 f6 f7 f8 f9 f10 f11 f12 f13) (fun v w => v = some (.int 0) ∧ w = (cM cI cZ h 1 (nI n) r y (nI b) f0 f1 f2 f3 f4 f5 f6 f7 f8 f9 f10 f11 f12 f13)) := by
  refine zv_M.of cX2_setRule 3 (some .int) (by decide) rfl (Nat.le_of_ble_eq_true rfl) ?_
  intro pP eE sS mM aA bB mT cD A C hr hlk hnm Q hQ
  have inX2 : ∀ w ∈ u_ws RX2 TX2 19, w ∈ wsX2_setRule := by decide +kernel
  have lk53 : Cond.fieldLink RX2 53 "RiverNamesModel" "thrown" "I" ∈ wsX2_setRule := by decide +kernel
  refine zv_go (pc' := 0) rfl (lv' := [(0, .ref (h 0)), (1, .int i)]) rfl rfl rfl rfl ?_
  refine zv_aload_n C dX2_setRule_0 1 rfl 0 rfl ?_
  refine zv_iconst (v := 0) C dX2_setRule_1 2 rfl (by decide) ?_
  refine zv_put (ci := 2) C inX2 rfl tyX2_ok nmX2 dX2_setRule_2 5 rfl 0 0 rfl (by decide) lk53 rfl rfl rfl (Nat.le_of_ble_eq_true rfl) (cM cI cZ h 0 (nI n) r y (nI b) f0 f1 f2 f3 f4 f5 f6 f7 f8 f9 f10 f11 f12 f13) rfl ?_
  refine zv_iload_n C dX2_setRule_5 6 rfl 1 rfl ?_
  refine zv_iconst (v := 0) C dX2_setRule_6 7 rfl (by decide) ?_
  refine zv_iconst (v := 1) C dX2_setRule_7 8 rfl (by decide) ?_
  refine zv_callSR (rest := []) C (k_X2_isIn l D cI cZ i 0 1) (cwS 3 C.1.2.2.2.2 gX2_setRule_X2_isIn rfl rfl rfl (by decide +kernel) ⟨Nat.le_of_ble_eq_true rfl, Nat.le_of_ble_eq_true rfl⟩) dX2_setRule_8 11 rfl rfl rfl (Nat.le_of_ble_eq_true rfl) ⟨Nat.le_of_ble_eq_true rfl, Nat.le_of_ble_eq_true rfl⟩ [0, 1] rfl [] rfl (by decide) (fun v hv => ?_)
  subst hv
  refine zv_go rfl rfl (st' := [.int (zb (isI i 0 1))]) rfl (kc' := 0) rfl (ns' := 0) rfl ?_
  refine zv_if_ne C dX2_setRule_11 14 20 rfl (by decide) (fun c1 => ?_) (fun c1 => ?_)
  · exact absurd h1 (by rw [zb_ne0.mp c1]; decide)
  · refine zv_aload_n C dX2_setRule_14 15 rfl 0 rfl ?_
    refine zv_iconst (v := 1) C dX2_setRule_15 16 rfl (by decide) ?_
    refine zv_callV (rest := []) (wr := []) C (k_X2_no l D cI cZ h 0 n r y b f0 f1 f2 f3 f4 f5 f6 f7 f8 f9 f10 f11 f12 f13 1) (cwV 1 C.1.2.2.2.2 gX2_setRule_X2_no rfl rfl rfl (by decide +kernel) ⟨Nat.le_of_ble_eq_true rfl, Nat.le_of_ble_eq_true rfl⟩) dX2_setRule_16 19 rfl (ci := 2) 0 rfl rfl rfl rfl (Nat.le_of_ble_eq_true rfl) ⟨Nat.le_of_ble_eq_true rfl, Nat.le_of_ble_eq_true rfl⟩ [0, 1] rfl [0, 1, 2, 3, 4, 5, 6, 7, 8, 9, 10, 11, 12, 13, 14] rfl (by decide) [] rfl (by decide) (by decide +kernel) (fun v w hv => ?_)
    obtain ⟨rfl, rfl⟩ := hv
    refine zv_go rfl rfl (st' := [.int 0]) rfl (kc' := 0) rfl (ns' := 0) rfl ?_
    refine zv_wd (ws' := (cM cI cZ h 1 (nI n) r y (nI b) f0 f1 f2 f3 f4 f5 f6 f7 f8 f9 f10 f11 f12 f13)) rfl ?_
    exact zv_iret C hr hlk hQ dX2_setRule_19 ⟨rfl, rfl⟩
abbrev rmX2_reckoned : Room := { frames := 4, cells := 0, slots := 0, locals := 90 }
set_option maxHeartbeats 4000000 in
set_option maxRecDepth 100000 in
theorem k_X2_reckoned_w (l : Launch) (D : va_G) (cI cZ : ClassId) (h : Nat → Nat) (t : Int32) (n : Nat) (r y : Int32) (b : Nat) (f0 f1 f2 f3 f4 f5 f6 f7 f8 f9 f10 f11 f12 f13 : Nat → Int32) (p : Nat) (s : Nat → Int32) (d : Nat → Nat) (hn : n ≤ 16) (hD : Dep n f0 s d) (hp : p < n) : zv_M l yX2_reckoned wsX2_reckoned rmX2_reckoned D vwCl (tyL cI cZ) [.ref (h 0), .int (nI p), .ref (h 10)] (cM cI cZ h t (nI n) r y (nI b) f0 f1 f2 f3 f4 f5 f6 f7 f8 f9 f10 f11 f12 f13) (fun v w => ∃ (g8 g9 g10 g11 : Nat → Int32), v = some (.int ((sol n f0 f1 f2 f3 f5 r).1 p)) ∧ w = (cM cI cZ h 0 (nI n) r y (nI b) f0 f1 f2 f3 f4 f5 f6 f7 g8 g9 g10 g11 f12 f13)) := by
  refine zv_M.of cX2_reckoned 3 (some .int) (by decide) rfl (Nat.le_of_ble_eq_true rfl) ?_
  intro pP eE sS mM aA bB mT cD A C hr hlk hnm Q hQ
  have inX2 : ∀ w ∈ u_ws RX2 TX2 19, w ∈ wsX2_reckoned := by decide +kernel
  have lk53 : Cond.fieldLink RX2 53 "RiverNamesModel" "thrown" "I" ∈ wsX2_reckoned := by decide +kernel
  refine zv_go (pc' := 0) rfl (lv' := [(0, .ref (h 0)), (1, .int (nI p)), (2, .ref (h 10))]) rfl rfl rfl rfl ?_
  refine zv_aload_n C dX2_reckoned_0 1 rfl 0 rfl ?_
  refine zv_iconst (v := 0) C dX2_reckoned_1 2 rfl (by decide) ?_
  refine zv_put (ci := 2) C inX2 rfl tyX2_ok nmX2 dX2_reckoned_2 5 rfl 0 0 rfl (by decide) lk53 rfl rfl rfl (Nat.le_of_ble_eq_true rfl) (cM cI cZ h 0 (nI n) r y (nI b) f0 f1 f2 f3 f4 f5 f6 f7 f8 f9 f10 f11 f12 f13) rfl ?_
  refine zv_aload_n C dX2_reckoned_5 6 rfl 0 rfl ?_
  refine zv_iload_n C dX2_reckoned_6 7 rfl 1 rfl ?_
  refine zv_callVR (rest := []) C (k_X2_isPlace l D cI cZ h 0 n r y b f0 f1 f2 f3 f4 f5 f6 f7 f8 f9 f10 f11 f12 f13 (nI p) (by omega)) (cwV 1 C.1.2.2.2.2 gX2_reckoned_X2_isPlace rfl rfl rfl (by decide +kernel) ⟨Nat.le_of_ble_eq_true rfl, Nat.le_of_ble_eq_true rfl⟩) dX2_reckoned_7 10 rfl (ci := 2) 0 rfl rfl rfl rfl (Nat.le_of_ble_eq_true rfl) ⟨Nat.le_of_ble_eq_true rfl, Nat.le_of_ble_eq_true rfl⟩ [0, 1] rfl [0, 1, 2, 3, 4, 5, 6, 7, 8, 9, 10, 11, 12, 13, 14] rfl (by decide) (fun v hv => ?_)
  subst hv
  refine zv_go rfl rfl (st' := [.int (zb (isP n (nI p)))]) rfl (kc' := 0) rfl (ns' := 0) rfl ?_
  refine zv_if_ne C dX2_reckoned_10 13 19 rfl (by decide) (fun c1 => ?_) (fun c1 => ?_)
  · refine zv_aload_n C dX2_reckoned_19 20 rfl 0 rfl ?_
    refine zv_callV (rest := []) (wr := []) C (k_X2_reckon l D cI cZ h 0 n r y b f0 f1 f2 f3 f4 f5 f6 f7 f8 f9 f10 f11 f12 f13 s d (by omega) (by assumption)) (cwV 0 C.1.2.2.2.2 gX2_reckoned_X2_reckon rfl rfl rfl (by decide +kernel) ⟨Nat.le_of_ble_eq_true rfl, Nat.le_of_ble_eq_true rfl⟩) dX2_reckoned_20 23 rfl (ci := 2) 0 rfl rfl rfl rfl (Nat.le_of_ble_eq_true rfl) ⟨Nat.le_of_ble_eq_true rfl, Nat.le_of_ble_eq_true rfl⟩ [0, 1] rfl [0, 1, 2, 3, 4, 5, 6, 7, 8, 9, 10, 11, 12, 13, 14] rfl (by decide) [] rfl (by decide) (by decide +kernel) (fun v w hv => ?_)
    obtain ⟨u8_42, u9_42, u10_42, u11_42, rfl, rfl, huM42⟩ := hv
    refine zv_go rfl rfl (st' := []) rfl (kc' := 0) rfl (ns' := 0) rfl ?_
    refine zv_wd (ws' := (cM cI cZ h 0 (nI n) r y (nI b) f0 f1 f2 f3 f4 f5 f6 f7 u8_42 u9_42 u10_42 u11_42 f12 f13)) rfl ?_
    refine zv_aload_n C dX2_reckoned_23 24 rfl 2 rfl ?_
    refine zv_iload_n C dX2_reckoned_24 25 rfl 1 rfl ?_
    refine zv_iald (v := (u9_42 p)) C dX2_reckoned_25 26 rfl 10 0 p rfl rfl rfl (by omega) (by decide) rfl ?_
    exact zv_iret C hr hlk hQ dX2_reckoned_26 ⟨u8_42, u9_42, u10_42, u11_42, (by rw [(MA.sol hD hn huM42 p hp).1]), rfl⟩
  · exact absurd (isP_nI (by omega) hp) (by rw [zb_eq0.mp c1]; decide)
set_option maxHeartbeats 4000000 in
set_option maxRecDepth 100000 in
theorem k_X2_reckoned_l (l : Launch) (D : va_G) (cI cZ : ClassId) (h : Nat → Nat) (t : Int32) (n : Nat) (r y : Int32) (b : Nat) (f0 f1 f2 f3 f4 f5 f6 f7 f8 f9 f10 f11 f12 f13 : Nat → Int32) (p : Nat) (s : Nat → Int32) (d : Nat → Nat) (hn : n ≤ 16) (hD : Dep n f0 s d) (hp : p < n) : zv_M l yX2_reckoned wsX2_reckoned rmX2_reckoned D vwCl (tyL cI cZ) [.ref (h 0), .int (nI p), .ref (h 11)] (cM cI cZ h t (nI n) r y (nI b) f0 f1 f2 f3 f4 f5 f6 f7 f8 f9 f10 f11 f12 f13) (fun v w => ∃ (g8 g9 g10 g11 : Nat → Int32), v = some (.int ((sol n f0 f1 f2 f3 f5 r).2.1 p)) ∧ w = (cM cI cZ h 0 (nI n) r y (nI b) f0 f1 f2 f3 f4 f5 f6 f7 g8 g9 g10 g11 f12 f13)) := by
  refine zv_M.of cX2_reckoned 3 (some .int) (by decide) rfl (Nat.le_of_ble_eq_true rfl) ?_
  intro pP eE sS mM aA bB mT cD A C hr hlk hnm Q hQ
  have inX2 : ∀ w ∈ u_ws RX2 TX2 19, w ∈ wsX2_reckoned := by decide +kernel
  have lk53 : Cond.fieldLink RX2 53 "RiverNamesModel" "thrown" "I" ∈ wsX2_reckoned := by decide +kernel
  refine zv_go (pc' := 0) rfl (lv' := [(0, .ref (h 0)), (1, .int (nI p)), (2, .ref (h 11))]) rfl rfl rfl rfl ?_
  refine zv_aload_n C dX2_reckoned_0 1 rfl 0 rfl ?_
  refine zv_iconst (v := 0) C dX2_reckoned_1 2 rfl (by decide) ?_
  refine zv_put (ci := 2) C inX2 rfl tyX2_ok nmX2 dX2_reckoned_2 5 rfl 0 0 rfl (by decide) lk53 rfl rfl rfl (Nat.le_of_ble_eq_true rfl) (cM cI cZ h 0 (nI n) r y (nI b) f0 f1 f2 f3 f4 f5 f6 f7 f8 f9 f10 f11 f12 f13) rfl ?_
  refine zv_aload_n C dX2_reckoned_5 6 rfl 0 rfl ?_
  refine zv_iload_n C dX2_reckoned_6 7 rfl 1 rfl ?_
  refine zv_callVR (rest := []) C (k_X2_isPlace l D cI cZ h 0 n r y b f0 f1 f2 f3 f4 f5 f6 f7 f8 f9 f10 f11 f12 f13 (nI p) (by omega)) (cwV 1 C.1.2.2.2.2 gX2_reckoned_X2_isPlace rfl rfl rfl (by decide +kernel) ⟨Nat.le_of_ble_eq_true rfl, Nat.le_of_ble_eq_true rfl⟩) dX2_reckoned_7 10 rfl (ci := 2) 0 rfl rfl rfl rfl (Nat.le_of_ble_eq_true rfl) ⟨Nat.le_of_ble_eq_true rfl, Nat.le_of_ble_eq_true rfl⟩ [0, 1] rfl [0, 1, 2, 3, 4, 5, 6, 7, 8, 9, 10, 11, 12, 13, 14] rfl (by decide) (fun v hv => ?_)
  subst hv
  refine zv_go rfl rfl (st' := [.int (zb (isP n (nI p)))]) rfl (kc' := 0) rfl (ns' := 0) rfl ?_
  refine zv_if_ne C dX2_reckoned_10 13 19 rfl (by decide) (fun c1 => ?_) (fun c1 => ?_)
  · refine zv_aload_n C dX2_reckoned_19 20 rfl 0 rfl ?_
    refine zv_callV (rest := []) (wr := []) C (k_X2_reckon l D cI cZ h 0 n r y b f0 f1 f2 f3 f4 f5 f6 f7 f8 f9 f10 f11 f12 f13 s d (by omega) (by assumption)) (cwV 0 C.1.2.2.2.2 gX2_reckoned_X2_reckon rfl rfl rfl (by decide +kernel) ⟨Nat.le_of_ble_eq_true rfl, Nat.le_of_ble_eq_true rfl⟩) dX2_reckoned_20 23 rfl (ci := 2) 0 rfl rfl rfl rfl (Nat.le_of_ble_eq_true rfl) ⟨Nat.le_of_ble_eq_true rfl, Nat.le_of_ble_eq_true rfl⟩ [0, 1] rfl [0, 1, 2, 3, 4, 5, 6, 7, 8, 9, 10, 11, 12, 13, 14] rfl (by decide) [] rfl (by decide) (by decide +kernel) (fun v w hv => ?_)
    obtain ⟨u8_43, u9_43, u10_43, u11_43, rfl, rfl, huM43⟩ := hv
    refine zv_go rfl rfl (st' := []) rfl (kc' := 0) rfl (ns' := 0) rfl ?_
    refine zv_wd (ws' := (cM cI cZ h 0 (nI n) r y (nI b) f0 f1 f2 f3 f4 f5 f6 f7 u8_43 u9_43 u10_43 u11_43 f12 f13)) rfl ?_
    refine zv_aload_n C dX2_reckoned_23 24 rfl 2 rfl ?_
    refine zv_iload_n C dX2_reckoned_24 25 rfl 1 rfl ?_
    refine zv_iald (v := (u10_43 p)) C dX2_reckoned_25 26 rfl 11 0 p rfl rfl rfl (by omega) (by decide) rfl ?_
    exact zv_iret C hr hlk hQ dX2_reckoned_26 ⟨u8_43, u9_43, u10_43, u11_43, (by rw [(MA.sol hD hn huM43 p hp).2.1]), rfl⟩
  · exact absurd (isP_nI (by omega) hp) (by rw [zb_eq0.mp c1]; decide)
set_option maxHeartbeats 4000000 in
set_option maxRecDepth 100000 in
theorem k_X2_reckoned_n (l : Launch) (D : va_G) (cI cZ : ClassId) (h : Nat → Nat) (t : Int32) (n : Nat) (r y : Int32) (b : Nat) (f0 f1 f2 f3 f4 f5 f6 f7 f8 f9 f10 f11 f12 f13 : Nat → Int32) (p : Nat) (s : Nat → Int32) (d : Nat → Nat) (hn : n ≤ 16) (hD : Dep n f0 s d) (hp : p < n) : zv_M l yX2_reckoned wsX2_reckoned rmX2_reckoned D vwCl (tyL cI cZ) [.ref (h 0), .int (nI p), .ref (h 12)] (cM cI cZ h t (nI n) r y (nI b) f0 f1 f2 f3 f4 f5 f6 f7 f8 f9 f10 f11 f12 f13) (fun v w => ∃ (g8 g9 g10 g11 : Nat → Int32), v = some (.int ((sol n f0 f1 f2 f3 f5 r).2.2 p)) ∧ w = (cM cI cZ h 0 (nI n) r y (nI b) f0 f1 f2 f3 f4 f5 f6 f7 g8 g9 g10 g11 f12 f13)) := by
  refine zv_M.of cX2_reckoned 3 (some .int) (by decide) rfl (Nat.le_of_ble_eq_true rfl) ?_
  intro pP eE sS mM aA bB mT cD A C hr hlk hnm Q hQ
  have inX2 : ∀ w ∈ u_ws RX2 TX2 19, w ∈ wsX2_reckoned := by decide +kernel
  have lk53 : Cond.fieldLink RX2 53 "RiverNamesModel" "thrown" "I" ∈ wsX2_reckoned := by decide +kernel
  refine zv_go (pc' := 0) rfl (lv' := [(0, .ref (h 0)), (1, .int (nI p)), (2, .ref (h 12))]) rfl rfl rfl rfl ?_
  refine zv_aload_n C dX2_reckoned_0 1 rfl 0 rfl ?_
  refine zv_iconst (v := 0) C dX2_reckoned_1 2 rfl (by decide) ?_
  refine zv_put (ci := 2) C inX2 rfl tyX2_ok nmX2 dX2_reckoned_2 5 rfl 0 0 rfl (by decide) lk53 rfl rfl rfl (Nat.le_of_ble_eq_true rfl) (cM cI cZ h 0 (nI n) r y (nI b) f0 f1 f2 f3 f4 f5 f6 f7 f8 f9 f10 f11 f12 f13) rfl ?_
  refine zv_aload_n C dX2_reckoned_5 6 rfl 0 rfl ?_
  refine zv_iload_n C dX2_reckoned_6 7 rfl 1 rfl ?_
  refine zv_callVR (rest := []) C (k_X2_isPlace l D cI cZ h 0 n r y b f0 f1 f2 f3 f4 f5 f6 f7 f8 f9 f10 f11 f12 f13 (nI p) (by omega)) (cwV 1 C.1.2.2.2.2 gX2_reckoned_X2_isPlace rfl rfl rfl (by decide +kernel) ⟨Nat.le_of_ble_eq_true rfl, Nat.le_of_ble_eq_true rfl⟩) dX2_reckoned_7 10 rfl (ci := 2) 0 rfl rfl rfl rfl (Nat.le_of_ble_eq_true rfl) ⟨Nat.le_of_ble_eq_true rfl, Nat.le_of_ble_eq_true rfl⟩ [0, 1] rfl [0, 1, 2, 3, 4, 5, 6, 7, 8, 9, 10, 11, 12, 13, 14] rfl (by decide) (fun v hv => ?_)
  subst hv
  refine zv_go rfl rfl (st' := [.int (zb (isP n (nI p)))]) rfl (kc' := 0) rfl (ns' := 0) rfl ?_
  refine zv_if_ne C dX2_reckoned_10 13 19 rfl (by decide) (fun c1 => ?_) (fun c1 => ?_)
  · refine zv_aload_n C dX2_reckoned_19 20 rfl 0 rfl ?_
    refine zv_callV (rest := []) (wr := []) C (k_X2_reckon l D cI cZ h 0 n r y b f0 f1 f2 f3 f4 f5 f6 f7 f8 f9 f10 f11 f12 f13 s d (by omega) (by assumption)) (cwV 0 C.1.2.2.2.2 gX2_reckoned_X2_reckon rfl rfl rfl (by decide +kernel) ⟨Nat.le_of_ble_eq_true rfl, Nat.le_of_ble_eq_true rfl⟩) dX2_reckoned_20 23 rfl (ci := 2) 0 rfl rfl rfl rfl (Nat.le_of_ble_eq_true rfl) ⟨Nat.le_of_ble_eq_true rfl, Nat.le_of_ble_eq_true rfl⟩ [0, 1] rfl [0, 1, 2, 3, 4, 5, 6, 7, 8, 9, 10, 11, 12, 13, 14] rfl (by decide) [] rfl (by decide) (by decide +kernel) (fun v w hv => ?_)
    obtain ⟨u8_44, u9_44, u10_44, u11_44, rfl, rfl, huM44⟩ := hv
    refine zv_go rfl rfl (st' := []) rfl (kc' := 0) rfl (ns' := 0) rfl ?_
    refine zv_wd (ws' := (cM cI cZ h 0 (nI n) r y (nI b) f0 f1 f2 f3 f4 f5 f6 f7 u8_44 u9_44 u10_44 u11_44 f12 f13)) rfl ?_
    refine zv_aload_n C dX2_reckoned_23 24 rfl 2 rfl ?_
    refine zv_iload_n C dX2_reckoned_24 25 rfl 1 rfl ?_
    refine zv_iald (v := (u11_44 p)) C dX2_reckoned_25 26 rfl 12 0 p rfl rfl rfl (by omega) (by decide) rfl ?_
    exact zv_iret C hr hlk hQ dX2_reckoned_26 ⟨u8_44, u9_44, u10_44, u11_44, (by rw [(MA.sol hD hn huM44 p hp).2.2]), rfl⟩
  · exact absurd (isP_nI (by omega) hp) (by rw [zb_eq0.mp c1]; decide)
set_option maxHeartbeats 4000000 in
set_option maxRecDepth 100000 in
theorem k_X2_reckoned_no (l : Launch) (D : va_G) (cI cZ : ClassId) (h : Nat → Nat) (t : Int32) (n : Nat) (r y : Int32) (b : Nat) (f0 f1 f2 f3 f4 f5 f6 f7 f8 f9 f10 f11 f12 f13 : Nat → Int32) (i : Int32) (rw : Nat) (hn : n ≤ 16) (hf : isP n i = false) : zv_M l yX2_reckoned wsX2_reckoned rmX2_reckoned D vwCl (tyL cI cZ) [.ref (h 0), .int i, .ref rw] (cM cI cZ h t (nI n) r y (nI b) f0 f1 f2 f3 f4 f5 f6 f7 f8 f9 f10 f11 f12 f13) (fun v w => v = some (.int 0) ∧ w = (cM cI cZ h 1 (nI n) r y (nI b) f0 f1 f2 f3 f4 f5 f6 f7 f8 f9 f10 f11 f12 f13)) := by
  refine zv_M.of cX2_reckoned 3 (some .int) (by decide) rfl (Nat.le_of_ble_eq_true rfl) ?_
  intro pP eE sS mM aA bB mT cD A C hr hlk hnm Q hQ
  have inX2 : ∀ w ∈ u_ws RX2 TX2 19, w ∈ wsX2_reckoned := by decide +kernel
  have lk53 : Cond.fieldLink RX2 53 "RiverNamesModel" "thrown" "I" ∈ wsX2_reckoned := by decide +kernel
  refine zv_go (pc' := 0) rfl (lv' := [(0, .ref (h 0)), (1, .int i), (2, .ref rw)]) rfl rfl rfl rfl ?_
  refine zv_aload_n C dX2_reckoned_0 1 rfl 0 rfl ?_
  refine zv_iconst (v := 0) C dX2_reckoned_1 2 rfl (by decide) ?_
  refine zv_put (ci := 2) C inX2 rfl tyX2_ok nmX2 dX2_reckoned_2 5 rfl 0 0 rfl (by decide) lk53 rfl rfl rfl (Nat.le_of_ble_eq_true rfl) (cM cI cZ h 0 (nI n) r y (nI b) f0 f1 f2 f3 f4 f5 f6 f7 f8 f9 f10 f11 f12 f13) rfl ?_
  refine zv_aload_n C dX2_reckoned_5 6 rfl 0 rfl ?_
  refine zv_iload_n C dX2_reckoned_6 7 rfl 1 rfl ?_
  refine zv_callVR (rest := []) C (k_X2_isPlace l D cI cZ h 0 n r y b f0 f1 f2 f3 f4 f5 f6 f7 f8 f9 f10 f11 f12 f13 i (by omega)) (cwV 1 C.1.2.2.2.2 gX2_reckoned_X2_isPlace rfl rfl rfl (by decide +kernel) ⟨Nat.le_of_ble_eq_true rfl, Nat.le_of_ble_eq_true rfl⟩) dX2_reckoned_7 10 rfl (ci := 2) 0 rfl rfl rfl rfl (Nat.le_of_ble_eq_true rfl) ⟨Nat.le_of_ble_eq_true rfl, Nat.le_of_ble_eq_true rfl⟩ [0, 1] rfl [0, 1, 2, 3, 4, 5, 6, 7, 8, 9, 10, 11, 12, 13, 14] rfl (by decide) (fun v hv => ?_)
  subst hv
  refine zv_go rfl rfl (st' := [.int (zb (isP n i))]) rfl (kc' := 0) rfl (ns' := 0) rfl ?_
  refine zv_if_ne C dX2_reckoned_10 13 19 rfl (by decide) (fun c1 => ?_) (fun c1 => ?_)
  · exact absurd hf (by rw [zb_ne0.mp c1]; decide)
  · refine zv_aload_n C dX2_reckoned_13 14 rfl 0 rfl ?_
    refine zv_iconst (v := 1) C dX2_reckoned_14 15 rfl (by decide) ?_
    refine zv_callV (rest := []) (wr := []) C (k_X2_no l D cI cZ h 0 n r y b f0 f1 f2 f3 f4 f5 f6 f7 f8 f9 f10 f11 f12 f13 1) (cwV 1 C.1.2.2.2.2 gX2_reckoned_X2_no rfl rfl rfl (by decide +kernel) ⟨Nat.le_of_ble_eq_true rfl, Nat.le_of_ble_eq_true rfl⟩) dX2_reckoned_15 18 rfl (ci := 2) 0 rfl rfl rfl rfl (Nat.le_of_ble_eq_true rfl) ⟨Nat.le_of_ble_eq_true rfl, Nat.le_of_ble_eq_true rfl⟩ [0, 1] rfl [0, 1, 2, 3, 4, 5, 6, 7, 8, 9, 10, 11, 12, 13, 14] rfl (by decide) [] rfl (by decide) (by decide +kernel) (fun v w hv => ?_)
    obtain ⟨rfl, rfl⟩ := hv
    refine zv_go rfl rfl (st' := [.int 0]) rfl (kc' := 0) rfl (ns' := 0) rfl ?_
    refine zv_wd (ws' := (cM cI cZ h 1 (nI n) r y (nI b) f0 f1 f2 f3 f4 f5 f6 f7 f8 f9 f10 f11 f12 f13)) rfl ?_
    exact zv_iret C hr hlk hQ dX2_reckoned_18 ⟨rfl, rfl⟩
abbrev rmX2_waterAt : Room := { frames := 5, cells := 0, slots := 0, locals := 112 }
set_option maxHeartbeats 4000000 in
set_option maxRecDepth 100000 in
theorem k_X2_waterAt_ok (l : Launch) (D : va_G) (cI cZ : ClassId) (h : Nat → Nat) (t : Int32) (n : Nat) (r y : Int32) (b : Nat) (f0 f1 f2 f3 f4 f5 f6 f7 f8 f9 f10 f11 f12 f13 : Nat → Int32) (p : Nat) (s : Nat → Int32) (d : Nat → Nat) (hn : n ≤ 16) (hD : Dep n f0 s d) (hp : p < n) : zv_M l yX2_waterAt wsX2_waterAt rmX2_waterAt D vwCl (tyL cI cZ) [.ref (h 0), .int (nI p)] (cM cI cZ h t (nI n) r y (nI b) f0 f1 f2 f3 f4 f5 f6 f7 f8 f9 f10 f11 f12 f13) (fun v w => ∃ (g8 g9 g10 g11 : Nat → Int32), v = some (.int ((sol n f0 f1 f2 f3 f5 r).1 p)) ∧ w = (cM cI cZ h 0 (nI n) r y (nI b) f0 f1 f2 f3 f4 f5 f6 f7 g8 g9 g10 g11 f12 f13)) := by
  refine zv_M.of cX2_waterAt 2 (some .int) (by decide) rfl (Nat.le_of_ble_eq_true rfl) ?_
  intro pP eE sS mM aA bB mT cD A C hr hlk hnm Q hQ
  have inX2 : ∀ w ∈ u_ws RX2 TX2 19, w ∈ wsX2_waterAt := by decide +kernel
  have lk38 : Cond.fieldLink RX2 38 "RiverNamesModel" "water" "[I" ∈ wsX2_waterAt := by decide +kernel
  refine zv_go (pc' := 0) rfl (lv' := [(0, .ref (h 0)), (1, .int (nI p))]) rfl rfl rfl rfl ?_
  refine zv_aload_n C dX2_waterAt_0 1 rfl 0 rfl ?_
  refine zv_iload_n C dX2_waterAt_1 2 rfl 1 rfl ?_
  refine zv_aload_n C dX2_waterAt_2 3 rfl 0 rfl ?_
  refine zv_get (ci := 2) C inX2 rfl dX2_waterAt_3 6 rfl 0 14 rfl (by decide) lk38 rfl ?_
  refine zv_callV (rest := []) (wr := []) C (k_X2_reckoned_w l D cI cZ h t n r y b f0 f1 f2 f3 f4 f5 f6 f7 f8 f9 f10 f11 f12 f13 p s d (by omega) (by assumption) (by omega)) (cwV 2 C.1.2.2.2.2 gX2_waterAt_X2_reckoned rfl rfl rfl (by decide +kernel) ⟨Nat.le_of_ble_eq_true rfl, Nat.le_of_ble_eq_true rfl⟩) dX2_waterAt_6 9 rfl (ci := 2) 0 rfl rfl rfl rfl (Nat.le_of_ble_eq_true rfl) ⟨Nat.le_of_ble_eq_true rfl, Nat.le_of_ble_eq_true rfl⟩ [0, 1] rfl [0, 1, 2, 3, 4, 5, 6, 7, 8, 9, 10, 11, 12, 13, 14] rfl (by decide) [] rfl (by decide) (by decide +kernel) (fun v w hv => ?_)
  obtain ⟨u8_46, u9_46, u10_46, u11_46, rfl, rfl⟩ := hv
  refine zv_go rfl rfl (st' := [.int ((sol n f0 f1 f2 f3 f5 r).1 p)]) rfl (kc' := 0) rfl (ns' := 0) rfl ?_
  refine zv_wd (ws' := (cM cI cZ h 0 (nI n) r y (nI b) f0 f1 f2 f3 f4 f5 f6 f7 u8_46 u9_46 u10_46 u11_46 f12 f13)) rfl ?_
  exact zv_iret C hr hlk hQ dX2_waterAt_9 ⟨u8_46, u9_46, u10_46, u11_46, rfl, rfl⟩
set_option maxHeartbeats 4000000 in
set_option maxRecDepth 100000 in
theorem k_X2_waterAt_no (l : Launch) (D : va_G) (cI cZ : ClassId) (h : Nat → Nat) (t : Int32) (n : Nat) (r y : Int32) (b : Nat) (f0 f1 f2 f3 f4 f5 f6 f7 f8 f9 f10 f11 f12 f13 : Nat → Int32) (i : Int32) (hn : n ≤ 16) (hf : isP n i = false) : zv_M l yX2_waterAt wsX2_waterAt rmX2_waterAt D vwCl (tyL cI cZ) [.ref (h 0), .int i] (cM cI cZ h t (nI n) r y (nI b) f0 f1 f2 f3 f4 f5 f6 f7 f8 f9 f10 f11 f12 f13) (fun v w => v = some (.int 0) ∧ w = (cM cI cZ h 1 (nI n) r y (nI b) f0 f1 f2 f3 f4 f5 f6 f7 f8 f9 f10 f11 f12 f13)) := by
  refine zv_M.of cX2_waterAt 2 (some .int) (by decide) rfl (Nat.le_of_ble_eq_true rfl) ?_
  intro pP eE sS mM aA bB mT cD A C hr hlk hnm Q hQ
  have inX2 : ∀ w ∈ u_ws RX2 TX2 19, w ∈ wsX2_waterAt := by decide +kernel
  have lk38 : Cond.fieldLink RX2 38 "RiverNamesModel" "water" "[I" ∈ wsX2_waterAt := by decide +kernel
  refine zv_go (pc' := 0) rfl (lv' := [(0, .ref (h 0)), (1, .int i)]) rfl rfl rfl rfl ?_
  refine zv_aload_n C dX2_waterAt_0 1 rfl 0 rfl ?_
  refine zv_iload_n C dX2_waterAt_1 2 rfl 1 rfl ?_
  refine zv_aload_n C dX2_waterAt_2 3 rfl 0 rfl ?_
  refine zv_get (ci := 2) C inX2 rfl dX2_waterAt_3 6 rfl 0 14 rfl (by decide) lk38 rfl ?_
  refine zv_callV (rest := []) (wr := []) C (k_X2_reckoned_no l D cI cZ h t n r y b f0 f1 f2 f3 f4 f5 f6 f7 f8 f9 f10 f11 f12 f13 i (h 10) (by omega) (by assumption)) (cwV 2 C.1.2.2.2.2 gX2_waterAt_X2_reckoned rfl rfl rfl (by decide +kernel) ⟨Nat.le_of_ble_eq_true rfl, Nat.le_of_ble_eq_true rfl⟩) dX2_waterAt_6 9 rfl (ci := 2) 0 rfl rfl rfl rfl (Nat.le_of_ble_eq_true rfl) ⟨Nat.le_of_ble_eq_true rfl, Nat.le_of_ble_eq_true rfl⟩ [0, 1] rfl [0, 1, 2, 3, 4, 5, 6, 7, 8, 9, 10, 11, 12, 13, 14] rfl (by decide) [] rfl (by decide) (by decide +kernel) (fun v w hv => ?_)
  obtain ⟨rfl, rfl⟩ := hv
  refine zv_go rfl rfl (st' := [.int 0]) rfl (kc' := 0) rfl (ns' := 0) rfl ?_
  refine zv_wd (ws' := (cM cI cZ h 1 (nI n) r y (nI b) f0 f1 f2 f3 f4 f5 f6 f7 f8 f9 f10 f11 f12 f13)) rfl ?_
  exact zv_iret C hr hlk hQ dX2_waterAt_9 ⟨rfl, rfl⟩
abbrev rmX2_lengthAt : Room := { frames := 5, cells := 0, slots := 0, locals := 112 }
set_option maxHeartbeats 4000000 in
set_option maxRecDepth 100000 in
theorem k_X2_lengthAt_ok (l : Launch) (D : va_G) (cI cZ : ClassId) (h : Nat → Nat) (t : Int32) (n : Nat) (r y : Int32) (b : Nat) (f0 f1 f2 f3 f4 f5 f6 f7 f8 f9 f10 f11 f12 f13 : Nat → Int32) (p : Nat) (s : Nat → Int32) (d : Nat → Nat) (hn : n ≤ 16) (hD : Dep n f0 s d) (hp : p < n) : zv_M l yX2_lengthAt wsX2_lengthAt rmX2_lengthAt D vwCl (tyL cI cZ) [.ref (h 0), .int (nI p)] (cM cI cZ h t (nI n) r y (nI b) f0 f1 f2 f3 f4 f5 f6 f7 f8 f9 f10 f11 f12 f13) (fun v w => ∃ (g8 g9 g10 g11 : Nat → Int32), v = some (.int ((sol n f0 f1 f2 f3 f5 r).2.1 p)) ∧ w = (cM cI cZ h 0 (nI n) r y (nI b) f0 f1 f2 f3 f4 f5 f6 f7 g8 g9 g10 g11 f12 f13)) := by
  refine zv_M.of cX2_lengthAt 2 (some .int) (by decide) rfl (Nat.le_of_ble_eq_true rfl) ?_
  intro pP eE sS mM aA bB mT cD A C hr hlk hnm Q hQ
  have inX2 : ∀ w ∈ u_ws RX2 TX2 19, w ∈ wsX2_lengthAt := by decide +kernel
  have lk41 : Cond.fieldLink RX2 41 "RiverNamesModel" "length" "[I" ∈ wsX2_lengthAt := by decide +kernel
  refine zv_go (pc' := 0) rfl (lv' := [(0, .ref (h 0)), (1, .int (nI p))]) rfl rfl rfl rfl ?_
  refine zv_aload_n C dX2_lengthAt_0 1 rfl 0 rfl ?_
  refine zv_iload_n C dX2_lengthAt_1 2 rfl 1 rfl ?_
  refine zv_aload_n C dX2_lengthAt_2 3 rfl 0 rfl ?_
  refine zv_get (ci := 2) C inX2 rfl dX2_lengthAt_3 6 rfl 0 15 rfl (by decide) lk41 rfl ?_
  refine zv_callV (rest := []) (wr := []) C (k_X2_reckoned_l l D cI cZ h t n r y b f0 f1 f2 f3 f4 f5 f6 f7 f8 f9 f10 f11 f12 f13 p s d (by omega) (by assumption) (by omega)) (cwV 2 C.1.2.2.2.2 gX2_lengthAt_X2_reckoned rfl rfl rfl (by decide +kernel) ⟨Nat.le_of_ble_eq_true rfl, Nat.le_of_ble_eq_true rfl⟩) dX2_lengthAt_6 9 rfl (ci := 2) 0 rfl rfl rfl rfl (Nat.le_of_ble_eq_true rfl) ⟨Nat.le_of_ble_eq_true rfl, Nat.le_of_ble_eq_true rfl⟩ [0, 1] rfl [0, 1, 2, 3, 4, 5, 6, 7, 8, 9, 10, 11, 12, 13, 14] rfl (by decide) [] rfl (by decide) (by decide +kernel) (fun v w hv => ?_)
  obtain ⟨u8_48, u9_48, u10_48, u11_48, rfl, rfl⟩ := hv
  refine zv_go rfl rfl (st' := [.int ((sol n f0 f1 f2 f3 f5 r).2.1 p)]) rfl (kc' := 0) rfl (ns' := 0) rfl ?_
  refine zv_wd (ws' := (cM cI cZ h 0 (nI n) r y (nI b) f0 f1 f2 f3 f4 f5 f6 f7 u8_48 u9_48 u10_48 u11_48 f12 f13)) rfl ?_
  exact zv_iret C hr hlk hQ dX2_lengthAt_9 ⟨u8_48, u9_48, u10_48, u11_48, rfl, rfl⟩
set_option maxHeartbeats 4000000 in
set_option maxRecDepth 100000 in
theorem k_X2_lengthAt_no (l : Launch) (D : va_G) (cI cZ : ClassId) (h : Nat → Nat) (t : Int32) (n : Nat) (r y : Int32) (b : Nat) (f0 f1 f2 f3 f4 f5 f6 f7 f8 f9 f10 f11 f12 f13 : Nat → Int32) (i : Int32) (hn : n ≤ 16) (hf : isP n i = false) : zv_M l yX2_lengthAt wsX2_lengthAt rmX2_lengthAt D vwCl (tyL cI cZ) [.ref (h 0), .int i] (cM cI cZ h t (nI n) r y (nI b) f0 f1 f2 f3 f4 f5 f6 f7 f8 f9 f10 f11 f12 f13) (fun v w => v = some (.int 0) ∧ w = (cM cI cZ h 1 (nI n) r y (nI b) f0 f1 f2 f3 f4 f5 f6 f7 f8 f9 f10 f11 f12 f13)) := by
  refine zv_M.of cX2_lengthAt 2 (some .int) (by decide) rfl (Nat.le_of_ble_eq_true rfl) ?_
  intro pP eE sS mM aA bB mT cD A C hr hlk hnm Q hQ
  have inX2 : ∀ w ∈ u_ws RX2 TX2 19, w ∈ wsX2_lengthAt := by decide +kernel
  have lk41 : Cond.fieldLink RX2 41 "RiverNamesModel" "length" "[I" ∈ wsX2_lengthAt := by decide +kernel
  refine zv_go (pc' := 0) rfl (lv' := [(0, .ref (h 0)), (1, .int i)]) rfl rfl rfl rfl ?_
  refine zv_aload_n C dX2_lengthAt_0 1 rfl 0 rfl ?_
  refine zv_iload_n C dX2_lengthAt_1 2 rfl 1 rfl ?_
  refine zv_aload_n C dX2_lengthAt_2 3 rfl 0 rfl ?_
  refine zv_get (ci := 2) C inX2 rfl dX2_lengthAt_3 6 rfl 0 15 rfl (by decide) lk41 rfl ?_
  refine zv_callV (rest := []) (wr := []) C (k_X2_reckoned_no l D cI cZ h t n r y b f0 f1 f2 f3 f4 f5 f6 f7 f8 f9 f10 f11 f12 f13 i (h 11) (by omega) (by assumption)) (cwV 2 C.1.2.2.2.2 gX2_lengthAt_X2_reckoned rfl rfl rfl (by decide +kernel) ⟨Nat.le_of_ble_eq_true rfl, Nat.le_of_ble_eq_true rfl⟩) dX2_lengthAt_6 9 rfl (ci := 2) 0 rfl rfl rfl rfl (Nat.le_of_ble_eq_true rfl) ⟨Nat.le_of_ble_eq_true rfl, Nat.le_of_ble_eq_true rfl⟩ [0, 1] rfl [0, 1, 2, 3, 4, 5, 6, 7, 8, 9, 10, 11, 12, 13, 14] rfl (by decide) [] rfl (by decide) (by decide +kernel) (fun v w hv => ?_)
  obtain ⟨rfl, rfl⟩ := hv
  refine zv_go rfl rfl (st' := [.int 0]) rfl (kc' := 0) rfl (ns' := 0) rfl ?_
  refine zv_wd (ws' := (cM cI cZ h 1 (nI n) r y (nI b) f0 f1 f2 f3 f4 f5 f6 f7 f8 f9 f10 f11 f12 f13)) rfl ?_
  exact zv_iret C hr hlk hQ dX2_lengthAt_9 ⟨rfl, rfl⟩
abbrev rmX2_nameAt : Room := { frames := 5, cells := 0, slots := 0, locals := 112 }
set_option maxHeartbeats 4000000 in
set_option maxRecDepth 100000 in
theorem k_X2_nameAt_ok (l : Launch) (D : va_G) (cI cZ : ClassId) (h : Nat → Nat) (t : Int32) (n : Nat) (r y : Int32) (b : Nat) (f0 f1 f2 f3 f4 f5 f6 f7 f8 f9 f10 f11 f12 f13 : Nat → Int32) (p : Nat) (s : Nat → Int32) (d : Nat → Nat) (hn : n ≤ 16) (hD : Dep n f0 s d) (hp : p < n) : zv_M l yX2_nameAt wsX2_nameAt rmX2_nameAt D vwCl (tyL cI cZ) [.ref (h 0), .int (nI p)] (cM cI cZ h t (nI n) r y (nI b) f0 f1 f2 f3 f4 f5 f6 f7 f8 f9 f10 f11 f12 f13) (fun v w => ∃ (g8 g9 g10 g11 : Nat → Int32), v = some (.int ((sol n f0 f1 f2 f3 f5 r).2.2 p)) ∧ w = (cM cI cZ h 0 (nI n) r y (nI b) f0 f1 f2 f3 f4 f5 f6 f7 g8 g9 g10 g11 f12 f13)) := by
  refine zv_M.of cX2_nameAt 2 (some .int) (by decide) rfl (Nat.le_of_ble_eq_true rfl) ?_
  intro pP eE sS mM aA bB mT cD A C hr hlk hnm Q hQ
  have inX2 : ∀ w ∈ u_ws RX2 TX2 19, w ∈ wsX2_nameAt := by decide +kernel
  have lk44 : Cond.fieldLink RX2 44 "RiverNamesModel" "name" "[I" ∈ wsX2_nameAt := by decide +kernel
  refine zv_go (pc' := 0) rfl (lv' := [(0, .ref (h 0)), (1, .int (nI p))]) rfl rfl rfl rfl ?_
  refine zv_aload_n C dX2_nameAt_0 1 rfl 0 rfl ?_
  refine zv_iload_n C dX2_nameAt_1 2 rfl 1 rfl ?_
  refine zv_aload_n C dX2_nameAt_2 3 rfl 0 rfl ?_
  refine zv_get (ci := 2) C inX2 rfl dX2_nameAt_3 6 rfl 0 16 rfl (by decide) lk44 rfl ?_
  refine zv_callV (rest := []) (wr := []) C (k_X2_reckoned_n l D cI cZ h t n r y b f0 f1 f2 f3 f4 f5 f6 f7 f8 f9 f10 f11 f12 f13 p s d (by omega) (by assumption) (by omega)) (cwV 2 C.1.2.2.2.2 gX2_nameAt_X2_reckoned rfl rfl rfl (by decide +kernel) ⟨Nat.le_of_ble_eq_true rfl, Nat.le_of_ble_eq_true rfl⟩) dX2_nameAt_6 9 rfl (ci := 2) 0 rfl rfl rfl rfl (Nat.le_of_ble_eq_true rfl) ⟨Nat.le_of_ble_eq_true rfl, Nat.le_of_ble_eq_true rfl⟩ [0, 1] rfl [0, 1, 2, 3, 4, 5, 6, 7, 8, 9, 10, 11, 12, 13, 14] rfl (by decide) [] rfl (by decide) (by decide +kernel) (fun v w hv => ?_)
  obtain ⟨u8_50, u9_50, u10_50, u11_50, rfl, rfl⟩ := hv
  refine zv_go rfl rfl (st' := [.int ((sol n f0 f1 f2 f3 f5 r).2.2 p)]) rfl (kc' := 0) rfl (ns' := 0) rfl ?_
  refine zv_wd (ws' := (cM cI cZ h 0 (nI n) r y (nI b) f0 f1 f2 f3 f4 f5 f6 f7 u8_50 u9_50 u10_50 u11_50 f12 f13)) rfl ?_
  exact zv_iret C hr hlk hQ dX2_nameAt_9 ⟨u8_50, u9_50, u10_50, u11_50, rfl, rfl⟩
set_option maxHeartbeats 4000000 in
set_option maxRecDepth 100000 in
theorem k_X2_nameAt_no (l : Launch) (D : va_G) (cI cZ : ClassId) (h : Nat → Nat) (t : Int32) (n : Nat) (r y : Int32) (b : Nat) (f0 f1 f2 f3 f4 f5 f6 f7 f8 f9 f10 f11 f12 f13 : Nat → Int32) (i : Int32) (hn : n ≤ 16) (hf : isP n i = false) : zv_M l yX2_nameAt wsX2_nameAt rmX2_nameAt D vwCl (tyL cI cZ) [.ref (h 0), .int i] (cM cI cZ h t (nI n) r y (nI b) f0 f1 f2 f3 f4 f5 f6 f7 f8 f9 f10 f11 f12 f13) (fun v w => v = some (.int 0) ∧ w = (cM cI cZ h 1 (nI n) r y (nI b) f0 f1 f2 f3 f4 f5 f6 f7 f8 f9 f10 f11 f12 f13)) := by
  refine zv_M.of cX2_nameAt 2 (some .int) (by decide) rfl (Nat.le_of_ble_eq_true rfl) ?_
  intro pP eE sS mM aA bB mT cD A C hr hlk hnm Q hQ
  have inX2 : ∀ w ∈ u_ws RX2 TX2 19, w ∈ wsX2_nameAt := by decide +kernel
  have lk44 : Cond.fieldLink RX2 44 "RiverNamesModel" "name" "[I" ∈ wsX2_nameAt := by decide +kernel
  refine zv_go (pc' := 0) rfl (lv' := [(0, .ref (h 0)), (1, .int i)]) rfl rfl rfl rfl ?_
  refine zv_aload_n C dX2_nameAt_0 1 rfl 0 rfl ?_
  refine zv_iload_n C dX2_nameAt_1 2 rfl 1 rfl ?_
  refine zv_aload_n C dX2_nameAt_2 3 rfl 0 rfl ?_
  refine zv_get (ci := 2) C inX2 rfl dX2_nameAt_3 6 rfl 0 16 rfl (by decide) lk44 rfl ?_
  refine zv_callV (rest := []) (wr := []) C (k_X2_reckoned_no l D cI cZ h t n r y b f0 f1 f2 f3 f4 f5 f6 f7 f8 f9 f10 f11 f12 f13 i (h 12) (by omega) (by assumption)) (cwV 2 C.1.2.2.2.2 gX2_nameAt_X2_reckoned rfl rfl rfl (by decide +kernel) ⟨Nat.le_of_ble_eq_true rfl, Nat.le_of_ble_eq_true rfl⟩) dX2_nameAt_6 9 rfl (ci := 2) 0 rfl rfl rfl rfl (Nat.le_of_ble_eq_true rfl) ⟨Nat.le_of_ble_eq_true rfl, Nat.le_of_ble_eq_true rfl⟩ [0, 1] rfl [0, 1, 2, 3, 4, 5, 6, 7, 8, 9, 10, 11, 12, 13, 14] rfl (by decide) [] rfl (by decide) (by decide +kernel) (fun v w hv => ?_)
  obtain ⟨rfl, rfl⟩ := hv
  refine zv_go rfl rfl (st' := [.int 0]) rfl (kc' := 0) rfl (ns' := 0) rfl ?_
  refine zv_wd (ws' := (cM cI cZ h 1 (nI n) r y (nI b) f0 f1 f2 f3 f4 f5 f6 f7 f8 f9 f10 f11 f12 f13)) rfl ?_
  exact zv_iret C hr hlk hQ dX2_nameAt_9 ⟨rfl, rfl⟩
abbrev rmX2_mouthOf : Room := { frames := 2, cells := 0, slots := 0, locals := 43 }
set_option maxHeartbeats 4000000 in
set_option maxRecDepth 100000 in
theorem k_X2_mouthOf_ok (l : Launch) (D : va_G) (cI cZ : ClassId) (h : Nat → Nat) (t : Int32) (n : Nat) (r y : Int32) (b : Nat) (f0 f1 f2 f3 f4 f5 f6 f7 f8 f9 f10 f11 f12 f13 : Nat → Int32) (p : Nat) (s : Nat → Int32) (d : Nat → Nat) (hn : n ≤ 16) (hD : Dep n f0 s d) (hp : p < n) : zv_M l yX2_mouthOf wsX2_mouthOf rmX2_mouthOf D vwCl (tyL cI cZ) [.ref (h 0), .int (nI p)] (cM cI cZ h t (nI n) r y (nI b) f0 f1 f2 f3 f4 f5 f6 f7 f8 f9 f10 f11 f12 f13) (fun v w => v = some (.int (nI (mo f0 16 p))) ∧ w = (cM cI cZ h 0 (nI n) r y (nI b) f0 f1 f2 f3 f4 f5 f6 f7 f8 f9 f10 f11 f12 f13)) := by
  refine zv_M.of cX2_mouthOf 2 (some .int) (by decide) rfl (Nat.le_of_ble_eq_true rfl) ?_
  intro pP eE sS mM aA bB mT cD A C hr hlk hnm Q hQ
  have inX2 : ∀ w ∈ u_ws RX2 TX2 19, w ∈ wsX2_mouthOf := by decide +kernel
  have lk53 : Cond.fieldLink RX2 53 "RiverNamesModel" "thrown" "I" ∈ wsX2_mouthOf := by decide +kernel
  refine zv_go (pc' := 0) rfl (lv' := [(0, .ref (h 0)), (1, .int (nI p))]) rfl rfl rfl rfl ?_
  refine zv_aload_n C dX2_mouthOf_0 1 rfl 0 rfl ?_
  refine zv_iconst (v := 0) C dX2_mouthOf_1 2 rfl (by decide) ?_
  refine zv_put (ci := 2) C inX2 rfl tyX2_ok nmX2 dX2_mouthOf_2 5 rfl 0 0 rfl (by decide) lk53 rfl rfl rfl (Nat.le_of_ble_eq_true rfl) (cM cI cZ h 0 (nI n) r y (nI b) f0 f1 f2 f3 f4 f5 f6 f7 f8 f9 f10 f11 f12 f13) rfl ?_
  refine zv_aload_n C dX2_mouthOf_5 6 rfl 0 rfl ?_
  refine zv_iload_n C dX2_mouthOf_6 7 rfl 1 rfl ?_
  refine zv_callVR (rest := []) C (k_X2_isPlace l D cI cZ h 0 n r y b f0 f1 f2 f3 f4 f5 f6 f7 f8 f9 f10 f11 f12 f13 (nI p) (by omega)) (cwV 1 C.1.2.2.2.2 gX2_mouthOf_X2_isPlace rfl rfl rfl (by decide +kernel) ⟨Nat.le_of_ble_eq_true rfl, Nat.le_of_ble_eq_true rfl⟩) dX2_mouthOf_7 10 rfl (ci := 2) 0 rfl rfl rfl rfl (Nat.le_of_ble_eq_true rfl) ⟨Nat.le_of_ble_eq_true rfl, Nat.le_of_ble_eq_true rfl⟩ [0, 1] rfl [0, 1, 2, 3, 4, 5, 6, 7, 8, 9, 10, 11, 12, 13, 14] rfl (by decide) (fun v hv => ?_)
  subst hv
  refine zv_go rfl rfl (st' := [.int (zb (isP n (nI p)))]) rfl (kc' := 0) rfl (ns' := 0) rfl ?_
  refine zv_if_eq C dX2_mouthOf_10 13 21 rfl (by decide) (fun c1 => ?_) (fun c1 => ?_)
  · exact absurd (isP_nI (by omega) hp) (by rw [zb_eq0.mp c1]; decide)
  · refine zv_aload_n C dX2_mouthOf_13 14 rfl 0 rfl ?_
    refine zv_iload_n C dX2_mouthOf_14 15 rfl 1 rfl ?_
    refine zv_callVR (rest := []) C (k_X2_mouth l D cI cZ h 0 n r y b f0 f1 f2 f3 f4 f5 f6 f7 f8 f9 f10 f11 f12 f13 p s d (by omega) (by assumption) (by omega)) (cwV 1 C.1.2.2.2.2 gX2_mouthOf_X2_mouth rfl rfl rfl (by decide +kernel) ⟨Nat.le_of_ble_eq_true rfl, Nat.le_of_ble_eq_true rfl⟩) dX2_mouthOf_15 18 rfl (ci := 2) 0 rfl rfl rfl rfl (Nat.le_of_ble_eq_true rfl) ⟨Nat.le_of_ble_eq_true rfl, Nat.le_of_ble_eq_true rfl⟩ [0, 1] rfl [0, 1, 2, 3, 4, 5, 6, 7, 8, 9, 10, 11, 12, 13, 14] rfl (by decide) (fun v hv => ?_)
    subst hv
    refine zv_go rfl rfl (st' := [.int (nI (mo f0 16 p))]) rfl (kc' := 0) rfl (ns' := 0) rfl ?_
    refine zv_goto C dX2_mouthOf_18 26 (by decide) ?_
    exact zv_iret C hr hlk hQ dX2_mouthOf_26 ⟨rfl, rfl⟩
set_option maxHeartbeats 4000000 in
set_option maxRecDepth 100000 in
theorem k_X2_mouthOf_no (l : Launch) (D : va_G) (cI cZ : ClassId) (h : Nat → Nat) (t : Int32) (n : Nat) (r y : Int32) (b : Nat) (f0 f1 f2 f3 f4 f5 f6 f7 f8 f9 f10 f11 f12 f13 : Nat → Int32) (i : Int32) (hn : n ≤ 16) (hf : isP n i = false) : zv_M l yX2_mouthOf wsX2_mouthOf rmX2_mouthOf D vwCl (tyL cI cZ) [.ref (h 0), .int i] (cM cI cZ h t (nI n) r y (nI b) f0 f1 f2 f3 f4 f5 f6 f7 f8 f9 f10 f11 f12 f13) (fun v w => v = some (.int 0) ∧ w = (cM cI cZ h 1 (nI n) r y (nI b) f0 f1 f2 f3 f4 f5 f6 f7 f8 f9 f10 f11 f12 f13)) := by
  refine zv_M.of cX2_mouthOf 2 (some .int) (by decide) rfl (Nat.le_of_ble_eq_true rfl) ?_
  intro pP eE sS mM aA bB mT cD A C hr hlk hnm Q hQ
  have inX2 : ∀ w ∈ u_ws RX2 TX2 19, w ∈ wsX2_mouthOf := by decide +kernel
  have lk53 : Cond.fieldLink RX2 53 "RiverNamesModel" "thrown" "I" ∈ wsX2_mouthOf := by decide +kernel
  refine zv_go (pc' := 0) rfl (lv' := [(0, .ref (h 0)), (1, .int i)]) rfl rfl rfl rfl ?_
  refine zv_aload_n C dX2_mouthOf_0 1 rfl 0 rfl ?_
  refine zv_iconst (v := 0) C dX2_mouthOf_1 2 rfl (by decide) ?_
  refine zv_put (ci := 2) C inX2 rfl tyX2_ok nmX2 dX2_mouthOf_2 5 rfl 0 0 rfl (by decide) lk53 rfl rfl rfl (Nat.le_of_ble_eq_true rfl) (cM cI cZ h 0 (nI n) r y (nI b) f0 f1 f2 f3 f4 f5 f6 f7 f8 f9 f10 f11 f12 f13) rfl ?_
  refine zv_aload_n C dX2_mouthOf_5 6 rfl 0 rfl ?_
  refine zv_iload_n C dX2_mouthOf_6 7 rfl 1 rfl ?_
  refine zv_callVR (rest := []) C (k_X2_isPlace l D cI cZ h 0 n r y b f0 f1 f2 f3 f4 f5 f6 f7 f8 f9 f10 f11 f12 f13 i (by omega)) (cwV 1 C.1.2.2.2.2 gX2_mouthOf_X2_isPlace rfl rfl rfl (by decide +kernel) ⟨Nat.le_of_ble_eq_true rfl, Nat.le_of_ble_eq_true rfl⟩) dX2_mouthOf_7 10 rfl (ci := 2) 0 rfl rfl rfl rfl (Nat.le_of_ble_eq_true rfl) ⟨Nat.le_of_ble_eq_true rfl, Nat.le_of_ble_eq_true rfl⟩ [0, 1] rfl [0, 1, 2, 3, 4, 5, 6, 7, 8, 9, 10, 11, 12, 13, 14] rfl (by decide) (fun v hv => ?_)
  subst hv
  refine zv_go rfl rfl (st' := [.int (zb (isP n i))]) rfl (kc' := 0) rfl (ns' := 0) rfl ?_
  refine zv_if_eq C dX2_mouthOf_10 13 21 rfl (by decide) (fun c1 => ?_) (fun c1 => ?_)
  · refine zv_aload_n C dX2_mouthOf_21 22 rfl 0 rfl ?_
    refine zv_iconst (v := 1) C dX2_mouthOf_22 23 rfl (by decide) ?_
    refine zv_callV (rest := []) (wr := []) C (k_X2_no l D cI cZ h 0 n r y b f0 f1 f2 f3 f4 f5 f6 f7 f8 f9 f10 f11 f12 f13 1) (cwV 1 C.1.2.2.2.2 gX2_mouthOf_X2_no rfl rfl rfl (by decide +kernel) ⟨Nat.le_of_ble_eq_true rfl, Nat.le_of_ble_eq_true rfl⟩) dX2_mouthOf_23 26 rfl (ci := 2) 0 rfl rfl rfl rfl (Nat.le_of_ble_eq_true rfl) ⟨Nat.le_of_ble_eq_true rfl, Nat.le_of_ble_eq_true rfl⟩ [0, 1] rfl [0, 1, 2, 3, 4, 5, 6, 7, 8, 9, 10, 11, 12, 13, 14] rfl (by decide) [] rfl (by decide) (by decide +kernel) (fun v w hv => ?_)
    obtain ⟨rfl, rfl⟩ := hv
    refine zv_go rfl rfl (st' := [.int 0]) rfl (kc' := 0) rfl (ns' := 0) rfl ?_
    refine zv_wd (ws' := (cM cI cZ h 1 (nI n) r y (nI b) f0 f1 f2 f3 f4 f5 f6 f7 f8 f9 f10 f11 f12 f13)) rfl ?_
    exact zv_iret C hr hlk hQ dX2_mouthOf_26 ⟨rfl, rfl⟩
  · exact absurd hf (by rw [zb_ne0.mp c1]; decide)
abbrev rmX2_placesAbove : Room := { frames := 2, cells := 0, slots := 0, locals := 46 }
set_option maxHeartbeats 4000000 in
set_option maxRecDepth 100000 in
theorem k_X2_placesAbove_ok (l : Launch) (D : va_G) (cI cZ : ClassId) (h : Nat → Nat) (t : Int32) (n : Nat) (r y : Int32) (b : Nat) (f0 f1 f2 f3 f4 f5 f6 f7 f8 f9 f10 f11 f12 f13 : Nat → Int32) (p : Nat) (s : Nat → Int32) (d : Nat → Nat) (hn : n ≤ 16) (hD : Dep n f0 s d) (hp : p < n) : zv_M l yX2_placesAbove wsX2_placesAbove rmX2_placesAbove D vwCl (tyL cI cZ) [.ref (h 0), .int (nI p)] (cM cI cZ h t (nI n) r y (nI b) f0 f1 f2 f3 f4 f5 f6 f7 f8 f9 f10 f11 f12 f13) (fun v w => v = some (.int (nI (ao n f0 p))) ∧ w = (cM cI cZ h 0 (nI n) r y (nI b) f0 f1 f2 f3 f4 f5 f6 f7 f8 f9 f10 f11 f12 f13)) := by
  refine zv_M.of cX2_placesAbove 2 (some .int) (by decide) rfl (Nat.le_of_ble_eq_true rfl) ?_
  intro pP eE sS mM aA bB mT cD A C hr hlk hnm Q hQ
  have inX2 : ∀ w ∈ u_ws RX2 TX2 19, w ∈ wsX2_placesAbove := by decide +kernel
  have lk53 : Cond.fieldLink RX2 53 "RiverNamesModel" "thrown" "I" ∈ wsX2_placesAbove := by decide +kernel
  refine zv_go (pc' := 0) rfl (lv' := [(0, .ref (h 0)), (1, .int (nI p))]) rfl rfl rfl rfl ?_
  refine zv_aload_n C dX2_placesAbove_0 1 rfl 0 rfl ?_
  refine zv_iconst (v := 0) C dX2_placesAbove_1 2 rfl (by decide) ?_
  refine zv_put (ci := 2) C inX2 rfl tyX2_ok nmX2 dX2_placesAbove_2 5 rfl 0 0 rfl (by decide) lk53 rfl rfl rfl (Nat.le_of_ble_eq_true rfl) (cM cI cZ h 0 (nI n) r y (nI b) f0 f1 f2 f3 f4 f5 f6 f7 f8 f9 f10 f11 f12 f13) rfl ?_
  refine zv_aload_n C dX2_placesAbove_5 6 rfl 0 rfl ?_
  refine zv_iload_n C dX2_placesAbove_6 7 rfl 1 rfl ?_
  refine zv_callVR (rest := []) C (k_X2_isPlace l D cI cZ h 0 n r y b f0 f1 f2 f3 f4 f5 f6 f7 f8 f9 f10 f11 f12 f13 (nI p) (by omega)) (cwV 1 C.1.2.2.2.2 gX2_placesAbove_X2_isPlace rfl rfl rfl (by decide +kernel) ⟨Nat.le_of_ble_eq_true rfl, Nat.le_of_ble_eq_true rfl⟩) dX2_placesAbove_7 10 rfl (ci := 2) 0 rfl rfl rfl rfl (Nat.le_of_ble_eq_true rfl) ⟨Nat.le_of_ble_eq_true rfl, Nat.le_of_ble_eq_true rfl⟩ [0, 1] rfl [0, 1, 2, 3, 4, 5, 6, 7, 8, 9, 10, 11, 12, 13, 14] rfl (by decide) (fun v hv => ?_)
  subst hv
  refine zv_go rfl rfl (st' := [.int (zb (isP n (nI p)))]) rfl (kc' := 0) rfl (ns' := 0) rfl ?_
  refine zv_if_eq C dX2_placesAbove_10 13 21 rfl (by decide) (fun c1 => ?_) (fun c1 => ?_)
  · exact absurd (isP_nI (by omega) hp) (by rw [zb_eq0.mp c1]; decide)
  · refine zv_aload_n C dX2_placesAbove_13 14 rfl 0 rfl ?_
    refine zv_iload_n C dX2_placesAbove_14 15 rfl 1 rfl ?_
    refine zv_callVR (rest := []) C (k_X2_aboveOf l D cI cZ h 0 n r y b f0 f1 f2 f3 f4 f5 f6 f7 f8 f9 f10 f11 f12 f13 p s d (by omega) (by assumption) (by omega)) (cwV 1 C.1.2.2.2.2 gX2_placesAbove_X2_aboveOf rfl rfl rfl (by decide +kernel) ⟨Nat.le_of_ble_eq_true rfl, Nat.le_of_ble_eq_true rfl⟩) dX2_placesAbove_15 18 rfl (ci := 2) 0 rfl rfl rfl rfl (Nat.le_of_ble_eq_true rfl) ⟨Nat.le_of_ble_eq_true rfl, Nat.le_of_ble_eq_true rfl⟩ [0, 1] rfl [0, 1, 2, 3, 4, 5, 6, 7, 8, 9, 10, 11, 12, 13, 14] rfl (by decide) (fun v hv => ?_)
    subst hv
    refine zv_go rfl rfl (st' := [.int (nI (ao n f0 p))]) rfl (kc' := 0) rfl (ns' := 0) rfl ?_
    refine zv_goto C dX2_placesAbove_18 26 (by decide) ?_
    exact zv_iret C hr hlk hQ dX2_placesAbove_26 ⟨rfl, rfl⟩
set_option maxHeartbeats 4000000 in
set_option maxRecDepth 100000 in
theorem k_X2_placesAbove_no (l : Launch) (D : va_G) (cI cZ : ClassId) (h : Nat → Nat) (t : Int32) (n : Nat) (r y : Int32) (b : Nat) (f0 f1 f2 f3 f4 f5 f6 f7 f8 f9 f10 f11 f12 f13 : Nat → Int32) (i : Int32) (hn : n ≤ 16) (hf : isP n i = false) : zv_M l yX2_placesAbove wsX2_placesAbove rmX2_placesAbove D vwCl (tyL cI cZ) [.ref (h 0), .int i] (cM cI cZ h t (nI n) r y (nI b) f0 f1 f2 f3 f4 f5 f6 f7 f8 f9 f10 f11 f12 f13) (fun v w => v = some (.int 0) ∧ w = (cM cI cZ h 1 (nI n) r y (nI b) f0 f1 f2 f3 f4 f5 f6 f7 f8 f9 f10 f11 f12 f13)) := by
  refine zv_M.of cX2_placesAbove 2 (some .int) (by decide) rfl (Nat.le_of_ble_eq_true rfl) ?_
  intro pP eE sS mM aA bB mT cD A C hr hlk hnm Q hQ
  have inX2 : ∀ w ∈ u_ws RX2 TX2 19, w ∈ wsX2_placesAbove := by decide +kernel
  have lk53 : Cond.fieldLink RX2 53 "RiverNamesModel" "thrown" "I" ∈ wsX2_placesAbove := by decide +kernel
  refine zv_go (pc' := 0) rfl (lv' := [(0, .ref (h 0)), (1, .int i)]) rfl rfl rfl rfl ?_
  refine zv_aload_n C dX2_placesAbove_0 1 rfl 0 rfl ?_
  refine zv_iconst (v := 0) C dX2_placesAbove_1 2 rfl (by decide) ?_
  refine zv_put (ci := 2) C inX2 rfl tyX2_ok nmX2 dX2_placesAbove_2 5 rfl 0 0 rfl (by decide) lk53 rfl rfl rfl (Nat.le_of_ble_eq_true rfl) (cM cI cZ h 0 (nI n) r y (nI b) f0 f1 f2 f3 f4 f5 f6 f7 f8 f9 f10 f11 f12 f13) rfl ?_
  refine zv_aload_n C dX2_placesAbove_5 6 rfl 0 rfl ?_
  refine zv_iload_n C dX2_placesAbove_6 7 rfl 1 rfl ?_
  refine zv_callVR (rest := []) C (k_X2_isPlace l D cI cZ h 0 n r y b f0 f1 f2 f3 f4 f5 f6 f7 f8 f9 f10 f11 f12 f13 i (by omega)) (cwV 1 C.1.2.2.2.2 gX2_placesAbove_X2_isPlace rfl rfl rfl (by decide +kernel) ⟨Nat.le_of_ble_eq_true rfl, Nat.le_of_ble_eq_true rfl⟩) dX2_placesAbove_7 10 rfl (ci := 2) 0 rfl rfl rfl rfl (Nat.le_of_ble_eq_true rfl) ⟨Nat.le_of_ble_eq_true rfl, Nat.le_of_ble_eq_true rfl⟩ [0, 1] rfl [0, 1, 2, 3, 4, 5, 6, 7, 8, 9, 10, 11, 12, 13, 14] rfl (by decide) (fun v hv => ?_)
  subst hv
  refine zv_go rfl rfl (st' := [.int (zb (isP n i))]) rfl (kc' := 0) rfl (ns' := 0) rfl ?_
  refine zv_if_eq C dX2_placesAbove_10 13 21 rfl (by decide) (fun c1 => ?_) (fun c1 => ?_)
  · refine zv_aload_n C dX2_placesAbove_21 22 rfl 0 rfl ?_
    refine zv_iconst (v := 1) C dX2_placesAbove_22 23 rfl (by decide) ?_
    refine zv_callV (rest := []) (wr := []) C (k_X2_no l D cI cZ h 0 n r y b f0 f1 f2 f3 f4 f5 f6 f7 f8 f9 f10 f11 f12 f13 1) (cwV 1 C.1.2.2.2.2 gX2_placesAbove_X2_no rfl rfl rfl (by decide +kernel) ⟨Nat.le_of_ble_eq_true rfl, Nat.le_of_ble_eq_true rfl⟩) dX2_placesAbove_23 26 rfl (ci := 2) 0 rfl rfl rfl rfl (Nat.le_of_ble_eq_true rfl) ⟨Nat.le_of_ble_eq_true rfl, Nat.le_of_ble_eq_true rfl⟩ [0, 1] rfl [0, 1, 2, 3, 4, 5, 6, 7, 8, 9, 10, 11, 12, 13, 14] rfl (by decide) [] rfl (by decide) (by decide +kernel) (fun v w hv => ?_)
    obtain ⟨rfl, rfl⟩ := hv
    refine zv_go rfl rfl (st' := [.int 0]) rfl (kc' := 0) rfl (ns' := 0) rfl ?_
    refine zv_wd (ws' := (cM cI cZ h 1 (nI n) r y (nI b) f0 f1 f2 f3 f4 f5 f6 f7 f8 f9 f10 f11 f12 f13)) rfl ?_
    exact zv_iret C hr hlk hQ dX2_placesAbove_26 ⟨rfl, rfl⟩
  · exact absurd hf (by rw [zb_ne0.mp c1]; decide)
abbrev rmX2_isAbove : Room := { frames := 2, cells := 0, slots := 0, locals := 43 }
set_option maxHeartbeats 4000000 in
set_option maxRecDepth 100000 in
theorem k_X2_isAbove_ok (l : Launch) (D : va_G) (cI cZ : ClassId) (h : Nat → Nat) (t : Int32) (n : Nat) (r y : Int32) (b : Nat) (f0 f1 f2 f3 f4 f5 f6 f7 f8 f9 f10 f11 f12 f13 : Nat → Int32) (p q : Nat) (s : Nat → Int32) (d : Nat → Nat) (hn : n ≤ 16) (hD : Dep n f0 s d) (hp : p < n) (hq : q < n) : zv_M l yX2_isAbove wsX2_isAbove rmX2_isAbove D vwCl (tyL cI cZ) [.ref (h 0), .int (nI p), .int (nI q)] (cM cI cZ h t (nI n) r y (nI b) f0 f1 f2 f3 f4 f5 f6 f7 f8 f9 f10 f11 f12 f13) (fun v w => v = some (.int (zb (fl f0 (nI q) 16 (f0 p)))) ∧ w = (cM cI cZ h 0 (nI n) r y (nI b) f0 f1 f2 f3 f4 f5 f6 f7 f8 f9 f10 f11 f12 f13)) := by
  refine zv_M.of cX2_isAbove 3 (some .boolean) (by decide) rfl (Nat.le_of_ble_eq_true rfl) ?_
  intro pP eE sS mM aA bB mT cD A C hr hlk hnm Q hQ
  have inX2 : ∀ w ∈ u_ws RX2 TX2 19, w ∈ wsX2_isAbove := by decide +kernel
  have lk53 : Cond.fieldLink RX2 53 "RiverNamesModel" "thrown" "I" ∈ wsX2_isAbove := by decide +kernel
  refine zv_go (pc' := 0) rfl (lv' := [(0, .ref (h 0)), (1, .int (nI p)), (2, .int (nI q))]) rfl rfl rfl rfl ?_
  refine zv_aload_n C dX2_isAbove_0 1 rfl 0 rfl ?_
  refine zv_iconst (v := 0) C dX2_isAbove_1 2 rfl (by decide) ?_
  refine zv_put (ci := 2) C inX2 rfl tyX2_ok nmX2 dX2_isAbove_2 5 rfl 0 0 rfl (by decide) lk53 rfl rfl rfl (Nat.le_of_ble_eq_true rfl) (cM cI cZ h 0 (nI n) r y (nI b) f0 f1 f2 f3 f4 f5 f6 f7 f8 f9 f10 f11 f12 f13) rfl ?_
  refine zv_aload_n C dX2_isAbove_5 6 rfl 0 rfl ?_
  refine zv_iload_n C dX2_isAbove_6 7 rfl 1 rfl ?_
  refine zv_callVR (rest := []) C (k_X2_isPlace l D cI cZ h 0 n r y b f0 f1 f2 f3 f4 f5 f6 f7 f8 f9 f10 f11 f12 f13 (nI p) (by omega)) (cwV 1 C.1.2.2.2.2 gX2_isAbove_X2_isPlace rfl rfl rfl (by decide +kernel) ⟨Nat.le_of_ble_eq_true rfl, Nat.le_of_ble_eq_true rfl⟩) dX2_isAbove_7 10 rfl (ci := 2) 0 rfl rfl rfl rfl (Nat.le_of_ble_eq_true rfl) ⟨Nat.le_of_ble_eq_true rfl, Nat.le_of_ble_eq_true rfl⟩ [0, 1] rfl [0, 1, 2, 3, 4, 5, 6, 7, 8, 9, 10, 11, 12, 13, 14] rfl (by decide) (fun v hv => ?_)
  subst hv
  refine zv_go rfl rfl (st' := [.int (zb (isP n (nI p)))]) rfl (kc' := 0) rfl (ns' := 0) rfl ?_
  refine zv_if_eq C dX2_isAbove_10 13 30 rfl (by decide) (fun c1 => ?_) (fun c1 => ?_)
  · exact absurd (isP_nI (by omega) hp) (by rw [zb_eq0.mp c1]; decide)
  · refine zv_aload_n C dX2_isAbove_13 14 rfl 0 rfl ?_
    refine zv_iload_n C dX2_isAbove_14 15 rfl 2 rfl ?_
    refine zv_callVR (rest := []) C (k_X2_isPlace l D cI cZ h 0 n r y b f0 f1 f2 f3 f4 f5 f6 f7 f8 f9 f10 f11 f12 f13 (nI q) (by omega)) (cwV 1 C.1.2.2.2.2 gX2_isAbove_X2_isPlace rfl rfl rfl (by decide +kernel) ⟨Nat.le_of_ble_eq_true rfl, Nat.le_of_ble_eq_true rfl⟩) dX2_isAbove_15 18 rfl (ci := 2) 0 rfl rfl rfl rfl (Nat.le_of_ble_eq_true rfl) ⟨Nat.le_of_ble_eq_true rfl, Nat.le_of_ble_eq_true rfl⟩ [0, 1] rfl [0, 1, 2, 3, 4, 5, 6, 7, 8, 9, 10, 11, 12, 13, 14] rfl (by decide) (fun v hv => ?_)
    subst hv
    refine zv_go rfl rfl (st' := [.int (zb (isP n (nI q)))]) rfl (kc' := 0) rfl (ns' := 0) rfl ?_
    refine zv_if_eq C dX2_isAbove_18 21 30 rfl (by decide) (fun c2 => ?_) (fun c2 => ?_)
    · exact absurd (isP_nI (by omega) hq) (by rw [zb_eq0.mp c2]; decide)
    · refine zv_aload_n C dX2_isAbove_21 22 rfl 0 rfl ?_
      refine zv_iload_n C dX2_isAbove_22 23 rfl 1 rfl ?_
      refine zv_iload_n C dX2_isAbove_23 24 rfl 2 rfl ?_
      refine zv_callVR (rest := []) C (k_X2_above l D cI cZ h 0 n r y b f0 f1 f2 f3 f4 f5 f6 f7 f8 f9 f10 f11 f12 f13 p q s d (by omega) (by assumption) (by omega) (by omega)) (cwV 2 C.1.2.2.2.2 gX2_isAbove_X2_above rfl rfl rfl (by decide +kernel) ⟨Nat.le_of_ble_eq_true rfl, Nat.le_of_ble_eq_true rfl⟩) dX2_isAbove_24 27 rfl (ci := 2) 0 rfl rfl rfl rfl (Nat.le_of_ble_eq_true rfl) ⟨Nat.le_of_ble_eq_true rfl, Nat.le_of_ble_eq_true rfl⟩ [0, 1] rfl [0, 1, 2, 3, 4, 5, 6, 7, 8, 9, 10, 11, 12, 13, 14] rfl (by decide) (fun v hv => ?_)
      subst hv
      refine zv_go rfl rfl (st' := [.int (zb (fl f0 (nI q) 16 (f0 p)))]) rfl (kc' := 0) rfl (ns' := 0) rfl ?_
      refine zv_goto C dX2_isAbove_27 35 (by decide) ?_
      exact zv_zret C (zb_narrow _) hr hlk hQ dX2_isAbove_35 ⟨rfl, rfl⟩
set_option maxHeartbeats 4000000 in
set_option maxRecDepth 100000 in
theorem k_X2_isAbove_n1 (l : Launch) (D : va_G) (cI cZ : ClassId) (h : Nat → Nat) (t : Int32) (n : Nat) (r y : Int32) (b : Nat) (f0 f1 f2 f3 f4 f5 f6 f7 f8 f9 f10 f11 f12 f13 : Nat → Int32) (i j : Int32) (hn : n ≤ 16) (hf : isP n i = false) : zv_M l yX2_isAbove wsX2_isAbove rmX2_isAbove D vwCl (tyL cI cZ) [.ref (h 0), .int i, .int j] (cM cI cZ h t (nI n) r y (nI b) f0 f1 f2 f3 f4 f5 f6 f7 f8 f9 f10 f11 f12 f13) (fun v w => v = some (.int 0) ∧ w = (cM cI cZ h 1 (nI n) r y (nI b) f0 f1 f2 f3 f4 f5 f6 f7 f8 f9 f10 f11 f12 f13)) := by
  refine zv_M.of cX2_isAbove 3 (some .boolean) (by decide) rfl (Nat.le_of_ble_eq_true rfl) ?_
  intro pP eE sS mM aA bB mT cD A C hr hlk hnm Q hQ
  have inX2 : ∀ w ∈ u_ws RX2 TX2 19, w ∈ wsX2_isAbove := by decide +kernel
  have lk53 : Cond.fieldLink RX2 53 "RiverNamesModel" "thrown" "I" ∈ wsX2_isAbove := by decide +kernel
  refine zv_go (pc' := 0) rfl (lv' := [(0, .ref (h 0)), (1, .int i), (2, .int j)]) rfl rfl rfl rfl ?_
  refine zv_aload_n C dX2_isAbove_0 1 rfl 0 rfl ?_
  refine zv_iconst (v := 0) C dX2_isAbove_1 2 rfl (by decide) ?_
  refine zv_put (ci := 2) C inX2 rfl tyX2_ok nmX2 dX2_isAbove_2 5 rfl 0 0 rfl (by decide) lk53 rfl rfl rfl (Nat.le_of_ble_eq_true rfl) (cM cI cZ h 0 (nI n) r y (nI b) f0 f1 f2 f3 f4 f5 f6 f7 f8 f9 f10 f11 f12 f13) rfl ?_
  refine zv_aload_n C dX2_isAbove_5 6 rfl 0 rfl ?_
  refine zv_iload_n C dX2_isAbove_6 7 rfl 1 rfl ?_
  refine zv_callVR (rest := []) C (k_X2_isPlace l D cI cZ h 0 n r y b f0 f1 f2 f3 f4 f5 f6 f7 f8 f9 f10 f11 f12 f13 i (by omega)) (cwV 1 C.1.2.2.2.2 gX2_isAbove_X2_isPlace rfl rfl rfl (by decide +kernel) ⟨Nat.le_of_ble_eq_true rfl, Nat.le_of_ble_eq_true rfl⟩) dX2_isAbove_7 10 rfl (ci := 2) 0 rfl rfl rfl rfl (Nat.le_of_ble_eq_true rfl) ⟨Nat.le_of_ble_eq_true rfl, Nat.le_of_ble_eq_true rfl⟩ [0, 1] rfl [0, 1, 2, 3, 4, 5, 6, 7, 8, 9, 10, 11, 12, 13, 14] rfl (by decide) (fun v hv => ?_)
  subst hv
  refine zv_go rfl rfl (st' := [.int (zb (isP n i))]) rfl (kc' := 0) rfl (ns' := 0) rfl ?_
  refine zv_if_eq C dX2_isAbove_10 13 30 rfl (by decide) (fun c1 => ?_) (fun c1 => ?_)
  · refine zv_aload_n C dX2_isAbove_30 31 rfl 0 rfl ?_
    refine zv_iconst (v := 1) C dX2_isAbove_31 32 rfl (by decide) ?_
    refine zv_callV (rest := []) (wr := []) C (k_X2_isNot l D cI cZ h 0 n r y b f0 f1 f2 f3 f4 f5 f6 f7 f8 f9 f10 f11 f12 f13 1) (cwV 1 C.1.2.2.2.2 gX2_isAbove_X2_isNot rfl rfl rfl (by decide +kernel) ⟨Nat.le_of_ble_eq_true rfl, Nat.le_of_ble_eq_true rfl⟩) dX2_isAbove_32 35 rfl (ci := 2) 0 rfl rfl rfl rfl (Nat.le_of_ble_eq_true rfl) ⟨Nat.le_of_ble_eq_true rfl, Nat.le_of_ble_eq_true rfl⟩ [0, 1] rfl [0, 1, 2, 3, 4, 5, 6, 7, 8, 9, 10, 11, 12, 13, 14] rfl (by decide) [] rfl (by decide) (by decide +kernel) (fun v w hv => ?_)
    obtain ⟨rfl, rfl⟩ := hv
    refine zv_go rfl rfl (st' := [.int 0]) rfl (kc' := 0) rfl (ns' := 0) rfl ?_
    refine zv_wd (ws' := (cM cI cZ h 1 (nI n) r y (nI b) f0 f1 f2 f3 f4 f5 f6 f7 f8 f9 f10 f11 f12 f13)) rfl ?_
    exact zv_zret C (by decide) hr hlk hQ dX2_isAbove_35 ⟨rfl, rfl⟩
  · exact absurd hf (by rw [zb_ne0.mp c1]; decide)
set_option maxHeartbeats 4000000 in
set_option maxRecDepth 100000 in
theorem k_X2_isAbove_n2 (l : Launch) (D : va_G) (cI cZ : ClassId) (h : Nat → Nat) (t : Int32) (n : Nat) (r y : Int32) (b : Nat) (f0 f1 f2 f3 f4 f5 f6 f7 f8 f9 f10 f11 f12 f13 : Nat → Int32) (p : Nat) (j : Int32) (hn : n ≤ 16) (hp : p < n) (hf : isP n j = false) : zv_M l yX2_isAbove wsX2_isAbove rmX2_isAbove D vwCl (tyL cI cZ) [.ref (h 0), .int (nI p), .int j] (cM cI cZ h t (nI n) r y (nI b) f0 f1 f2 f3 f4 f5 f6 f7 f8 f9 f10 f11 f12 f13) (fun v w => v = some (.int 0) ∧ w = (cM cI cZ h 1 (nI n) r y (nI b) f0 f1 f2 f3 f4 f5 f6 f7 f8 f9 f10 f11 f12 f13)) := by
  refine zv_M.of cX2_isAbove 3 (some .boolean) (by decide) rfl (Nat.le_of_ble_eq_true rfl) ?_
  intro pP eE sS mM aA bB mT cD A C hr hlk hnm Q hQ
  have inX2 : ∀ w ∈ u_ws RX2 TX2 19, w ∈ wsX2_isAbove := by decide +kernel
  have lk53 : Cond.fieldLink RX2 53 "RiverNamesModel" "thrown" "I" ∈ wsX2_isAbove := by decide +kernel
  refine zv_go (pc' := 0) rfl (lv' := [(0, .ref (h 0)), (1, .int (nI p)), (2, .int j)]) rfl rfl rfl rfl ?_
  refine zv_aload_n C dX2_isAbove_0 1 rfl 0 rfl ?_
  refine zv_iconst (v := 0) C dX2_isAbove_1 2 rfl (by decide) ?_
  refine zv_put (ci := 2) C inX2 rfl tyX2_ok nmX2 dX2_isAbove_2 5 rfl 0 0 rfl (by decide) lk53 rfl rfl rfl (Nat.le_of_ble_eq_true rfl) (cM cI cZ h 0 (nI n) r y (nI b) f0 f1 f2 f3 f4 f5 f6 f7 f8 f9 f10 f11 f12 f13) rfl ?_
  refine zv_aload_n C dX2_isAbove_5 6 rfl 0 rfl ?_
  refine zv_iload_n C dX2_isAbove_6 7 rfl 1 rfl ?_
  refine zv_callVR (rest := []) C (k_X2_isPlace l D cI cZ h 0 n r y b f0 f1 f2 f3 f4 f5 f6 f7 f8 f9 f10 f11 f12 f13 (nI p) (by omega)) (cwV 1 C.1.2.2.2.2 gX2_isAbove_X2_isPlace rfl rfl rfl (by decide +kernel) ⟨Nat.le_of_ble_eq_true rfl, Nat.le_of_ble_eq_true rfl⟩) dX2_isAbove_7 10 rfl (ci := 2) 0 rfl rfl rfl rfl (Nat.le_of_ble_eq_true rfl) ⟨Nat.le_of_ble_eq_true rfl, Nat.le_of_ble_eq_true rfl⟩ [0, 1] rfl [0, 1, 2, 3, 4, 5, 6, 7, 8, 9, 10, 11, 12, 13, 14] rfl (by decide) (fun v hv => ?_)
  subst hv
  refine zv_go rfl rfl (st' := [.int (zb (isP n (nI p)))]) rfl (kc' := 0) rfl (ns' := 0) rfl ?_
  refine zv_if_eq C dX2_isAbove_10 13 30 rfl (by decide) (fun c1 => ?_) (fun c1 => ?_)
  · exact absurd (isP_nI (by omega) hp) (by rw [zb_eq0.mp c1]; decide)
  · refine zv_aload_n C dX2_isAbove_13 14 rfl 0 rfl ?_
    refine zv_iload_n C dX2_isAbove_14 15 rfl 2 rfl ?_
    refine zv_callVR (rest := []) C (k_X2_isPlace l D cI cZ h 0 n r y b f0 f1 f2 f3 f4 f5 f6 f7 f8 f9 f10 f11 f12 f13 j (by omega)) (cwV 1 C.1.2.2.2.2 gX2_isAbove_X2_isPlace rfl rfl rfl (by decide +kernel) ⟨Nat.le_of_ble_eq_true rfl, Nat.le_of_ble_eq_true rfl⟩) dX2_isAbove_15 18 rfl (ci := 2) 0 rfl rfl rfl rfl (Nat.le_of_ble_eq_true rfl) ⟨Nat.le_of_ble_eq_true rfl, Nat.le_of_ble_eq_true rfl⟩ [0, 1] rfl [0, 1, 2, 3, 4, 5, 6, 7, 8, 9, 10, 11, 12, 13, 14] rfl (by decide) (fun v hv => ?_)
    subst hv
    refine zv_go rfl rfl (st' := [.int (zb (isP n j))]) rfl (kc' := 0) rfl (ns' := 0) rfl ?_
    refine zv_if_eq C dX2_isAbove_18 21 30 rfl (by decide) (fun c2 => ?_) (fun c2 => ?_)
    · refine zv_aload_n C dX2_isAbove_30 31 rfl 0 rfl ?_
      refine zv_iconst (v := 1) C dX2_isAbove_31 32 rfl (by decide) ?_
      refine zv_callV (rest := []) (wr := []) C (k_X2_isNot l D cI cZ h 0 n r y b f0 f1 f2 f3 f4 f5 f6 f7 f8 f9 f10 f11 f12 f13 1) (cwV 1 C.1.2.2.2.2 gX2_isAbove_X2_isNot rfl rfl rfl (by decide +kernel) ⟨Nat.le_of_ble_eq_true rfl, Nat.le_of_ble_eq_true rfl⟩) dX2_isAbove_32 35 rfl (ci := 2) 0 rfl rfl rfl rfl (Nat.le_of_ble_eq_true rfl) ⟨Nat.le_of_ble_eq_true rfl, Nat.le_of_ble_eq_true rfl⟩ [0, 1] rfl [0, 1, 2, 3, 4, 5, 6, 7, 8, 9, 10, 11, 12, 13, 14] rfl (by decide) [] rfl (by decide) (by decide +kernel) (fun v w hv => ?_)
      obtain ⟨rfl, rfl⟩ := hv
      refine zv_go rfl rfl (st' := [.int 0]) rfl (kc' := 0) rfl (ns' := 0) rfl ?_
      refine zv_wd (ws' := (cM cI cZ h 1 (nI n) r y (nI b) f0 f1 f2 f3 f4 f5 f6 f7 f8 f9 f10 f11 f12 f13)) rfl ?_
      exact zv_zret C (by decide) hr hlk hQ dX2_isAbove_35 ⟨rfl, rfl⟩
    · exact absurd hf (by rw [zb_ne0.mp c2]; decide)
abbrev rmX2_meeting : Room := { frames := 2, cells := 0, slots := 0, locals := 43 }
set_option maxHeartbeats 4000000 in
set_option maxRecDepth 100000 in
theorem k_X2_meeting_ok (l : Launch) (D : va_G) (cI cZ : ClassId) (h : Nat → Nat) (t : Int32) (n : Nat) (r y : Int32) (b : Nat) (f0 f1 f2 f3 f4 f5 f6 f7 f8 f9 f10 f11 f12 f13 : Nat → Int32) (a c : Nat) (s : Nat → Int32) (d : Nat → Nat) (hn : n ≤ 16) (hD : Dep n f0 s d) (ha : a < n) (hb : c < n) : zv_M l yX2_meeting wsX2_meeting rmX2_meeting D vwCl (tyL cI cZ) [.ref (h 0), .int (nI a), .int (nI c)] (cM cI cZ h t (nI n) r y (nI b) f0 f1 f2 f3 f4 f5 f6 f7 f8 f9 f10 f11 f12 f13) (fun v w => v = some (.int (fc f0 c 16 (nI a))) ∧ w = (cM cI cZ h 0 (nI n) r y (nI b) f0 f1 f2 f3 f4 f5 f6 f7 f8 f9 f10 f11 f12 f13)) := by
  refine zv_M.of cX2_meeting 4 (some .int) (by decide) rfl (Nat.le_of_ble_eq_true rfl) ?_
  intro pP eE sS mM aA bB mT cD A C hr hlk hnm Q hQ
  have inX2 : ∀ w ∈ u_ws RX2 TX2 19, w ∈ wsX2_meeting := by decide +kernel
  have lk9 : Cond.fieldLink RX2 9 "RiverNamesModel" "to" "[I" ∈ wsX2_meeting := by decide +kernel
  have lk53 : Cond.fieldLink RX2 53 "RiverNamesModel" "thrown" "I" ∈ wsX2_meeting := by decide +kernel
  have L29 : ∀ (mu_L29 : Nat), ∀ (k : Nat) (x : Int32), (Dx n d k x) → (fc f0 c 16 (nI a) = fc f0 c k x) → k < mu_L29 → zv_V pP l eE rmX2_meeting sS mM aA bB mT cD Q 4 D vwCl A A (tyL cI cZ) (cM cI cZ h 0 (nI n) r y (nI b) f0 f1 f2 f3 f4 f5 f6 f7 f8 f9 f10 f11 f12 f13) 0 0 29 [(0, .ref (h 0)), (1, .int (nI a)), (2, .int (nI c)), (3, .int x)] [] := by
    intro mu_L29
    induction mu_L29 with
    | zero => intro k x hx he hmu_L29; exact absurd hmu_L29 (Nat.not_lt_zero _)
    | succ mu_L29 ih_L29 =>
      intro k x hx he hmu_L29
      refine zv_iload_n C dX2_meeting_29 30 rfl 3 rfl ?_
      refine zv_iconst (v := (-1 : Int32)) C dX2_meeting_30 31 rfl (by decide) ?_
      refine zv_icmp_eq C dX2_meeting_31 34 58 rfl (by decide) (fun c1 => ?_) (fun c1 => ?_)
      · subst c1
        refine zv_iload_n C dX2_meeting_58 59 rfl 3 rfl ?_
        exact zv_iret C hr hlk hQ dX2_meeting_59 ⟨(by rw [he, fc_neg _ _ _ (by decide)]), rfl⟩
      · obtain ⟨z, hz, hxq, hdk⟩ := hx.resolve_left c1
        subst hxq
        obtain ⟨k', rfl⟩ : ∃ k', k = k' + 1 := ⟨k - 1, by omega⟩
        refine zv_iload_n C dX2_meeting_34 35 rfl 3 rfl ?_
        refine zv_iload_n C dX2_meeting_35 36 rfl 2 rfl ?_
        refine zv_icmp_eq C dX2_meeting_36 39 58 rfl (by decide) (fun c2 => ?_) (fun c2 => ?_)
        · replace c2 := zn_eq (a := z) (b := c) (by omega) (by omega) c2
          refine zv_iload_n C dX2_meeting_58 59 rfl 3 rfl ?_
          exact zv_iret C hr hlk hQ dX2_meeting_59 ⟨(by rw [he, fc_hit _ _ (by omega) (Or.inl (congrArg nI c2))]), rfl⟩
        · replace c2 := zn_eq' (a := z) (b := c) (by omega) (by omega) c2
          refine zv_aload_n C dX2_meeting_39 40 rfl 0 rfl ?_
          refine zv_iload_n C dX2_meeting_40 41 rfl 2 rfl ?_
          refine zv_iload_n C dX2_meeting_41 42 rfl 3 rfl ?_
          refine zv_callVR (rest := []) C (k_X2_above l D cI cZ h 0 n r y b f0 f1 f2 f3 f4 f5 f6 f7 f8 f9 f10 f11 f12 f13 c z s d (by omega) (by assumption) (by omega) (by omega)) (cwV 2 C.1.2.2.2.2 gX2_meeting_X2_above rfl rfl rfl (by decide +kernel) ⟨Nat.le_of_ble_eq_true rfl, Nat.le_of_ble_eq_true rfl⟩) dX2_meeting_42 45 rfl (ci := 2) 0 rfl rfl rfl rfl (Nat.le_of_ble_eq_true rfl) ⟨Nat.le_of_ble_eq_true rfl, Nat.le_of_ble_eq_true rfl⟩ [0, 1] rfl [0, 1, 2, 3, 4, 5, 6, 7, 8, 9, 10, 11, 12, 13, 14] rfl (by decide) (fun v hv => ?_)
          subst hv
          refine zv_go rfl rfl (st' := [.int (zb (fl f0 (nI z) 16 (f0 c)))]) rfl (kc' := 0) rfl (ns' := 0) rfl ?_
          refine zv_if_ne C dX2_meeting_45 48 58 rfl (by decide) (fun c3 => ?_) (fun c3 => ?_)
          · replace c3 := zb_ne0.mp c3
            refine zv_iload_n C dX2_meeting_58 59 rfl 3 rfl ?_
            exact zv_iret C hr hlk hQ dX2_meeting_59 ⟨(by rw [he, fc_hit _ _ (by omega) (Or.inr c3)]), rfl⟩
          · replace c3 := zb_eq0.mp c3
            refine zv_aload_n C dX2_meeting_48 49 rfl 0 rfl ?_
            refine zv_get (ci := 2) C inX2 rfl dX2_meeting_49 52 rfl 0 4 rfl (by decide) lk9 rfl ?_
            refine zv_iload_n C dX2_meeting_52 53 rfl 3 rfl ?_
            refine zv_iald (v := (f0 z)) C dX2_meeting_53 54 rfl 1 0 z rfl rfl rfl (by omega) (by decide) rfl ?_
            refine zv_istore_n C dX2_meeting_54 55 rfl [(3, .int (f0 z)), (0, .ref (h 0)), (1, .int (nI a)), (2, .int (nI c))] (by decide) rfl ?_
            refine zv_goto C dX2_meeting_55 29 (by decide) ?_
            refine zv_sub [1, 2, 3, 0] (lv' := [(0, .ref (h 0)), (1, .int (nI a)), (2, .int (nI c)), (3, .int (f0 z))]) rfl ?_
            exact ih_L29 k' (f0 z) (hD.dx hz (by omega)) (by rw [he, fc_go _ _ (by omega) (fun y => c2 (zn_eq (by omega) (by omega) y)) c3]) (by omega)
  refine zv_go (pc' := 0) rfl (lv' := [(0, .ref (h 0)), (1, .int (nI a)), (2, .int (nI c))]) rfl rfl rfl rfl ?_
  refine zv_aload_n C dX2_meeting_0 1 rfl 0 rfl ?_
  refine zv_iconst (v := 0) C dX2_meeting_1 2 rfl (by decide) ?_
  refine zv_put (ci := 2) C inX2 rfl tyX2_ok nmX2 dX2_meeting_2 5 rfl 0 0 rfl (by decide) lk53 rfl rfl rfl (Nat.le_of_ble_eq_true rfl) (cM cI cZ h 0 (nI n) r y (nI b) f0 f1 f2 f3 f4 f5 f6 f7 f8 f9 f10 f11 f12 f13) rfl ?_
  refine zv_aload_n C dX2_meeting_5 6 rfl 0 rfl ?_
  refine zv_iload_n C dX2_meeting_6 7 rfl 1 rfl ?_
  refine zv_callVR (rest := []) C (k_X2_isPlace l D cI cZ h 0 n r y b f0 f1 f2 f3 f4 f5 f6 f7 f8 f9 f10 f11 f12 f13 (nI a) (by omega)) (cwV 1 C.1.2.2.2.2 gX2_meeting_X2_isPlace rfl rfl rfl (by decide +kernel) ⟨Nat.le_of_ble_eq_true rfl, Nat.le_of_ble_eq_true rfl⟩) dX2_meeting_7 10 rfl (ci := 2) 0 rfl rfl rfl rfl (Nat.le_of_ble_eq_true rfl) ⟨Nat.le_of_ble_eq_true rfl, Nat.le_of_ble_eq_true rfl⟩ [0, 1] rfl [0, 1, 2, 3, 4, 5, 6, 7, 8, 9, 10, 11, 12, 13, 14] rfl (by decide) (fun v hv => ?_)
  subst hv
  refine zv_go rfl rfl (st' := [.int (zb (isP n (nI a)))]) rfl (kc' := 0) rfl (ns' := 0) rfl ?_
  refine zv_if_eq C dX2_meeting_10 13 21 rfl (by decide) (fun c4 => ?_) (fun c4 => ?_)
  · exact absurd (isP_nI (by omega) ha) (by rw [zb_eq0.mp c4]; decide)
  · refine zv_aload_n C dX2_meeting_13 14 rfl 0 rfl ?_
    refine zv_iload_n C dX2_meeting_14 15 rfl 2 rfl ?_
    refine zv_callVR (rest := []) C (k_X2_isPlace l D cI cZ h 0 n r y b f0 f1 f2 f3 f4 f5 f6 f7 f8 f9 f10 f11 f12 f13 (nI c) (by omega)) (cwV 1 C.1.2.2.2.2 gX2_meeting_X2_isPlace rfl rfl rfl (by decide +kernel) ⟨Nat.le_of_ble_eq_true rfl, Nat.le_of_ble_eq_true rfl⟩) dX2_meeting_15 18 rfl (ci := 2) 0 rfl rfl rfl rfl (Nat.le_of_ble_eq_true rfl) ⟨Nat.le_of_ble_eq_true rfl, Nat.le_of_ble_eq_true rfl⟩ [0, 1] rfl [0, 1, 2, 3, 4, 5, 6, 7, 8, 9, 10, 11, 12, 13, 14] rfl (by decide) (fun v hv => ?_)
    subst hv
    refine zv_go rfl rfl (st' := [.int (zb (isP n (nI c)))]) rfl (kc' := 0) rfl (ns' := 0) rfl ?_
    refine zv_if_ne C dX2_meeting_18 21 27 rfl (by decide) (fun c5 => ?_) (fun c5 => ?_)
    · refine zv_iload_n C dX2_meeting_27 28 rfl 1 rfl ?_
      refine zv_istore_n C dX2_meeting_28 29 rfl [(3, .int (nI a)), (0, .ref (h 0)), (1, .int (nI a)), (2, .int (nI c))] (by decide) rfl ?_
      refine zv_sub [1, 2, 3, 0] (lv' := [(0, .ref (h 0)), (1, .int (nI a)), (2, .int (nI c)), (3, .int (nI a))]) rfl ?_
      exact L29 _ 16 (nI a) (Or.inr ⟨a, ha, rfl, (by have := (hD a ha).1; omega)⟩) rfl (Nat.lt_succ_self _)
    · exact absurd (isP_nI (by omega) hb) (by rw [zb_eq0.mp c5]; decide)
set_option maxHeartbeats 4000000 in
set_option maxRecDepth 100000 in
theorem k_X2_meeting_n1 (l : Launch) (D : va_G) (cI cZ : ClassId) (h : Nat → Nat) (t : Int32) (n : Nat) (r y : Int32) (b : Nat) (f0 f1 f2 f3 f4 f5 f6 f7 f8 f9 f10 f11 f12 f13 : Nat → Int32) (i j : Int32) (hn : n ≤ 16) (hf : isP n i = false) : zv_M l yX2_meeting wsX2_meeting rmX2_meeting D vwCl (tyL cI cZ) [.ref (h 0), .int i, .int j] (cM cI cZ h t (nI n) r y (nI b) f0 f1 f2 f3 f4 f5 f6 f7 f8 f9 f10 f11 f12 f13) (fun v w => v = some (.int 0) ∧ w = (cM cI cZ h 1 (nI n) r y (nI b) f0 f1 f2 f3 f4 f5 f6 f7 f8 f9 f10 f11 f12 f13)) := by
  refine zv_M.of cX2_meeting 4 (some .int) (by decide) rfl (Nat.le_of_ble_eq_true rfl) ?_
  intro pP eE sS mM aA bB mT cD A C hr hlk hnm Q hQ
  have inX2 : ∀ w ∈ u_ws RX2 TX2 19, w ∈ wsX2_meeting := by decide +kernel
  have lk53 : Cond.fieldLink RX2 53 "RiverNamesModel" "thrown" "I" ∈ wsX2_meeting := by decide +kernel
  refine zv_go (pc' := 0) rfl (lv' := [(0, .ref (h 0)), (1, .int i), (2, .int j)]) rfl rfl rfl rfl ?_
  refine zv_aload_n C dX2_meeting_0 1 rfl 0 rfl ?_
  refine zv_iconst (v := 0) C dX2_meeting_1 2 rfl (by decide) ?_
  refine zv_put (ci := 2) C inX2 rfl tyX2_ok nmX2 dX2_meeting_2 5 rfl 0 0 rfl (by decide) lk53 rfl rfl rfl (Nat.le_of_ble_eq_true rfl) (cM cI cZ h 0 (nI n) r y (nI b) f0 f1 f2 f3 f4 f5 f6 f7 f8 f9 f10 f11 f12 f13) rfl ?_
  refine zv_aload_n C dX2_meeting_5 6 rfl 0 rfl ?_
  refine zv_iload_n C dX2_meeting_6 7 rfl 1 rfl ?_
  refine zv_callVR (rest := []) C (k_X2_isPlace l D cI cZ h 0 n r y b f0 f1 f2 f3 f4 f5 f6 f7 f8 f9 f10 f11 f12 f13 i (by omega)) (cwV 1 C.1.2.2.2.2 gX2_meeting_X2_isPlace rfl rfl rfl (by decide +kernel) ⟨Nat.le_of_ble_eq_true rfl, Nat.le_of_ble_eq_true rfl⟩) dX2_meeting_7 10 rfl (ci := 2) 0 rfl rfl rfl rfl (Nat.le_of_ble_eq_true rfl) ⟨Nat.le_of_ble_eq_true rfl, Nat.le_of_ble_eq_true rfl⟩ [0, 1] rfl [0, 1, 2, 3, 4, 5, 6, 7, 8, 9, 10, 11, 12, 13, 14] rfl (by decide) (fun v hv => ?_)
  subst hv
  refine zv_go rfl rfl (st' := [.int (zb (isP n i))]) rfl (kc' := 0) rfl (ns' := 0) rfl ?_
  refine zv_if_eq C dX2_meeting_10 13 21 rfl (by decide) (fun c1 => ?_) (fun c1 => ?_)
  · refine zv_aload_n C dX2_meeting_21 22 rfl 0 rfl ?_
    refine zv_iconst (v := 1) C dX2_meeting_22 23 rfl (by decide) ?_
    refine zv_callV (rest := []) (wr := []) C (k_X2_no l D cI cZ h 0 n r y b f0 f1 f2 f3 f4 f5 f6 f7 f8 f9 f10 f11 f12 f13 1) (cwV 1 C.1.2.2.2.2 gX2_meeting_X2_no rfl rfl rfl (by decide +kernel) ⟨Nat.le_of_ble_eq_true rfl, Nat.le_of_ble_eq_true rfl⟩) dX2_meeting_23 26 rfl (ci := 2) 0 rfl rfl rfl rfl (Nat.le_of_ble_eq_true rfl) ⟨Nat.le_of_ble_eq_true rfl, Nat.le_of_ble_eq_true rfl⟩ [0, 1] rfl [0, 1, 2, 3, 4, 5, 6, 7, 8, 9, 10, 11, 12, 13, 14] rfl (by decide) [] rfl (by decide) (by decide +kernel) (fun v w hv => ?_)
    obtain ⟨rfl, rfl⟩ := hv
    refine zv_go rfl rfl (st' := [.int 0]) rfl (kc' := 0) rfl (ns' := 0) rfl ?_
    refine zv_wd (ws' := (cM cI cZ h 1 (nI n) r y (nI b) f0 f1 f2 f3 f4 f5 f6 f7 f8 f9 f10 f11 f12 f13)) rfl ?_
    exact zv_iret C hr hlk hQ dX2_meeting_26 ⟨rfl, rfl⟩
  · exact absurd hf (by rw [zb_ne0.mp c1]; decide)
set_option maxHeartbeats 4000000 in
set_option maxRecDepth 100000 in
theorem k_X2_meeting_n2 (l : Launch) (D : va_G) (cI cZ : ClassId) (h : Nat → Nat) (t : Int32) (n : Nat) (r y : Int32) (b : Nat) (f0 f1 f2 f3 f4 f5 f6 f7 f8 f9 f10 f11 f12 f13 : Nat → Int32) (p : Nat) (j : Int32) (hn : n ≤ 16) (hp : p < n) (hf : isP n j = false) : zv_M l yX2_meeting wsX2_meeting rmX2_meeting D vwCl (tyL cI cZ) [.ref (h 0), .int (nI p), .int j] (cM cI cZ h t (nI n) r y (nI b) f0 f1 f2 f3 f4 f5 f6 f7 f8 f9 f10 f11 f12 f13) (fun v w => v = some (.int 0) ∧ w = (cM cI cZ h 1 (nI n) r y (nI b) f0 f1 f2 f3 f4 f5 f6 f7 f8 f9 f10 f11 f12 f13)) := by
  refine zv_M.of cX2_meeting 4 (some .int) (by decide) rfl (Nat.le_of_ble_eq_true rfl) ?_
  intro pP eE sS mM aA bB mT cD A C hr hlk hnm Q hQ
  have inX2 : ∀ w ∈ u_ws RX2 TX2 19, w ∈ wsX2_meeting := by decide +kernel
  have lk53 : Cond.fieldLink RX2 53 "RiverNamesModel" "thrown" "I" ∈ wsX2_meeting := by decide +kernel
  refine zv_go (pc' := 0) rfl (lv' := [(0, .ref (h 0)), (1, .int (nI p)), (2, .int j)]) rfl rfl rfl rfl ?_
  refine zv_aload_n C dX2_meeting_0 1 rfl 0 rfl ?_
  refine zv_iconst (v := 0) C dX2_meeting_1 2 rfl (by decide) ?_
  refine zv_put (ci := 2) C inX2 rfl tyX2_ok nmX2 dX2_meeting_2 5 rfl 0 0 rfl (by decide) lk53 rfl rfl rfl (Nat.le_of_ble_eq_true rfl) (cM cI cZ h 0 (nI n) r y (nI b) f0 f1 f2 f3 f4 f5 f6 f7 f8 f9 f10 f11 f12 f13) rfl ?_
  refine zv_aload_n C dX2_meeting_5 6 rfl 0 rfl ?_
  refine zv_iload_n C dX2_meeting_6 7 rfl 1 rfl ?_
  refine zv_callVR (rest := []) C (k_X2_isPlace l D cI cZ h 0 n r y b f0 f1 f2 f3 f4 f5 f6 f7 f8 f9 f10 f11 f12 f13 (nI p) (by omega)) (cwV 1 C.1.2.2.2.2 gX2_meeting_X2_isPlace rfl rfl rfl (by decide +kernel) ⟨Nat.le_of_ble_eq_true rfl, Nat.le_of_ble_eq_true rfl⟩) dX2_meeting_7 10 rfl (ci := 2) 0 rfl rfl rfl rfl (Nat.le_of_ble_eq_true rfl) ⟨Nat.le_of_ble_eq_true rfl, Nat.le_of_ble_eq_true rfl⟩ [0, 1] rfl [0, 1, 2, 3, 4, 5, 6, 7, 8, 9, 10, 11, 12, 13, 14] rfl (by decide) (fun v hv => ?_)
  subst hv
  refine zv_go rfl rfl (st' := [.int (zb (isP n (nI p)))]) rfl (kc' := 0) rfl (ns' := 0) rfl ?_
  refine zv_if_eq C dX2_meeting_10 13 21 rfl (by decide) (fun c1 => ?_) (fun c1 => ?_)
  · exact absurd (isP_nI (by omega) hp) (by rw [zb_eq0.mp c1]; decide)
  · refine zv_aload_n C dX2_meeting_13 14 rfl 0 rfl ?_
    refine zv_iload_n C dX2_meeting_14 15 rfl 2 rfl ?_
    refine zv_callVR (rest := []) C (k_X2_isPlace l D cI cZ h 0 n r y b f0 f1 f2 f3 f4 f5 f6 f7 f8 f9 f10 f11 f12 f13 j (by omega)) (cwV 1 C.1.2.2.2.2 gX2_meeting_X2_isPlace rfl rfl rfl (by decide +kernel) ⟨Nat.le_of_ble_eq_true rfl, Nat.le_of_ble_eq_true rfl⟩) dX2_meeting_15 18 rfl (ci := 2) 0 rfl rfl rfl rfl (Nat.le_of_ble_eq_true rfl) ⟨Nat.le_of_ble_eq_true rfl, Nat.le_of_ble_eq_true rfl⟩ [0, 1] rfl [0, 1, 2, 3, 4, 5, 6, 7, 8, 9, 10, 11, 12, 13, 14] rfl (by decide) (fun v hv => ?_)
    subst hv
    refine zv_go rfl rfl (st' := [.int (zb (isP n j))]) rfl (kc' := 0) rfl (ns' := 0) rfl ?_
    refine zv_if_ne C dX2_meeting_18 21 27 rfl (by decide) (fun c2 => ?_) (fun c2 => ?_)
    · exact absurd hf (by rw [zb_ne0.mp c2]; decide)
    · refine zv_aload_n C dX2_meeting_21 22 rfl 0 rfl ?_
      refine zv_iconst (v := 1) C dX2_meeting_22 23 rfl (by decide) ?_
      refine zv_callV (rest := []) (wr := []) C (k_X2_no l D cI cZ h 0 n r y b f0 f1 f2 f3 f4 f5 f6 f7 f8 f9 f10 f11 f12 f13 1) (cwV 1 C.1.2.2.2.2 gX2_meeting_X2_no rfl rfl rfl (by decide +kernel) ⟨Nat.le_of_ble_eq_true rfl, Nat.le_of_ble_eq_true rfl⟩) dX2_meeting_23 26 rfl (ci := 2) 0 rfl rfl rfl rfl (Nat.le_of_ble_eq_true rfl) ⟨Nat.le_of_ble_eq_true rfl, Nat.le_of_ble_eq_true rfl⟩ [0, 1] rfl [0, 1, 2, 3, 4, 5, 6, 7, 8, 9, 10, 11, 12, 13, 14] rfl (by decide) [] rfl (by decide) (by decide +kernel) (fun v w hv => ?_)
      obtain ⟨rfl, rfl⟩ := hv
      refine zv_go rfl rfl (st' := [.int 0]) rfl (kc' := 0) rfl (ns' := 0) rfl ?_
      refine zv_wd (ws' := (cM cI cZ h 1 (nI n) r y (nI b) f0 f1 f2 f3 f4 f5 f6 f7 f8 f9 f10 f11 f12 f13)) rfl ?_
      exact zv_iret C hr hlk hQ dX2_meeting_26 ⟨rfl, rfl⟩
