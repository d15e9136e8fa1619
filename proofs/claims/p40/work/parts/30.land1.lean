abbrev rmX0_size : Room := { frames := 0, cells := 0, slots := 0, locals := 0 }
set_option maxHeartbeats 4000000 in
set_option maxRecDepth 100000 in
theorem k_X0_size (l : Launch) (D : va_G) (cI cZ : ClassId) (h : Nat → Nat) (n : Nat) (r : Int32) (f0 f1 f2 f3 f4 f5 f6 f7 f8 f9 f10 f11 f12 f13 : Nat → Int32) : zv_R l yX0_size wsX0_size rmX0_size D vwCl (tyL cI cZ) [.ref (h 0)] (cL cI cZ h (nI n) r f0 f1 f2 f3 f4 f5 f6 f7 f8 f9 f10 f11 f12 f13) (fun v => v = some (.int (nI n))) := by
  refine zv_R.of cX0_size 1 (some .int) (by decide) rfl (Nat.le_of_ble_eq_true rfl) ?_
  intro pP eE sS mM aA bB mT cD A C hr hlk hA Q hQ
  have inX0 : ∀ w ∈ u_ws RX0 TX0 16, w ∈ wsX0_size := by decide +kernel
  have lk9 : Cond.fieldLink RX0 9 "RiverNames$Land" "count" "I" ∈ wsX0_size := by decide +kernel
  refine zv_go (pc' := 0) rfl (lv' := [(0, .ref (h 0))]) rfl rfl rfl rfl ?_
  refine zv_aload_n C dX0_size_0 1 rfl 0 rfl ?_
  refine zv_get (ci := 0) C inX0 rfl dX0_size_1 4 rfl 0 0 rfl (by decide) lk9 rfl ?_
  exact zv_iretR C hr hlk hA hQ dX0_size_4 rfl
abbrev rmX0_ruleNow : Room := { frames := 0, cells := 0, slots := 0, locals := 0 }
set_option maxHeartbeats 4000000 in
set_option maxRecDepth 100000 in
theorem k_X0_ruleNow (l : Launch) (D : va_G) (cI cZ : ClassId) (h : Nat → Nat) (n : Nat) (r : Int32) (f0 f1 f2 f3 f4 f5 f6 f7 f8 f9 f10 f11 f12 f13 : Nat → Int32) : zv_R l yX0_ruleNow wsX0_ruleNow rmX0_ruleNow D vwCl (tyL cI cZ) [.ref (h 0)] (cL cI cZ h (nI n) r f0 f1 f2 f3 f4 f5 f6 f7 f8 f9 f10 f11 f12 f13) (fun v => v = some (.int r)) := by
  refine zv_R.of cX0_ruleNow 1 (some .int) (by decide) rfl (Nat.le_of_ble_eq_true rfl) ?_
  intro pP eE sS mM aA bB mT cD A C hr hlk hA Q hQ
  have inX0 : ∀ w ∈ u_ws RX0 TX0 16, w ∈ wsX0_ruleNow := by decide +kernel
  have lk15 : Cond.fieldLink RX0 15 "RiverNames$Land" "rule" "I" ∈ wsX0_ruleNow := by decide +kernel
  refine zv_go (pc' := 0) rfl (lv' := [(0, .ref (h 0))]) rfl rfl rfl rfl ?_
  refine zv_aload_n C dX0_ruleNow_0 1 rfl 0 rfl ?_
  refine zv_get (ci := 0) C inX0 rfl dX0_ruleNow_1 4 rfl 0 1 rfl (by decide) lk15 rfl ?_
  exact zv_iretR C hr hlk hA hQ dX0_ruleNow_4 rfl
abbrev rmX0_isPlace : Room := { frames := 0, cells := 0, slots := 0, locals := 0 }
set_option maxHeartbeats 4000000 in
set_option maxRecDepth 100000 in
theorem k_X0_isPlace (l : Launch) (D : va_G) (cI cZ : ClassId) (h : Nat → Nat) (n : Nat) (r : Int32) (f0 f1 f2 f3 f4 f5 f6 f7 f8 f9 f10 f11 f12 f13 : Nat → Int32) (i : Int32) : zv_R l yX0_isPlace wsX0_isPlace rmX0_isPlace D vwCl (tyL cI cZ) [.ref (h 0), .int i] (cL cI cZ h (nI n) r f0 f1 f2 f3 f4 f5 f6 f7 f8 f9 f10 f11 f12 f13) (fun v => v = some (.int (zb (isP n i)))) := by
  refine zv_R.of cX0_isPlace 2 (some .boolean) (by decide) rfl (Nat.le_of_ble_eq_true rfl) ?_
  intro pP eE sS mM aA bB mT cD A C hr hlk hA Q hQ
  have inX0 : ∀ w ∈ u_ws RX0 TX0 16, w ∈ wsX0_isPlace := by decide +kernel
  have lk9 : Cond.fieldLink RX0 9 "RiverNames$Land" "count" "I" ∈ wsX0_isPlace := by decide +kernel
  refine zv_go (pc' := 0) rfl (lv' := [(0, .ref (h 0)), (1, .int i)]) rfl rfl rfl rfl ?_
  refine zv_iload_n C dX0_isPlace_0 1 rfl 1 rfl ?_
  refine zv_if_lt C dX0_isPlace_1 4 16 rfl (by decide) (fun c1 => ?_) (fun c1 => ?_)
  · refine zv_iconst (v := 0) C dX0_isPlace_16 17 rfl (by decide) ?_
    exact zv_zretR C (by decide) hr hlk hA hQ dX0_isPlace_17 (by simp [isP, zb, c1])
  · refine zv_iload_n C dX0_isPlace_4 5 rfl 1 rfl ?_
    refine zv_aload_n C dX0_isPlace_5 6 rfl 0 rfl ?_
    refine zv_get (ci := 0) C inX0 rfl dX0_isPlace_6 9 rfl 0 0 rfl (by decide) lk9 rfl ?_
    refine zv_icmp_ge C dX0_isPlace_9 12 16 rfl (by decide) (fun c2 => ?_) (fun c2 => ?_)
    · refine zv_iconst (v := 0) C dX0_isPlace_16 17 rfl (by decide) ?_
      exact zv_zretR C (by decide) hr hlk hA hQ dX0_isPlace_17 (by simp [isP, zb, c1, c2])
    · refine zv_iconst (v := 1) C dX0_isPlace_12 13 rfl (by decide) ?_
      refine zv_goto C dX0_isPlace_13 17 (by decide) ?_
      exact zv_zretR C (by decide) hr hlk hA hQ dX0_isPlace_17 (by simp [isP, zb, c1, c2])
abbrev rmX0_next : Room := { frames := 0, cells := 0, slots := 0, locals := 0 }
set_option maxHeartbeats 4000000 in
set_option maxRecDepth 100000 in
theorem k_X0_next (l : Launch) (D : va_G) (cI cZ : ClassId) (h : Nat → Nat) (n : Nat) (r : Int32) (f0 f1 f2 f3 f4 f5 f6 f7 f8 f9 f10 f11 f12 f13 : Nat → Int32) (p : Nat) (hp : p < 16) : zv_R l yX0_next wsX0_next rmX0_next D vwCl (tyL cI cZ) [.ref (h 0), .int (nI p)] (cL cI cZ h (nI n) r f0 f1 f2 f3 f4 f5 f6 f7 f8 f9 f10 f11 f12 f13) (fun v => v = some (.int (f0 p))) := by
  refine zv_R.of cX0_next 2 (some .int) (by decide) rfl (Nat.le_of_ble_eq_true rfl) ?_
  intro pP eE sS mM aA bB mT cD A C hr hlk hA Q hQ
  have inX0 : ∀ w ∈ u_ws RX0 TX0 16, w ∈ wsX0_next := by decide +kernel
  have lk18 : Cond.fieldLink RX0 18 "RiverNames$Land" "ways" "[I" ∈ wsX0_next := by decide +kernel
  refine zv_go (pc' := 0) rfl (lv' := [(0, .ref (h 0)), (1, .int (nI p))]) rfl rfl rfl rfl ?_
  refine zv_aload_n C dX0_next_0 1 rfl 0 rfl ?_
  refine zv_get (ci := 0) C inX0 rfl dX0_next_1 4 rfl 0 2 rfl (by decide) lk18 rfl ?_
  refine zv_iload_n C dX0_next_4 5 rfl 1 rfl ?_
  refine zv_iald (v := (f0 p)) C dX0_next_5 6 rfl 1 0 p rfl rfl rfl (by omega) (by decide) rfl ?_
  exact zv_iretR C hr hlk hA hQ dX0_next_6 rfl
abbrev rmX0_isSprung : Room := { frames := 0, cells := 0, slots := 0, locals := 0 }
set_option maxHeartbeats 4000000 in
set_option maxRecDepth 100000 in
theorem k_X0_isSprung (l : Launch) (D : va_G) (cI cZ : ClassId) (h : Nat → Nat) (n : Nat) (r : Int32) (f0 f1 f2 f3 f4 f5 f6 f7 f8 f9 f10 f11 f12 f13 : Nat → Int32) (p : Nat) (hp : p < 16) (hz : zo (f2 p)) : zv_R l yX0_isSprung wsX0_isSprung rmX0_isSprung D vwCl (tyL cI cZ) [.ref (h 0), .int (nI p)] (cL cI cZ h (nI n) r f0 f1 f2 f3 f4 f5 f6 f7 f8 f9 f10 f11 f12 f13) (fun v => v = some (.int (f2 p))) := by
  refine zv_R.of cX0_isSprung 2 (some .boolean) (by decide) rfl (Nat.le_of_ble_eq_true rfl) ?_
  intro pP eE sS mM aA bB mT cD A C hr hlk hA Q hQ
  have inX0 : ∀ w ∈ u_ws RX0 TX0 16, w ∈ wsX0_isSprung := by decide +kernel
  have lk25 : Cond.fieldLink RX0 25 "RiverNames$Land" "sprung" "[Z" ∈ wsX0_isSprung := by decide +kernel
  refine zv_go (pc' := 0) rfl (lv' := [(0, .ref (h 0)), (1, .int (nI p))]) rfl rfl rfl rfl ?_
  refine zv_aload_n C dX0_isSprung_0 1 rfl 0 rfl ?_
  refine zv_get (ci := 0) C inX0 rfl dX0_isSprung_1 4 rfl 0 4 rfl (by decide) lk25 rfl ?_
  refine zv_iload_n C dX0_isSprung_4 5 rfl 1 rfl ?_
  refine zv_zald (v := (f2 p)) C dX0_isSprung_5 6 rfl 3 1 p rfl rfl rfl (by omega) (by decide) rfl ?_
  exact zv_zretR C (zo_narrow (by assumption)) hr hlk hA hQ dX0_isSprung_6 rfl
abbrev rmX0_springWaterOf : Room := { frames := 0, cells := 0, slots := 0, locals := 0 }
set_option maxHeartbeats 4000000 in
set_option maxRecDepth 100000 in
theorem k_X0_springWaterOf (l : Launch) (D : va_G) (cI cZ : ClassId) (h : Nat → Nat) (n : Nat) (r : Int32) (f0 f1 f2 f3 f4 f5 f6 f7 f8 f9 f10 f11 f12 f13 : Nat → Int32) (p : Nat) (hp : p < 16) : zv_R l yX0_springWaterOf wsX0_springWaterOf rmX0_springWaterOf D vwCl (tyL cI cZ) [.ref (h 0), .int (nI p)] (cL cI cZ h (nI n) r f0 f1 f2 f3 f4 f5 f6 f7 f8 f9 f10 f11 f12 f13) (fun v => v = some (.int (f4 p))) := by
  refine zv_R.of cX0_springWaterOf 2 (some .int) (by decide) rfl (Nat.le_of_ble_eq_true rfl) ?_
  intro pP eE sS mM aA bB mT cD A C hr hlk hA Q hQ
  have inX0 : ∀ w ∈ u_ws RX0 TX0 16, w ∈ wsX0_springWaterOf := by decide +kernel
  have lk32 : Cond.fieldLink RX0 32 "RiverNames$Land" "springWater" "[I" ∈ wsX0_springWaterOf := by decide +kernel
  refine zv_go (pc' := 0) rfl (lv' := [(0, .ref (h 0)), (1, .int (nI p))]) rfl rfl rfl rfl ?_
  refine zv_aload_n C dX0_springWaterOf_0 1 rfl 0 rfl ?_
  refine zv_get (ci := 0) C inX0 rfl dX0_springWaterOf_1 4 rfl 0 6 rfl (by decide) lk32 rfl ?_
  refine zv_iload_n C dX0_springWaterOf_4 5 rfl 1 rfl ?_
  refine zv_iald (v := (f4 p)) C dX0_springWaterOf_5 6 rfl 5 0 p rfl rfl rfl (by omega) (by decide) rfl ?_
  exact zv_iretR C hr hlk hA hQ dX0_springWaterOf_6 rfl
abbrev rmX0_isDelta : Room := { frames := 0, cells := 0, slots := 0, locals := 0 }
set_option maxHeartbeats 4000000 in
set_option maxRecDepth 100000 in
theorem k_X0_isDelta (l : Launch) (D : va_G) (cI cZ : ClassId) (h : Nat → Nat) (n : Nat) (r : Int32) (f0 f1 f2 f3 f4 f5 f6 f7 f8 f9 f10 f11 f12 f13 : Nat → Int32) (p : Nat) (hp : p < 16) (hz : zo (f6 p)) : zv_R l yX0_isDelta wsX0_isDelta rmX0_isDelta D vwCl (tyL cI cZ) [.ref (h 0), .int (nI p)] (cL cI cZ h (nI n) r f0 f1 f2 f3 f4 f5 f6 f7 f8 f9 f10 f11 f12 f13) (fun v => v = some (.int (f6 p))) := by
  refine zv_R.of cX0_isDelta 2 (some .boolean) (by decide) rfl (Nat.le_of_ble_eq_true rfl) ?_
  intro pP eE sS mM aA bB mT cD A C hr hlk hA Q hQ
  have inX0 : ∀ w ∈ u_ws RX0 TX0 16, w ∈ wsX0_isDelta := by decide +kernel
  have lk38 : Cond.fieldLink RX0 38 "RiverNames$Land" "deltas" "[Z" ∈ wsX0_isDelta := by decide +kernel
  refine zv_go (pc' := 0) rfl (lv' := [(0, .ref (h 0)), (1, .int (nI p))]) rfl rfl rfl rfl ?_
  refine zv_aload_n C dX0_isDelta_0 1 rfl 0 rfl ?_
  refine zv_get (ci := 0) C inX0 rfl dX0_isDelta_1 4 rfl 0 8 rfl (by decide) lk38 rfl ?_
  refine zv_iload_n C dX0_isDelta_4 5 rfl 1 rfl ?_
  refine zv_zald (v := (f6 p)) C dX0_isDelta_5 6 rfl 7 1 p rfl rfl rfl (by omega) (by decide) rfl ?_
  exact zv_zretR C (zo_narrow (by assumption)) hr hlk hA hQ dX0_isDelta_6 rfl
abbrev rmX0_waterOf : Room := { frames := 0, cells := 0, slots := 0, locals := 0 }
set_option maxHeartbeats 4000000 in
set_option maxRecDepth 100000 in
theorem k_X0_waterOf (l : Launch) (D : va_G) (cI cZ : ClassId) (h : Nat → Nat) (n : Nat) (r : Int32) (f0 f1 f2 f3 f4 f5 f6 f7 f8 f9 f10 f11 f12 f13 : Nat → Int32) (p : Nat) (hp : p < 16) : zv_R l yX0_waterOf wsX0_waterOf rmX0_waterOf D vwCl (tyL cI cZ) [.ref (h 0), .int (nI p)] (cL cI cZ h (nI n) r f0 f1 f2 f3 f4 f5 f6 f7 f8 f9 f10 f11 f12 f13) (fun v => v = some (.int (f7 p))) := by
  refine zv_R.of cX0_waterOf 2 (some .int) (by decide) rfl (Nat.le_of_ble_eq_true rfl) ?_
  intro pP eE sS mM aA bB mT cD A C hr hlk hA Q hQ
  have inX0 : ∀ w ∈ u_ws RX0 TX0 16, w ∈ wsX0_waterOf := by decide +kernel
  have lk41 : Cond.fieldLink RX0 41 "RiverNames$Land" "water" "[I" ∈ wsX0_waterOf := by decide +kernel
  refine zv_go (pc' := 0) rfl (lv' := [(0, .ref (h 0)), (1, .int (nI p))]) rfl rfl rfl rfl ?_
  refine zv_aload_n C dX0_waterOf_0 1 rfl 0 rfl ?_
  refine zv_get (ci := 0) C inX0 rfl dX0_waterOf_1 4 rfl 0 9 rfl (by decide) lk41 rfl ?_
  refine zv_iload_n C dX0_waterOf_4 5 rfl 1 rfl ?_
  refine zv_iald (v := (f7 p)) C dX0_waterOf_5 6 rfl 8 0 p rfl rfl rfl (by omega) (by decide) rfl ?_
  exact zv_iretR C hr hlk hA hQ dX0_waterOf_6 rfl
abbrev rmX0_lengthOf : Room := { frames := 0, cells := 0, slots := 0, locals := 0 }
set_option maxHeartbeats 4000000 in
set_option maxRecDepth 100000 in
theorem k_X0_lengthOf (l : Launch) (D : va_G) (cI cZ : ClassId) (h : Nat → Nat) (n : Nat) (r : Int32) (f0 f1 f2 f3 f4 f5 f6 f7 f8 f9 f10 f11 f12 f13 : Nat → Int32) (p : Nat) (hp : p < 16) : zv_R l yX0_lengthOf wsX0_lengthOf rmX0_lengthOf D vwCl (tyL cI cZ) [.ref (h 0), .int (nI p)] (cL cI cZ h (nI n) r f0 f1 f2 f3 f4 f5 f6 f7 f8 f9 f10 f11 f12 f13) (fun v => v = some (.int (f8 p))) := by
  refine zv_R.of cX0_lengthOf 2 (some .int) (by decide) rfl (Nat.le_of_ble_eq_true rfl) ?_
  intro pP eE sS mM aA bB mT cD A C hr hlk hA Q hQ
  have inX0 : ∀ w ∈ u_ws RX0 TX0 16, w ∈ wsX0_lengthOf := by decide +kernel
  have lk44 : Cond.fieldLink RX0 44 "RiverNames$Land" "lengths" "[I" ∈ wsX0_lengthOf := by decide +kernel
  refine zv_go (pc' := 0) rfl (lv' := [(0, .ref (h 0)), (1, .int (nI p))]) rfl rfl rfl rfl ?_
  refine zv_aload_n C dX0_lengthOf_0 1 rfl 0 rfl ?_
  refine zv_get (ci := 0) C inX0 rfl dX0_lengthOf_1 4 rfl 0 10 rfl (by decide) lk44 rfl ?_
  refine zv_iload_n C dX0_lengthOf_4 5 rfl 1 rfl ?_
  refine zv_iald (v := (f8 p)) C dX0_lengthOf_5 6 rfl 9 0 p rfl rfl rfl (by omega) (by decide) rfl ?_
  exact zv_iretR C hr hlk hA hQ dX0_lengthOf_6 rfl
abbrev rmX0_nameOf : Room := { frames := 0, cells := 0, slots := 0, locals := 0 }
set_option maxHeartbeats 4000000 in
set_option maxRecDepth 100000 in
theorem k_X0_nameOf (l : Launch) (D : va_G) (cI cZ : ClassId) (h : Nat → Nat) (n : Nat) (r : Int32) (f0 f1 f2 f3 f4 f5 f6 f7 f8 f9 f10 f11 f12 f13 : Nat → Int32) (p : Nat) (hp : p < 16) : zv_R l yX0_nameOf wsX0_nameOf rmX0_nameOf D vwCl (tyL cI cZ) [.ref (h 0), .int (nI p)] (cL cI cZ h (nI n) r f0 f1 f2 f3 f4 f5 f6 f7 f8 f9 f10 f11 f12 f13) (fun v => v = some (.int (f9 p))) := by
  refine zv_R.of cX0_nameOf 2 (some .int) (by decide) rfl (Nat.le_of_ble_eq_true rfl) ?_
  intro pP eE sS mM aA bB mT cD A C hr hlk hA Q hQ
  have inX0 : ∀ w ∈ u_ws RX0 TX0 16, w ∈ wsX0_nameOf := by decide +kernel
  have lk47 : Cond.fieldLink RX0 47 "RiverNames$Land" "names" "[I" ∈ wsX0_nameOf := by decide +kernel
  refine zv_go (pc' := 0) rfl (lv' := [(0, .ref (h 0)), (1, .int (nI p))]) rfl rfl rfl rfl ?_
  refine zv_aload_n C dX0_nameOf_0 1 rfl 0 rfl ?_
  refine zv_get (ci := 0) C inX0 rfl dX0_nameOf_1 4 rfl 0 11 rfl (by decide) lk47 rfl ?_
  refine zv_iload_n C dX0_nameOf_4 5 rfl 1 rfl ?_
  refine zv_iald (v := (f9 p)) C dX0_nameOf_5 6 rfl 10 0 p rfl rfl rfl (by omega) (by decide) rfl ?_
  exact zv_iretR C hr hlk hA hQ dX0_nameOf_6 rfl
abbrev rmX0_arguersAt : Room := { frames := 0, cells := 0, slots := 0, locals := 0 }
set_option maxHeartbeats 4000000 in
set_option maxRecDepth 100000 in
theorem k_X0_arguersAt (l : Launch) (D : va_G) (cI cZ : ClassId) (h : Nat → Nat) (n : Nat) (r : Int32) (f0 f1 f2 f3 f4 f5 f6 f7 f8 f9 f10 f11 f12 f13 : Nat → Int32) (p : Nat) (hp : p < 16) : zv_R l yX0_arguersAt wsX0_arguersAt rmX0_arguersAt D vwCl (tyL cI cZ) [.ref (h 0), .int (nI p)] (cL cI cZ h (nI n) r f0 f1 f2 f3 f4 f5 f6 f7 f8 f9 f10 f11 f12 f13) (fun v => v = some (.int (f10 p))) := by
  refine zv_R.of cX0_arguersAt 2 (some .int) (by decide) rfl (Nat.le_of_ble_eq_true rfl) ?_
  intro pP eE sS mM aA bB mT cD A C hr hlk hA Q hQ
  have inX0 : ∀ w ∈ u_ws RX0 TX0 16, w ∈ wsX0_arguersAt := by decide +kernel
  have lk50 : Cond.fieldLink RX0 50 "RiverNames$Land" "arguers" "[I" ∈ wsX0_arguersAt := by decide +kernel
  refine zv_go (pc' := 0) rfl (lv' := [(0, .ref (h 0)), (1, .int (nI p))]) rfl rfl rfl rfl ?_
  refine zv_aload_n C dX0_arguersAt_0 1 rfl 0 rfl ?_
  refine zv_get (ci := 0) C inX0 rfl dX0_arguersAt_1 4 rfl 0 12 rfl (by decide) lk50 rfl ?_
  refine zv_iload_n C dX0_arguersAt_4 5 rfl 1 rfl ?_
  refine zv_iald (v := (f10 p)) C dX0_arguersAt_5 6 rfl 11 0 p rfl rfl rfl (by omega) (by decide) rfl ?_
  exact zv_iretR C hr hlk hA hQ dX0_arguersAt_6 rfl
abbrev rmX0_isDisputed : Room := { frames := 0, cells := 0, slots := 0, locals := 0 }
set_option maxHeartbeats 4000000 in
set_option maxRecDepth 100000 in
theorem k_X0_isDisputed (l : Launch) (D : va_G) (cI cZ : ClassId) (h : Nat → Nat) (n : Nat) (r : Int32) (f0 f1 f2 f3 f4 f5 f6 f7 f8 f9 f10 f11 f12 f13 : Nat → Int32) (p : Nat) (hp : p < 16) (hz : zo (f11 p)) : zv_R l yX0_isDisputed wsX0_isDisputed rmX0_isDisputed D vwCl (tyL cI cZ) [.ref (h 0), .int (nI p)] (cL cI cZ h (nI n) r f0 f1 f2 f3 f4 f5 f6 f7 f8 f9 f10 f11 f12 f13) (fun v => v = some (.int (f11 p))) := by
  refine zv_R.of cX0_isDisputed 2 (some .boolean) (by decide) rfl (Nat.le_of_ble_eq_true rfl) ?_
  intro pP eE sS mM aA bB mT cD A C hr hlk hA Q hQ
  have inX0 : ∀ w ∈ u_ws RX0 TX0 16, w ∈ wsX0_isDisputed := by decide +kernel
  have lk53 : Cond.fieldLink RX0 53 "RiverNames$Land" "disputed" "[Z" ∈ wsX0_isDisputed := by decide +kernel
  refine zv_go (pc' := 0) rfl (lv' := [(0, .ref (h 0)), (1, .int (nI p))]) rfl rfl rfl rfl ?_
  refine zv_aload_n C dX0_isDisputed_0 1 rfl 0 rfl ?_
  refine zv_get (ci := 0) C inX0 rfl dX0_isDisputed_1 4 rfl 0 13 rfl (by decide) lk53 rfl ?_
  refine zv_iload_n C dX0_isDisputed_4 5 rfl 1 rfl ?_
  refine zv_zald (v := (f11 p)) C dX0_isDisputed_5 6 rfl 12 1 p rfl rfl rfl (by omega) (by decide) rfl ?_
  exact zv_zretR C (zo_narrow (by assumption)) hr hlk hA hQ dX0_isDisputed_6 rfl
abbrev rmX0_flowsTo : Room := { frames := 1, cells := 0, slots := 0, locals := 21 }
set_option maxHeartbeats 4000000 in
set_option maxRecDepth 100000 in
theorem k_X0_flowsTo (l : Launch) (D : va_G) (cI cZ : ClassId) (h : Nat → Nat) (n : Nat) (r : Int32) (f0 f1 f2 f3 f4 f5 f6 f7 f8 f9 f10 f11 f12 f13 : Nat → Int32) (p : Nat) (o : Int32) (hn : n ≤ 16) (hw : Vw n f0) (hp : p < n) : zv_R l yX0_flowsTo wsX0_flowsTo rmX0_flowsTo D vwCl (tyL cI cZ) [.ref (h 0), .int (nI p), .int o] (cL cI cZ h (nI n) r f0 f1 f2 f3 f4 f5 f6 f7 f8 f9 f10 f11 f12 f13) (fun v => v = some (.int (zb (fl f0 o 16 (f0 p))))) := by
  refine zv_R.of cX0_flowsTo 5 (some .boolean) (by decide) rfl (Nat.le_of_ble_eq_true rfl) ?_
  intro pP eE sS mM aA bB mT cD A C hr hlk hA Q hQ
  have inX0 : ∀ w ∈ u_ws RX0 TX0 16, w ∈ wsX0_flowsTo := by decide +kernel
  have lk18 : Cond.fieldLink RX0 18 "RiverNames$Land" "ways" "[I" ∈ wsX0_flowsTo := by decide +kernel
  have L10 : ∀ (mu_L10 : Nat), ∀ (k j : Nat) (x : Int32), (j + k = 16) → (Vx n x) → (fl f0 o 16 (f0 p) = fl f0 o k x) → k < mu_L10 → zv_V pP l eE rmX0_flowsTo sS mM aA bB mT cD Q 5 D vwCl A (fun _ => True) (tyL cI cZ) (cL cI cZ h (nI n) r f0 f1 f2 f3 f4 f5 f6 f7 f8 f9 f10 f11 f12 f13) 0 0 10 [(0, .ref (h 0)), (1, .int (nI p)), (2, .int o), (3, .int x), (4, .int (nI j))] [] := by
    intro mu_L10
    induction mu_L10 with
    | zero => intro k j x hk hx he hmu_L10; exact absurd hmu_L10 (Nat.not_lt_zero _)
    | succ mu_L10 ih_L10 =>
      intro k j x hk hx he hmu_L10
      refine zv_iload C dX0_flowsTo_10 12 rfl 4 rfl ?_
      refine zv_bipush (v := 16) C dX0_flowsTo_12 14 rfl (by decide) ?_
      refine zv_icmp_ge C dX0_flowsTo_14 17 45 rfl (by decide) (fun c1 => ?_) (fun c1 => ?_)
      · replace c1 := zn_le (a := 16) (b := j) (by omega) (by omega) c1
        obtain rfl : k = 0 := by omega
        refine zv_iconst (v := 0) C dX0_flowsTo_45 46 rfl (by decide) ?_
        exact zv_zretR C (by decide) hr hlk hA hQ dX0_flowsTo_46 (by rw [he]; rfl)
      · replace c1 := zn_le' (a := 16) (b := j) (by omega) (by omega) c1
        obtain ⟨k', rfl⟩ : ∃ k', k = k' + 1 := ⟨k - 1, by omega⟩
        refine zv_aload_n C dX0_flowsTo_17 18 rfl 0 rfl ?_
        refine zv_iload_n C dX0_flowsTo_18 19 rfl 3 rfl ?_
        refine zv_callVR (rest := []) C (k_X0_isPlace l D cI cZ h n r f0 f1 f2 f3 f4 f5 f6 f7 f8 f9 f10 f11 f12 f13 x) (cwV 1 C.1.2.2.2.2 gX0_flowsTo_X0_isPlace rfl rfl rfl (by decide +kernel) ⟨Nat.le_of_ble_eq_true rfl, Nat.le_of_ble_eq_true rfl⟩) dX0_flowsTo_19 22 rfl (ci := 0) 0 rfl rfl rfl rfl (Nat.le_of_ble_eq_true rfl) ⟨Nat.le_of_ble_eq_true rfl, Nat.le_of_ble_eq_true rfl⟩ [0, 1] rfl [0, 1, 2, 3, 4, 5, 6, 7, 8, 9, 10, 11, 12, 13, 14] rfl (by decide) (fun v hv => ?_)
        subst hv
        refine zv_go rfl rfl (st' := [.int (zb (isP n x))]) rfl (kc' := 0) rfl (ns' := 0) rfl ?_
        refine zv_if_eq C dX0_flowsTo_22 25 45 rfl (by decide) (fun c2 => ?_) (fun c2 => ?_)
        · replace c2 := zb_eq0.mp c2
          refine zv_iconst (v := 0) C dX0_flowsTo_45 46 rfl (by decide) ?_
          exact zv_zretR C (by decide) hr hlk hA hQ dX0_flowsTo_46 (by rw [he, fl_neg _ _ _ (hx.lt0 (by omega) c2)]; rfl)
        · replace c2 := zb_ne0.mp c2
          obtain ⟨q, hq, hxq⟩ := isP_true (by omega) c2
          subst hxq
          refine zv_iload_n C dX0_flowsTo_25 26 rfl 3 rfl ?_
          refine zv_iload_n C dX0_flowsTo_26 27 rfl 2 rfl ?_
          refine zv_icmp_ne C dX0_flowsTo_27 30 32 rfl (by decide) (fun c3 => ?_) (fun c3 => ?_)
          · refine zv_aload_n C dX0_flowsTo_32 33 rfl 0 rfl ?_
            refine zv_get (ci := 0) C inX0 rfl dX0_flowsTo_33 36 rfl 0 2 rfl (by decide) lk18 rfl ?_
            refine zv_iload_n C dX0_flowsTo_36 37 rfl 3 rfl ?_
            refine zv_iald (v := (f0 q)) C dX0_flowsTo_37 38 rfl 1 0 q rfl rfl rfl (by omega) (by decide) rfl ?_
            refine zv_istore_n C dX0_flowsTo_38 39 rfl [(3, .int (f0 q)), (0, .ref (h 0)), (1, .int (nI p)), (2, .int o), (4, .int (nI j))] (by decide) rfl ?_
            refine zv_iinc (v := (nI (j + 1))) C dX0_flowsTo_39 42 rfl [(4, .int (nI (j + 1))), (3, .int (f0 q)), (0, .ref (h 0)), (1, .int (nI p)), (2, .int o)] 4 rfl (nI_1 j) (by decide) rfl ?_
            refine zv_goto C dX0_flowsTo_42 10 (by decide) ?_
            refine zv_sub [2, 3, 4, 1, 0] (lv' := [(0, .ref (h 0)), (1, .int (nI p)), (2, .int o), (3, .int (f0 q)), (4, .int (nI (j + 1)))]) rfl ?_
            exact ih_L10 k' (j + 1) (f0 q) (by omega) (hw q hq) (by rw [he, fl_go _ _ (by omega) c3]) (by omega)
          · refine zv_iconst (v := 1) C dX0_flowsTo_30 31 rfl (by decide) ?_
            exact zv_zretR C (by decide) hr hlk hA hQ dX0_flowsTo_31 (by rw [he, fl_hit _ _ (by omega) c3]; rfl)
  refine zv_go (pc' := 0) rfl (lv' := [(0, .ref (h 0)), (1, .int (nI p)), (2, .int o)]) rfl rfl rfl rfl ?_
  refine zv_aload_n C dX0_flowsTo_0 1 rfl 0 rfl ?_
  refine zv_get (ci := 0) C inX0 rfl dX0_flowsTo_1 4 rfl 0 2 rfl (by decide) lk18 rfl ?_
  refine zv_iload_n C dX0_flowsTo_4 5 rfl 1 rfl ?_
  refine zv_iald (v := (f0 p)) C dX0_flowsTo_5 6 rfl 1 0 p rfl rfl rfl (by omega) (by decide) rfl ?_
  refine zv_istore_n C dX0_flowsTo_6 7 rfl [(3, .int (f0 p)), (0, .ref (h 0)), (1, .int (nI p)), (2, .int o)] (by decide) rfl ?_
  refine zv_iconst (v := 0) C dX0_flowsTo_7 8 rfl (by decide) ?_
  refine zv_istore C dX0_flowsTo_8 10 rfl [(4, .int 0), (3, .int (f0 p)), (0, .ref (h 0)), (1, .int (nI p)), (2, .int o)] (by decide) rfl ?_
  refine zv_sub [2, 3, 4, 1, 0] (lv' := [(0, .ref (h 0)), (1, .int (nI p)), (2, .int o), (3, .int (f0 p)), (4, .int 0)]) rfl ?_
  exact L10 _ 16 0 (f0 p) (by omega) (hw p hp) rfl (Nat.lt_succ_self _)
abbrev rmX0_lastOnWay : Room := { frames := 1, cells := 0, slots := 0, locals := 21 }
set_option maxHeartbeats 4000000 in
set_option maxRecDepth 100000 in
theorem k_X0_lastOnWay (l : Launch) (D : va_G) (cI cZ : ClassId) (h : Nat → Nat) (n : Nat) (r : Int32) (f0 f1 f2 f3 f4 f5 f6 f7 f8 f9 f10 f11 f12 f13 : Nat → Int32) (p : Nat) (hn : n ≤ 16) (hw : Vw n f0) (hp : p < n) : zv_R l yX0_lastOnWay wsX0_lastOnWay rmX0_lastOnWay D vwCl (tyL cI cZ) [.ref (h 0), .int (nI p)] (cL cI cZ h (nI n) r f0 f1 f2 f3 f4 f5 f6 f7 f8 f9 f10 f11 f12 f13) (fun v => v = some (.int (nI (mo f0 16 p)))) := by
  refine zv_R.of cX0_lastOnWay 4 (some .int) (by decide) rfl (Nat.le_of_ble_eq_true rfl) ?_
  intro pP eE sS mM aA bB mT cD A C hr hlk hA Q hQ
  have inX0 : ∀ w ∈ u_ws RX0 TX0 16, w ∈ wsX0_lastOnWay := by decide +kernel
  have lk18 : Cond.fieldLink RX0 18 "RiverNames$Land" "ways" "[I" ∈ wsX0_lastOnWay := by decide +kernel
  have L4 : ∀ (mu_L4 : Nat), ∀ (k j x : Nat), (j + k = 16) → (x < n) → (mo f0 16 p = mo f0 k x) → k < mu_L4 → zv_V pP l eE rmX0_lastOnWay sS mM aA bB mT cD Q 4 D vwCl A (fun _ => True) (tyL cI cZ) (cL cI cZ h (nI n) r f0 f1 f2 f3 f4 f5 f6 f7 f8 f9 f10 f11 f12 f13) 0 0 4 [(0, .ref (h 0)), (1, .int (nI p)), (2, .int (nI x)), (3, .int (nI j))] [] := by
    intro mu_L4
    induction mu_L4 with
    | zero => intro k j x hk hx he hmu_L4; exact absurd hmu_L4 (Nat.not_lt_zero _)
    | succ mu_L4 ih_L4 =>
      intro k j x hk hx he hmu_L4
      refine zv_iload_n C dX0_lastOnWay_4 5 rfl 3 rfl ?_
      refine zv_bipush (v := 16) C dX0_lastOnWay_5 7 rfl (by decide) ?_
      refine zv_icmp_ge C dX0_lastOnWay_7 10 36 rfl (by decide) (fun c1 => ?_) (fun c1 => ?_)
      · replace c1 := zn_le (a := 16) (b := j) (by omega) (by omega) c1
        obtain rfl : k = 0 := by omega
        refine zv_iload_n C dX0_lastOnWay_36 37 rfl 2 rfl ?_
        exact zv_iretR C hr hlk hA hQ dX0_lastOnWay_37 (by rw [he]; rfl)
      · replace c1 := zn_le' (a := 16) (b := j) (by omega) (by omega) c1
        obtain ⟨k', rfl⟩ : ∃ k', k = k' + 1 := ⟨k - 1, by omega⟩
        refine zv_aload_n C dX0_lastOnWay_10 11 rfl 0 rfl ?_
        refine zv_aload_n C dX0_lastOnWay_11 12 rfl 0 rfl ?_
        refine zv_get (ci := 0) C inX0 rfl dX0_lastOnWay_12 15 rfl 0 2 rfl (by decide) lk18 rfl ?_
        refine zv_iload_n C dX0_lastOnWay_15 16 rfl 2 rfl ?_
        refine zv_iald (v := (f0 x)) C dX0_lastOnWay_16 17 rfl 1 0 x rfl rfl rfl (by omega) (by decide) rfl ?_
        refine zv_callVR (rest := []) C (k_X0_isPlace l D cI cZ h n r f0 f1 f2 f3 f4 f5 f6 f7 f8 f9 f10 f11 f12 f13 (f0 x)) (cwV 1 C.1.2.2.2.2 gX0_lastOnWay_X0_isPlace rfl rfl rfl (by decide +kernel) ⟨Nat.le_of_ble_eq_true rfl, Nat.le_of_ble_eq_true rfl⟩) dX0_lastOnWay_17 20 rfl (ci := 0) 0 rfl rfl rfl rfl (Nat.le_of_ble_eq_true rfl) ⟨Nat.le_of_ble_eq_true rfl, Nat.le_of_ble_eq_true rfl⟩ [0, 1] rfl [0, 1, 2, 3, 4, 5, 6, 7, 8, 9, 10, 11, 12, 13, 14] rfl (by decide) (fun v hv => ?_)
        subst hv
        refine zv_go rfl rfl (st' := [.int (zb (isP n (f0 x)))]) rfl (kc' := 0) rfl (ns' := 0) rfl ?_
        refine zv_if_eq C dX0_lastOnWay_20 23 36 rfl (by decide) (fun c2 => ?_) (fun c2 => ?_)
        · replace c2 := zb_eq0.mp c2
          refine zv_iload_n C dX0_lastOnWay_36 37 rfl 2 rfl ?_
          exact zv_iretR C hr hlk hA hQ dX0_lastOnWay_37 (by rw [he, mo_neg _ _ (Vx.lt0 (hw x hx) (by omega) c2)])
        · replace c2 := zb_ne0.mp c2
          obtain ⟨q, hq, hxq⟩ := isP_true (by omega) c2
          refine zv_aload_n C dX0_lastOnWay_23 24 rfl 0 rfl ?_
          refine zv_get (ci := 0) C inX0 rfl dX0_lastOnWay_24 27 rfl 0 2 rfl (by decide) lk18 rfl ?_
          refine zv_iload_n C dX0_lastOnWay_27 28 rfl 2 rfl ?_
          refine zv_iald (v := (nI q)) C dX0_lastOnWay_28 29 rfl 1 0 x rfl rfl rfl (by omega) (by decide) hxq ?_
          refine zv_istore_n C dX0_lastOnWay_29 30 rfl [(2, .int (nI q)), (0, .ref (h 0)), (1, .int (nI p)), (3, .int (nI j))] (by decide) rfl ?_
          refine zv_iinc (v := (nI (j + 1))) C dX0_lastOnWay_30 33 rfl [(3, .int (nI (j + 1))), (2, .int (nI q)), (0, .ref (h 0)), (1, .int (nI p))] 3 rfl (nI_1 j) (by decide) rfl ?_
          refine zv_goto C dX0_lastOnWay_33 4 (by decide) ?_
          refine zv_sub [2, 3, 1, 0] (lv' := [(0, .ref (h 0)), (1, .int (nI p)), (2, .int (nI q)), (3, .int (nI (j + 1)))]) rfl ?_
          exact ih_L4 k' (j + 1) q (by omega) hq (by rw [he, mo_go _ (by omega) hxq]) (by omega)
  refine zv_go (pc' := 0) rfl (lv' := [(0, .ref (h 0)), (1, .int (nI p))]) rfl rfl rfl rfl ?_
  refine zv_iload_n C dX0_lastOnWay_0 1 rfl 1 rfl ?_
  refine zv_istore_n C dX0_lastOnWay_1 2 rfl [(2, .int (nI p)), (0, .ref (h 0)), (1, .int (nI p))] (by decide) rfl ?_
  refine zv_iconst (v := 0) C dX0_lastOnWay_2 3 rfl (by decide) ?_
  refine zv_istore_n C dX0_lastOnWay_3 4 rfl [(3, .int 0), (2, .int (nI p)), (0, .ref (h 0)), (1, .int (nI p))] (by decide) rfl ?_
  refine zv_sub [2, 3, 1, 0] (lv' := [(0, .ref (h 0)), (1, .int (nI p)), (2, .int (nI p)), (3, .int 0)]) rfl ?_
  exact L4 _ 16 0 p (by omega) hp rfl (Nat.lt_succ_self _)
abbrev rmX0_firstCommon : Room := { frames := 2, cells := 0, slots := 0, locals := 45 }
set_option maxHeartbeats 4000000 in
set_option maxRecDepth 100000 in
theorem k_X0_firstCommon (l : Launch) (D : va_G) (cI cZ : ClassId) (h : Nat → Nat) (n : Nat) (r : Int32) (f0 f1 f2 f3 f4 f5 f6 f7 f8 f9 f10 f11 f12 f13 : Nat → Int32) (a b : Nat) (hn : n ≤ 16) (hw : Vw n f0) (ha : a < n) (hb : b < n) : zv_R l yX0_firstCommon wsX0_firstCommon rmX0_firstCommon D vwCl (tyL cI cZ) [.ref (h 0), .int (nI a), .int (nI b)] (cL cI cZ h (nI n) r f0 f1 f2 f3 f4 f5 f6 f7 f8 f9 f10 f11 f12 f13) (fun v => v = some (.int (fc f0 b 16 (nI a)))) := by
  refine zv_R.of cX0_firstCommon 5 (some .int) (by decide) rfl (Nat.le_of_ble_eq_true rfl) ?_
  intro pP eE sS mM aA bB mT cD A C hr hlk hA Q hQ
  have inX0 : ∀ w ∈ u_ws RX0 TX0 16, w ∈ wsX0_firstCommon := by decide +kernel
  have lk18 : Cond.fieldLink RX0 18 "RiverNames$Land" "ways" "[I" ∈ wsX0_firstCommon := by decide +kernel
  have L5 : ∀ (mu_L5 : Nat), ∀ (k j : Nat) (x : Int32), (j + k = 16) → (Vx n x) → (fc f0 b 16 (nI a) = fc f0 b k x) → k < mu_L5 → zv_V pP l eE rmX0_firstCommon sS mM aA bB mT cD Q 5 D vwCl A (fun _ => True) (tyL cI cZ) (cL cI cZ h (nI n) r f0 f1 f2 f3 f4 f5 f6 f7 f8 f9 f10 f11 f12 f13) 0 0 5 [(0, .ref (h 0)), (1, .int (nI a)), (2, .int (nI b)), (3, .int x), (4, .int (nI j))] [] := by
    intro mu_L5
    induction mu_L5 with
    | zero => intro k j x hk hx he hmu_L5; exact absurd hmu_L5 (Nat.not_lt_zero _)
    | succ mu_L5 ih_L5 =>
      intro k j x hk hx he hmu_L5
      refine zv_iload C dX0_firstCommon_5 7 rfl 4 rfl ?_
      refine zv_bipush (v := 16) C dX0_firstCommon_7 9 rfl (by decide) ?_
      refine zv_icmp_ge C dX0_firstCommon_9 12 49 rfl (by decide) (fun c1 => ?_) (fun c1 => ?_)
      · replace c1 := zn_le (a := 16) (b := j) (by omega) (by omega) c1
        obtain rfl : k = 0 := by omega
        refine zv_iconst (v := (-1 : Int32)) C dX0_firstCommon_49 50 rfl (by decide) ?_
        exact zv_iretR C hr hlk hA hQ dX0_firstCommon_50 (by rw [he]; rfl)
      · replace c1 := zn_le' (a := 16) (b := j) (by omega) (by omega) c1
        obtain ⟨k', rfl⟩ : ∃ k', k = k' + 1 := ⟨k - 1, by omega⟩
        refine zv_aload_n C dX0_firstCommon_12 13 rfl 0 rfl ?_
        refine zv_iload_n C dX0_firstCommon_13 14 rfl 3 rfl ?_
        refine zv_callVR (rest := []) C (k_X0_isPlace l D cI cZ h n r f0 f1 f2 f3 f4 f5 f6 f7 f8 f9 f10 f11 f12 f13 x) (cwV 1 C.1.2.2.2.2 gX0_firstCommon_X0_isPlace rfl rfl rfl (by decide +kernel) ⟨Nat.le_of_ble_eq_true rfl, Nat.le_of_ble_eq_true rfl⟩) dX0_firstCommon_14 17 rfl (ci := 0) 0 rfl rfl rfl rfl (Nat.le_of_ble_eq_true rfl) ⟨Nat.le_of_ble_eq_true rfl, Nat.le_of_ble_eq_true rfl⟩ [0, 1] rfl [0, 1, 2, 3, 4, 5, 6, 7, 8, 9, 10, 11, 12, 13, 14] rfl (by decide) (fun v hv => ?_)
        subst hv
        refine zv_go rfl rfl (st' := [.int (zb (isP n x))]) rfl (kc' := 0) rfl (ns' := 0) rfl ?_
        refine zv_if_eq C dX0_firstCommon_17 20 49 rfl (by decide) (fun c2 => ?_) (fun c2 => ?_)
        · replace c2 := zb_eq0.mp c2
          refine zv_iconst (v := (-1 : Int32)) C dX0_firstCommon_49 50 rfl (by decide) ?_
          exact zv_iretR C hr hlk hA hQ dX0_firstCommon_50 (by rw [he, fc_neg _ _ _ (hx.lt0 (by omega) c2)])
        · replace c2 := zb_ne0.mp c2
          obtain ⟨q, hq, hxq⟩ := isP_true (by omega) c2
          subst hxq
          refine zv_iload_n C dX0_firstCommon_20 21 rfl 3 rfl ?_
          refine zv_iload_n C dX0_firstCommon_21 22 rfl 2 rfl ?_
          refine zv_icmp_eq C dX0_firstCommon_22 25 34 rfl (by decide) (fun c3 => ?_) (fun c3 => ?_)
          · replace c3 := zn_eq (a := q) (b := b) (by omega) (by omega) c3
            refine zv_iload_n C dX0_firstCommon_34 35 rfl 3 rfl ?_
            exact zv_iretR C hr hlk hA hQ dX0_firstCommon_35 (by rw [he, fc_hit _ _ (by omega) (Or.inl (congrArg nI c3))])
          · replace c3 := zn_eq' (a := q) (b := b) (by omega) (by omega) c3
            refine zv_aload_n C dX0_firstCommon_25 26 rfl 0 rfl ?_
            refine zv_iload_n C dX0_firstCommon_26 27 rfl 2 rfl ?_
            refine zv_iload_n C dX0_firstCommon_27 28 rfl 3 rfl ?_
            refine zv_callVR (rest := []) C (k_X0_flowsTo l D cI cZ h n r f0 f1 f2 f3 f4 f5 f6 f7 f8 f9 f10 f11 f12 f13 b (nI q) (by assumption) (by assumption) (by assumption)) (cwV 2 C.1.2.2.2.2 gX0_firstCommon_X0_flowsTo rfl rfl rfl (by decide +kernel) ⟨Nat.le_of_ble_eq_true rfl, Nat.le_of_ble_eq_true rfl⟩) dX0_firstCommon_28 31 rfl (ci := 0) 0 rfl rfl rfl rfl (Nat.le_of_ble_eq_true rfl) ⟨Nat.le_of_ble_eq_true rfl, Nat.le_of_ble_eq_true rfl⟩ [0, 1] rfl [0, 1, 2, 3, 4, 5, 6, 7, 8, 9, 10, 11, 12, 13, 14] rfl (by decide) (fun v hv => ?_)
            subst hv
            refine zv_go rfl rfl (st' := [.int (zb (fl f0 (nI q) 16 (f0 b)))]) rfl (kc' := 0) rfl (ns' := 0) rfl ?_
            refine zv_if_eq C dX0_firstCommon_31 34 36 rfl (by decide) (fun c4 => ?_) (fun c4 => ?_)
            · replace c4 := zb_eq0.mp c4
              refine zv_aload_n C dX0_firstCommon_36 37 rfl 0 rfl ?_
              refine zv_get (ci := 0) C inX0 rfl dX0_firstCommon_37 40 rfl 0 2 rfl (by decide) lk18 rfl ?_
              refine zv_iload_n C dX0_firstCommon_40 41 rfl 3 rfl ?_
              refine zv_iald (v := (f0 q)) C dX0_firstCommon_41 42 rfl 1 0 q rfl rfl rfl (by omega) (by decide) rfl ?_
              refine zv_istore_n C dX0_firstCommon_42 43 rfl [(3, .int (f0 q)), (0, .ref (h 0)), (1, .int (nI a)), (2, .int (nI b)), (4, .int (nI j))] (by decide) rfl ?_
              refine zv_iinc (v := (nI (j + 1))) C dX0_firstCommon_43 46 rfl [(4, .int (nI (j + 1))), (3, .int (f0 q)), (0, .ref (h 0)), (1, .int (nI a)), (2, .int (nI b))] 4 rfl (nI_1 j) (by decide) rfl ?_
              refine zv_goto C dX0_firstCommon_46 5 (by decide) ?_
              refine zv_sub [2, 3, 4, 1, 0] (lv' := [(0, .ref (h 0)), (1, .int (nI a)), (2, .int (nI b)), (3, .int (f0 q)), (4, .int (nI (j + 1)))]) rfl ?_
              exact ih_L5 k' (j + 1) (f0 q) (by omega) (hw q hq) (by rw [he, fc_go _ _ (by omega) (fun z => c3 (zn_eq (by omega) (by omega) z)) c4]) (by omega)
            · replace c4 := zb_ne0.mp c4
              refine zv_iload_n C dX0_firstCommon_34 35 rfl 3 rfl ?_
              exact zv_iretR C hr hlk hA hQ dX0_firstCommon_35 (by rw [he, fc_hit _ _ (by omega) (Or.inr c4)])
  refine zv_go (pc' := 0) rfl (lv' := [(0, .ref (h 0)), (1, .int (nI a)), (2, .int (nI b))]) rfl rfl rfl rfl ?_
  refine zv_iload_n C dX0_firstCommon_0 1 rfl 1 rfl ?_
  refine zv_istore_n C dX0_firstCommon_1 2 rfl [(3, .int (nI a)), (0, .ref (h 0)), (1, .int (nI a)), (2, .int (nI b))] (by decide) rfl ?_
  refine zv_iconst (v := 0) C dX0_firstCommon_2 3 rfl (by decide) ?_
  refine zv_istore C dX0_firstCommon_3 5 rfl [(4, .int 0), (3, .int (nI a)), (0, .ref (h 0)), (1, .int (nI a)), (2, .int (nI b))] (by decide) rfl ?_
  refine zv_sub [2, 3, 4, 1, 0] (lv' := [(0, .ref (h 0)), (1, .int (nI a)), (2, .int (nI b)), (3, .int (nI a)), (4, .int 0)]) rfl ?_
  exact L5 _ 16 0 (nI a) (by omega) (Or.inr ⟨a, ha, rfl⟩) rfl (Nat.lt_succ_self _)
abbrev rmX0_countSteps : Room := { frames := 1, cells := 0, slots := 0, locals := 21 }
set_option maxHeartbeats 4000000 in
set_option maxRecDepth 100000 in
theorem k_X0_countSteps (l : Launch) (D : va_G) (cI cZ : ClassId) (h : Nat → Nat) (n : Nat) (r : Int32) (f0 f1 f2 f3 f4 f5 f6 f7 f8 f9 f10 f11 f12 f13 : Nat → Int32) (p : Nat) (hn : n ≤ 16) (hw : Vw n f0) (hp : p < n) : zv_R l yX0_countSteps wsX0_countSteps rmX0_countSteps D vwCl (tyL cI cZ) [.ref (h 0), .int (nI p)] (cL cI cZ h (nI n) r f0 f1 f2 f3 f4 f5 f6 f7 f8 f9 f10 f11 f12 f13) (fun v => v = some (.int (nI (cs f0 16 (f0 p))))) := by
  refine zv_R.of cX0_countSteps 4 (some .int) (by decide) rfl (Nat.le_of_ble_eq_true rfl) ?_
  intro pP eE sS mM aA bB mT cD A C hr hlk hA Q hQ
  have inX0 : ∀ w ∈ u_ws RX0 TX0 16, w ∈ wsX0_countSteps := by decide +kernel
  have lk18 : Cond.fieldLink RX0 18 "RiverNames$Land" "ways" "[I" ∈ wsX0_countSteps := by decide +kernel
  have L9 : ∀ (mu_L9 : Nat), ∀ (k j : Nat) (x : Int32), (j + k = 16) → (Vx n x) → (nI (cs f0 16 (f0 p)) = nI (j + cs f0 k x)) → k < mu_L9 → zv_V pP l eE rmX0_countSteps sS mM aA bB mT cD Q 4 D vwCl A (fun _ => True) (tyL cI cZ) (cL cI cZ h (nI n) r f0 f1 f2 f3 f4 f5 f6 f7 f8 f9 f10 f11 f12 f13) 0 0 9 [(0, .ref (h 0)), (1, .int (nI p)), (2, .int x), (3, .int (nI j))] [] := by
    intro mu_L9
    induction mu_L9 with
    | zero => intro k j x hk hx he hmu_L9; exact absurd hmu_L9 (Nat.not_lt_zero _)
    | succ mu_L9 ih_L9 =>
      intro k j x hk hx he hmu_L9
      refine zv_iload_n C dX0_countSteps_9 10 rfl 3 rfl ?_
      refine zv_bipush (v := 16) C dX0_countSteps_10 12 rfl (by decide) ?_
      refine zv_icmp_ge C dX0_countSteps_12 15 36 rfl (by decide) (fun c1 => ?_) (fun c1 => ?_)
      · replace c1 := zn_le (a := 16) (b := j) (by omega) (by omega) c1
        obtain rfl : k = 0 := by omega
        refine zv_iload_n C dX0_countSteps_36 37 rfl 3 rfl ?_
        exact zv_iretR C hr hlk hA hQ dX0_countSteps_37 (by rw [he]; simp [cs])
      · replace c1 := zn_le' (a := 16) (b := j) (by omega) (by omega) c1
        obtain ⟨k', rfl⟩ : ∃ k', k = k' + 1 := ⟨k - 1, by omega⟩
        refine zv_aload_n C dX0_countSteps_15 16 rfl 0 rfl ?_
        refine zv_iload_n C dX0_countSteps_16 17 rfl 2 rfl ?_
        refine zv_callVR (rest := []) C (k_X0_isPlace l D cI cZ h n r f0 f1 f2 f3 f4 f5 f6 f7 f8 f9 f10 f11 f12 f13 x) (cwV 1 C.1.2.2.2.2 gX0_countSteps_X0_isPlace rfl rfl rfl (by decide +kernel) ⟨Nat.le_of_ble_eq_true rfl, Nat.le_of_ble_eq_true rfl⟩) dX0_countSteps_17 20 rfl (ci := 0) 0 rfl rfl rfl rfl (Nat.le_of_ble_eq_true rfl) ⟨Nat.le_of_ble_eq_true rfl, Nat.le_of_ble_eq_true rfl⟩ [0, 1] rfl [0, 1, 2, 3, 4, 5, 6, 7, 8, 9, 10, 11, 12, 13, 14] rfl (by decide) (fun v hv => ?_)
        subst hv
        refine zv_go rfl rfl (st' := [.int (zb (isP n x))]) rfl (kc' := 0) rfl (ns' := 0) rfl ?_
        refine zv_if_eq C dX0_countSteps_20 23 36 rfl (by decide) (fun c2 => ?_) (fun c2 => ?_)
        · replace c2 := zb_eq0.mp c2
          refine zv_iload_n C dX0_countSteps_36 37 rfl 3 rfl ?_
          exact zv_iretR C hr hlk hA hQ dX0_countSteps_37 (by rw [he, cs_neg _ _ (hx.lt0 (by omega) c2)]; simp)
        · replace c2 := zb_ne0.mp c2
          obtain ⟨q, hq, hxq⟩ := isP_true (by omega) c2
          subst hxq
          refine zv_iinc (v := (nI (j + 1))) C dX0_countSteps_23 26 rfl [(3, .int (nI (j + 1))), (0, .ref (h 0)), (1, .int (nI p)), (2, .int (nI q))] 3 rfl (nI_1 j) (by decide) rfl ?_
          refine zv_aload_n C dX0_countSteps_26 27 rfl 1 rfl ?_
          refine zv_get (ci := 0) C inX0 rfl dX0_countSteps_27 30 rfl 0 2 rfl (by decide) lk18 rfl ?_
          refine zv_iload_n C dX0_countSteps_30 31 rfl 3 rfl ?_
          refine zv_iald (v := (f0 q)) C dX0_countSteps_31 32 rfl 1 0 q rfl rfl rfl (by omega) (by decide) rfl ?_
          refine zv_istore_n C dX0_countSteps_32 33 rfl [(2, .int (f0 q)), (3, .int (nI (j + 1))), (0, .ref (h 0)), (1, .int (nI p))] (by decide) rfl ?_
          refine zv_goto C dX0_countSteps_33 9 (by decide) ?_
          refine zv_sub [2, 3, 0, 1] (lv' := [(0, .ref (h 0)), (1, .int (nI p)), (2, .int (f0 q)), (3, .int (nI (j + 1)))]) rfl ?_
          exact ih_L9 k' (j + 1) (f0 q) (by omega) (hw q hq) (by rw [he, cs_go _ (by omega)]; congr 1; omega) (by omega)
  refine zv_go (pc' := 0) rfl (lv' := [(0, .ref (h 0)), (1, .int (nI p))]) rfl rfl rfl rfl ?_
  refine zv_aload_n C dX0_countSteps_0 1 rfl 0 rfl ?_
  refine zv_get (ci := 0) C inX0 rfl dX0_countSteps_1 4 rfl 0 2 rfl (by decide) lk18 rfl ?_
  refine zv_iload_n C dX0_countSteps_4 5 rfl 1 rfl ?_
  refine zv_iald (v := (f0 p)) C dX0_countSteps_5 6 rfl 1 0 p rfl rfl rfl (by omega) (by decide) rfl ?_
  refine zv_istore_n C dX0_countSteps_6 7 rfl [(2, .int (f0 p)), (0, .ref (h 0)), (1, .int (nI p))] (by decide) rfl ?_
  refine zv_iconst (v := 0) C dX0_countSteps_7 8 rfl (by decide) ?_
  refine zv_istore_n C dX0_countSteps_8 9 rfl [(3, .int 0), (2, .int (f0 p)), (0, .ref (h 0)), (1, .int (nI p))] (by decide) rfl ?_
  refine zv_sub [2, 3, 1, 0] (lv' := [(0, .ref (h 0)), (1, .int (nI p)), (2, .int (f0 p)), (3, .int 0)]) rfl ?_
  exact L9 _ 16 0 (f0 p) (by omega) (hw p hp) (by simp) (Nat.lt_succ_self _)
