abbrev rmX2_thrown : Room := { frames := 0, cells := 0, slots := 0, locals := 0 }
set_option maxHeartbeats 4000000 in
set_option maxRecDepth 100000 in
theorem k_X2_thrown (l : Launch) (D : va_G) (cI cZ : ClassId) (h : Nat → Nat) (t : Int32) (n : Nat) (r y : Int32) (b : Nat) (f0 f1 f2 f3 f4 f5 f6 f7 f8 f9 f10 f11 f12 f13 : Nat → Int32) : zv_R l yX2_thrown wsX2_thrown rmX2_thrown D vwCl (tyL cI cZ) [.ref (h 0)] (cM cI cZ h t (nI n) r y (nI b) f0 f1 f2 f3 f4 f5 f6 f7 f8 f9 f10 f11 f12 f13) (fun v => v = some (.int t)) := by
  refine zv_R.of cX2_thrown 1 (some .int) (by decide) rfl (Nat.le_of_ble_eq_true rfl) ?_
  intro pP eE sS mM aA bB mT cD A C hr hlk hA Q hQ
  have inX2 : ∀ w ∈ u_ws RX2 TX2 19, w ∈ wsX2_thrown := by decide +kernel
  have lk53 : Cond.fieldLink RX2 53 "RiverNamesModel" "thrown" "I" ∈ wsX2_thrown := by decide +kernel
  refine zv_go (pc' := 0) rfl (lv' := [(0, .ref (h 0))]) rfl rfl rfl rfl ?_
  refine zv_aload_n C dX2_thrown_0 1 rfl 0 rfl ?_
  refine zv_get (ci := 2) C inX2 rfl dX2_thrown_1 4 rfl 0 0 rfl (by decide) lk53 rfl ?_
  exact zv_iretR C hr hlk hA hQ dX2_thrown_4 rfl
abbrev rmX2_no : Room := { frames := 0, cells := 0, slots := 0, locals := 0 }
set_option maxHeartbeats 4000000 in
set_option maxRecDepth 100000 in
theorem k_X2_no (l : Launch) (D : va_G) (cI cZ : ClassId) (h : Nat → Nat) (t : Int32) (n : Nat) (r y : Int32) (b : Nat) (f0 f1 f2 f3 f4 f5 f6 f7 f8 f9 f10 f11 f12 f13 : Nat → Int32) (i : Int32) : zv_M l yX2_no wsX2_no rmX2_no D vwCl (tyL cI cZ) [.ref (h 0), .int i] (cM cI cZ h t (nI n) r y (nI b) f0 f1 f2 f3 f4 f5 f6 f7 f8 f9 f10 f11 f12 f13) (fun v w => v = some (.int 0) ∧ w = (cM cI cZ h i (nI n) r y (nI b) f0 f1 f2 f3 f4 f5 f6 f7 f8 f9 f10 f11 f12 f13)) := by
  refine zv_M.of cX2_no 2 (some .int) (by decide) rfl (Nat.le_of_ble_eq_true rfl) ?_
  intro pP eE sS mM aA bB mT cD A C hr hlk hnm Q hQ
  have inX2 : ∀ w ∈ u_ws RX2 TX2 19, w ∈ wsX2_no := by decide +kernel
  have lk53 : Cond.fieldLink RX2 53 "RiverNamesModel" "thrown" "I" ∈ wsX2_no := by decide +kernel
  refine zv_go (pc' := 0) rfl (lv' := [(0, .ref (h 0)), (1, .int i)]) rfl rfl rfl rfl ?_
  refine zv_aload_n C dX2_no_0 1 rfl 0 rfl ?_
  refine zv_iload_n C dX2_no_1 2 rfl 1 rfl ?_
  refine zv_put (ci := 2) C inX2 rfl tyX2_ok nmX2 dX2_no_2 5 rfl 0 0 rfl (by decide) lk53 rfl rfl rfl (Nat.le_of_ble_eq_true rfl) (cM cI cZ h i (nI n) r y (nI b) f0 f1 f2 f3 f4 f5 f6 f7 f8 f9 f10 f11 f12 f13) rfl ?_
  refine zv_iconst (v := 0) C dX2_no_5 6 rfl (by decide) ?_
  exact zv_iret C hr hlk hQ dX2_no_6 ⟨rfl, rfl⟩
abbrev rmX2_isNot : Room := { frames := 0, cells := 0, slots := 0, locals := 0 }
set_option maxHeartbeats 4000000 in
set_option maxRecDepth 100000 in
theorem k_X2_isNot (l : Launch) (D : va_G) (cI cZ : ClassId) (h : Nat → Nat) (t : Int32) (n : Nat) (r y : Int32) (b : Nat) (f0 f1 f2 f3 f4 f5 f6 f7 f8 f9 f10 f11 f12 f13 : Nat → Int32) (i : Int32) : zv_M l yX2_isNot wsX2_isNot rmX2_isNot D vwCl (tyL cI cZ) [.ref (h 0), .int i] (cM cI cZ h t (nI n) r y (nI b) f0 f1 f2 f3 f4 f5 f6 f7 f8 f9 f10 f11 f12 f13) (fun v w => v = some (.int 0) ∧ w = (cM cI cZ h i (nI n) r y (nI b) f0 f1 f2 f3 f4 f5 f6 f7 f8 f9 f10 f11 f12 f13)) := by
  refine zv_M.of cX2_isNot 2 (some .boolean) (by decide) rfl (Nat.le_of_ble_eq_true rfl) ?_
  intro pP eE sS mM aA bB mT cD A C hr hlk hnm Q hQ
  have inX2 : ∀ w ∈ u_ws RX2 TX2 19, w ∈ wsX2_isNot := by decide +kernel
  have lk53 : Cond.fieldLink RX2 53 "RiverNamesModel" "thrown" "I" ∈ wsX2_isNot := by decide +kernel
  refine zv_go (pc' := 0) rfl (lv' := [(0, .ref (h 0)), (1, .int i)]) rfl rfl rfl rfl ?_
  refine zv_aload_n C dX2_isNot_0 1 rfl 0 rfl ?_
  refine zv_iload_n C dX2_isNot_1 2 rfl 1 rfl ?_
  refine zv_put (ci := 2) C inX2 rfl tyX2_ok nmX2 dX2_isNot_2 5 rfl 0 0 rfl (by decide) lk53 rfl rfl rfl (Nat.le_of_ble_eq_true rfl) (cM cI cZ h i (nI n) r y (nI b) f0 f1 f2 f3 f4 f5 f6 f7 f8 f9 f10 f11 f12 f13) rfl ?_
  refine zv_iconst (v := 0) C dX2_isNot_5 6 rfl (by decide) ?_
  exact zv_zret C (by decide) hr hlk hQ dX2_isNot_6 ⟨rfl, rfl⟩
abbrev rmX2_ok : Room := { frames := 0, cells := 0, slots := 0, locals := 0 }
set_option maxHeartbeats 4000000 in
set_option maxRecDepth 100000 in
theorem k_X2_ok (l : Launch) (D : va_G) (cI cZ : ClassId) (h : Nat → Nat) (t : Int32) (n : Nat) (r y : Int32) (b : Nat) (f0 f1 f2 f3 f4 f5 f6 f7 f8 f9 f10 f11 f12 f13 : Nat → Int32) (i : Int32) : zv_M l yX2_ok wsX2_ok rmX2_ok D vwCl (tyL cI cZ) [.ref (h 0), .int i] (cM cI cZ h t (nI n) r y (nI b) f0 f1 f2 f3 f4 f5 f6 f7 f8 f9 f10 f11 f12 f13) (fun v w => v = some (.int i) ∧ w = (cM cI cZ h 0 (nI n) r y (nI b) f0 f1 f2 f3 f4 f5 f6 f7 f8 f9 f10 f11 f12 f13)) := by
  refine zv_M.of cX2_ok 2 (some .int) (by decide) rfl (Nat.le_of_ble_eq_true rfl) ?_
  intro pP eE sS mM aA bB mT cD A C hr hlk hnm Q hQ
  have inX2 : ∀ w ∈ u_ws RX2 TX2 19, w ∈ wsX2_ok := by decide +kernel
  have lk53 : Cond.fieldLink RX2 53 "RiverNamesModel" "thrown" "I" ∈ wsX2_ok := by decide +kernel
  refine zv_go (pc' := 0) rfl (lv' := [(0, .ref (h 0)), (1, .int i)]) rfl rfl rfl rfl ?_
  refine zv_aload_n C dX2_ok_0 1 rfl 0 rfl ?_
  refine zv_iconst (v := 0) C dX2_ok_1 2 rfl (by decide) ?_
  refine zv_put (ci := 2) C inX2 rfl tyX2_ok nmX2 dX2_ok_2 5 rfl 0 0 rfl (by decide) lk53 rfl rfl rfl (Nat.le_of_ble_eq_true rfl) (cM cI cZ h 0 (nI n) r y (nI b) f0 f1 f2 f3 f4 f5 f6 f7 f8 f9 f10 f11 f12 f13) rfl ?_
  refine zv_iload_n C dX2_ok_5 6 rfl 1 rfl ?_
  exact zv_iret C hr hlk hQ dX2_ok_6 ⟨rfl, rfl⟩
abbrev rmX2_isIn : Room := { frames := 0, cells := 0, slots := 0, locals := 0 }
set_option maxHeartbeats 4000000 in
set_option maxRecDepth 100000 in
theorem k_X2_isIn (l : Launch) (D : va_G) (cI cZ : ClassId) (v lo hi : Int32) : zv_R l yX2_isIn wsX2_isIn rmX2_isIn D vwCl (tyL cI cZ) [.int v, .int lo, .int hi] [] (fun x => x = some (.int (zb (isI v lo hi)))) := by
  refine zv_R.of cX2_isIn 3 (some .boolean) (by decide) rfl (Nat.le_of_ble_eq_true rfl) ?_
  intro pP eE sS mM aA bB mT cD A C hr hlk hA Q hQ
  refine zv_go (pc' := 0) rfl (lv' := [(0, .int v), (1, .int lo), (2, .int hi)]) rfl rfl rfl rfl ?_
  refine zv_iload_n C dX2_isIn_0 1 rfl 0 rfl ?_
  refine zv_iload_n C dX2_isIn_1 2 rfl 1 rfl ?_
  refine zv_icmp_lt C dX2_isIn_2 5 14 rfl (by decide) (fun c1 => ?_) (fun c1 => ?_)
  · refine zv_iconst (v := 0) C dX2_isIn_14 15 rfl (by decide) ?_
    exact zv_zretR C (by decide) hr hlk hA hQ dX2_isIn_15 (by simp [isI, zb, c1])
  · refine zv_iload_n C dX2_isIn_5 6 rfl 0 rfl ?_
    refine zv_iload_n C dX2_isIn_6 7 rfl 2 rfl ?_
    refine zv_icmp_gt C dX2_isIn_7 10 14 rfl (by decide) (fun c2 => ?_) (fun c2 => ?_)
    · refine zv_iconst (v := 0) C dX2_isIn_14 15 rfl (by decide) ?_
      exact zv_zretR C (by decide) hr hlk hA hQ dX2_isIn_15 (by simp [isI, zb, c1, c2])
    · refine zv_iconst (v := 1) C dX2_isIn_10 11 rfl (by decide) ?_
      refine zv_goto C dX2_isIn_11 15 (by decide) ?_
      exact zv_zretR C (by decide) hr hlk hA hQ dX2_isIn_15 (by simp [isI, zb, c1, c2])
abbrev rmX2_isPlace : Room := { frames := 1, cells := 0, slots := 0, locals := 22 }
set_option maxHeartbeats 4000000 in
set_option maxRecDepth 100000 in
theorem k_X2_isPlace (l : Launch) (D : va_G) (cI cZ : ClassId) (h : Nat → Nat) (t : Int32) (n : Nat) (r y : Int32) (b : Nat) (f0 f1 f2 f3 f4 f5 f6 f7 f8 f9 f10 f11 f12 f13 : Nat → Int32) (i : Int32) (hn : n ≤ 16) : zv_R l yX2_isPlace wsX2_isPlace rmX2_isPlace D vwCl (tyL cI cZ) [.ref (h 0), .int i] (cM cI cZ h t (nI n) r y (nI b) f0 f1 f2 f3 f4 f5 f6 f7 f8 f9 f10 f11 f12 f13) (fun v => v = some (.int (zb (isP n i)))) := by
  refine zv_R.of cX2_isPlace 2 (some .boolean) (by decide) rfl (Nat.le_of_ble_eq_true rfl) ?_
  intro pP eE sS mM aA bB mT cD A C hr hlk hA Q hQ
  have inX2 : ∀ w ∈ u_ws RX2 TX2 19, w ∈ wsX2_isPlace := by decide +kernel
  have lk57 : Cond.fieldLink RX2 57 "RiverNamesModel" "places" "I" ∈ wsX2_isPlace := by decide +kernel
  refine zv_go (pc' := 0) rfl (lv' := [(0, .ref (h 0)), (1, .int i)]) rfl rfl rfl rfl ?_
  refine zv_iload_n C dX2_isPlace_0 1 rfl 1 rfl ?_
  refine zv_iconst (v := 0) C dX2_isPlace_1 2 rfl (by decide) ?_
  refine zv_aload_n C dX2_isPlace_2 3 rfl 0 rfl ?_
  refine zv_get (ci := 2) C inX2 rfl dX2_isPlace_3 6 rfl 0 1 rfl (by decide) lk57 rfl ?_
  refine zv_iconst (v := 1) C dX2_isPlace_6 7 rfl (by decide) ?_
  refine zv_isub (v := (nI n - 1)) C dX2_isPlace_7 8 rfl rfl ?_
  refine zv_callSR (rest := []) C (k_X2_isIn l D cI cZ i 0 (nI n - 1)) (cwS 3 C.1.2.2.2.2 gX2_isPlace_X2_isIn rfl rfl rfl (by decide +kernel) ⟨Nat.le_of_ble_eq_true rfl, Nat.le_of_ble_eq_true rfl⟩) dX2_isPlace_8 11 rfl rfl rfl (Nat.le_of_ble_eq_true rfl) ⟨Nat.le_of_ble_eq_true rfl, Nat.le_of_ble_eq_true rfl⟩ [0, 1] rfl [] rfl (by decide) (fun v hv => ?_)
  subst hv
  refine zv_go rfl rfl (st' := [.int (zb (isI i 0 (nI n - 1)))]) rfl (kc' := 0) rfl (ns' := 0) rfl ?_
  exact zv_zretR C (zb_narrow _) hr hlk hA hQ dX2_isPlace_11 (by rw [isI_isP hn])
abbrev rmX2_isBridge : Room := { frames := 1, cells := 0, slots := 0, locals := 22 }
set_option maxHeartbeats 4000000 in
set_option maxRecDepth 100000 in
theorem k_X2_isBridge (l : Launch) (D : va_G) (cI cZ : ClassId) (h : Nat → Nat) (t : Int32) (n : Nat) (r y : Int32) (b : Nat) (f0 f1 f2 f3 f4 f5 f6 f7 f8 f9 f10 f11 f12 f13 : Nat → Int32) (i : Int32) (hb : b ≤ 16) : zv_R l yX2_isBridge wsX2_isBridge rmX2_isBridge D vwCl (tyL cI cZ) [.ref (h 0), .int i] (cM cI cZ h t (nI n) r y (nI b) f0 f1 f2 f3 f4 f5 f6 f7 f8 f9 f10 f11 f12 f13) (fun v => v = some (.int (zb (isP b i)))) := by
  refine zv_R.of cX2_isBridge 2 (some .boolean) (by decide) rfl (Nat.le_of_ble_eq_true rfl) ?_
  intro pP eE sS mM aA bB mT cD A C hr hlk hA Q hQ
  have inX2 : ∀ w ∈ u_ws RX2 TX2 19, w ∈ wsX2_isBridge := by decide +kernel
  have lk64 : Cond.fieldLink RX2 64 "RiverNamesModel" "bridges" "I" ∈ wsX2_isBridge := by decide +kernel
  refine zv_go (pc' := 0) rfl (lv' := [(0, .ref (h 0)), (1, .int i)]) rfl rfl rfl rfl ?_
  refine zv_iload_n C dX2_isBridge_0 1 rfl 1 rfl ?_
  refine zv_iconst (v := 0) C dX2_isBridge_1 2 rfl (by decide) ?_
  refine zv_aload_n C dX2_isBridge_2 3 rfl 0 rfl ?_
  refine zv_get (ci := 2) C inX2 rfl dX2_isBridge_3 6 rfl 0 10 rfl (by decide) lk64 rfl ?_
  refine zv_iconst (v := 1) C dX2_isBridge_6 7 rfl (by decide) ?_
  refine zv_isub (v := (nI b - 1)) C dX2_isBridge_7 8 rfl rfl ?_
  refine zv_callSR (rest := []) C (k_X2_isIn l D cI cZ i 0 (nI b - 1)) (cwS 3 C.1.2.2.2.2 gX2_isBridge_X2_isIn rfl rfl rfl (by decide +kernel) ⟨Nat.le_of_ble_eq_true rfl, Nat.le_of_ble_eq_true rfl⟩) dX2_isBridge_8 11 rfl rfl rfl (Nat.le_of_ble_eq_true rfl) ⟨Nat.le_of_ble_eq_true rfl, Nat.le_of_ble_eq_true rfl⟩ [0, 1] rfl [] rfl (by decide) (fun v hv => ?_)
  subst hv
  refine zv_go rfl rfl (st' := [.int (zb (isI i 0 (nI b - 1)))]) rfl (kc' := 0) rfl (ns' := 0) rfl ?_
  exact zv_zretR C (zb_narrow _) hr hlk hA hQ dX2_isBridge_11 (by rw [isI_isP hb])
abbrev rmX2_above : Room := { frames := 0, cells := 0, slots := 0, locals := 0 }
set_option maxHeartbeats 4000000 in
set_option maxRecDepth 100000 in
theorem k_X2_above (l : Launch) (D : va_G) (cI cZ : ClassId) (h : Nat → Nat) (t : Int32) (n : Nat) (r y : Int32) (b : Nat) (f0 f1 f2 f3 f4 f5 f6 f7 f8 f9 f10 f11 f12 f13 : Nat → Int32) (p o : Nat) (s : Nat → Int32) (d : Nat → Nat) (hn : n ≤ 16) (hD : Dep n f0 s d) (hp : p < n) (ho : o < 16) : zv_R l yX2_above wsX2_above rmX2_above D vwCl (tyL cI cZ) [.ref (h 0), .int (nI p), .int (nI o)] (cM cI cZ h t (nI n) r y (nI b) f0 f1 f2 f3 f4 f5 f6 f7 f8 f9 f10 f11 f12 f13) (fun v => v = some (.int (zb (fl f0 (nI o) 16 (f0 p))))) := by
  refine zv_R.of cX2_above 4 (some .boolean) (by decide) rfl (Nat.le_of_ble_eq_true rfl) ?_
  intro pP eE sS mM aA bB mT cD A C hr hlk hA Q hQ
  have inX2 : ∀ w ∈ u_ws RX2 TX2 19, w ∈ wsX2_above := by decide +kernel
  have lk9 : Cond.fieldLink RX2 9 "RiverNamesModel" "to" "[I" ∈ wsX2_above := by decide +kernel
  have L7 : ∀ (mu_L7 : Nat), ∀ (k : Nat) (x : Int32), (Dx n d k x) → (fl f0 (nI o) 16 (f0 p) = fl f0 (nI o) k x) → k < mu_L7 → zv_V pP l eE rmX2_above sS mM aA bB mT cD Q 4 D vwCl A (fun _ => True) (tyL cI cZ) (cM cI cZ h t (nI n) r y (nI b) f0 f1 f2 f3 f4 f5 f6 f7 f8 f9 f10 f11 f12 f13) 0 0 7 [(0, .ref (h 0)), (1, .int (nI p)), (2, .int (nI o)), (3, .int x)] [] := by
    intro mu_L7
    induction mu_L7 with
    | zero => intro k x hx he hmu_L7; exact absurd hmu_L7 (Nat.not_lt_zero _)
    | succ mu_L7 ih_L7 =>
      intro k x hx he hmu_L7
      refine zv_iload_n C dX2_above_7 8 rfl 3 rfl ?_
      refine zv_iconst (v := (-1 : Int32)) C dX2_above_8 9 rfl (by decide) ?_
      refine zv_icmp_eq C dX2_above_9 12 27 rfl (by decide) (fun c1 => ?_) (fun c1 => ?_)
      · subst c1
        refine zv_iload_n C dX2_above_27 28 rfl 3 rfl ?_
        refine zv_iload_n C dX2_above_28 29 rfl 2 rfl ?_
        refine zv_icmp_ne C dX2_above_29 32 36 rfl (by decide) (fun c2 => ?_) (fun c2 => ?_)
        · refine zv_iconst (v := 0) C dX2_above_36 37 rfl (by decide) ?_
          exact zv_zretR C (by decide) hr hlk hA hQ dX2_above_37 (by rw [he, fl_neg _ _ _ (by decide)]; rfl)
        · exact absurd c2 (m1_ne (by omega))
      · obtain ⟨q, hq, hxq, hdk⟩ := hx.resolve_left c1
        subst hxq
        obtain ⟨k', rfl⟩ : ∃ k', k = k' + 1 := ⟨k - 1, by omega⟩
        refine zv_iload_n C dX2_above_12 13 rfl 3 rfl ?_
        refine zv_iload_n C dX2_above_13 14 rfl 2 rfl ?_
        refine zv_icmp_eq C dX2_above_14 17 27 rfl (by decide) (fun c3 => ?_) (fun c3 => ?_)
        · replace c3 := zn_eq (a := q) (b := o) (by omega) (by omega) c3
          refine zv_iload_n C dX2_above_27 28 rfl 3 rfl ?_
          refine zv_iload_n C dX2_above_28 29 rfl 2 rfl ?_
          refine zv_icmp_ne C dX2_above_29 32 36 rfl (by decide) (fun c4 => ?_) (fun c4 => ?_)
          · exact absurd (congrArg nI c3) c4
          · refine zv_iconst (v := 1) C dX2_above_32 33 rfl (by decide) ?_
            refine zv_goto C dX2_above_33 37 (by decide) ?_
            exact zv_zretR C (by decide) hr hlk hA hQ dX2_above_37 (by rw [he, fl_hit _ _ (by omega) (by rw [c3])]; rfl)
        · replace c3 := zn_eq' (a := q) (b := o) (by omega) (by omega) c3
          refine zv_aload_n C dX2_above_17 18 rfl 0 rfl ?_
          refine zv_get (ci := 2) C inX2 rfl dX2_above_18 21 rfl 0 4 rfl (by decide) lk9 rfl ?_
          refine zv_iload_n C dX2_above_21 22 rfl 3 rfl ?_
          refine zv_iald (v := (f0 q)) C dX2_above_22 23 rfl 1 0 q rfl rfl rfl (by omega) (by decide) rfl ?_
          refine zv_istore_n C dX2_above_23 24 rfl [(3, .int (f0 q)), (0, .ref (h 0)), (1, .int (nI p)), (2, .int (nI o))] (by decide) rfl ?_
          refine zv_goto C dX2_above_24 7 (by decide) ?_
          refine zv_sub [1, 2, 3, 0] (lv' := [(0, .ref (h 0)), (1, .int (nI p)), (2, .int (nI o)), (3, .int (f0 q))]) rfl ?_
          exact ih_L7 k' (f0 q) (hD.dx hq (by omega)) (by rw [he, fl_go _ _ (by omega) (fun z => c3 (zn_eq (by omega) (by omega) z))]) (by omega)
  refine zv_go (pc' := 0) rfl (lv' := [(0, .ref (h 0)), (1, .int (nI p)), (2, .int (nI o))]) rfl rfl rfl rfl ?_
  refine zv_aload_n C dX2_above_0 1 rfl 0 rfl ?_
  refine zv_get (ci := 2) C inX2 rfl dX2_above_1 4 rfl 0 4 rfl (by decide) lk9 rfl ?_
  refine zv_iload_n C dX2_above_4 5 rfl 1 rfl ?_
  refine zv_iald (v := (f0 p)) C dX2_above_5 6 rfl 1 0 p rfl rfl rfl (by omega) (by decide) rfl ?_
  refine zv_istore_n C dX2_above_6 7 rfl [(3, .int (f0 p)), (0, .ref (h 0)), (1, .int (nI p)), (2, .int (nI o))] (by decide) rfl ?_
  refine zv_sub [1, 2, 3, 0] (lv' := [(0, .ref (h 0)), (1, .int (nI p)), (2, .int (nI o)), (3, .int (f0 p))]) rfl ?_
  exact L7 _ 16 (f0 p) (hD.dx hp (by have := (hD p hp).1; omega)) rfl (Nat.lt_succ_self _)
abbrev rmX2_aboveOf : Room := { frames := 1, cells := 0, slots := 0, locals := 23 }
set_option maxHeartbeats 4000000 in
set_option maxRecDepth 100000 in
theorem k_X2_aboveOf (l : Launch) (D : va_G) (cI cZ : ClassId) (h : Nat → Nat) (t : Int32) (n : Nat) (r y : Int32) (b : Nat) (f0 f1 f2 f3 f4 f5 f6 f7 f8 f9 f10 f11 f12 f13 : Nat → Int32) (p : Nat) (s : Nat → Int32) (d : Nat → Nat) (hn : n ≤ 16) (hD : Dep n f0 s d) (hp : p < n) : zv_R l yX2_aboveOf wsX2_aboveOf rmX2_aboveOf D vwCl (tyL cI cZ) [.ref (h 0), .int (nI p)] (cM cI cZ h t (nI n) r y (nI b) f0 f1 f2 f3 f4 f5 f6 f7 f8 f9 f10 f11 f12 f13) (fun v => v = some (.int (nI (ao n f0 p)))) := by
  refine zv_R.of cX2_aboveOf 4 (some .int) (by decide) rfl (Nat.le_of_ble_eq_true rfl) ?_
  intro pP eE sS mM aA bB mT cD A C hr hlk hA Q hQ
  have inX2 : ∀ w ∈ u_ws RX2 TX2 19, w ∈ wsX2_aboveOf := by decide +kernel
  have lk57 : Cond.fieldLink RX2 57 "RiverNamesModel" "places" "I" ∈ wsX2_aboveOf := by decide +kernel
  have L4 : ∀ (mu_L4 : Nat), ∀ (j t1 : Nat), (j ≤ n) → (t1 = cnb (fun q => fl f0 (nI p) 16 (f0 q)) j) → n - j < mu_L4 → zv_V pP l eE rmX2_aboveOf sS mM aA bB mT cD Q 4 D vwCl A (fun _ => True) (tyL cI cZ) (cM cI cZ h t (nI n) r y (nI b) f0 f1 f2 f3 f4 f5 f6 f7 f8 f9 f10 f11 f12 f13) 0 0 4 [(0, .ref (h 0)), (1, .int (nI p)), (2, .int (nI t1)), (3, .int (nI j))] [] := by
    intro mu_L4
    induction mu_L4 with
    | zero => intro j t1 hj ht hmu_L4; exact absurd hmu_L4 (Nat.not_lt_zero _)
    | succ mu_L4 ih_L4 =>
      intro j t1 hj ht hmu_L4
      refine zv_iload_n C dX2_aboveOf_4 5 rfl 3 rfl ?_
      refine zv_aload_n C dX2_aboveOf_5 6 rfl 0 rfl ?_
      refine zv_get (ci := 2) C inX2 rfl dX2_aboveOf_6 9 rfl 0 1 rfl (by decide) lk57 rfl ?_
      refine zv_icmp_ge C dX2_aboveOf_9 12 35 rfl (by decide) (fun c1 => ?_) (fun c1 => ?_)
      · replace c1 := zn_le (a := n) (b := j) (by omega) (by omega) c1
        refine zv_iload_n C dX2_aboveOf_35 36 rfl 2 rfl ?_
        exact zv_iretR C hr hlk hA hQ dX2_aboveOf_36 (by have hjn : j = n := (by omega); subst hjn; rw [ht]; rfl)
      · replace c1 := zn_le' (a := n) (b := j) (by omega) (by omega) c1
        refine zv_iload_n C dX2_aboveOf_12 13 rfl 2 rfl ?_
        refine zv_aload_n C dX2_aboveOf_13 14 rfl 0 rfl ?_
        refine zv_iload_n C dX2_aboveOf_14 15 rfl 3 rfl ?_
        refine zv_iload_n C dX2_aboveOf_15 16 rfl 1 rfl ?_
        refine zv_callVR (rest := [.int (nI t1)]) C (k_X2_above l D cI cZ h t n r y b f0 f1 f2 f3 f4 f5 f6 f7 f8 f9 f10 f11 f12 f13 j p s d (by omega) (by assumption) (by omega) (by omega)) (cwV 2 C.1.2.2.2.2 gX2_aboveOf_X2_above rfl rfl rfl (by decide +kernel) ⟨Nat.le_of_ble_eq_true rfl, Nat.le_of_ble_eq_true rfl⟩) dX2_aboveOf_16 19 rfl (ci := 2) 0 rfl rfl rfl rfl (Nat.le_of_ble_eq_true rfl) ⟨Nat.le_of_ble_eq_true rfl, Nat.le_of_ble_eq_true rfl⟩ [0, 1] rfl [0, 1, 2, 3, 4, 5, 6, 7, 8, 9, 10, 11, 12, 13, 14] rfl (by decide) (fun v hv => ?_)
        subst hv
        refine zv_go rfl rfl (st' := [.int (zb (fl f0 (nI p) 16 (f0 j))), .int (nI t1)]) rfl (kc' := 0) rfl (ns' := 0) rfl ?_
        refine zv_if_eq C dX2_aboveOf_19 22 26 rfl (by decide) (fun c2 => ?_) (fun c2 => ?_)
        · replace c2 := zb_eq0.mp c2
          refine zv_iconst (v := 0) C dX2_aboveOf_26 27 rfl (by decide) ?_
          refine zv_iadd (v := (nI t1)) C dX2_aboveOf_27 28 rfl (Int32.add_zero _) ?_
          refine zv_istore_n C dX2_aboveOf_28 29 rfl [(2, .int (nI t1)), (0, .ref (h 0)), (1, .int (nI p)), (3, .int (nI j))] (by decide) rfl ?_
          refine zv_iinc (v := (nI (j + 1))) C dX2_aboveOf_29 32 rfl [(3, .int (nI (j + 1))), (2, .int (nI t1)), (0, .ref (h 0)), (1, .int (nI p))] 3 rfl (nI_1 j) (by decide) rfl ?_
          refine zv_goto C dX2_aboveOf_32 4 (by decide) ?_
          refine zv_sub [2, 3, 1, 0] (lv' := [(0, .ref (h 0)), (1, .int (nI p)), (2, .int (nI t1)), (3, .int (nI (j + 1)))]) rfl ?_
          exact ih_L4 (j + 1) t1 (by omega) (by rw [ht, cnb_n (fun q => fl f0 (nI p) 16 (f0 q)) c2]) (by omega)
        · replace c2 := zb_ne0.mp c2
          refine zv_iconst (v := 1) C dX2_aboveOf_22 23 rfl (by decide) ?_
          refine zv_goto C dX2_aboveOf_23 27 (by decide) ?_
          refine zv_iadd (v := (nI (t1 + 1))) C dX2_aboveOf_27 28 rfl (nI_1 t1) ?_
          refine zv_istore_n C dX2_aboveOf_28 29 rfl [(2, .int (nI (t1 + 1))), (0, .ref (h 0)), (1, .int (nI p)), (3, .int (nI j))] (by decide) rfl ?_
          refine zv_iinc (v := (nI (j + 1))) C dX2_aboveOf_29 32 rfl [(3, .int (nI (j + 1))), (2, .int (nI (t1 + 1))), (0, .ref (h 0)), (1, .int (nI p))] 3 rfl (nI_1 j) (by decide) rfl ?_
          refine zv_goto C dX2_aboveOf_32 4 (by decide) ?_
          refine zv_sub [2, 3, 1, 0] (lv' := [(0, .ref (h 0)), (1, .int (nI p)), (2, .int (nI (t1 + 1))), (3, .int (nI (j + 1)))]) rfl ?_
          exact ih_L4 (j + 1) (t1 + 1) (by omega) (by rw [ht, cnb_y (fun q => fl f0 (nI p) 16 (f0 q)) c2]) (by omega)
  refine zv_go (pc' := 0) rfl (lv' := [(0, .ref (h 0)), (1, .int (nI p))]) rfl rfl rfl rfl ?_
  refine zv_iconst (v := 0) C dX2_aboveOf_0 1 rfl (by decide) ?_
  refine zv_istore_n C dX2_aboveOf_1 2 rfl [(2, .int 0), (0, .ref (h 0)), (1, .int (nI p))] (by decide) rfl ?_
  refine zv_iconst (v := 0) C dX2_aboveOf_2 3 rfl (by decide) ?_
  refine zv_istore_n C dX2_aboveOf_3 4 rfl [(3, .int 0), (2, .int 0), (0, .ref (h 0)), (1, .int (nI p))] (by decide) rfl ?_
  refine zv_sub [2, 3, 1, 0] (lv' := [(0, .ref (h 0)), (1, .int (nI p)), (2, .int 0), (3, .int 0)]) rfl ?_
  exact L4 _ 0 0 (by omega) rfl (Nat.lt_succ_self _)
abbrev rmX2_mouth : Room := { frames := 0, cells := 0, slots := 0, locals := 0 }
set_option maxHeartbeats 4000000 in
set_option maxRecDepth 100000 in
theorem k_X2_mouth (l : Launch) (D : va_G) (cI cZ : ClassId) (h : Nat → Nat) (t : Int32) (n : Nat) (r y : Int32) (b : Nat) (f0 f1 f2 f3 f4 f5 f6 f7 f8 f9 f10 f11 f12 f13 : Nat → Int32) (p : Nat) (s : Nat → Int32) (d : Nat → Nat) (hn : n ≤ 16) (hD : Dep n f0 s d) (hp : p < n) : zv_R l yX2_mouth wsX2_mouth rmX2_mouth D vwCl (tyL cI cZ) [.ref (h 0), .int (nI p)] (cM cI cZ h t (nI n) r y (nI b) f0 f1 f2 f3 f4 f5 f6 f7 f8 f9 f10 f11 f12 f13) (fun v => v = some (.int (nI (mo f0 16 p)))) := by
  refine zv_R.of cX2_mouth 3 (some .int) (by decide) rfl (Nat.le_of_ble_eq_true rfl) ?_
  intro pP eE sS mM aA bB mT cD A C hr hlk hA Q hQ
  have inX2 : ∀ w ∈ u_ws RX2 TX2 19, w ∈ wsX2_mouth := by decide +kernel
  have lk9 : Cond.fieldLink RX2 9 "RiverNamesModel" "to" "[I" ∈ wsX2_mouth := by decide +kernel
  have L2 : ∀ (mu_L2 : Nat), ∀ (k x : Nat), (x < n) → (d x ≤ k) → (mo f0 16 p = mo f0 k x) → k < mu_L2 → zv_V pP l eE rmX2_mouth sS mM aA bB mT cD Q 3 D vwCl A (fun _ => True) (tyL cI cZ) (cM cI cZ h t (nI n) r y (nI b) f0 f1 f2 f3 f4 f5 f6 f7 f8 f9 f10 f11 f12 f13) 0 0 2 [(0, .ref (h 0)), (1, .int (nI p)), (2, .int (nI x))] [] := by
    intro mu_L2
    induction mu_L2 with
    | zero => intro k x hx hk he hmu_L2; exact absurd hmu_L2 (Nat.not_lt_zero _)
    | succ mu_L2 ih_L2 =>
      intro k x hx hk he hmu_L2
      refine zv_aload_n C dX2_mouth_2 3 rfl 0 rfl ?_
      refine zv_get (ci := 2) C inX2 rfl dX2_mouth_3 6 rfl 0 4 rfl (by decide) lk9 rfl ?_
      refine zv_iload_n C dX2_mouth_6 7 rfl 2 rfl ?_
      refine zv_iald (v := (f0 x)) C dX2_mouth_7 8 rfl 1 0 x rfl rfl rfl (by omega) (by decide) rfl ?_
      refine zv_iconst (v := (-1 : Int32)) C dX2_mouth_8 9 rfl (by decide) ?_
      refine zv_icmp_eq C dX2_mouth_9 12 22 rfl (by decide) (fun c1 => ?_) (fun c1 => ?_)
      · refine zv_iload_n C dX2_mouth_22 23 rfl 2 rfl ?_
        exact zv_iretR C hr hlk hA hQ dX2_mouth_23 (by rw [he, mo_neg _ _ (by rw [c1]; decide)])
      · obtain ⟨q, hq, hxq, hdq⟩ := (hD x hx).2.2.resolve_left (fun z => c1 z.1)
        obtain ⟨k', rfl⟩ : ∃ k', k = k' + 1 := ⟨k - 1, by omega⟩
        refine zv_aload_n C dX2_mouth_12 13 rfl 0 rfl ?_
        refine zv_get (ci := 2) C inX2 rfl dX2_mouth_13 16 rfl 0 4 rfl (by decide) lk9 rfl ?_
        refine zv_iload_n C dX2_mouth_16 17 rfl 2 rfl ?_
        refine zv_iald (v := (nI q)) C dX2_mouth_17 18 rfl 1 0 x rfl rfl rfl (by omega) (by decide) hxq ?_
        refine zv_istore_n C dX2_mouth_18 19 rfl [(2, .int (nI q)), (0, .ref (h 0)), (1, .int (nI p))] (by decide) rfl ?_
        refine zv_goto C dX2_mouth_19 2 (by decide) ?_
        refine zv_sub [1, 2, 0] (lv' := [(0, .ref (h 0)), (1, .int (nI p)), (2, .int (nI q))]) rfl ?_
        exact ih_L2 k' q hq (by omega) (by rw [he, mo_go _ (by omega) hxq]) (by omega)
  refine zv_go (pc' := 0) rfl (lv' := [(0, .ref (h 0)), (1, .int (nI p))]) rfl rfl rfl rfl ?_
  refine zv_iload_n C dX2_mouth_0 1 rfl 1 rfl ?_
  refine zv_istore_n C dX2_mouth_1 2 rfl [(2, .int (nI p)), (0, .ref (h 0)), (1, .int (nI p))] (by decide) rfl ?_
  refine zv_sub [1, 2, 0] (lv' := [(0, .ref (h 0)), (1, .int (nI p)), (2, .int (nI p))]) rfl ?_
  exact L2 _ 16 p hp (by have := (hD p hp).1; omega) rfl (Nat.lt_succ_self _)
abbrev rmX2_sort : Room := { frames := 2, cells := 0, slots := 0, locals := 46 }
set_option maxHeartbeats 4000000 in
set_option maxRecDepth 100000 in
theorem k_X2_sort (l : Launch) (D : va_G) (cI cZ : ClassId) (h : Nat → Nat) (t : Int32) (n : Nat) (r y : Int32) (b : Nat) (f0 f1 f2 f3 f4 f5 f6 f7 f8 f9 f10 f11 f12 f13 : Nat → Int32) (s : Nat → Int32) (d : Nat → Nat) (hn : n ≤ 16) (hD : Dep n f0 s d) : zv_M l yX2_sort wsX2_sort rmX2_sort D vwCl (tyL cI cZ) [.ref (h 0)] (cM cI cZ h t (nI n) r y (nI b) f0 f1 f2 f3 f4 f5 f6 f7 f8 f9 f10 f11 f12 f13) (fun v w => ∃ (g8 : Nat → Int32), v = none ∧ w = (cM cI cZ h t (nI n) r y (nI b) f0 f1 f2 f3 f4 f5 f6 f7 g8 f9 f10 f11 f12 f13) ∧ (∃ o, Srt n (ao n f0) g8 o)) := by
  refine zv_M.of cX2_sort 4 none (by decide) rfl (Nat.le_of_ble_eq_true rfl) ?_
  intro pP eE sS mM aA bB mT cD A C hr hlk hnm Q hQ
  have inX2 : ∀ w ∈ u_ws RX2 TX2 19, w ∈ wsX2_sort := by decide +kernel
  have lk57 : Cond.fieldLink RX2 57 "RiverNamesModel" "places" "I" ∈ wsX2_sort := by decide +kernel
  have lk35 : Cond.fieldLink RX2 35 "RiverNamesModel" "order" "[I" ∈ wsX2_sort := by decide +kernel
  have L4 : ∀ (mu_L4 : Nat), ∀ (m x1 : Nat) (g8 : Nat → Int32) (o : Nat → Nat), (m ≤ n) → (x1 = cx n (ao n f0) m 0) → (SO n (ao n f0) m 0 g8 o) → n - m < mu_L4 → zv_V pP l eE rmX2_sort sS mM aA bB mT cD Q 4 D vwCl A A (tyL cI cZ) (cM cI cZ h t (nI n) r y (nI b) f0 f1 f2 f3 f4 f5 f6 f7 g8 f9 f10 f11 f12 f13) 0 0 4 [(0, .ref (h 0)), (1, .int (nI x1)), (2, .int (nI m))] [] := by
    intro mu_L4
    induction mu_L4 with
    | zero => intro m x1 g8 o hm hx1 hS hmu_L4; exact absurd hmu_L4 (Nat.not_lt_zero _)
    | succ mu_L4 ih_L4 =>
      intro m x1 g8 o hm hx1 hS hmu_L4
      have L14 : ∀ (mu_L14 : Nat), ∀ (m p x1 : Nat) (g8 : Nat → Int32) (o : Nat → Nat), (m < n) → (p ≤ n) → (n - (m + 1) < mu_L4) → (x1 = cx n (ao n f0) m p) → (SO n (ao n f0) m p g8 o) → n - p < mu_L14 → zv_V pP l eE rmX2_sort sS mM aA bB mT cD Q 4 D vwCl A A (tyL cI cZ) (cM cI cZ h t (nI n) r y (nI b) f0 f1 f2 f3 f4 f5 f6 f7 g8 f9 f10 f11 f12 f13) 0 0 14 [(0, .ref (h 0)), (1, .int (nI x1)), (2, .int (nI m)), (3, .int (nI p))] [] := by
        intro mu_L14
        induction mu_L14 with
        | zero => intro m p x1 g8 o hm hp hmm hx1 hS hmu_L14; exact absurd hmu_L14 (Nat.not_lt_zero _)
        | succ mu_L14 ih_L14 =>
          intro m p x1 g8 o hm hp hmm hx1 hS hmu_L14
          refine zv_iload_n C dX2_sort_14 15 rfl 3 rfl ?_
          refine zv_aload_n C dX2_sort_15 16 rfl 0 rfl ?_
          refine zv_get (ci := 2) C inX2 rfl dX2_sort_16 19 rfl 0 1 rfl (by decide) lk57 rfl ?_
          refine zv_icmp_ge C dX2_sort_19 22 50 rfl (by decide) (fun c1 => ?_) (fun c1 => ?_)
          · replace c1 := zn_le (a := n) (b := p) (by omega) (by omega) c1
            refine zv_iinc (v := (nI (m + 1))) C dX2_sort_50 53 rfl [(2, .int (nI (m + 1))), (0, .ref (h 0)), (1, .int (nI x1)), (3, .int (nI p))] 2 rfl (nI_1 m) (by decide) rfl ?_
            refine zv_goto C dX2_sort_53 4 (by decide) ?_
            have hpn : p = n := (by omega)
            subst hpn
            refine zv_sub [1, 2, 0] (lv' := [(0, .ref (h 0)), (1, .int (nI x1)), (2, .int (nI (m + 1)))]) rfl ?_
            exact ih_L4 (m + 1) x1 g8 o (by omega) (by rw [hx1, cx_next]) hS.next (by omega)
          · replace c1 := zn_le' (a := n) (b := p) (by omega) (by omega) c1
            refine zv_aload_n C dX2_sort_22 23 rfl 0 rfl ?_
            refine zv_iload_n C dX2_sort_23 24 rfl 3 rfl ?_
            refine zv_callVR (rest := []) C (k_X2_aboveOf l D cI cZ h t n r y b f0 f1 f2 f3 f4 f5 f6 f7 g8 f9 f10 f11 f12 f13 p s d (by omega) (by assumption) (by omega)) (cwV 1 C.1.2.2.2.2 gX2_sort_X2_aboveOf rfl rfl rfl (by decide +kernel) ⟨Nat.le_of_ble_eq_true rfl, Nat.le_of_ble_eq_true rfl⟩) dX2_sort_24 27 rfl (ci := 2) 0 rfl rfl rfl rfl (Nat.le_of_ble_eq_true rfl) ⟨Nat.le_of_ble_eq_true rfl, Nat.le_of_ble_eq_true rfl⟩ [0, 1] rfl [0, 1, 2, 3, 4, 5, 6, 7, 8, 9, 10, 11, 12, 13, 14] rfl (by decide) (fun v hv => ?_)
            subst hv
            refine zv_go rfl rfl (st' := [.int (nI (ao n f0 p))]) rfl (kc' := 0) rfl (ns' := 0) rfl ?_
            refine zv_iload_n C dX2_sort_27 28 rfl 2 rfl ?_
            refine zv_icmp_eq C dX2_sort_28 31 34 rfl (by decide) (fun c2 => ?_) (fun c2 => ?_)
            · have hao := ao_lt hD hn (by omega : p < n)
              replace c2 := zn_eq (a := ao n f0 p) (b := m) (by omega) (by omega) c2
              have hcx := cx_lt (n := n) (a := ao n f0) (by omega : p < n) c2
              refine zv_aload_n C dX2_sort_34 35 rfl 0 rfl ?_
              refine zv_get (ci := 2) C inX2 rfl dX2_sort_35 38 rfl 0 13 rfl (by decide) lk35 rfl ?_
              refine zv_iload_n C dX2_sort_38 39 rfl 1 rfl ?_
              refine zv_iload_n C dX2_sort_39 40 rfl 3 rfl ?_
              refine zv_iast (x' := (nI p)) C dX2_sort_40 41 rfl 9 0 x1 rfl rfl rfl (by omega) (by decide) rfl (cM cI cZ h t (nI n) r y (nI b) f0 f1 f2 f3 f4 f5 f6 f7 (upd g8 x1 (nI p)) f9 f10 f11 f12 f13) rfl ?_
              refine zv_iinc (v := (nI (x1 + 1))) C dX2_sort_41 44 rfl [(1, .int (nI (x1 + 1))), (0, .ref (h 0)), (2, .int (nI m)), (3, .int (nI p))] 1 rfl (nI_1 x1) (by decide) rfl ?_
              refine zv_iinc (v := (nI (p + 1))) C dX2_sort_44 47 rfl [(3, .int (nI (p + 1))), (1, .int (nI (x1 + 1))), (0, .ref (h 0)), (2, .int (nI m))] 3 rfl (nI_1 p) (by decide) rfl ?_
              refine zv_goto C dX2_sort_47 14 (by decide) ?_
              refine zv_sub [2, 1, 3, 0] (lv' := [(0, .ref (h 0)), (1, .int (nI (x1 + 1))), (2, .int (nI m)), (3, .int (nI (p + 1)))]) rfl ?_
              exact ih_L14 m (p + 1) (x1 + 1) (upd g8 x1 (nI p)) (fun k => if k = cx n (ao n f0) m p then p else o k) hm (by omega) (by omega) (by rw [cx_y (by omega) c2, hx1]) (by rw [hx1]; exact hS.yes (by omega) c2) (by omega)
            · have hao := ao_lt hD hn (by omega : p < n)
              replace c2 := zn_eq' (a := ao n f0 p) (b := m) (by omega) (by omega) c2
              refine zv_goto C dX2_sort_31 44 (by decide) ?_
              refine zv_iinc (v := (nI (p + 1))) C dX2_sort_44 47 rfl [(3, .int (nI (p + 1))), (0, .ref (h 0)), (1, .int (nI x1)), (2, .int (nI m))] 3 rfl (nI_1 p) (by decide) rfl ?_
              refine zv_goto C dX2_sort_47 14 (by decide) ?_
              refine zv_sub [1, 2, 3, 0] (lv' := [(0, .ref (h 0)), (1, .int (nI x1)), (2, .int (nI m)), (3, .int (nI (p + 1)))]) rfl ?_
              exact ih_L14 m (p + 1) x1 g8 o hm (by omega) (by omega) (by rw [cx_n c2, hx1]) (hS.no c2) (by omega)
      refine zv_iload_n C dX2_sort_4 5 rfl 2 rfl ?_
      refine zv_aload_n C dX2_sort_5 6 rfl 0 rfl ?_
      refine zv_get (ci := 2) C inX2 rfl dX2_sort_6 9 rfl 0 1 rfl (by decide) lk57 rfl ?_
      refine zv_icmp_ge C dX2_sort_9 12 56 rfl (by decide) (fun c3 => ?_) (fun c3 => ?_)
      · replace c3 := zn_le (a := n) (b := m) (by omega) (by omega) c3
        exact zv_vret C hr hlk hQ dX2_sort_56 ⟨g8, rfl, rfl, ⟨o, (by have hmn : m = n := (by omega); subst hmn; exact hS.last (fun x hx => ao_lt hD hn hx))⟩⟩
      · replace c3 := zn_le' (a := n) (b := m) (by omega) (by omega) c3
        refine zv_iconst (v := 0) C dX2_sort_12 13 rfl (by decide) ?_
        refine zv_istore_n C dX2_sort_13 14 rfl [(3, .int 0), (0, .ref (h 0)), (1, .int (nI x1)), (2, .int (nI m))] (by decide) rfl ?_
        refine zv_sub [1, 2, 3, 0] (lv' := [(0, .ref (h 0)), (1, .int (nI x1)), (2, .int (nI m)), (3, .int 0)]) rfl ?_
        exact L14 _ m 0 x1 g8 o (by omega) (Nat.zero_le n) (by omega) hx1 hS (Nat.lt_succ_self _)
  refine zv_go (pc' := 0) rfl (lv' := [(0, .ref (h 0))]) rfl rfl rfl rfl ?_
  refine zv_iconst (v := 0) C dX2_sort_0 1 rfl (by decide) ?_
  refine zv_istore_n C dX2_sort_1 2 rfl [(1, .int 0), (0, .ref (h 0))] (by decide) rfl ?_
  refine zv_iconst (v := 0) C dX2_sort_2 3 rfl (by decide) ?_
  refine zv_istore_n C dX2_sort_3 4 rfl [(2, .int 0), (1, .int 0), (0, .ref (h 0))] (by decide) rfl ?_
  refine zv_sub [2, 1, 0] (lv' := [(0, .ref (h 0)), (1, .int 0), (2, .int 0)]) rfl ?_
  exact L4 _ 0 0 f8 id (Nat.zero_le n) (cx_0 n _).symm SO.first (Nat.lt_succ_self _)
