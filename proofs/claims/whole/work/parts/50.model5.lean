abbrev rmX2_nameIn : Room := { frames := 4, cells := 0, slots := 0, locals := 90 }
set_option maxHeartbeats 4000000 in
set_option maxRecDepth 100000 in
theorem k_X2_nameIn_ok (l : Launch) (D : va_G) (cI cZ : ClassId) (h : Nat → Nat) (t : Int32) (n : Nat) (r y : Int32) (b : Nat) (f0 f1 f2 f3 f4 f5 f6 f7 f8 f9 f10 f11 f12 f13 : Nat → Int32) (p k : Nat) (hk1 : 1 ≤ k) (hk2 : k ≤ 50) (s : Nat → Int32) (d : Nat → Nat) (hn : n ≤ 16) (hD : Dep n f0 s d) (hp : p < n) : zv_M l yX2_nameIn wsX2_nameIn rmX2_nameIn D vwCl (tyL cI cZ) [.ref (h 0), .int (nI p), .int (nI k)] (cM cI cZ h t (nI n) r y (nI b) f0 f1 f2 f3 f4 f5 f6 f7 f8 f9 f10 f11 f12 f13) (fun v w => ∃ (g3 g8 g9 g10 g11 g13 : Nat → Int32), v = some (.int ((nmS n f0 f1 f2 (swN f1 f3 f4 k) f5 r) p)) ∧ w = (cM cI cZ h 0 (nI n) r y (nI b) f0 f1 f2 g3 f4 f5 f6 f7 g8 g9 g10 g11 f12 g13) ∧ (∀ i, i < 16 → g3 i = f3 i)) := by
  refine zv_M.of cX2_nameIn 4 (some .int) (by decide) rfl (Nat.le_of_ble_eq_true rfl) ?_
  intro pP eE sS mM aA bB mT cD A C hr hlk hnm Q hQ
  have inX2 : ∀ w ∈ u_ws RX2 TX2 19, w ∈ wsX2_nameIn := by decide +kernel
  have lk44 : Cond.fieldLink RX2 44 "RiverNamesModel" "name" "[I" ∈ wsX2_nameIn := by decide +kernel
  have lk53 : Cond.fieldLink RX2 53 "RiverNamesModel" "thrown" "I" ∈ wsX2_nameIn := by decide +kernel
  have L41 : ∀ (mu_L41 : Nat), ∀ (j : Nat) (e3 g13 : Nat → Int32), (j ≤ k) → (∀ i, i < n → e3 i = swN f1 f3 f4 j i) → (∀ i, i < 16 → g13 i = f3 i) → k - j < mu_L41 → zv_V pP l eE rmX2_nameIn sS mM aA bB mT cD Q 4 D vwCl A A (tyL cI cZ) (cM cI cZ h 0 (nI n) r y (nI b) f0 f1 f2 e3 f4 f5 f6 f7 f8 f9 f10 f11 f12 g13) 0 0 41 [(0, .ref (h 0)), (1, .int (nI p)), (2, .int (nI k)), (3, .int (nI j))] [] := by
    intro mu_L41
    induction mu_L41 with
    | zero => intro j e3 g13 hj ha hs hmu_L41; exact absurd hmu_L41 (Nat.not_lt_zero _)
    | succ mu_L41 ih_L41 =>
      intro j e3 g13 hj ha hs hmu_L41
      refine zv_iload_n C dX2_nameIn_41 42 rfl 3 rfl ?_
      refine zv_iload_n C dX2_nameIn_42 43 rfl 2 rfl ?_
      refine zv_icmp_ge C dX2_nameIn_43 46 56 rfl (by decide) (fun c1 => ?_) (fun c1 => ?_)
      · replace c1 := zn_le (a := k) (b := j) (by omega) (by omega) c1
        refine zv_aload_n C dX2_nameIn_56 57 rfl 0 rfl ?_
        refine zv_callV (rest := []) (wr := []) C (k_X2_reckon l D cI cZ h 0 n r y b f0 f1 f2 e3 f4 f5 f6 f7 f8 f9 f10 f11 f12 g13 s d (by omega) (by assumption)) (cwV 0 C.1.2.2.2.2 gX2_nameIn_X2_reckon rfl rfl rfl (by decide +kernel) ⟨Nat.le_of_ble_eq_true rfl, Nat.le_of_ble_eq_true rfl⟩) dX2_nameIn_57 60 rfl (ci := 2) 0 rfl rfl rfl rfl (Nat.le_of_ble_eq_true rfl) ⟨Nat.le_of_ble_eq_true rfl, Nat.le_of_ble_eq_true rfl⟩ [0, 1] rfl [0, 1, 2, 3, 4, 5, 6, 7, 8, 9, 10, 11, 12, 13, 14] rfl (by decide) [] rfl (by decide) (by decide +kernel) (fun v w hv => ?_)
        obtain ⟨u8_81, u9_81, u10_81, u11_81, rfl, rfl, huM81⟩ := hv
        refine zv_go rfl rfl (st' := []) rfl (kc' := 0) rfl (ns' := 0) rfl ?_
        refine zv_wd (ws' := (cM cI cZ h 0 (nI n) r y (nI b) f0 f1 f2 e3 f4 f5 f6 f7 u8_81 u9_81 u10_81 u11_81 f12 g13)) rfl ?_
        refine zv_aload_n C dX2_nameIn_60 61 rfl 0 rfl ?_
        refine zv_callV (rest := []) (wr := []) C (k_X2_bringBack l D cI cZ h 0 n r y b f0 f1 f2 e3 f4 f5 f6 f7 u8_81 u9_81 u10_81 u11_81 f12 g13) (cwV 0 C.1.2.2.2.2 gX2_nameIn_X2_bringBack rfl rfl rfl (by decide +kernel) ⟨Nat.le_of_ble_eq_true rfl, Nat.le_of_ble_eq_true rfl⟩) dX2_nameIn_61 64 rfl (ci := 2) 0 rfl rfl rfl rfl (Nat.le_of_ble_eq_true rfl) ⟨Nat.le_of_ble_eq_true rfl, Nat.le_of_ble_eq_true rfl⟩ [0, 1] rfl [0, 1, 2, 3, 4, 5, 6, 7, 8, 9, 10, 11, 12, 13, 14] rfl (by decide) [] rfl (by decide) (by decide +kernel) (fun v w hv => ?_)
        obtain ⟨u3_82, rfl, rfl, huC82⟩ := hv
        refine zv_go rfl rfl (st' := []) rfl (kc' := 0) rfl (ns' := 0) rfl ?_
        refine zv_wd (ws' := (cM cI cZ h 0 (nI n) r y (nI b) f0 f1 f2 u3_82 f4 f5 f6 f7 u8_81 u9_81 u10_81 u11_81 f12 g13)) rfl ?_
        refine zv_aload_n C dX2_nameIn_64 65 rfl 0 rfl ?_
        refine zv_get (ci := 2) C inX2 rfl dX2_nameIn_65 68 rfl 0 16 rfl (by decide) lk44 rfl ?_
        refine zv_iload_n C dX2_nameIn_68 69 rfl 1 rfl ?_
        refine zv_iald (v := (u11_81 p)) C dX2_nameIn_69 70 rfl 12 0 p rfl rfl rfl (by omega) (by decide) rfl ?_
        exact zv_iret C hr hlk hQ dX2_nameIn_70 ⟨u3_82, u8_81, u9_81, u10_81, u11_81, g13, (by rw [MA.nm hD hn huM81 p hp, nmS_congr (f3 := e3) (e3 := swN f1 f3 f4 k) (fun i hi => ⟨rfl, rfl, (ha i hi).trans (by rw [show j = k by omega]), rfl, fun _ => rfl⟩)]), rfl, (fun i hi => (huC82 i hi).trans (hs i hi))⟩
      · replace c1 := zn_le' (a := k) (b := j) (by omega) (by omega) c1
        refine zv_aload_n C dX2_nameIn_46 47 rfl 0 rfl ?_
        refine zv_callV (rest := []) (wr := []) C (k_X2_swells l D cI cZ h 0 n r y b f0 f1 f2 e3 f4 f5 f6 f7 f8 f9 f10 f11 f12 g13 (by omega)) (cwV 0 C.1.2.2.2.2 gX2_nameIn_X2_swells rfl rfl rfl (by decide +kernel) ⟨Nat.le_of_ble_eq_true rfl, Nat.le_of_ble_eq_true rfl⟩) dX2_nameIn_47 50 rfl (ci := 2) 0 rfl rfl rfl rfl (Nat.le_of_ble_eq_true rfl) ⟨Nat.le_of_ble_eq_true rfl, Nat.le_of_ble_eq_true rfl⟩ [0, 1] rfl [0, 1, 2, 3, 4, 5, 6, 7, 8, 9, 10, 11, 12, 13, 14] rfl (by decide) [] rfl (by decide) (by decide +kernel) (fun v w hv => ?_)
        obtain ⟨u3_83, rfl, rfl, hua83, hub83⟩ := hv
        refine zv_go rfl rfl (st' := []) rfl (kc' := 0) rfl (ns' := 0) rfl ?_
        refine zv_wd (ws' := (cM cI cZ h 0 (nI n) r y (nI b) f0 f1 f2 u3_83 f4 f5 f6 f7 f8 f9 f10 f11 f12 g13)) rfl ?_
        refine zv_iinc (v := (nI (j + 1))) C dX2_nameIn_50 53 rfl [(3, .int (nI (j + 1))), (0, .ref (h 0)), (1, .int (nI p)), (2, .int (nI k))] 3 rfl (nI_1 j) (by decide) rfl ?_
        refine zv_goto C dX2_nameIn_53 41 (by decide) ?_
        refine zv_sub [1, 2, 3, 0] (lv' := [(0, .ref (h 0)), (1, .int (nI p)), (2, .int (nI k)), (3, .int (nI (j + 1)))]) rfl ?_
        exact ih_L41 (j + 1) u3_83 g13 (by omega) (fun i hi => (hua83 i hi).trans (swl_congr rfl (ha i hi) rfl)) hs (by omega)
  refine zv_go (pc' := 0) rfl (lv' := [(0, .ref (h 0)), (1, .int (nI p)), (2, .int (nI k))]) rfl rfl rfl rfl ?_
  refine zv_aload_n C dX2_nameIn_0 1 rfl 0 rfl ?_
  refine zv_iconst (v := 0) C dX2_nameIn_1 2 rfl (by decide) ?_
  refine zv_put (ci := 2) C inX2 rfl tyX2_ok nmX2 dX2_nameIn_2 5 rfl 0 0 rfl (by decide) lk53 rfl rfl rfl (Nat.le_of_ble_eq_true rfl) (cM cI cZ h 0 (nI n) r y (nI b) f0 f1 f2 f3 f4 f5 f6 f7 f8 f9 f10 f11 f12 f13) rfl ?_
  refine zv_aload_n C dX2_nameIn_5 6 rfl 0 rfl ?_
  refine zv_iload_n C dX2_nameIn_6 7 rfl 1 rfl ?_
  refine zv_callVR (rest := []) C (k_X2_isPlace l D cI cZ h 0 n r y b f0 f1 f2 f3 f4 f5 f6 f7 f8 f9 f10 f11 f12 f13 (nI p) (by omega)) (cwV 1 C.1.2.2.2.2 gX2_nameIn_X2_isPlace rfl rfl rfl (by decide +kernel) ⟨Nat.le_of_ble_eq_true rfl, Nat.le_of_ble_eq_true rfl⟩) dX2_nameIn_7 10 rfl (ci := 2) 0 rfl rfl rfl rfl (Nat.le_of_ble_eq_true rfl) ⟨Nat.le_of_ble_eq_true rfl, Nat.le_of_ble_eq_true rfl⟩ [0, 1] rfl [0, 1, 2, 3, 4, 5, 6, 7, 8, 9, 10, 11, 12, 13, 14] rfl (by decide) (fun v hv => ?_)
  subst hv
  refine zv_go rfl rfl (st' := [.int (zb (isP n (nI p)))]) rfl (kc' := 0) rfl (ns' := 0) rfl ?_
  refine zv_if_ne C dX2_nameIn_10 13 19 rfl (by decide) (fun c2 => ?_) (fun c2 => ?_)
  · refine zv_iload_n C dX2_nameIn_19 20 rfl 2 rfl ?_
    refine zv_iconst (v := 1) C dX2_nameIn_20 21 rfl (by decide) ?_
    refine zv_bipush (v := 50) C dX2_nameIn_21 23 rfl (by decide) ?_
    refine zv_callSR (rest := []) C (k_X2_isIn l D cI cZ (nI k) 1 50) (cwS 3 C.1.2.2.2.2 gX2_nameIn_X2_isIn rfl rfl rfl (by decide +kernel) ⟨Nat.le_of_ble_eq_true rfl, Nat.le_of_ble_eq_true rfl⟩) dX2_nameIn_23 26 rfl rfl rfl (Nat.le_of_ble_eq_true rfl) ⟨Nat.le_of_ble_eq_true rfl, Nat.le_of_ble_eq_true rfl⟩ [0, 1] rfl [] rfl (by decide) (fun v hv => ?_)
    subst hv
    refine zv_go rfl rfl (st' := [.int (zb (isI (nI k) 1 50))]) rfl (kc' := 0) rfl (ns' := 0) rfl ?_
    refine zv_if_ne C dX2_nameIn_26 29 35 rfl (by decide) (fun c3 => ?_) (fun c3 => ?_)
    · refine zv_aload_n C dX2_nameIn_35 36 rfl 0 rfl ?_
      refine zv_callV (rest := []) (wr := []) C (k_X2_putAway l D cI cZ h 0 n r y b f0 f1 f2 f3 f4 f5 f6 f7 f8 f9 f10 f11 f12 f13) (cwV 0 C.1.2.2.2.2 gX2_nameIn_X2_putAway rfl rfl rfl (by decide +kernel) ⟨Nat.le_of_ble_eq_true rfl, Nat.le_of_ble_eq_true rfl⟩) dX2_nameIn_36 39 rfl (ci := 2) 0 rfl rfl rfl rfl (Nat.le_of_ble_eq_true rfl) ⟨Nat.le_of_ble_eq_true rfl, Nat.le_of_ble_eq_true rfl⟩ [0, 1] rfl [0, 1, 2, 3, 4, 5, 6, 7, 8, 9, 10, 11, 12, 13, 14] rfl (by decide) [] rfl (by decide) (by decide +kernel) (fun v w hv => ?_)
      obtain ⟨u13_84, rfl, rfl, huC84⟩ := hv
      refine zv_go rfl rfl (st' := []) rfl (kc' := 0) rfl (ns' := 0) rfl ?_
      refine zv_wd (ws' := (cM cI cZ h 0 (nI n) r y (nI b) f0 f1 f2 f3 f4 f5 f6 f7 f8 f9 f10 f11 f12 u13_84)) rfl ?_
      refine zv_iconst (v := 0) C dX2_nameIn_39 40 rfl (by decide) ?_
      refine zv_istore_n C dX2_nameIn_40 41 rfl [(3, .int 0), (0, .ref (h 0)), (1, .int (nI p)), (2, .int (nI k))] (by decide) rfl ?_
      refine zv_sub [1, 2, 3, 0] (lv' := [(0, .ref (h 0)), (1, .int (nI p)), (2, .int (nI k)), (3, .int 0)]) rfl ?_
      exact L41 _ 0 f3 u13_84 (Nat.zero_le k) (fun i _ => rfl) huC84 (Nat.lt_succ_self _)
    · exact absurd (isI_yr hk1 hk2) (by rw [zb_eq0.mp c3]; decide)
  · exact absurd (isP_nI (by omega) hp) (by rw [zb_eq0.mp c2]; decide)
set_option maxHeartbeats 4000000 in
set_option maxRecDepth 100000 in
theorem k_X2_nameIn_n1 (l : Launch) (D : va_G) (cI cZ : ClassId) (h : Nat → Nat) (t : Int32) (n : Nat) (r y : Int32) (b : Nat) (f0 f1 f2 f3 f4 f5 f6 f7 f8 f9 f10 f11 f12 f13 : Nat → Int32) (i j : Int32) (hn : n ≤ 16) (hf : isP n i = false) : zv_M l yX2_nameIn wsX2_nameIn rmX2_nameIn D vwCl (tyL cI cZ) [.ref (h 0), .int i, .int j] (cM cI cZ h t (nI n) r y (nI b) f0 f1 f2 f3 f4 f5 f6 f7 f8 f9 f10 f11 f12 f13) (fun v w => v = some (.int 0) ∧ w = (cM cI cZ h 1 (nI n) r y (nI b) f0 f1 f2 f3 f4 f5 f6 f7 f8 f9 f10 f11 f12 f13)) := by
  refine zv_M.of cX2_nameIn 4 (some .int) (by decide) rfl (Nat.le_of_ble_eq_true rfl) ?_
  intro pP eE sS mM aA bB mT cD A C hr hlk hnm Q hQ
  have inX2 : ∀ w ∈ u_ws RX2 TX2 19, w ∈ wsX2_nameIn := by decide +kernel
  have lk53 : Cond.fieldLink RX2 53 "RiverNamesModel" "thrown" "I" ∈ wsX2_nameIn := by decide +kernel
  refine zv_go (pc' := 0) rfl (lv' := [(0, .ref (h 0)), (1, .int i), (2, .int j)]) rfl rfl rfl rfl ?_
  refine zv_aload_n C dX2_nameIn_0 1 rfl 0 rfl ?_
  refine zv_iconst (v := 0) C dX2_nameIn_1 2 rfl (by decide) ?_
  refine zv_put (ci := 2) C inX2 rfl tyX2_ok nmX2 dX2_nameIn_2 5 rfl 0 0 rfl (by decide) lk53 rfl rfl rfl (Nat.le_of_ble_eq_true rfl) (cM cI cZ h 0 (nI n) r y (nI b) f0 f1 f2 f3 f4 f5 f6 f7 f8 f9 f10 f11 f12 f13) rfl ?_
  refine zv_aload_n C dX2_nameIn_5 6 rfl 0 rfl ?_
  refine zv_iload_n C dX2_nameIn_6 7 rfl 1 rfl ?_
  refine zv_callVR (rest := []) C (k_X2_isPlace l D cI cZ h 0 n r y b f0 f1 f2 f3 f4 f5 f6 f7 f8 f9 f10 f11 f12 f13 i (by omega)) (cwV 1 C.1.2.2.2.2 gX2_nameIn_X2_isPlace rfl rfl rfl (by decide +kernel) ⟨Nat.le_of_ble_eq_true rfl, Nat.le_of_ble_eq_true rfl⟩) dX2_nameIn_7 10 rfl (ci := 2) 0 rfl rfl rfl rfl (Nat.le_of_ble_eq_true rfl) ⟨Nat.le_of_ble_eq_true rfl, Nat.le_of_ble_eq_true rfl⟩ [0, 1] rfl [0, 1, 2, 3, 4, 5, 6, 7, 8, 9, 10, 11, 12, 13, 14] rfl (by decide) (fun v hv => ?_)
  subst hv
  refine zv_go rfl rfl (st' := [.int (zb (isP n i))]) rfl (kc' := 0) rfl (ns' := 0) rfl ?_
  refine zv_if_ne C dX2_nameIn_10 13 19 rfl (by decide) (fun c1 => ?_) (fun c1 => ?_)
  · exact absurd hf (by rw [zb_ne0.mp c1]; decide)
  · refine zv_aload_n C dX2_nameIn_13 14 rfl 0 rfl ?_
    refine zv_iconst (v := 1) C dX2_nameIn_14 15 rfl (by decide) ?_
    refine zv_callV (rest := []) (wr := []) C (k_X2_no l D cI cZ h 0 n r y b f0 f1 f2 f3 f4 f5 f6 f7 f8 f9 f10 f11 f12 f13 1) (cwV 1 C.1.2.2.2.2 gX2_nameIn_X2_no rfl rfl rfl (by decide +kernel) ⟨Nat.le_of_ble_eq_true rfl, Nat.le_of_ble_eq_true rfl⟩) dX2_nameIn_15 18 rfl (ci := 2) 0 rfl rfl rfl rfl (Nat.le_of_ble_eq_true rfl) ⟨Nat.le_of_ble_eq_true rfl, Nat.le_of_ble_eq_true rfl⟩ [0, 1] rfl [0, 1, 2, 3, 4, 5, 6, 7, 8, 9, 10, 11, 12, 13, 14] rfl (by decide) [] rfl (by decide) (by decide +kernel) (fun v w hv => ?_)
    obtain ⟨rfl, rfl⟩ := hv
    refine zv_go rfl rfl (st' := [.int 0]) rfl (kc' := 0) rfl (ns' := 0) rfl ?_
    refine zv_wd (ws' := (cM cI cZ h 1 (nI n) r y (nI b) f0 f1 f2 f3 f4 f5 f6 f7 f8 f9 f10 f11 f12 f13)) rfl ?_
    exact zv_iret C hr hlk hQ dX2_nameIn_18 ⟨rfl, rfl⟩
set_option maxHeartbeats 4000000 in
set_option maxRecDepth 100000 in
theorem k_X2_nameIn_n2 (l : Launch) (D : va_G) (cI cZ : ClassId) (h : Nat → Nat) (t : Int32) (n : Nat) (r y : Int32) (b : Nat) (f0 f1 f2 f3 f4 f5 f6 f7 f8 f9 f10 f11 f12 f13 : Nat → Int32) (p : Nat) (j : Int32) (hn : n ≤ 16) (hp : p < n) (hf : isI j 1 50 = false) : zv_M l yX2_nameIn wsX2_nameIn rmX2_nameIn D vwCl (tyL cI cZ) [.ref (h 0), .int (nI p), .int j] (cM cI cZ h t (nI n) r y (nI b) f0 f1 f2 f3 f4 f5 f6 f7 f8 f9 f10 f11 f12 f13) (fun v w => v = some (.int 0) ∧ w = (cM cI cZ h 2 (nI n) r y (nI b) f0 f1 f2 f3 f4 f5 f6 f7 f8 f9 f10 f11 f12 f13)) := by
  refine zv_M.of cX2_nameIn 4 (some .int) (by decide) rfl (Nat.le_of_ble_eq_true rfl) ?_
  intro pP eE sS mM aA bB mT cD A C hr hlk hnm Q hQ
  have inX2 : ∀ w ∈ u_ws RX2 TX2 19, w ∈ wsX2_nameIn := by decide +kernel
  have lk53 : Cond.fieldLink RX2 53 "RiverNamesModel" "thrown" "I" ∈ wsX2_nameIn := by decide +kernel
  refine zv_go (pc' := 0) rfl (lv' := [(0, .ref (h 0)), (1, .int (nI p)), (2, .int j)]) rfl rfl rfl rfl ?_
  refine zv_aload_n C dX2_nameIn_0 1 rfl 0 rfl ?_
  refine zv_iconst (v := 0) C dX2_nameIn_1 2 rfl (by decide) ?_
  refine zv_put (ci := 2) C inX2 rfl tyX2_ok nmX2 dX2_nameIn_2 5 rfl 0 0 rfl (by decide) lk53 rfl rfl rfl (Nat.le_of_ble_eq_true rfl) (cM cI cZ h 0 (nI n) r y (nI b) f0 f1 f2 f3 f4 f5 f6 f7 f8 f9 f10 f11 f12 f13) rfl ?_
  refine zv_aload_n C dX2_nameIn_5 6 rfl 0 rfl ?_
  refine zv_iload_n C dX2_nameIn_6 7 rfl 1 rfl ?_
  refine zv_callVR (rest := []) C (k_X2_isPlace l D cI cZ h 0 n r y b f0 f1 f2 f3 f4 f5 f6 f7 f8 f9 f10 f11 f12 f13 (nI p) (by omega)) (cwV 1 C.1.2.2.2.2 gX2_nameIn_X2_isPlace rfl rfl rfl (by decide +kernel) ⟨Nat.le_of_ble_eq_true rfl, Nat.le_of_ble_eq_true rfl⟩) dX2_nameIn_7 10 rfl (ci := 2) 0 rfl rfl rfl rfl (Nat.le_of_ble_eq_true rfl) ⟨Nat.le_of_ble_eq_true rfl, Nat.le_of_ble_eq_true rfl⟩ [0, 1] rfl [0, 1, 2, 3, 4, 5, 6, 7, 8, 9, 10, 11, 12, 13, 14] rfl (by decide) (fun v hv => ?_)
  subst hv
  refine zv_go rfl rfl (st' := [.int (zb (isP n (nI p)))]) rfl (kc' := 0) rfl (ns' := 0) rfl ?_
  refine zv_if_ne C dX2_nameIn_10 13 19 rfl (by decide) (fun c1 => ?_) (fun c1 => ?_)
  · refine zv_iload_n C dX2_nameIn_19 20 rfl 2 rfl ?_
    refine zv_iconst (v := 1) C dX2_nameIn_20 21 rfl (by decide) ?_
    refine zv_bipush (v := 50) C dX2_nameIn_21 23 rfl (by decide) ?_
    refine zv_callSR (rest := []) C (k_X2_isIn l D cI cZ j 1 50) (cwS 3 C.1.2.2.2.2 gX2_nameIn_X2_isIn rfl rfl rfl (by decide +kernel) ⟨Nat.le_of_ble_eq_true rfl, Nat.le_of_ble_eq_true rfl⟩) dX2_nameIn_23 26 rfl rfl rfl (Nat.le_of_ble_eq_true rfl) ⟨Nat.le_of_ble_eq_true rfl, Nat.le_of_ble_eq_true rfl⟩ [0, 1] rfl [] rfl (by decide) (fun v hv => ?_)
    subst hv
    refine zv_go rfl rfl (st' := [.int (zb (isI j 1 50))]) rfl (kc' := 0) rfl (ns' := 0) rfl ?_
    refine zv_if_ne C dX2_nameIn_26 29 35 rfl (by decide) (fun c2 => ?_) (fun c2 => ?_)
    · exact absurd hf (by rw [zb_ne0.mp c2]; decide)
    · refine zv_aload_n C dX2_nameIn_29 30 rfl 0 rfl ?_
      refine zv_iconst (v := 2) C dX2_nameIn_30 31 rfl (by decide) ?_
      refine zv_callV (rest := []) (wr := []) C (k_X2_no l D cI cZ h 0 n r y b f0 f1 f2 f3 f4 f5 f6 f7 f8 f9 f10 f11 f12 f13 2) (cwV 1 C.1.2.2.2.2 gX2_nameIn_X2_no rfl rfl rfl (by decide +kernel) ⟨Nat.le_of_ble_eq_true rfl, Nat.le_of_ble_eq_true rfl⟩) dX2_nameIn_31 34 rfl (ci := 2) 0 rfl rfl rfl rfl (Nat.le_of_ble_eq_true rfl) ⟨Nat.le_of_ble_eq_true rfl, Nat.le_of_ble_eq_true rfl⟩ [0, 1] rfl [0, 1, 2, 3, 4, 5, 6, 7, 8, 9, 10, 11, 12, 13, 14] rfl (by decide) [] rfl (by decide) (by decide +kernel) (fun v w hv => ?_)
      obtain ⟨rfl, rfl⟩ := hv
      refine zv_go rfl rfl (st' := [.int 0]) rfl (kc' := 0) rfl (ns' := 0) rfl ?_
      refine zv_wd (ws' := (cM cI cZ h 2 (nI n) r y (nI b) f0 f1 f2 f3 f4 f5 f6 f7 f8 f9 f10 f11 f12 f13)) rfl ?_
      exact zv_iret C hr hlk hQ dX2_nameIn_34 ⟨rfl, rfl⟩
  · exact absurd (isP_nI (by omega) hp) (by rw [zb_eq0.mp c1]; decide)
abbrev rmX2_until : Room := { frames := 5, cells := 0, slots := 0, locals := 110 }
set_option maxHeartbeats 4000000 in
set_option maxRecDepth 100000 in
theorem k_X2_until (l : Launch) (D : va_G) (cI cZ : ClassId) (h : Nat → Nat) (t : Int32) (n : Nat) (r y : Int32) (b : Nat) (f0 f1 f2 f3 f4 f5 f6 f7 f8 f9 f10 f11 f12 f13 : Nat → Int32) (p : Nat) (s : Nat → Int32) (d : Nat → Nat) (hn : n ≤ 16) (hD : Dep n f0 s d) (hp : p < n) : zv_M l yX2_until wsX2_until rmX2_until D vwCl (tyL cI cZ) [.ref (h 0), .int (nI p)] (cM cI cZ h t (nI n) r y (nI b) f0 f1 f2 f3 f4 f5 f6 f7 f8 f9 f10 f11 f12 f13) (fun v w => ∃ (g3 g8 g9 g10 g11 g12 g13 : Nat → Int32), v = some (.int (utl (anY n f0 f1 f2 f3 f4 f5 r p) 50)) ∧ w = (cM cI cZ h t (nI n) r y (nI b) f0 f1 f2 g3 f4 f5 f6 f7 g8 g9 g10 g11 g12 g13) ∧ (∀ i, i < 16 → g3 i = f3 i)) := by
  refine zv_M.of cX2_until 4 (some .int) (by decide) rfl (Nat.le_of_ble_eq_true rfl) ?_
  intro pP eE sS mM aA bB mT cD A C hr hlk hnm Q hQ
  have inX2 : ∀ w ∈ u_ws RX2 TX2 19, w ∈ wsX2_until := by decide +kernel
  have lk44 : Cond.fieldLink RX2 44 "RiverNamesModel" "name" "[I" ∈ wsX2_until := by decide +kernel
  have lk47 : Cond.fieldLink RX2 47 "RiverNamesModel" "before" "[I" ∈ wsX2_until := by decide +kernel
  have L12 : ∀ (mu_L12 : Nat), ∀ (m : Nat) (tl : Int32) (e3 g8 g9 g10 g11 g12 g13 : Nat → Int32), (m ≤ 50) → (tl = utl (anY n f0 f1 f2 f3 f4 f5 r p) m) → (∀ i, i < n → e3 i = swN f1 f3 f4 m i) → (∀ i, i < n → g12 i = nmS n f0 f1 f2 f3 f5 r i) → (∀ i, i < 16 → g13 i = f3 i) → 50 - m < mu_L12 → zv_V pP l eE rmX2_until sS mM aA bB mT cD Q 4 D vwCl A A (tyL cI cZ) (cM cI cZ h t (nI n) r y (nI b) f0 f1 f2 e3 f4 f5 f6 f7 g8 g9 g10 g11 g12 g13) 0 0 12 [(0, .ref (h 0)), (1, .int (nI p)), (2, .int tl), (3, .int (nI (m + 1)))] [] := by
    intro mu_L12
    induction mu_L12 with
    | zero => intro m tl e3 g8 g9 g10 g11 g12 g13 hm ht ha hc hs hmu_L12; exact absurd hmu_L12 (Nat.not_lt_zero _)
    | succ mu_L12 ih_L12 =>
      intro m tl e3 g8 g9 g10 g11 g12 g13 hm ht ha hc hs hmu_L12
      refine zv_iload_n C dX2_until_12 13 rfl 3 rfl ?_
      refine zv_bipush (v := 50) C dX2_until_13 15 rfl (by decide) ?_
      refine zv_icmp_gt C dX2_until_15 18 54 rfl (by decide) (fun c1 => ?_) (fun c1 => ?_)
      · replace c1 := zn_lt (a := 50) (b := (m + 1)) (by omega) (by omega) c1
        refine zv_aload_n C dX2_until_54 55 rfl 0 rfl ?_
        refine zv_callV (rest := []) (wr := []) C (k_X2_bringBack l D cI cZ h t n r y b f0 f1 f2 e3 f4 f5 f6 f7 g8 g9 g10 g11 g12 g13) (cwV 0 C.1.2.2.2.2 gX2_until_X2_bringBack rfl rfl rfl (by decide +kernel) ⟨Nat.le_of_ble_eq_true rfl, Nat.le_of_ble_eq_true rfl⟩) dX2_until_55 58 rfl (ci := 2) 0 rfl rfl rfl rfl (Nat.le_of_ble_eq_true rfl) ⟨Nat.le_of_ble_eq_true rfl, Nat.le_of_ble_eq_true rfl⟩ [0, 1] rfl [0, 1, 2, 3, 4, 5, 6, 7, 8, 9, 10, 11, 12, 13, 14] rfl (by decide) [] rfl (by decide) (by decide +kernel) (fun v w hv => ?_)
        obtain ⟨u3_87, rfl, rfl, huC87⟩ := hv
        refine zv_go rfl rfl (st' := []) rfl (kc' := 0) rfl (ns' := 0) rfl ?_
        refine zv_wd (ws' := (cM cI cZ h t (nI n) r y (nI b) f0 f1 f2 u3_87 f4 f5 f6 f7 g8 g9 g10 g11 g12 g13)) rfl ?_
        refine zv_iload_n C dX2_until_58 59 rfl 2 rfl ?_
        exact zv_iret C hr hlk hQ dX2_until_59 ⟨u3_87, g8, g9, g10, g11, g12, g13, (by rw [ht, show m = 50 by omega]), rfl, (fun i hi => (huC87 i hi).trans (hs i hi))⟩
      · replace c1 := zn_lt' (a := 50) (b := (m + 1)) (by omega) (by omega) c1
        refine zv_iload_n C dX2_until_18 19 rfl 2 rfl ?_
        refine zv_iconst (v := (-1 : Int32)) C dX2_until_19 20 rfl (by decide) ?_
        refine zv_icmp_ne C dX2_until_20 23 54 rfl (by decide) (fun c2 => ?_) (fun c2 => ?_)
        · refine zv_aload_n C dX2_until_54 55 rfl 0 rfl ?_
          refine zv_callV (rest := []) (wr := []) C (k_X2_bringBack l D cI cZ h t n r y b f0 f1 f2 e3 f4 f5 f6 f7 g8 g9 g10 g11 g12 g13) (cwV 0 C.1.2.2.2.2 gX2_until_X2_bringBack rfl rfl rfl (by decide +kernel) ⟨Nat.le_of_ble_eq_true rfl, Nat.le_of_ble_eq_true rfl⟩) dX2_until_55 58 rfl (ci := 2) 0 rfl rfl rfl rfl (Nat.le_of_ble_eq_true rfl) ⟨Nat.le_of_ble_eq_true rfl, Nat.le_of_ble_eq_true rfl⟩ [0, 1] rfl [0, 1, 2, 3, 4, 5, 6, 7, 8, 9, 10, 11, 12, 13, 14] rfl (by decide) [] rfl (by decide) (by decide +kernel) (fun v w hv => ?_)
          obtain ⟨u3_88, rfl, rfl, huC88⟩ := hv
          refine zv_go rfl rfl (st' := []) rfl (kc' := 0) rfl (ns' := 0) rfl ?_
          refine zv_wd (ws' := (cM cI cZ h t (nI n) r y (nI b) f0 f1 f2 u3_88 f4 f5 f6 f7 g8 g9 g10 g11 g12 g13)) rfl ?_
          refine zv_iload_n C dX2_until_58 59 rfl 2 rfl ?_
          exact zv_iret C hr hlk hQ dX2_until_59 ⟨u3_88, g8, g9, g10, g11, g12, g13, (by rw [ht, ← utl_stay (anY n f0 f1 f2 f3 f4 f5 r p) (fun z => c2 (ht.trans z)) (50 - m), show m + (50 - m) = 50 by omega]), rfl, (fun i hi => (huC88 i hi).trans (hs i hi))⟩
        · refine zv_aload_n C dX2_until_23 24 rfl 0 rfl ?_
          refine zv_callV (rest := []) (wr := []) C (k_X2_swells l D cI cZ h t n r y b f0 f1 f2 e3 f4 f5 f6 f7 g8 g9 g10 g11 g12 g13 (by omega)) (cwV 0 C.1.2.2.2.2 gX2_until_X2_swells rfl rfl rfl (by decide +kernel) ⟨Nat.le_of_ble_eq_true rfl, Nat.le_of_ble_eq_true rfl⟩) dX2_until_24 27 rfl (ci := 2) 0 rfl rfl rfl rfl (Nat.le_of_ble_eq_true rfl) ⟨Nat.le_of_ble_eq_true rfl, Nat.le_of_ble_eq_true rfl⟩ [0, 1] rfl [0, 1, 2, 3, 4, 5, 6, 7, 8, 9, 10, 11, 12, 13, 14] rfl (by decide) [] rfl (by decide) (by decide +kernel) (fun v w hv => ?_)
          obtain ⟨u3_89, rfl, rfl, hua89, hub89⟩ := hv
          refine zv_go rfl rfl (st' := []) rfl (kc' := 0) rfl (ns' := 0) rfl ?_
          refine zv_wd (ws' := (cM cI cZ h t (nI n) r y (nI b) f0 f1 f2 u3_89 f4 f5 f6 f7 g8 g9 g10 g11 g12 g13)) rfl ?_
          refine zv_aload_n C dX2_until_27 28 rfl 0 rfl ?_
          refine zv_callV (rest := []) (wr := []) C (k_X2_reckon l D cI cZ h t n r y b f0 f1 f2 u3_89 f4 f5 f6 f7 g8 g9 g10 g11 g12 g13 s d (by omega) (by assumption)) (cwV 0 C.1.2.2.2.2 gX2_until_X2_reckon rfl rfl rfl (by decide +kernel) ⟨Nat.le_of_ble_eq_true rfl, Nat.le_of_ble_eq_true rfl⟩) dX2_until_28 31 rfl (ci := 2) 0 rfl rfl rfl rfl (Nat.le_of_ble_eq_true rfl) ⟨Nat.le_of_ble_eq_true rfl, Nat.le_of_ble_eq_true rfl⟩ [0, 1] rfl [0, 1, 2, 3, 4, 5, 6, 7, 8, 9, 10, 11, 12, 13, 14] rfl (by decide) [] rfl (by decide) (by decide +kernel) (fun v w hv => ?_)
          obtain ⟨u8_90, u9_90, u10_90, u11_90, rfl, rfl, huM90⟩ := hv
          refine zv_go rfl rfl (st' := []) rfl (kc' := 0) rfl (ns' := 0) rfl ?_
          refine zv_wd (ws' := (cM cI cZ h t (nI n) r y (nI b) f0 f1 f2 u3_89 f4 f5 f6 f7 u8_90 u9_90 u10_90 u11_90 g12 g13)) rfl ?_
          refine zv_aload_n C dX2_until_31 32 rfl 0 rfl ?_
          refine zv_get (ci := 2) C inX2 rfl dX2_until_32 35 rfl 0 16 rfl (by decide) lk44 rfl ?_
          refine zv_iload_n C dX2_until_35 36 rfl 1 rfl ?_
          refine zv_iald (v := (u11_90 p)) C dX2_until_36 37 rfl 12 0 p rfl rfl rfl (by omega) (by decide) rfl ?_
          refine zv_aload_n C dX2_until_37 38 rfl 0 rfl ?_
          refine zv_get (ci := 2) C inX2 rfl dX2_until_38 41 rfl 0 17 rfl (by decide) lk47 rfl ?_
          refine zv_iload_n C dX2_until_41 42 rfl 1 rfl ?_
          refine zv_iald (v := (g12 p)) C dX2_until_42 43 rfl 13 0 p rfl rfl rfl (by omega) (by decide) rfl ?_
          refine zv_icmp_eq C dX2_until_43 46 48 rfl (by decide) (fun c3 => ?_) (fun c3 => ?_)
          · refine zv_iinc (v := (nI (m + 1 + 1))) C dX2_until_48 51 rfl [(3, .int (nI (m + 1 + 1))), (0, .ref (h 0)), (1, .int (nI p)), (2, .int tl)] 3 rfl (nI_1 (m + 1)) (by decide) rfl ?_
            refine zv_goto C dX2_until_51 12 (by decide) ?_
            refine zv_sub [1, 2, 3, 0] (lv' := [(0, .ref (h 0)), (1, .int (nI p)), (2, .int tl), (3, .int (nI (m + 1 + 1)))]) rfl ?_
            exact ih_L12 (m + 1) tl u3_89 u8_90 u9_90 u10_90 u11_90 g12 g13 (by omega) (by rw [utl_no _ (ht.symm.trans c2) (by unfold anY; rw [← nmS_congr (f3 := u3_89) (e3 := swN f1 f3 f4 (m + 1)) (fun i hi => ⟨rfl, rfl, (hua89 i hi).trans (swl_congr rfl (ha i hi) rfl), rfl, fun _ => rfl⟩), ← MA.nm hD hn huM90 p hp, ← hc p hp]; simp [c3])]; exact c2) (fun i hi => (hua89 i hi).trans (swl_congr rfl (ha i hi) rfl)) hc hs (by omega)
          · refine zv_iload_n C dX2_until_46 47 rfl 3 rfl ?_
            refine zv_istore_n C dX2_until_47 48 rfl [(2, .int (nI (m + 1))), (0, .ref (h 0)), (1, .int (nI p)), (3, .int (nI (m + 1)))] (by decide) rfl ?_
            refine zv_iinc (v := (nI (m + 1 + 1))) C dX2_until_48 51 rfl [(3, .int (nI (m + 1 + 1))), (2, .int (nI (m + 1))), (0, .ref (h 0)), (1, .int (nI p))] 3 rfl (nI_1 (m + 1)) (by decide) rfl ?_
            refine zv_goto C dX2_until_51 12 (by decide) ?_
            refine zv_sub [2, 3, 1, 0] (lv' := [(0, .ref (h 0)), (1, .int (nI p)), (2, .int (nI (m + 1))), (3, .int (nI (m + 1 + 1)))]) rfl ?_
            exact ih_L12 (m + 1) (nI (m + 1)) u3_89 u8_90 u9_90 u10_90 u11_90 g12 g13 (by omega) (by rw [utl_yes _ (ht.symm.trans c2) (by unfold anY; rw [← nmS_congr (f3 := u3_89) (e3 := swN f1 f3 f4 (m + 1)) (fun i hi => ⟨rfl, rfl, (hua89 i hi).trans (swl_congr rfl (ha i hi) rfl), rfl, fun _ => rfl⟩), ← MA.nm hD hn huM90 p hp, ← hc p hp]; simp [c3])]) (fun i hi => (hua89 i hi).trans (swl_congr rfl (ha i hi) rfl)) hc hs (by omega)
  refine zv_go (pc' := 0) rfl (lv' := [(0, .ref (h 0)), (1, .int (nI p))]) rfl rfl rfl rfl ?_
  refine zv_aload_n C dX2_until_0 1 rfl 0 rfl ?_
  refine zv_callV (rest := []) (wr := []) C (k_X2_remember l D cI cZ h t n r y b f0 f1 f2 f3 f4 f5 f6 f7 f8 f9 f10 f11 f12 f13 s d (by omega) (by assumption)) (cwV 0 C.1.2.2.2.2 gX2_until_X2_remember rfl rfl rfl (by decide +kernel) ⟨Nat.le_of_ble_eq_true rfl, Nat.le_of_ble_eq_true rfl⟩) dX2_until_1 4 rfl (ci := 2) 0 rfl rfl rfl rfl (Nat.le_of_ble_eq_true rfl) ⟨Nat.le_of_ble_eq_true rfl, Nat.le_of_ble_eq_true rfl⟩ [0, 1] rfl [0, 1, 2, 3, 4, 5, 6, 7, 8, 9, 10, 11, 12, 13, 14] rfl (by decide) [] rfl (by decide) (by decide +kernel) (fun v w hv => ?_)
  obtain ⟨u8_91, u9_91, u10_91, u11_91, u12_91, rfl, rfl, huM91, huC91⟩ := hv
  refine zv_go rfl rfl (st' := []) rfl (kc' := 0) rfl (ns' := 0) rfl ?_
  refine zv_wd (ws' := (cM cI cZ h t (nI n) r y (nI b) f0 f1 f2 f3 f4 f5 f6 f7 u8_91 u9_91 u10_91 u11_91 u12_91 f13)) rfl ?_
  refine zv_aload_n C dX2_until_4 5 rfl 0 rfl ?_
  refine zv_callV (rest := []) (wr := []) C (k_X2_putAway l D cI cZ h t n r y b f0 f1 f2 f3 f4 f5 f6 f7 u8_91 u9_91 u10_91 u11_91 u12_91 f13) (cwV 0 C.1.2.2.2.2 gX2_until_X2_putAway rfl rfl rfl (by decide +kernel) ⟨Nat.le_of_ble_eq_true rfl, Nat.le_of_ble_eq_true rfl⟩) dX2_until_5 8 rfl (ci := 2) 0 rfl rfl rfl rfl (Nat.le_of_ble_eq_true rfl) ⟨Nat.le_of_ble_eq_true rfl, Nat.le_of_ble_eq_true rfl⟩ [0, 1] rfl [0, 1, 2, 3, 4, 5, 6, 7, 8, 9, 10, 11, 12, 13, 14] rfl (by decide) [] rfl (by decide) (by decide +kernel) (fun v w hv => ?_)
  obtain ⟨u13_92, rfl, rfl, huC92⟩ := hv
  refine zv_go rfl rfl (st' := []) rfl (kc' := 0) rfl (ns' := 0) rfl ?_
  refine zv_wd (ws' := (cM cI cZ h t (nI n) r y (nI b) f0 f1 f2 f3 f4 f5 f6 f7 u8_91 u9_91 u10_91 u11_91 u12_91 u13_92)) rfl ?_
  refine zv_iconst (v := (-1 : Int32)) C dX2_until_8 9 rfl (by decide) ?_
  refine zv_istore_n C dX2_until_9 10 rfl [(2, .int (-1 : Int32)), (0, .ref (h 0)), (1, .int (nI p))] (by decide) rfl ?_
  refine zv_iconst (v := 1) C dX2_until_10 11 rfl (by decide) ?_
  refine zv_istore_n C dX2_until_11 12 rfl [(3, .int 1), (2, .int (-1 : Int32)), (0, .ref (h 0)), (1, .int (nI p))] (by decide) rfl ?_
  refine zv_sub [2, 3, 1, 0] (lv' := [(0, .ref (h 0)), (1, .int (nI p)), (2, .int (-1 : Int32)), (3, .int 1)]) rfl ?_
  exact L12 _ 0 (-1) f3 u8_91 u9_91 u10_91 u11_91 u12_91 u13_92 (by omega) rfl (fun i _ => rfl) (fun i hi => (huC91 i (by omega)).trans (MA.nm hD hn huM91 i hi)) huC92 (Nat.lt_succ_self _)
abbrev rmX2_yearsUntilRenamed : Room := { frames := 6, cells := 0, slots := 0, locals := 133 }
set_option maxHeartbeats 4000000 in
set_option maxRecDepth 100000 in
theorem k_X2_yearsUntilRenamed_ok (l : Launch) (D : va_G) (cI cZ : ClassId) (h : Nat → Nat) (t : Int32) (n : Nat) (r y : Int32) (b : Nat) (f0 f1 f2 f3 f4 f5 f6 f7 f8 f9 f10 f11 f12 f13 : Nat → Int32) (p : Nat) (s : Nat → Int32) (d : Nat → Nat) (hn : n ≤ 16) (hD : Dep n f0 s d) (hp : p < n) : zv_M l yX2_yearsUntilRenamed wsX2_yearsUntilRenamed rmX2_yearsUntilRenamed D vwCl (tyL cI cZ) [.ref (h 0), .int (nI p)] (cM cI cZ h t (nI n) r y (nI b) f0 f1 f2 f3 f4 f5 f6 f7 f8 f9 f10 f11 f12 f13) (fun v w => ∃ (g3 g8 g9 g10 g11 g12 g13 : Nat → Int32), v = some (.int (utl (anY n f0 f1 f2 f3 f4 f5 r p) 50)) ∧ w = (cM cI cZ h 0 (nI n) r y (nI b) f0 f1 f2 g3 f4 f5 f6 f7 g8 g9 g10 g11 g12 g13) ∧ (∀ i, i < 16 → g3 i = f3 i)) := by
  refine zv_M.of cX2_yearsUntilRenamed 2 (some .int) (by decide) rfl (Nat.le_of_ble_eq_true rfl) ?_
  intro pP eE sS mM aA bB mT cD A C hr hlk hnm Q hQ
  have inX2 : ∀ w ∈ u_ws RX2 TX2 19, w ∈ wsX2_yearsUntilRenamed := by decide +kernel
  have lk53 : Cond.fieldLink RX2 53 "RiverNamesModel" "thrown" "I" ∈ wsX2_yearsUntilRenamed := by decide +kernel
  refine zv_go (pc' := 0) rfl (lv' := [(0, .ref (h 0)), (1, .int (nI p))]) rfl rfl rfl rfl ?_
  refine zv_aload_n C dX2_yearsUntilRenamed_0 1 rfl 0 rfl ?_
  refine zv_iconst (v := 0) C dX2_yearsUntilRenamed_1 2 rfl (by decide) ?_
  refine zv_put (ci := 2) C inX2 rfl tyX2_ok nmX2 dX2_yearsUntilRenamed_2 5 rfl 0 0 rfl (by decide) lk53 rfl rfl rfl (Nat.le_of_ble_eq_true rfl) (cM cI cZ h 0 (nI n) r y (nI b) f0 f1 f2 f3 f4 f5 f6 f7 f8 f9 f10 f11 f12 f13) rfl ?_
  refine zv_aload_n C dX2_yearsUntilRenamed_5 6 rfl 0 rfl ?_
  refine zv_iload_n C dX2_yearsUntilRenamed_6 7 rfl 1 rfl ?_
  refine zv_callVR (rest := []) C (k_X2_isPlace l D cI cZ h 0 n r y b f0 f1 f2 f3 f4 f5 f6 f7 f8 f9 f10 f11 f12 f13 (nI p) (by omega)) (cwV 1 C.1.2.2.2.2 gX2_yearsUntilRenamed_X2_isPlace rfl rfl rfl (by decide +kernel) ⟨Nat.le_of_ble_eq_true rfl, Nat.le_of_ble_eq_true rfl⟩) dX2_yearsUntilRenamed_7 10 rfl (ci := 2) 0 rfl rfl rfl rfl (Nat.le_of_ble_eq_true rfl) ⟨Nat.le_of_ble_eq_true rfl, Nat.le_of_ble_eq_true rfl⟩ [0, 1] rfl [0, 1, 2, 3, 4, 5, 6, 7, 8, 9, 10, 11, 12, 13, 14] rfl (by decide) (fun v hv => ?_)
  subst hv
  refine zv_go rfl rfl (st' := [.int (zb (isP n (nI p)))]) rfl (kc' := 0) rfl (ns' := 0) rfl ?_
  refine zv_if_eq C dX2_yearsUntilRenamed_10 13 21 rfl (by decide) (fun c1 => ?_) (fun c1 => ?_)
  · exact absurd (isP_nI (by omega) hp) (by rw [zb_eq0.mp c1]; decide)
  · refine zv_aload_n C dX2_yearsUntilRenamed_13 14 rfl 0 rfl ?_
    refine zv_iload_n C dX2_yearsUntilRenamed_14 15 rfl 1 rfl ?_
    refine zv_callV (rest := []) (wr := []) C (k_X2_until l D cI cZ h 0 n r y b f0 f1 f2 f3 f4 f5 f6 f7 f8 f9 f10 f11 f12 f13 p s d (by omega) (by assumption) (by omega)) (cwV 1 C.1.2.2.2.2 gX2_yearsUntilRenamed_X2_until rfl rfl rfl (by decide +kernel) ⟨Nat.le_of_ble_eq_true rfl, Nat.le_of_ble_eq_true rfl⟩) dX2_yearsUntilRenamed_15 18 rfl (ci := 2) 0 rfl rfl rfl rfl (Nat.le_of_ble_eq_true rfl) ⟨Nat.le_of_ble_eq_true rfl, Nat.le_of_ble_eq_true rfl⟩ [0, 1] rfl [0, 1, 2, 3, 4, 5, 6, 7, 8, 9, 10, 11, 12, 13, 14] rfl (by decide) [] rfl (by decide) (by decide +kernel) (fun v w hv => ?_)
    obtain ⟨u3_93, u8_93, u9_93, u10_93, u11_93, u12_93, u13_93, rfl, rfl, hus93⟩ := hv
    refine zv_go rfl rfl (st' := [.int (utl (anY n f0 f1 f2 f3 f4 f5 r p) 50)]) rfl (kc' := 0) rfl (ns' := 0) rfl ?_
    refine zv_wd (ws' := (cM cI cZ h 0 (nI n) r y (nI b) f0 f1 f2 u3_93 f4 f5 f6 f7 u8_93 u9_93 u10_93 u11_93 u12_93 u13_93)) rfl ?_
    refine zv_goto C dX2_yearsUntilRenamed_18 26 (by decide) ?_
    exact zv_iret C hr hlk hQ dX2_yearsUntilRenamed_26 ⟨u3_93, u8_93, u9_93, u10_93, u11_93, u12_93, u13_93, rfl, rfl, hus93⟩
set_option maxHeartbeats 4000000 in
set_option maxRecDepth 100000 in
theorem k_X2_yearsUntilRenamed_no (l : Launch) (D : va_G) (cI cZ : ClassId) (h : Nat → Nat) (t : Int32) (n : Nat) (r y : Int32) (b : Nat) (f0 f1 f2 f3 f4 f5 f6 f7 f8 f9 f10 f11 f12 f13 : Nat → Int32) (i : Int32) (hn : n ≤ 16) (hf : isP n i = false) : zv_M l yX2_yearsUntilRenamed wsX2_yearsUntilRenamed rmX2_yearsUntilRenamed D vwCl (tyL cI cZ) [.ref (h 0), .int i] (cM cI cZ h t (nI n) r y (nI b) f0 f1 f2 f3 f4 f5 f6 f7 f8 f9 f10 f11 f12 f13) (fun v w => v = some (.int 0) ∧ w = (cM cI cZ h 1 (nI n) r y (nI b) f0 f1 f2 f3 f4 f5 f6 f7 f8 f9 f10 f11 f12 f13)) := by
  refine zv_M.of cX2_yearsUntilRenamed 2 (some .int) (by decide) rfl (Nat.le_of_ble_eq_true rfl) ?_
  intro pP eE sS mM aA bB mT cD A C hr hlk hnm Q hQ
  have inX2 : ∀ w ∈ u_ws RX2 TX2 19, w ∈ wsX2_yearsUntilRenamed := by decide +kernel
  have lk53 : Cond.fieldLink RX2 53 "RiverNamesModel" "thrown" "I" ∈ wsX2_yearsUntilRenamed := by decide +kernel
  refine zv_go (pc' := 0) rfl (lv' := [(0, .ref (h 0)), (1, .int i)]) rfl rfl rfl rfl ?_
  refine zv_aload_n C dX2_yearsUntilRenamed_0 1 rfl 0 rfl ?_
  refine zv_iconst (v := 0) C dX2_yearsUntilRenamed_1 2 rfl (by decide) ?_
  refine zv_put (ci := 2) C inX2 rfl tyX2_ok nmX2 dX2_yearsUntilRenamed_2 5 rfl 0 0 rfl (by decide) lk53 rfl rfl rfl (Nat.le_of_ble_eq_true rfl) (cM cI cZ h 0 (nI n) r y (nI b) f0 f1 f2 f3 f4 f5 f6 f7 f8 f9 f10 f11 f12 f13) rfl ?_
  refine zv_aload_n C dX2_yearsUntilRenamed_5 6 rfl 0 rfl ?_
  refine zv_iload_n C dX2_yearsUntilRenamed_6 7 rfl 1 rfl ?_
  refine zv_callVR (rest := []) C (k_X2_isPlace l D cI cZ h 0 n r y b f0 f1 f2 f3 f4 f5 f6 f7 f8 f9 f10 f11 f12 f13 i (by omega)) (cwV 1 C.1.2.2.2.2 gX2_yearsUntilRenamed_X2_isPlace rfl rfl rfl (by decide +kernel) ⟨Nat.le_of_ble_eq_true rfl, Nat.le_of_ble_eq_true rfl⟩) dX2_yearsUntilRenamed_7 10 rfl (ci := 2) 0 rfl rfl rfl rfl (Nat.le_of_ble_eq_true rfl) ⟨Nat.le_of_ble_eq_true rfl, Nat.le_of_ble_eq_true rfl⟩ [0, 1] rfl [0, 1, 2, 3, 4, 5, 6, 7, 8, 9, 10, 11, 12, 13, 14] rfl (by decide) (fun v hv => ?_)
  subst hv
  refine zv_go rfl rfl (st' := [.int (zb (isP n i))]) rfl (kc' := 0) rfl (ns' := 0) rfl ?_
  refine zv_if_eq C dX2_yearsUntilRenamed_10 13 21 rfl (by decide) (fun c1 => ?_) (fun c1 => ?_)
  · refine zv_aload_n C dX2_yearsUntilRenamed_21 22 rfl 0 rfl ?_
    refine zv_iconst (v := 1) C dX2_yearsUntilRenamed_22 23 rfl (by decide) ?_
    refine zv_callV (rest := []) (wr := []) C (k_X2_no l D cI cZ h 0 n r y b f0 f1 f2 f3 f4 f5 f6 f7 f8 f9 f10 f11 f12 f13 1) (cwV 1 C.1.2.2.2.2 gX2_yearsUntilRenamed_X2_no rfl rfl rfl (by decide +kernel) ⟨Nat.le_of_ble_eq_true rfl, Nat.le_of_ble_eq_true rfl⟩) dX2_yearsUntilRenamed_23 26 rfl (ci := 2) 0 rfl rfl rfl rfl (Nat.le_of_ble_eq_true rfl) ⟨Nat.le_of_ble_eq_true rfl, Nat.le_of_ble_eq_true rfl⟩ [0, 1] rfl [0, 1, 2, 3, 4, 5, 6, 7, 8, 9, 10, 11, 12, 13, 14] rfl (by decide) [] rfl (by decide) (by decide +kernel) (fun v w hv => ?_)
    obtain ⟨rfl, rfl⟩ := hv
    refine zv_go rfl rfl (st' := [.int 0]) rfl (kc' := 0) rfl (ns' := 0) rfl ?_
    refine zv_wd (ws' := (cM cI cZ h 1 (nI n) r y (nI b) f0 f1 f2 f3 f4 f5 f6 f7 f8 f9 f10 f11 f12 f13)) rfl ?_
    exact zv_iret C hr hlk hQ dX2_yearsUntilRenamed_26 ⟨rfl, rfl⟩
  · exact absurd hf (by rw [zb_ne0.mp c1]; decide)
abbrev rmX2_weightiest : Room := { frames := 5, cells := 0, slots := 0, locals := 112 }
set_option maxHeartbeats 4000000 in
set_option maxRecDepth 100000 in
theorem k_X2_weightiest (l : Launch) (D : va_G) (cI cZ : ClassId) (h : Nat → Nat) (t : Int32) (n : Nat) (r y : Int32) (b : Nat) (f0 f1 f2 f3 f4 f5 f6 f7 f8 f9 f10 f11 f12 f13 : Nat → Int32) (s : Nat → Int32) (d : Nat → Nat) (hn : n ≤ 16) (hD : Dep n f0 s d) : zv_M l yX2_weightiest wsX2_weightiest rmX2_weightiest D vwCl (tyL cI cZ) [.ref (h 0)] (cM cI cZ h t (nI n) r y (nI b) f0 f1 f2 f3 f4 f5 f6 f7 f8 f9 f10 f11 f12 f13) (fun v w => ∃ (g8 g9 g10 g11 g12 : Nat → Int32), v = some (.int ((wst (sprg f1 f3) (dry n f0 f1 f2 f3 f5 r) n).1)) ∧ w = (cM cI cZ h t (nI n) r y (nI b) f0 f1 f2 f3 f4 f5 f6 f7 g8 g9 g10 g11 g12 f13)) := by
  refine zv_M.of cX2_weightiest 6 (some .int) (by decide) rfl (Nat.le_of_ble_eq_true rfl) ?_
  intro pP eE sS mM aA bB mT cD A C hr hlk hnm Q hQ
  have inX2 : ∀ w ∈ u_ws RX2 TX2 19, w ∈ wsX2_weightiest := by decide +kernel
  have lk57 : Cond.fieldLink RX2 57 "RiverNamesModel" "places" "I" ∈ wsX2_weightiest := by decide +kernel
  have lk20 : Cond.fieldLink RX2 20 "RiverNamesModel" "spring" "[I" ∈ wsX2_weightiest := by decide +kernel
  have L10 : ∀ (mu_L10 : Nat), ∀ (j : Nat) (bs : Int32) (ms : Nat) (g8 g9 g10 g11 g12 : Nat → Int32), (j ≤ n) → (ms ≤ 16) → (∀ i, i < n → g12 i = nmS n f0 f1 f2 f3 f5 r i) → (wst (sprg f1 f3) (dry n f0 f1 f2 f3 f5 r) j = (bs, ms)) → n - j < mu_L10 → zv_V pP l eE rmX2_weightiest sS mM aA bB mT cD Q 6 D vwCl A A (tyL cI cZ) (cM cI cZ h t (nI n) r y (nI b) f0 f1 f2 f3 f4 f5 f6 f7 g8 g9 g10 g11 g12 f13) 0 0 10 [(0, .ref (h 0)), (1, .int bs), (2, .int (nI ms)), (3, .int (nI j))] [] := by
    intro mu_L10
    induction mu_L10 with
    | zero => intro j bs ms g8 g9 g10 g11 g12 hj hms hC hb hmu_L10; exact absurd hmu_L10 (Nat.not_lt_zero _)
    | succ mu_L10 ih_L10 =>
      intro j bs ms g8 g9 g10 g11 g12 hj hms hC hb hmu_L10
      refine zv_iload_n C dX2_weightiest_10 11 rfl 3 rfl ?_
      refine zv_aload_n C dX2_weightiest_11 12 rfl 0 rfl ?_
      refine zv_get (ci := 2) C inX2 rfl dX2_weightiest_12 15 rfl 0 1 rfl (by decide) lk57 rfl ?_
      refine zv_icmp_ge C dX2_weightiest_15 18 83 rfl (by decide) (fun c1 => ?_) (fun c1 => ?_)
      · replace c1 := zn_le (a := n) (b := j) (by omega) (by omega) c1
        refine zv_iload_n C dX2_weightiest_83 84 rfl 1 rfl ?_
        exact zv_iret C hr hlk hQ dX2_weightiest_84 ⟨g8, g9, g10, g11, g12, (by have hjn : j = n := (by omega); have hb2 := hb; rw [hjn] at hb2; rw [hb2]), rfl⟩
      · replace c1 := zn_le' (a := n) (b := j) (by omega) (by omega) c1
        refine zv_aload_n C dX2_weightiest_18 19 rfl 0 rfl ?_
        refine zv_iload_n C dX2_weightiest_19 20 rfl 3 rfl ?_
        refine zv_callVR (rest := []) C (k_X2_springs l D cI cZ h t n r y b f0 f1 f2 f3 f4 f5 f6 f7 g8 g9 g10 g11 g12 f13 j (by omega)) (cwV 1 C.1.2.2.2.2 gX2_weightiest_X2_springs rfl rfl rfl (by decide +kernel) ⟨Nat.le_of_ble_eq_true rfl, Nat.le_of_ble_eq_true rfl⟩) dX2_weightiest_20 23 rfl (ci := 2) 0 rfl rfl rfl rfl (Nat.le_of_ble_eq_true rfl) ⟨Nat.le_of_ble_eq_true rfl, Nat.le_of_ble_eq_true rfl⟩ [0, 1] rfl [0, 1, 2, 3, 4, 5, 6, 7, 8, 9, 10, 11, 12, 13, 14] rfl (by decide) (fun v hv => ?_)
        subst hv
        refine zv_go rfl rfl (st' := [.int (zb (sprg f1 f3 j))]) rfl (kc' := 0) rfl (ns' := 0) rfl ?_
        refine zv_if_ne C dX2_weightiest_23 26 29 rfl (by decide) (fun c2 => ?_) (fun c2 => ?_)
        · replace c2 := zb_ne0.mp c2
          refine zv_aload_n C dX2_weightiest_29 30 rfl 0 rfl ?_
          refine zv_get (ci := 2) C inX2 rfl dX2_weightiest_30 33 rfl 0 7 rfl (by decide) lk20 rfl ?_
          refine zv_iload_n C dX2_weightiest_33 34 rfl 3 rfl ?_
          refine zv_iald (v := (f3 j)) C dX2_weightiest_34 35 rfl 4 0 j rfl rfl rfl (by omega) (by decide) rfl ?_
          refine zv_istore C dX2_weightiest_35 37 rfl [(4, .int (f3 j)), (0, .ref (h 0)), (1, .int bs), (2, .int (nI ms)), (3, .int (nI j))] (by decide) rfl ?_
          refine zv_aload_n C dX2_weightiest_37 38 rfl 1 rfl ?_
          refine zv_get (ci := 2) C inX2 rfl dX2_weightiest_38 41 rfl 0 7 rfl (by decide) lk20 rfl ?_
          refine zv_iload_n C dX2_weightiest_41 42 rfl 4 rfl ?_
          refine zv_iconst (v := 0) C dX2_weightiest_42 43 rfl (by decide) ?_
          refine zv_iast (x' := 0) C dX2_weightiest_43 44 rfl 4 0 j rfl rfl rfl (by omega) (by decide) rfl (cM cI cZ h t (nI n) r y (nI b) f0 f1 f2 (upd f3 j 0) f4 f5 f6 f7 g8 g9 g10 g11 g12 f13) rfl ?_
          refine zv_aload_n C dX2_weightiest_44 45 rfl 1 rfl ?_
          refine zv_callV (rest := []) (wr := []) C (k_X2_renamed l D cI cZ h t n r y b f0 f1 f2 (upd f3 j 0) f4 f5 f6 f7 g8 g9 g10 g11 g12 f13 s d (by omega) (by assumption)) (cwV 0 C.1.2.2.2.2 gX2_weightiest_X2_renamed rfl rfl rfl (by decide +kernel) ⟨Nat.le_of_ble_eq_true rfl, Nat.le_of_ble_eq_true rfl⟩) dX2_weightiest_45 48 rfl (ci := 2) 0 rfl rfl rfl rfl (Nat.le_of_ble_eq_true rfl) ⟨Nat.le_of_ble_eq_true rfl, Nat.le_of_ble_eq_true rfl⟩ [0, 1] rfl [0, 1, 2, 3, 4, 5, 6, 7, 8, 9, 10, 11, 12, 13, 14] rfl (by decide) [] rfl (by decide) (by decide +kernel) (fun v w hv => ?_)
          obtain ⟨u8_95, u9_95, u10_95, u11_95, rfl, rfl, huM95⟩ := hv
          refine zv_go rfl rfl (st' := [.int (nI (cne u11_95 g12 n))]) rfl (kc' := 0) rfl (ns' := 0) rfl ?_
          refine zv_wd (ws' := (cM cI cZ h t (nI n) r y (nI b) f0 f1 f2 (upd f3 j 0) f4 f5 f6 f7 u8_95 u9_95 u10_95 u11_95 g12 f13)) rfl ?_
          have hcl := cne_le u11_95 g12 n
          refine zv_istore C dX2_weightiest_48 50 rfl [(5, .int (nI (cne u11_95 g12 n))), (4, .int (f3 j)), (0, .ref (h 0)), (1, .int bs), (2, .int (nI ms)), (3, .int (nI j))] (by decide) rfl ?_
          refine zv_aload_n C dX2_weightiest_50 51 rfl 2 rfl ?_
          refine zv_get (ci := 2) C inX2 rfl dX2_weightiest_51 54 rfl 0 7 rfl (by decide) lk20 rfl ?_
          refine zv_iload_n C dX2_weightiest_54 55 rfl 5 rfl ?_
          refine zv_iload C dX2_weightiest_55 57 rfl 1 rfl ?_
          refine zv_iast (x' := (f3 j)) C dX2_weightiest_57 58 rfl 4 0 j rfl rfl rfl (by omega) (by decide) rfl (cM cI cZ h t (nI n) r y (nI b) f0 f1 f2 (upd (upd f3 j 0) j (f3 j)) f4 f5 f6 f7 u8_95 u9_95 u10_95 u11_95 g12 f13) rfl ?_
          refine zv_iload_n C dX2_weightiest_58 59 rfl 3 rfl ?_
          refine zv_iconst (v := (-1 : Int32)) C dX2_weightiest_59 60 rfl (by decide) ?_
          refine zv_icmp_eq C dX2_weightiest_60 63 72 rfl (by decide) (fun c3 => ?_) (fun c3 => ?_)
          · refine zv_iload_n C dX2_weightiest_72 73 rfl 5 rfl ?_
            refine zv_istore_n C dX2_weightiest_73 74 rfl [(1, .int (nI j)), (5, .int (nI (cne u11_95 g12 n))), (4, .int (f3 j)), (0, .ref (h 0)), (2, .int (nI ms)), (3, .int (nI j))] (by decide) rfl ?_
            refine zv_iload C dX2_weightiest_74 76 rfl 1 rfl ?_
            refine zv_istore_n C dX2_weightiest_76 77 rfl [(2, .int (nI (cne u11_95 g12 n))), (1, .int (nI j)), (5, .int (nI (cne u11_95 g12 n))), (4, .int (f3 j)), (0, .ref (h 0)), (3, .int (nI j))] (by decide) rfl ?_
            refine zv_iinc (v := (nI (j + 1))) C dX2_weightiest_77 80 rfl [(3, .int (nI (j + 1))), (2, .int (nI (cne u11_95 g12 n))), (1, .int (nI j)), (5, .int (nI (cne u11_95 g12 n))), (4, .int (f3 j)), (0, .ref (h 0))] 5 rfl (nI_1 j) (by decide) rfl ?_
            refine zv_goto C dX2_weightiest_80 10 (by decide) ?_
            rw [upd_back]
            have hdr : cne u11_95 g12 n = dry n f0 f1 f2 f3 f5 r j := cne_congr n (fun i hi => MA.nm hD hn huM95 i hi) hC
            refine zv_sub [5, 2, 1, 0] (lv' := [(0, .ref (h 0)), (1, .int (nI j)), (2, .int (nI (cne u11_95 g12 n))), (3, .int (nI (j + 1)))]) rfl ?_
            exact ih_L10 (j + 1) (nI j) (cne u11_95 g12 n) u8_95 u9_95 u10_95 u11_95 g12 (by omega) (by omega) hC (by rw [wst_y _ _ c2 (Or.inl (by rw [hb]; exact c3)), ← hdr]) (by omega)
          · refine zv_iload C dX2_weightiest_63 65 rfl 0 rfl ?_
            refine zv_iload_n C dX2_weightiest_65 66 rfl 4 rfl ?_
            refine zv_icmp_gt C dX2_weightiest_66 69 72 rfl (by decide) (fun c4 => ?_) (fun c4 => ?_)
            · replace c4 := zn_lt (a := ms) (b := cne u11_95 g12 n) (by omega) (by omega) c4
              refine zv_iload_n C dX2_weightiest_72 73 rfl 5 rfl ?_
              refine zv_istore_n C dX2_weightiest_73 74 rfl [(1, .int (nI j)), (5, .int (nI (cne u11_95 g12 n))), (4, .int (f3 j)), (0, .ref (h 0)), (2, .int (nI ms)), (3, .int (nI j))] (by decide) rfl ?_
              refine zv_iload C dX2_weightiest_74 76 rfl 1 rfl ?_
              refine zv_istore_n C dX2_weightiest_76 77 rfl [(2, .int (nI (cne u11_95 g12 n))), (1, .int (nI j)), (5, .int (nI (cne u11_95 g12 n))), (4, .int (f3 j)), (0, .ref (h 0)), (3, .int (nI j))] (by decide) rfl ?_
              refine zv_iinc (v := (nI (j + 1))) C dX2_weightiest_77 80 rfl [(3, .int (nI (j + 1))), (2, .int (nI (cne u11_95 g12 n))), (1, .int (nI j)), (5, .int (nI (cne u11_95 g12 n))), (4, .int (f3 j)), (0, .ref (h 0))] 5 rfl (nI_1 j) (by decide) rfl ?_
              refine zv_goto C dX2_weightiest_80 10 (by decide) ?_
              rw [upd_back]
              have hdr : cne u11_95 g12 n = dry n f0 f1 f2 f3 f5 r j := cne_congr n (fun i hi => MA.nm hD hn huM95 i hi) hC
              refine zv_sub [5, 2, 1, 0] (lv' := [(0, .ref (h 0)), (1, .int (nI j)), (2, .int (nI (cne u11_95 g12 n))), (3, .int (nI (j + 1)))]) rfl ?_
              exact ih_L10 (j + 1) (nI j) (cne u11_95 g12 n) u8_95 u9_95 u10_95 u11_95 g12 (by omega) (by omega) hC (by rw [wst_y _ _ c2 (Or.inr (by rw [hb, ← hdr]; exact c4)), ← hdr]) (by omega)
            · replace c4 := zn_lt' (a := ms) (b := cne u11_95 g12 n) (by omega) (by omega) c4
              refine zv_goto C dX2_weightiest_69 77 (by decide) ?_
              refine zv_iinc (v := (nI (j + 1))) C dX2_weightiest_77 80 rfl [(3, .int (nI (j + 1))), (5, .int (nI (cne u11_95 g12 n))), (4, .int (f3 j)), (0, .ref (h 0)), (1, .int bs), (2, .int (nI ms))] 5 rfl (nI_1 j) (by decide) rfl ?_
              refine zv_goto C dX2_weightiest_80 10 (by decide) ?_
              rw [upd_back]
              have hdr : cne u11_95 g12 n = dry n f0 f1 f2 f3 f5 r j := cne_congr n (fun i hi => MA.nm hD hn huM95 i hi) hC
              refine zv_sub [3, 4, 5, 0] (lv' := [(0, .ref (h 0)), (1, .int bs), (2, .int (nI ms)), (3, .int (nI (j + 1)))]) rfl ?_
              exact ih_L10 (j + 1) bs ms u8_95 u9_95 u10_95 u11_95 g12 (by omega) hms hC (by rw [wst_n _ _ (by rw [hb]; exact c3) (by rw [hb, ← hdr]; exact fun z => absurd z (Nat.not_lt.mpr c4)), hb]) (by omega)
        · replace c2 := zb_eq0.mp c2
          refine zv_goto C dX2_weightiest_26 77 (by decide) ?_
          refine zv_iinc (v := (nI (j + 1))) C dX2_weightiest_77 80 rfl [(3, .int (nI (j + 1))), (0, .ref (h 0)), (1, .int bs), (2, .int (nI ms))] 3 rfl (nI_1 j) (by decide) rfl ?_
          refine zv_goto C dX2_weightiest_80 10 (by decide) ?_
          refine zv_sub [1, 2, 3, 0] (lv' := [(0, .ref (h 0)), (1, .int bs), (2, .int (nI ms)), (3, .int (nI (j + 1)))]) rfl ?_
          exact ih_L10 (j + 1) bs ms g8 g9 g10 g11 g12 (by omega) hms hC (by rw [wst_dry _ _ c2, hb]) (by omega)
  refine zv_go (pc' := 0) rfl (lv' := [(0, .ref (h 0))]) rfl rfl rfl rfl ?_
  refine zv_aload_n C dX2_weightiest_0 1 rfl 0 rfl ?_
  refine zv_callV (rest := []) (wr := []) C (k_X2_remember l D cI cZ h t n r y b f0 f1 f2 f3 f4 f5 f6 f7 f8 f9 f10 f11 f12 f13 s d (by omega) (by assumption)) (cwV 0 C.1.2.2.2.2 gX2_weightiest_X2_remember rfl rfl rfl (by decide +kernel) ⟨Nat.le_of_ble_eq_true rfl, Nat.le_of_ble_eq_true rfl⟩) dX2_weightiest_1 4 rfl (ci := 2) 0 rfl rfl rfl rfl (Nat.le_of_ble_eq_true rfl) ⟨Nat.le_of_ble_eq_true rfl, Nat.le_of_ble_eq_true rfl⟩ [0, 1] rfl [0, 1, 2, 3, 4, 5, 6, 7, 8, 9, 10, 11, 12, 13, 14] rfl (by decide) [] rfl (by decide) (by decide +kernel) (fun v w hv => ?_)
  obtain ⟨u8_96, u9_96, u10_96, u11_96, u12_96, rfl, rfl, huM96, huC96⟩ := hv
  refine zv_go rfl rfl (st' := []) rfl (kc' := 0) rfl (ns' := 0) rfl ?_
  refine zv_wd (ws' := (cM cI cZ h t (nI n) r y (nI b) f0 f1 f2 f3 f4 f5 f6 f7 u8_96 u9_96 u10_96 u11_96 u12_96 f13)) rfl ?_
  refine zv_iconst (v := (-1 : Int32)) C dX2_weightiest_4 5 rfl (by decide) ?_
  refine zv_istore_n C dX2_weightiest_5 6 rfl [(1, .int (-1 : Int32)), (0, .ref (h 0))] (by decide) rfl ?_
  refine zv_iconst (v := 0) C dX2_weightiest_6 7 rfl (by decide) ?_
  refine zv_istore_n C dX2_weightiest_7 8 rfl [(2, .int 0), (1, .int (-1 : Int32)), (0, .ref (h 0))] (by decide) rfl ?_
  refine zv_iconst (v := 0) C dX2_weightiest_8 9 rfl (by decide) ?_
  refine zv_istore_n C dX2_weightiest_9 10 rfl [(3, .int 0), (2, .int 0), (1, .int (-1 : Int32)), (0, .ref (h 0))] (by decide) rfl ?_
  refine zv_sub [3, 2, 1, 0] (lv' := [(0, .ref (h 0)), (1, .int (-1 : Int32)), (2, .int 0), (3, .int 0)]) rfl ?_
  exact L10 _ 0 (-1) 0 u8_96 u9_96 u10_96 u11_96 u12_96 (Nat.zero_le n) (by omega) (fun i hi => (huC96 i (by omega)).trans (MA.nm hD hn huM96 i hi)) rfl (Nat.lt_succ_self _)
abbrev rmX2_weightiestSpring : Room := { frames := 6, cells := 0, slots := 0, locals := 137 }
set_option maxHeartbeats 4000000 in
set_option maxRecDepth 100000 in
theorem k_X2_weightiestSpring (l : Launch) (D : va_G) (cI cZ : ClassId) (h : Nat → Nat) (t : Int32) (n : Nat) (r y : Int32) (b : Nat) (f0 f1 f2 f3 f4 f5 f6 f7 f8 f9 f10 f11 f12 f13 : Nat → Int32) (s : Nat → Int32) (d : Nat → Nat) (hn : n ≤ 16) (hD : Dep n f0 s d) : zv_M l yX2_weightiestSpring wsX2_weightiestSpring rmX2_weightiestSpring D vwCl (tyL cI cZ) [.ref (h 0)] (cM cI cZ h t (nI n) r y (nI b) f0 f1 f2 f3 f4 f5 f6 f7 f8 f9 f10 f11 f12 f13) (fun v w => ∃ (g8 g9 g10 g11 g12 : Nat → Int32), v = some (.int ((wst (sprg f1 f3) (dry n f0 f1 f2 f3 f5 r) n).1)) ∧ w = (cM cI cZ h 0 (nI n) r y (nI b) f0 f1 f2 f3 f4 f5 f6 f7 g8 g9 g10 g11 g12 f13)) := by
  refine zv_M.of cX2_weightiestSpring 1 (some .int) (by decide) rfl (Nat.le_of_ble_eq_true rfl) ?_
  intro pP eE sS mM aA bB mT cD A C hr hlk hnm Q hQ
  refine zv_go (pc' := 0) rfl (lv' := [(0, .ref (h 0))]) rfl rfl rfl rfl ?_
  refine zv_aload_n C dX2_weightiestSpring_0 1 rfl 0 rfl ?_
  refine zv_aload_n C dX2_weightiestSpring_1 2 rfl 0 rfl ?_
  refine zv_callV (rest := [.ref (h 0)]) (wr := []) C (k_X2_weightiest l D cI cZ h t n r y b f0 f1 f2 f3 f4 f5 f6 f7 f8 f9 f10 f11 f12 f13 s d (by omega) (by assumption)) (cwV 0 C.1.2.2.2.2 gX2_weightiestSpring_X2_weightiest rfl rfl rfl (by decide +kernel) ⟨Nat.le_of_ble_eq_true rfl, Nat.le_of_ble_eq_true rfl⟩) dX2_weightiestSpring_2 5 rfl (ci := 2) 0 rfl rfl rfl rfl (Nat.le_of_ble_eq_true rfl) ⟨Nat.le_of_ble_eq_true rfl, Nat.le_of_ble_eq_true rfl⟩ [0, 1] rfl [0, 1, 2, 3, 4, 5, 6, 7, 8, 9, 10, 11, 12, 13, 14] rfl (by decide) [] rfl (by decide) (by decide +kernel) (fun v w hv => ?_)
  obtain ⟨u8_97, u9_97, u10_97, u11_97, u12_97, rfl, rfl⟩ := hv
  refine zv_go rfl rfl (st' := [.int ((wst (sprg f1 f3) (dry n f0 f1 f2 f3 f5 r) n).1), .ref (h 0)]) rfl (kc' := 0) rfl (ns' := 0) rfl ?_
  refine zv_wd (ws' := (cM cI cZ h t (nI n) r y (nI b) f0 f1 f2 f3 f4 f5 f6 f7 u8_97 u9_97 u10_97 u11_97 u12_97 f13)) rfl ?_
  refine zv_callV (rest := []) (wr := []) C (k_X2_ok l D cI cZ h t n r y b f0 f1 f2 f3 f4 f5 f6 f7 u8_97 u9_97 u10_97 u11_97 u12_97 f13 ((wst (sprg f1 f3) (dry n f0 f1 f2 f3 f5 r) n).1)) (cwV 1 C.1.2.2.2.2 gX2_weightiestSpring_X2_ok rfl rfl rfl (by decide +kernel) ⟨Nat.le_of_ble_eq_true rfl, Nat.le_of_ble_eq_true rfl⟩) dX2_weightiestSpring_5 8 rfl (ci := 2) 0 rfl rfl rfl rfl (Nat.le_of_ble_eq_true rfl) ⟨Nat.le_of_ble_eq_true rfl, Nat.le_of_ble_eq_true rfl⟩ [0, 1] rfl [0, 1, 2, 3, 4, 5, 6, 7, 8, 9, 10, 11, 12, 13, 14] rfl (by decide) [] rfl (by decide) (by decide +kernel) (fun v w hv => ?_)
  obtain ⟨rfl, rfl⟩ := hv
  refine zv_go rfl rfl (st' := [.int ((wst (sprg f1 f3) (dry n f0 f1 f2 f3 f5 r) n).1)]) rfl (kc' := 0) rfl (ns' := 0) rfl ?_
  refine zv_wd (ws' := (cM cI cZ h 0 (nI n) r y (nI b) f0 f1 f2 f3 f4 f5 f6 f7 u8_97 u9_97 u10_97 u11_97 u12_97 f13)) rfl ?_
  exact zv_iret C hr hlk hQ dX2_weightiestSpring_8 ⟨u8_97, u9_97, u10_97, u11_97, u12_97, rfl, rfl⟩
abbrev rmX2_renamedByDelta : Room := { frames := 5, cells := 0, slots := 0, locals := 112 }
set_option maxHeartbeats 4000000 in
set_option maxRecDepth 100000 in
theorem k_X2_renamedByDelta_ok (l : Launch) (D : va_G) (cI cZ : ClassId) (h : Nat → Nat) (t : Int32) (n : Nat) (r y : Int32) (b : Nat) (f0 f1 f2 f3 f4 f5 f6 f7 f8 f9 f10 f11 f12 f13 : Nat → Int32) (p : Nat) (s : Nat → Int32) (d : Nat → Nat) (hn : n ≤ 16) (hD : Dep n f0 s d) (hp : p < n) (hz : zo (f5 p)) : zv_M l yX2_renamedByDelta wsX2_renamedByDelta rmX2_renamedByDelta D vwCl (tyL cI cZ) [.ref (h 0), .int (nI p)] (cM cI cZ h t (nI n) r y (nI b) f0 f1 f2 f3 f4 f5 f6 f7 f8 f9 f10 f11 f12 f13) (fun v w => ∃ (g5 g8 g9 g10 g11 g12 : Nat → Int32), v = some (.int (nI (cne (nmS n f0 f1 f2 f3 (upd f5 p (tg (f5 p))) r) (nmS n f0 f1 f2 f3 f5 r) n))) ∧ w = (cM cI cZ h 0 (nI n) r y (nI b) f0 f1 f2 f3 f4 g5 f6 f7 g8 g9 g10 g11 g12 f13) ∧ (g5 = f5)) := by
  refine zv_M.of cX2_renamedByDelta 3 (some .int) (by decide) rfl (Nat.le_of_ble_eq_true rfl) ?_
  intro pP eE sS mM aA bB mT cD A C hr hlk hnm Q hQ
  have inX2 : ∀ w ∈ u_ws RX2 TX2 19, w ∈ wsX2_renamedByDelta := by decide +kernel
  have lk53 : Cond.fieldLink RX2 53 "RiverNamesModel" "thrown" "I" ∈ wsX2_renamedByDelta := by decide +kernel
  have lk26 : Cond.fieldLink RX2 26 "RiverNamesModel" "delta" "[Z" ∈ wsX2_renamedByDelta := by decide +kernel
  refine zv_go (pc' := 0) rfl (lv' := [(0, .ref (h 0)), (1, .int (nI p))]) rfl rfl rfl rfl ?_
  refine zv_aload_n C dX2_renamedByDelta_0 1 rfl 0 rfl ?_
  refine zv_iconst (v := 0) C dX2_renamedByDelta_1 2 rfl (by decide) ?_
  refine zv_put (ci := 2) C inX2 rfl tyX2_ok nmX2 dX2_renamedByDelta_2 5 rfl 0 0 rfl (by decide) lk53 rfl rfl rfl (Nat.le_of_ble_eq_true rfl) (cM cI cZ h 0 (nI n) r y (nI b) f0 f1 f2 f3 f4 f5 f6 f7 f8 f9 f10 f11 f12 f13) rfl ?_
  refine zv_aload_n C dX2_renamedByDelta_5 6 rfl 0 rfl ?_
  refine zv_iload_n C dX2_renamedByDelta_6 7 rfl 1 rfl ?_
  refine zv_callVR (rest := []) C (k_X2_isPlace l D cI cZ h 0 n r y b f0 f1 f2 f3 f4 f5 f6 f7 f8 f9 f10 f11 f12 f13 (nI p) (by omega)) (cwV 1 C.1.2.2.2.2 gX2_renamedByDelta_X2_isPlace rfl rfl rfl (by decide +kernel) ⟨Nat.le_of_ble_eq_true rfl, Nat.le_of_ble_eq_true rfl⟩) dX2_renamedByDelta_7 10 rfl (ci := 2) 0 rfl rfl rfl rfl (Nat.le_of_ble_eq_true rfl) ⟨Nat.le_of_ble_eq_true rfl, Nat.le_of_ble_eq_true rfl⟩ [0, 1] rfl [0, 1, 2, 3, 4, 5, 6, 7, 8, 9, 10, 11, 12, 13, 14] rfl (by decide) (fun v hv => ?_)
  subst hv
  refine zv_go rfl rfl (st' := [.int (zb (isP n (nI p)))]) rfl (kc' := 0) rfl (ns' := 0) rfl ?_
  refine zv_if_ne C dX2_renamedByDelta_10 13 19 rfl (by decide) (fun c1 => ?_) (fun c1 => ?_)
  · refine zv_aload_n C dX2_renamedByDelta_19 20 rfl 0 rfl ?_
    refine zv_callV (rest := []) (wr := []) C (k_X2_remember l D cI cZ h 0 n r y b f0 f1 f2 f3 f4 f5 f6 f7 f8 f9 f10 f11 f12 f13 s d (by omega) (by assumption)) (cwV 0 C.1.2.2.2.2 gX2_renamedByDelta_X2_remember rfl rfl rfl (by decide +kernel) ⟨Nat.le_of_ble_eq_true rfl, Nat.le_of_ble_eq_true rfl⟩) dX2_renamedByDelta_20 23 rfl (ci := 2) 0 rfl rfl rfl rfl (Nat.le_of_ble_eq_true rfl) ⟨Nat.le_of_ble_eq_true rfl, Nat.le_of_ble_eq_true rfl⟩ [0, 1] rfl [0, 1, 2, 3, 4, 5, 6, 7, 8, 9, 10, 11, 12, 13, 14] rfl (by decide) [] rfl (by decide) (by decide +kernel) (fun v w hv => ?_)
    obtain ⟨u8_99, u9_99, u10_99, u11_99, u12_99, rfl, rfl, huM99, huC99⟩ := hv
    refine zv_go rfl rfl (st' := []) rfl (kc' := 0) rfl (ns' := 0) rfl ?_
    refine zv_wd (ws' := (cM cI cZ h 0 (nI n) r y (nI b) f0 f1 f2 f3 f4 f5 f6 f7 u8_99 u9_99 u10_99 u11_99 u12_99 f13)) rfl ?_
    refine zv_aload_n C dX2_renamedByDelta_23 24 rfl 0 rfl ?_
    refine zv_get (ci := 2) C inX2 rfl dX2_renamedByDelta_24 27 rfl 0 9 rfl (by decide) lk26 rfl ?_
    refine zv_iload_n C dX2_renamedByDelta_27 28 rfl 1 rfl ?_
    refine zv_aload_n C dX2_renamedByDelta_28 29 rfl 0 rfl ?_
    refine zv_get (ci := 2) C inX2 rfl dX2_renamedByDelta_29 32 rfl 0 9 rfl (by decide) lk26 rfl ?_
    refine zv_iload_n C dX2_renamedByDelta_32 33 rfl 1 rfl ?_
    refine zv_zald (v := (f5 p)) C dX2_renamedByDelta_33 34 rfl 6 1 p rfl rfl rfl (by omega) (by decide) rfl ?_
    refine zv_if_ne C dX2_renamedByDelta_34 37 41 rfl (by decide) (fun c2 => ?_) (fun c2 => ?_)
    · refine zv_iconst (v := 0) C dX2_renamedByDelta_41 42 rfl (by decide) ?_
      refine zv_zast (x' := (tg (f5 p))) C dX2_renamedByDelta_42 43 rfl 6 1 p rfl rfl rfl (by omega) (by decide) (by rw [tg_1 c2]; decide) (cM cI cZ h 0 (nI n) r y (nI b) f0 f1 f2 f3 f4 (upd f5 p (tg (f5 p))) f6 f7 u8_99 u9_99 u10_99 u11_99 u12_99 f13) rfl ?_
      refine zv_aload_n C dX2_renamedByDelta_43 44 rfl 0 rfl ?_
      refine zv_callV (rest := []) (wr := []) C (k_X2_renamed l D cI cZ h 0 n r y b f0 f1 f2 f3 f4 (upd f5 p (tg (f5 p))) f6 f7 u8_99 u9_99 u10_99 u11_99 u12_99 f13 s d (by omega) (by assumption)) (cwV 0 C.1.2.2.2.2 gX2_renamedByDelta_X2_renamed rfl rfl rfl (by decide +kernel) ⟨Nat.le_of_ble_eq_true rfl, Nat.le_of_ble_eq_true rfl⟩) dX2_renamedByDelta_44 47 rfl (ci := 2) 0 rfl rfl rfl rfl (Nat.le_of_ble_eq_true rfl) ⟨Nat.le_of_ble_eq_true rfl, Nat.le_of_ble_eq_true rfl⟩ [0, 1] rfl [0, 1, 2, 3, 4, 5, 6, 7, 8, 9, 10, 11, 12, 13, 14] rfl (by decide) [] rfl (by decide) (by decide +kernel) (fun v w hv => ?_)
      obtain ⟨u8_100, u9_100, u10_100, u11_100, rfl, rfl, huM100⟩ := hv
      refine zv_go rfl rfl (st' := [.int (nI (cne u11_100 u12_99 n))]) rfl (kc' := 0) rfl (ns' := 0) rfl ?_
      refine zv_wd (ws' := (cM cI cZ h 0 (nI n) r y (nI b) f0 f1 f2 f3 f4 (upd f5 p (tg (f5 p))) f6 f7 u8_100 u9_100 u10_100 u11_100 u12_99 f13)) rfl ?_
      refine zv_istore_n C dX2_renamedByDelta_47 48 rfl [(2, .int (nI (cne u11_100 u12_99 n))), (0, .ref (h 0)), (1, .int (nI p))] (by decide) rfl ?_
      refine zv_aload_n C dX2_renamedByDelta_48 49 rfl 1 rfl ?_
      refine zv_get (ci := 2) C inX2 rfl dX2_renamedByDelta_49 52 rfl 0 9 rfl (by decide) lk26 rfl ?_
      refine zv_iload_n C dX2_renamedByDelta_52 53 rfl 2 rfl ?_
      refine zv_aload_n C dX2_renamedByDelta_53 54 rfl 1 rfl ?_
      refine zv_get (ci := 2) C inX2 rfl dX2_renamedByDelta_54 57 rfl 0 9 rfl (by decide) lk26 rfl ?_
      refine zv_iload_n C dX2_renamedByDelta_57 58 rfl 2 rfl ?_
      refine zv_zald (v := (tg (f5 p))) C dX2_renamedByDelta_58 59 rfl 6 1 p rfl rfl rfl (by omega) (by decide) (upd_at _ _ _) ?_
      refine zv_if_ne C dX2_renamedByDelta_59 62 66 rfl (by decide) (fun c3 => ?_) (fun c3 => ?_)
      · refine zv_iconst (v := 0) C dX2_renamedByDelta_66 67 rfl (by decide) ?_
        refine zv_zast (x' := (tg (tg (f5 p)))) C dX2_renamedByDelta_67 68 rfl 6 1 p rfl rfl rfl (by omega) (by decide) (by rw [tg_1 c3]; decide) (cM cI cZ h 0 (nI n) r y (nI b) f0 f1 f2 f3 f4 (upd (upd f5 p (tg (f5 p))) p (tg (tg (f5 p)))) f6 f7 u8_100 u9_100 u10_100 u11_100 u12_99 f13) rfl ?_
        refine zv_iload_n C dX2_renamedByDelta_68 69 rfl 0 rfl ?_
        exact zv_iret C hr hlk hQ dX2_renamedByDelta_69 ⟨(upd (upd f5 p (tg (f5 p))) p (tg (tg (f5 p)))), u8_100, u9_100, u10_100, u11_100, u12_99, (by rw [cne_congr n (fun i hi => MA.nm hD hn huM100 i hi) (fun i hi => (huC99 i (by omega)).trans (MA.nm hD hn huM99 i hi))]), rfl, (by rw [tg_tg hz]; exact upd_back _ _ _)⟩
      · refine zv_iconst (v := 1) C dX2_renamedByDelta_62 63 rfl (by decide) ?_
        refine zv_goto C dX2_renamedByDelta_63 67 (by decide) ?_
        refine zv_zast (x' := (tg (tg (f5 p)))) C dX2_renamedByDelta_67 68 rfl 6 1 p rfl rfl rfl (by omega) (by decide) (by rw [tg_0 c3]; decide) (cM cI cZ h 0 (nI n) r y (nI b) f0 f1 f2 f3 f4 (upd (upd f5 p (tg (f5 p))) p (tg (tg (f5 p)))) f6 f7 u8_100 u9_100 u10_100 u11_100 u12_99 f13) rfl ?_
        refine zv_iload_n C dX2_renamedByDelta_68 69 rfl 0 rfl ?_
        exact zv_iret C hr hlk hQ dX2_renamedByDelta_69 ⟨(upd (upd f5 p (tg (f5 p))) p (tg (tg (f5 p)))), u8_100, u9_100, u10_100, u11_100, u12_99, (by rw [cne_congr n (fun i hi => MA.nm hD hn huM100 i hi) (fun i hi => (huC99 i (by omega)).trans (MA.nm hD hn huM99 i hi))]), rfl, (by rw [tg_tg hz]; exact upd_back _ _ _)⟩
    · refine zv_iconst (v := 1) C dX2_renamedByDelta_37 38 rfl (by decide) ?_
      refine zv_goto C dX2_renamedByDelta_38 42 (by decide) ?_
      refine zv_zast (x' := (tg (f5 p))) C dX2_renamedByDelta_42 43 rfl 6 1 p rfl rfl rfl (by omega) (by decide) (by rw [tg_0 c2]; decide) (cM cI cZ h 0 (nI n) r y (nI b) f0 f1 f2 f3 f4 (upd f5 p (tg (f5 p))) f6 f7 u8_99 u9_99 u10_99 u11_99 u12_99 f13) rfl ?_
      refine zv_aload_n C dX2_renamedByDelta_43 44 rfl 0 rfl ?_
      refine zv_callV (rest := []) (wr := []) C (k_X2_renamed l D cI cZ h 0 n r y b f0 f1 f2 f3 f4 (upd f5 p (tg (f5 p))) f6 f7 u8_99 u9_99 u10_99 u11_99 u12_99 f13 s d (by omega) (by assumption)) (cwV 0 C.1.2.2.2.2 gX2_renamedByDelta_X2_renamed rfl rfl rfl (by decide +kernel) ⟨Nat.le_of_ble_eq_true rfl, Nat.le_of_ble_eq_true rfl⟩) dX2_renamedByDelta_44 47 rfl (ci := 2) 0 rfl rfl rfl rfl (Nat.le_of_ble_eq_true rfl) ⟨Nat.le_of_ble_eq_true rfl, Nat.le_of_ble_eq_true rfl⟩ [0, 1] rfl [0, 1, 2, 3, 4, 5, 6, 7, 8, 9, 10, 11, 12, 13, 14] rfl (by decide) [] rfl (by decide) (by decide +kernel) (fun v w hv => ?_)
      obtain ⟨u8_101, u9_101, u10_101, u11_101, rfl, rfl, huM101⟩ := hv
      refine zv_go rfl rfl (st' := [.int (nI (cne u11_101 u12_99 n))]) rfl (kc' := 0) rfl (ns' := 0) rfl ?_
      refine zv_wd (ws' := (cM cI cZ h 0 (nI n) r y (nI b) f0 f1 f2 f3 f4 (upd f5 p (tg (f5 p))) f6 f7 u8_101 u9_101 u10_101 u11_101 u12_99 f13)) rfl ?_
      refine zv_istore_n C dX2_renamedByDelta_47 48 rfl [(2, .int (nI (cne u11_101 u12_99 n))), (0, .ref (h 0)), (1, .int (nI p))] (by decide) rfl ?_
      refine zv_aload_n C dX2_renamedByDelta_48 49 rfl 1 rfl ?_
      refine zv_get (ci := 2) C inX2 rfl dX2_renamedByDelta_49 52 rfl 0 9 rfl (by decide) lk26 rfl ?_
      refine zv_iload_n C dX2_renamedByDelta_52 53 rfl 2 rfl ?_
      refine zv_aload_n C dX2_renamedByDelta_53 54 rfl 1 rfl ?_
      refine zv_get (ci := 2) C inX2 rfl dX2_renamedByDelta_54 57 rfl 0 9 rfl (by decide) lk26 rfl ?_
      refine zv_iload_n C dX2_renamedByDelta_57 58 rfl 2 rfl ?_
      refine zv_zald (v := (tg (f5 p))) C dX2_renamedByDelta_58 59 rfl 6 1 p rfl rfl rfl (by omega) (by decide) (upd_at _ _ _) ?_
      refine zv_if_ne C dX2_renamedByDelta_59 62 66 rfl (by decide) (fun c4 => ?_) (fun c4 => ?_)
      · refine zv_iconst (v := 0) C dX2_renamedByDelta_66 67 rfl (by decide) ?_
        refine zv_zast (x' := (tg (tg (f5 p)))) C dX2_renamedByDelta_67 68 rfl 6 1 p rfl rfl rfl (by omega) (by decide) (by rw [tg_1 c4]; decide) (cM cI cZ h 0 (nI n) r y (nI b) f0 f1 f2 f3 f4 (upd (upd f5 p (tg (f5 p))) p (tg (tg (f5 p)))) f6 f7 u8_101 u9_101 u10_101 u11_101 u12_99 f13) rfl ?_
        refine zv_iload_n C dX2_renamedByDelta_68 69 rfl 0 rfl ?_
        exact zv_iret C hr hlk hQ dX2_renamedByDelta_69 ⟨(upd (upd f5 p (tg (f5 p))) p (tg (tg (f5 p)))), u8_101, u9_101, u10_101, u11_101, u12_99, (by rw [cne_congr n (fun i hi => MA.nm hD hn huM101 i hi) (fun i hi => (huC99 i (by omega)).trans (MA.nm hD hn huM99 i hi))]), rfl, (by rw [tg_tg hz]; exact upd_back _ _ _)⟩
      · refine zv_iconst (v := 1) C dX2_renamedByDelta_62 63 rfl (by decide) ?_
        refine zv_goto C dX2_renamedByDelta_63 67 (by decide) ?_
        refine zv_zast (x' := (tg (tg (f5 p)))) C dX2_renamedByDelta_67 68 rfl 6 1 p rfl rfl rfl (by omega) (by decide) (by rw [tg_0 c4]; decide) (cM cI cZ h 0 (nI n) r y (nI b) f0 f1 f2 f3 f4 (upd (upd f5 p (tg (f5 p))) p (tg (tg (f5 p)))) f6 f7 u8_101 u9_101 u10_101 u11_101 u12_99 f13) rfl ?_
        refine zv_iload_n C dX2_renamedByDelta_68 69 rfl 0 rfl ?_
        exact zv_iret C hr hlk hQ dX2_renamedByDelta_69 ⟨(upd (upd f5 p (tg (f5 p))) p (tg (tg (f5 p)))), u8_101, u9_101, u10_101, u11_101, u12_99, (by rw [cne_congr n (fun i hi => MA.nm hD hn huM101 i hi) (fun i hi => (huC99 i (by omega)).trans (MA.nm hD hn huM99 i hi))]), rfl, (by rw [tg_tg hz]; exact upd_back _ _ _)⟩
  · exact absurd (isP_nI (by omega) hp) (by rw [zb_eq0.mp c1]; decide)
set_option maxHeartbeats 4000000 in
set_option maxRecDepth 100000 in
theorem k_X2_renamedByDelta_no (l : Launch) (D : va_G) (cI cZ : ClassId) (h : Nat → Nat) (t : Int32) (n : Nat) (r y : Int32) (b : Nat) (f0 f1 f2 f3 f4 f5 f6 f7 f8 f9 f10 f11 f12 f13 : Nat → Int32) (i : Int32) (hn : n ≤ 16) (hf : isP n i = false) : zv_M l yX2_renamedByDelta wsX2_renamedByDelta rmX2_renamedByDelta D vwCl (tyL cI cZ) [.ref (h 0), .int i] (cM cI cZ h t (nI n) r y (nI b) f0 f1 f2 f3 f4 f5 f6 f7 f8 f9 f10 f11 f12 f13) (fun v w => v = some (.int 0) ∧ w = (cM cI cZ h 1 (nI n) r y (nI b) f0 f1 f2 f3 f4 f5 f6 f7 f8 f9 f10 f11 f12 f13)) := by
  refine zv_M.of cX2_renamedByDelta 3 (some .int) (by decide) rfl (Nat.le_of_ble_eq_true rfl) ?_
  intro pP eE sS mM aA bB mT cD A C hr hlk hnm Q hQ
  have inX2 : ∀ w ∈ u_ws RX2 TX2 19, w ∈ wsX2_renamedByDelta := by decide +kernel
  have lk53 : Cond.fieldLink RX2 53 "RiverNamesModel" "thrown" "I" ∈ wsX2_renamedByDelta := by decide +kernel
  refine zv_go (pc' := 0) rfl (lv' := [(0, .ref (h 0)), (1, .int i)]) rfl rfl rfl rfl ?_
  refine zv_aload_n C dX2_renamedByDelta_0 1 rfl 0 rfl ?_
  refine zv_iconst (v := 0) C dX2_renamedByDelta_1 2 rfl (by decide) ?_
  refine zv_put (ci := 2) C inX2 rfl tyX2_ok nmX2 dX2_renamedByDelta_2 5 rfl 0 0 rfl (by decide) lk53 rfl rfl rfl (Nat.le_of_ble_eq_true rfl) (cM cI cZ h 0 (nI n) r y (nI b) f0 f1 f2 f3 f4 f5 f6 f7 f8 f9 f10 f11 f12 f13) rfl ?_
  refine zv_aload_n C dX2_renamedByDelta_5 6 rfl 0 rfl ?_
  refine zv_iload_n C dX2_renamedByDelta_6 7 rfl 1 rfl ?_
  refine zv_callVR (rest := []) C (k_X2_isPlace l D cI cZ h 0 n r y b f0 f1 f2 f3 f4 f5 f6 f7 f8 f9 f10 f11 f12 f13 i (by omega)) (cwV 1 C.1.2.2.2.2 gX2_renamedByDelta_X2_isPlace rfl rfl rfl (by decide +kernel) ⟨Nat.le_of_ble_eq_true rfl, Nat.le_of_ble_eq_true rfl⟩) dX2_renamedByDelta_7 10 rfl (ci := 2) 0 rfl rfl rfl rfl (Nat.le_of_ble_eq_true rfl) ⟨Nat.le_of_ble_eq_true rfl, Nat.le_of_ble_eq_true rfl⟩ [0, 1] rfl [0, 1, 2, 3, 4, 5, 6, 7, 8, 9, 10, 11, 12, 13, 14] rfl (by decide) (fun v hv => ?_)
  subst hv
  refine zv_go rfl rfl (st' := [.int (zb (isP n i))]) rfl (kc' := 0) rfl (ns' := 0) rfl ?_
  refine zv_if_ne C dX2_renamedByDelta_10 13 19 rfl (by decide) (fun c1 => ?_) (fun c1 => ?_)
  · exact absurd hf (by rw [zb_ne0.mp c1]; decide)
  · refine zv_aload_n C dX2_renamedByDelta_13 14 rfl 0 rfl ?_
    refine zv_iconst (v := 1) C dX2_renamedByDelta_14 15 rfl (by decide) ?_
    refine zv_callV (rest := []) (wr := []) C (k_X2_no l D cI cZ h 0 n r y b f0 f1 f2 f3 f4 f5 f6 f7 f8 f9 f10 f11 f12 f13 1) (cwV 1 C.1.2.2.2.2 gX2_renamedByDelta_X2_no rfl rfl rfl (by decide +kernel) ⟨Nat.le_of_ble_eq_true rfl, Nat.le_of_ble_eq_true rfl⟩) dX2_renamedByDelta_15 18 rfl (ci := 2) 0 rfl rfl rfl rfl (Nat.le_of_ble_eq_true rfl) ⟨Nat.le_of_ble_eq_true rfl, Nat.le_of_ble_eq_true rfl⟩ [0, 1] rfl [0, 1, 2, 3, 4, 5, 6, 7, 8, 9, 10, 11, 12, 13, 14] rfl (by decide) [] rfl (by decide) (by decide +kernel) (fun v w hv => ?_)
    obtain ⟨rfl, rfl⟩ := hv
    refine zv_go rfl rfl (st' := [.int 0]) rfl (kc' := 0) rfl (ns' := 0) rfl ?_
    refine zv_wd (ws' := (cM cI cZ h 1 (nI n) r y (nI b) f0 f1 f2 f3 f4 f5 f6 f7 f8 f9 f10 f11 f12 f13)) rfl ?_
    exact zv_iret C hr hlk hQ dX2_renamedByDelta_18 ⟨rfl, rfl⟩
abbrev rmX2_byRule : Room := { frames := 5, cells := 0, slots := 0, locals := 112 }
set_option maxHeartbeats 4000000 in
set_option maxRecDepth 100000 in
theorem k_X2_byRule (l : Launch) (D : va_G) (cI cZ : ClassId) (h : Nat → Nat) (t : Int32) (n : Nat) (r y : Int32) (b : Nat) (f0 f1 f2 f3 f4 f5 f6 f7 f8 f9 f10 f11 f12 f13 : Nat → Int32) (s : Nat → Int32) (d : Nat → Nat) (hn : n ≤ 16) (hD : Dep n f0 s d) : zv_M l yX2_byRule wsX2_byRule rmX2_byRule D vwCl (tyL cI cZ) [.ref (h 0)] (cM cI cZ h t (nI n) r y (nI b) f0 f1 f2 f3 f4 f5 f6 f7 f8 f9 f10 f11 f12 f13) (fun v w => ∃ (g8 g9 g10 g11 g12 : Nat → Int32), v = some (.int (nI (cne (nmS n f0 f1 f2 f3 f5 (1 - r)) (nmS n f0 f1 f2 f3 f5 r) n))) ∧ w = (cM cI cZ h t (nI n) r y (nI b) f0 f1 f2 f3 f4 f5 f6 f7 g8 g9 g10 g11 g12 f13)) := by
  refine zv_M.of cX2_byRule 2 (some .int) (by decide) rfl (Nat.le_of_ble_eq_true rfl) ?_
  intro pP eE sS mM aA bB mT cD A C hr hlk hnm Q hQ
  have inX2 : ∀ w ∈ u_ws RX2 TX2 19, w ∈ wsX2_byRule := by decide +kernel
  have lk75 : Cond.fieldLink RX2 75 "RiverNamesModel" "rule" "I" ∈ wsX2_byRule := by decide +kernel
  refine zv_go (pc' := 0) rfl (lv' := [(0, .ref (h 0))]) rfl rfl rfl rfl ?_
  refine zv_aload_n C dX2_byRule_0 1 rfl 0 rfl ?_
  refine zv_callV (rest := []) (wr := []) C (k_X2_remember l D cI cZ h t n r y b f0 f1 f2 f3 f4 f5 f6 f7 f8 f9 f10 f11 f12 f13 s d (by omega) (by assumption)) (cwV 0 C.1.2.2.2.2 gX2_byRule_X2_remember rfl rfl rfl (by decide +kernel) ⟨Nat.le_of_ble_eq_true rfl, Nat.le_of_ble_eq_true rfl⟩) dX2_byRule_1 4 rfl (ci := 2) 0 rfl rfl rfl rfl (Nat.le_of_ble_eq_true rfl) ⟨Nat.le_of_ble_eq_true rfl, Nat.le_of_ble_eq_true rfl⟩ [0, 1] rfl [0, 1, 2, 3, 4, 5, 6, 7, 8, 9, 10, 11, 12, 13, 14] rfl (by decide) [] rfl (by decide) (by decide +kernel) (fun v w hv => ?_)
  obtain ⟨u8_103, u9_103, u10_103, u11_103, u12_103, rfl, rfl, huM103, huC103⟩ := hv
  refine zv_go rfl rfl (st' := []) rfl (kc' := 0) rfl (ns' := 0) rfl ?_
  refine zv_wd (ws' := (cM cI cZ h t (nI n) r y (nI b) f0 f1 f2 f3 f4 f5 f6 f7 u8_103 u9_103 u10_103 u11_103 u12_103 f13)) rfl ?_
  refine zv_aload_n C dX2_byRule_4 5 rfl 0 rfl ?_
  refine zv_iconst (v := 1) C dX2_byRule_5 6 rfl (by decide) ?_
  refine zv_aload_n C dX2_byRule_6 7 rfl 0 rfl ?_
  refine zv_get (ci := 2) C inX2 rfl dX2_byRule_7 10 rfl 0 2 rfl (by decide) lk75 rfl ?_
  refine zv_isub (v := (1 - r)) C dX2_byRule_10 11 rfl rfl ?_
  refine zv_put (ci := 2) C inX2 rfl tyX2_ok nmX2 dX2_byRule_11 14 rfl 0 2 rfl (by decide) lk75 rfl rfl rfl (Nat.le_of_ble_eq_true rfl) (cM cI cZ h t (nI n) (1 - r) y (nI b) f0 f1 f2 f3 f4 f5 f6 f7 u8_103 u9_103 u10_103 u11_103 u12_103 f13) rfl ?_
  refine zv_aload_n C dX2_byRule_14 15 rfl 0 rfl ?_
  refine zv_callV (rest := []) (wr := []) C (k_X2_renamed l D cI cZ h t n (1 - r) y b f0 f1 f2 f3 f4 f5 f6 f7 u8_103 u9_103 u10_103 u11_103 u12_103 f13 s d (by omega) (by assumption)) (cwV 0 C.1.2.2.2.2 gX2_byRule_X2_renamed rfl rfl rfl (by decide +kernel) ⟨Nat.le_of_ble_eq_true rfl, Nat.le_of_ble_eq_true rfl⟩) dX2_byRule_15 18 rfl (ci := 2) 0 rfl rfl rfl rfl (Nat.le_of_ble_eq_true rfl) ⟨Nat.le_of_ble_eq_true rfl, Nat.le_of_ble_eq_true rfl⟩ [0, 1] rfl [0, 1, 2, 3, 4, 5, 6, 7, 8, 9, 10, 11, 12, 13, 14] rfl (by decide) [] rfl (by decide) (by decide +kernel) (fun v w hv => ?_)
  obtain ⟨u8_104, u9_104, u10_104, u11_104, rfl, rfl, huM104⟩ := hv
  refine zv_go rfl rfl (st' := [.int (nI (cne u11_104 u12_103 n))]) rfl (kc' := 0) rfl (ns' := 0) rfl ?_
  refine zv_wd (ws' := (cM cI cZ h t (nI n) (1 - r) y (nI b) f0 f1 f2 f3 f4 f5 f6 f7 u8_104 u9_104 u10_104 u11_104 u12_103 f13)) rfl ?_
  refine zv_istore_n C dX2_byRule_18 19 rfl [(1, .int (nI (cne u11_104 u12_103 n))), (0, .ref (h 0))] (by decide) rfl ?_
  refine zv_aload_n C dX2_byRule_19 20 rfl 1 rfl ?_
  refine zv_iconst (v := 1) C dX2_byRule_20 21 rfl (by decide) ?_
  refine zv_aload_n C dX2_byRule_21 22 rfl 1 rfl ?_
  refine zv_get (ci := 2) C inX2 rfl dX2_byRule_22 25 rfl 0 2 rfl (by decide) lk75 rfl ?_
  refine zv_isub (v := r) C dX2_byRule_25 26 rfl (sub_sub1 r) ?_
  refine zv_put (ci := 2) C inX2 rfl tyX2_ok nmX2 dX2_byRule_26 29 rfl 0 2 rfl (by decide) lk75 rfl rfl rfl (Nat.le_of_ble_eq_true rfl) (cM cI cZ h t (nI n) r y (nI b) f0 f1 f2 f3 f4 f5 f6 f7 u8_104 u9_104 u10_104 u11_104 u12_103 f13) rfl ?_
  refine zv_iload_n C dX2_byRule_29 30 rfl 0 rfl ?_
  exact zv_iret C hr hlk hQ dX2_byRule_30 ⟨u8_104, u9_104, u10_104, u11_104, u12_103, (by rw [cne_congr n (fun i hi => MA.nm hD hn huM104 i hi) (fun i hi => (huC103 i (by omega)).trans (MA.nm hD hn huM103 i hi))]), rfl⟩
abbrev rmX2_renamedByRule : Room := { frames := 6, cells := 0, slots := 0, locals := 133 }
set_option maxHeartbeats 4000000 in
set_option maxRecDepth 100000 in
theorem k_X2_renamedByRule (l : Launch) (D : va_G) (cI cZ : ClassId) (h : Nat → Nat) (t : Int32) (n : Nat) (r y : Int32) (b : Nat) (f0 f1 f2 f3 f4 f5 f6 f7 f8 f9 f10 f11 f12 f13 : Nat → Int32) (s : Nat → Int32) (d : Nat → Nat) (hn : n ≤ 16) (hD : Dep n f0 s d) : zv_M l yX2_renamedByRule wsX2_renamedByRule rmX2_renamedByRule D vwCl (tyL cI cZ) [.ref (h 0)] (cM cI cZ h t (nI n) r y (nI b) f0 f1 f2 f3 f4 f5 f6 f7 f8 f9 f10 f11 f12 f13) (fun v w => ∃ (g8 g9 g10 g11 g12 : Nat → Int32), v = some (.int (nI (cne (nmS n f0 f1 f2 f3 f5 (1 - r)) (nmS n f0 f1 f2 f3 f5 r) n))) ∧ w = (cM cI cZ h 0 (nI n) r y (nI b) f0 f1 f2 f3 f4 f5 f6 f7 g8 g9 g10 g11 g12 f13)) := by
  refine zv_M.of cX2_renamedByRule 1 (some .int) (by decide) rfl (Nat.le_of_ble_eq_true rfl) ?_
  intro pP eE sS mM aA bB mT cD A C hr hlk hnm Q hQ
  refine zv_go (pc' := 0) rfl (lv' := [(0, .ref (h 0))]) rfl rfl rfl rfl ?_
  refine zv_aload_n C dX2_renamedByRule_0 1 rfl 0 rfl ?_
  refine zv_aload_n C dX2_renamedByRule_1 2 rfl 0 rfl ?_
  refine zv_callV (rest := [.ref (h 0)]) (wr := []) C (k_X2_byRule l D cI cZ h t n r y b f0 f1 f2 f3 f4 f5 f6 f7 f8 f9 f10 f11 f12 f13 s d (by omega) (by assumption)) (cwV 0 C.1.2.2.2.2 gX2_renamedByRule_X2_byRule rfl rfl rfl (by decide +kernel) ⟨Nat.le_of_ble_eq_true rfl, Nat.le_of_ble_eq_true rfl⟩) dX2_renamedByRule_2 5 rfl (ci := 2) 0 rfl rfl rfl rfl (Nat.le_of_ble_eq_true rfl) ⟨Nat.le_of_ble_eq_true rfl, Nat.le_of_ble_eq_true rfl⟩ [0, 1] rfl [0, 1, 2, 3, 4, 5, 6, 7, 8, 9, 10, 11, 12, 13, 14] rfl (by decide) [] rfl (by decide) (by decide +kernel) (fun v w hv => ?_)
  obtain ⟨u8_105, u9_105, u10_105, u11_105, u12_105, rfl, rfl⟩ := hv
  refine zv_go rfl rfl (st' := [.int (nI (cne (nmS n f0 f1 f2 f3 f5 (1 - r)) (nmS n f0 f1 f2 f3 f5 r) n)), .ref (h 0)]) rfl (kc' := 0) rfl (ns' := 0) rfl ?_
  refine zv_wd (ws' := (cM cI cZ h t (nI n) r y (nI b) f0 f1 f2 f3 f4 f5 f6 f7 u8_105 u9_105 u10_105 u11_105 u12_105 f13)) rfl ?_
  refine zv_callV (rest := []) (wr := []) C (k_X2_ok l D cI cZ h t n r y b f0 f1 f2 f3 f4 f5 f6 f7 u8_105 u9_105 u10_105 u11_105 u12_105 f13 (nI (cne (nmS n f0 f1 f2 f3 f5 (1 - r)) (nmS n f0 f1 f2 f3 f5 r) n))) (cwV 1 C.1.2.2.2.2 gX2_renamedByRule_X2_ok rfl rfl rfl (by decide +kernel) ⟨Nat.le_of_ble_eq_true rfl, Nat.le_of_ble_eq_true rfl⟩) dX2_renamedByRule_5 8 rfl (ci := 2) 0 rfl rfl rfl rfl (Nat.le_of_ble_eq_true rfl) ⟨Nat.le_of_ble_eq_true rfl, Nat.le_of_ble_eq_true rfl⟩ [0, 1] rfl [0, 1, 2, 3, 4, 5, 6, 7, 8, 9, 10, 11, 12, 13, 14] rfl (by decide) [] rfl (by decide) (by decide +kernel) (fun v w hv => ?_)
  obtain ⟨rfl, rfl⟩ := hv
  refine zv_go rfl rfl (st' := [.int (nI (cne (nmS n f0 f1 f2 f3 f5 (1 - r)) (nmS n f0 f1 f2 f3 f5 r) n))]) rfl (kc' := 0) rfl (ns' := 0) rfl ?_
  refine zv_wd (ws' := (cM cI cZ h 0 (nI n) r y (nI b) f0 f1 f2 f3 f4 f5 f6 f7 u8_105 u9_105 u10_105 u11_105 u12_105 f13)) rfl ?_
  exact zv_iret C hr hlk hQ dX2_renamedByRule_8 ⟨u8_105, u9_105, u10_105, u11_105, u12_105, rfl, rfl⟩
