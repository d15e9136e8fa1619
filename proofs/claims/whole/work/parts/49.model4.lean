abbrev rmX2_insulted : Room := { frames := 0, cells := 0, slots := 0, locals := 0 }
set_option maxHeartbeats 4000000 in
set_option maxRecDepth 100000 in
theorem k_X2_insulted (l : Launch) (D : va_G) (cI cZ : ClassId) (h : Nat → Nat) (t : Int32) (n : Nat) (r y : Int32) (b : Nat) (f0 f1 f2 f3 f4 f5 f6 f7 f8 f9 f10 f11 f12 f13 : Nat → Int32) (i : Nat) (hi : i < 16) (ha : ∃ q, q < 16 ∧ f6 i = nI q) : zv_R l yX2_insulted wsX2_insulted rmX2_insulted D vwCl (tyL cI cZ) [.ref (h 0), .int (nI i)] (cM cI cZ h t (nI n) r y (nI b) f0 f1 f2 f3 f4 f5 f6 f7 f8 f9 f10 f11 f12 f13) (fun v => v = some (.int (zb (insd (f7 i) (f11 (f6 i).toNatClampNeg))))) := by
  refine zv_R.of cX2_insulted 2 (some .boolean) (by decide) rfl (Nat.le_of_ble_eq_true rfl) ?_
  intro pP eE sS mM aA bB mT cD A C hr hlk hA Q hQ
  have inX2 : ∀ w ∈ u_ws RX2 TX2 19, w ∈ wsX2_insulted := by decide +kernel
  have lk32 : Cond.fieldLink RX2 32 "RiverNamesModel" "kept" "[I" ∈ wsX2_insulted := by decide +kernel
  have lk44 : Cond.fieldLink RX2 44 "RiverNamesModel" "name" "[I" ∈ wsX2_insulted := by decide +kernel
  have lk29 : Cond.fieldLink RX2 29 "RiverNamesModel" "at" "[I" ∈ wsX2_insulted := by decide +kernel
  obtain ⟨q, hq, hqq⟩ := ha
  refine zv_go (pc' := 0) rfl (lv' := [(0, .ref (h 0)), (1, .int (nI i))]) rfl rfl rfl rfl ?_
  refine zv_aload_n C dX2_insulted_0 1 rfl 0 rfl ?_
  refine zv_get (ci := 2) C inX2 rfl dX2_insulted_1 4 rfl 0 12 rfl (by decide) lk32 rfl ?_
  refine zv_iload_n C dX2_insulted_4 5 rfl 1 rfl ?_
  refine zv_iald (v := (f7 i)) C dX2_insulted_5 6 rfl 8 0 i rfl rfl rfl (by omega) (by decide) rfl ?_
  refine zv_iconst (v := (-1 : Int32)) C dX2_insulted_6 7 rfl (by decide) ?_
  refine zv_icmp_eq C dX2_insulted_7 10 34 rfl (by decide) (fun c1 => ?_) (fun c1 => ?_)
  · refine zv_iconst (v := 0) C dX2_insulted_34 35 rfl (by decide) ?_
    exact zv_zretR C (by decide) hr hlk hA hQ dX2_insulted_35 (by rw [hqq, nI_clamp (by omega)]; simp [insd, zb, c1])
  · refine zv_aload_n C dX2_insulted_10 11 rfl 0 rfl ?_
    refine zv_get (ci := 2) C inX2 rfl dX2_insulted_11 14 rfl 0 16 rfl (by decide) lk44 rfl ?_
    refine zv_aload_n C dX2_insulted_14 15 rfl 0 rfl ?_
    refine zv_get (ci := 2) C inX2 rfl dX2_insulted_15 18 rfl 0 11 rfl (by decide) lk29 rfl ?_
    refine zv_iload_n C dX2_insulted_18 19 rfl 1 rfl ?_
    refine zv_iald (v := (nI q)) C dX2_insulted_19 20 rfl 7 0 i rfl rfl rfl (by omega) (by decide) hqq ?_
    refine zv_iald (v := (f11 q)) C dX2_insulted_20 21 rfl 12 0 q rfl rfl rfl (by omega) (by decide) rfl ?_
    refine zv_aload_n C dX2_insulted_21 22 rfl 0 rfl ?_
    refine zv_get (ci := 2) C inX2 rfl dX2_insulted_22 25 rfl 0 12 rfl (by decide) lk32 rfl ?_
    refine zv_iload_n C dX2_insulted_25 26 rfl 1 rfl ?_
    refine zv_iald (v := (f7 i)) C dX2_insulted_26 27 rfl 8 0 i rfl rfl rfl (by omega) (by decide) rfl ?_
    refine zv_icmp_eq C dX2_insulted_27 30 34 rfl (by decide) (fun c2 => ?_) (fun c2 => ?_)
    · refine zv_iconst (v := 0) C dX2_insulted_34 35 rfl (by decide) ?_
      exact zv_zretR C (by decide) hr hlk hA hQ dX2_insulted_35 (by rw [hqq, nI_clamp (by omega)]; simp [insd, zb, c1, c2])
    · refine zv_iconst (v := 1) C dX2_insulted_30 31 rfl (by decide) ?_
      refine zv_goto C dX2_insulted_31 35 (by decide) ?_
      exact zv_zretR C (by decide) hr hlk hA hQ dX2_insulted_35 (by rw [hqq, nI_clamp (by omega)]; simp [insd, zb, c1, c2])
abbrev rmX2_allInsults : Room := { frames := 4, cells := 0, slots := 0, locals := 90 }
set_option maxHeartbeats 4000000 in
set_option maxRecDepth 100000 in
theorem k_X2_allInsults (l : Launch) (D : va_G) (cI cZ : ClassId) (h : Nat → Nat) (t : Int32) (n : Nat) (r y : Int32) (b : Nat) (f0 f1 f2 f3 f4 f5 f6 f7 f8 f9 f10 f11 f12 f13 : Nat → Int32) (s : Nat → Int32) (d : Nat → Nat) (hn : n ≤ 16) (hD : Dep n f0 s d) (hb : b ≤ 16) (hB : Brg n b f6) : zv_M l yX2_allInsults wsX2_allInsults rmX2_allInsults D vwCl (tyL cI cZ) [.ref (h 0)] (cM cI cZ h t (nI n) r y (nI b) f0 f1 f2 f3 f4 f5 f6 f7 f8 f9 f10 f11 f12 f13) (fun v w => ∃ (g8 g9 g10 g11 : Nat → Int32), v = some (.int (nI (inN f6 f7 (nmS n f0 f1 f2 f3 f5 r) b))) ∧ w = (cM cI cZ h t (nI n) r y (nI b) f0 f1 f2 f3 f4 f5 f6 f7 g8 g9 g10 g11 f12 f13) ∧ (∀ p, p < n → MA n f0 f1 f2 f3 f5 r g9 g10 g11 p)) := by
  refine zv_M.of cX2_allInsults 3 (some .int) (by decide) rfl (Nat.le_of_ble_eq_true rfl) ?_
  intro pP eE sS mM aA bB mT cD A C hr hlk hnm Q hQ
  have inX2 : ∀ w ∈ u_ws RX2 TX2 19, w ∈ wsX2_allInsults := by decide +kernel
  have lk64 : Cond.fieldLink RX2 64 "RiverNamesModel" "bridges" "I" ∈ wsX2_allInsults := by decide +kernel
  have L8 : ∀ (mu_L8 : Nat), ∀ (j t1 : Nat) (g8 g9 g10 g11 : Nat → Int32), (j ≤ b) → (∀ p, p < n → MA n f0 f1 f2 f3 f5 r g9 g10 g11 p) → (t1 = cnb (fun i => insd (f7 i) (g11 (f6 i).toNatClampNeg)) j) → b - j < mu_L8 → zv_V pP l eE rmX2_allInsults sS mM aA bB mT cD Q 3 D vwCl A A (tyL cI cZ) (cM cI cZ h t (nI n) r y (nI b) f0 f1 f2 f3 f4 f5 f6 f7 g8 g9 g10 g11 f12 f13) 0 0 8 [(0, .ref (h 0)), (1, .int (nI t1)), (2, .int (nI j))] [] := by
    intro mu_L8
    induction mu_L8 with
    | zero => intro j t1 g8 g9 g10 g11 hj hM ht hmu_L8; exact absurd hmu_L8 (Nat.not_lt_zero _)
    | succ mu_L8 ih_L8 =>
      intro j t1 g8 g9 g10 g11 hj hM ht hmu_L8
      refine zv_iload_n C dX2_allInsults_8 9 rfl 2 rfl ?_
      refine zv_aload_n C dX2_allInsults_9 10 rfl 0 rfl ?_
      refine zv_get (ci := 2) C inX2 rfl dX2_allInsults_10 13 rfl 0 10 rfl (by decide) lk64 rfl ?_
      refine zv_icmp_ge C dX2_allInsults_13 16 38 rfl (by decide) (fun c1 => ?_) (fun c1 => ?_)
      · replace c1 := zn_le (a := b) (b := j) (by omega) (by omega) c1
        refine zv_iload_n C dX2_allInsults_38 39 rfl 1 rfl ?_
        exact zv_iret C hr hlk hQ dX2_allInsults_39 (by
      have hjn : j = b := (by omega)
      refine ⟨g8, g9, g10, g11, ?_, rfl, hM⟩
      rw [ht, hjn, ← inN_congr hn hB (fun i hi => (MA.sol hD hn hM i hi).2.2)]; rfl)
      · replace c1 := zn_le' (a := b) (b := j) (by omega) (by omega) c1
        refine zv_iload_n C dX2_allInsults_16 17 rfl 1 rfl ?_
        refine zv_aload_n C dX2_allInsults_17 18 rfl 0 rfl ?_
        refine zv_iload_n C dX2_allInsults_18 19 rfl 2 rfl ?_
        refine zv_callVR (rest := [.int (nI t1)]) C (k_X2_insulted l D cI cZ h t n r y b f0 f1 f2 f3 f4 f5 f6 f7 g8 g9 g10 g11 f12 f13 j (by omega) (by obtain ⟨q, hq, e⟩ := hB j (by omega); exact ⟨q, by omega, e⟩)) (cwV 1 C.1.2.2.2.2 gX2_allInsults_X2_insulted rfl rfl rfl (by decide +kernel) ⟨Nat.le_of_ble_eq_true rfl, Nat.le_of_ble_eq_true rfl⟩) dX2_allInsults_19 22 rfl (ci := 2) 0 rfl rfl rfl rfl (Nat.le_of_ble_eq_true rfl) ⟨Nat.le_of_ble_eq_true rfl, Nat.le_of_ble_eq_true rfl⟩ [0, 1] rfl [0, 1, 2, 3, 4, 5, 6, 7, 8, 9, 10, 11, 12, 13, 14] rfl (by decide) (fun v hv => ?_)
        subst hv
        refine zv_go rfl rfl (st' := [.int (zb (insd (f7 j) (g11 (f6 j).toNatClampNeg))), .int (nI t1)]) rfl (kc' := 0) rfl (ns' := 0) rfl ?_
        refine zv_if_eq C dX2_allInsults_22 25 29 rfl (by decide) (fun c2 => ?_) (fun c2 => ?_)
        · replace c2 := zb_eq0.mp c2
          refine zv_iconst (v := 0) C dX2_allInsults_29 30 rfl (by decide) ?_
          refine zv_iadd (v := (nI t1)) C dX2_allInsults_30 31 rfl (Int32.add_zero _) ?_
          refine zv_istore_n C dX2_allInsults_31 32 rfl [(1, .int (nI t1)), (0, .ref (h 0)), (2, .int (nI j))] (by decide) rfl ?_
          refine zv_iinc (v := (nI (j + 1))) C dX2_allInsults_32 35 rfl [(2, .int (nI (j + 1))), (1, .int (nI t1)), (0, .ref (h 0))] 2 rfl (nI_1 j) (by decide) rfl ?_
          refine zv_goto C dX2_allInsults_35 8 (by decide) ?_
          refine zv_sub [2, 1, 0] (lv' := [(0, .ref (h 0)), (1, .int (nI t1)), (2, .int (nI (j + 1)))]) rfl ?_
          exact ih_L8 (j + 1) t1 g8 g9 g10 g11 (by omega) hM (by rw [ht]; exact (cnb_n (fun i => insd (f7 i) (g11 (f6 i).toNatClampNeg)) c2).symm) (by omega)
        · replace c2 := zb_ne0.mp c2
          refine zv_iconst (v := 1) C dX2_allInsults_25 26 rfl (by decide) ?_
          refine zv_goto C dX2_allInsults_26 30 (by decide) ?_
          refine zv_iadd (v := (nI (t1 + 1))) C dX2_allInsults_30 31 rfl (nI_1 t1) ?_
          refine zv_istore_n C dX2_allInsults_31 32 rfl [(1, .int (nI (t1 + 1))), (0, .ref (h 0)), (2, .int (nI j))] (by decide) rfl ?_
          refine zv_iinc (v := (nI (j + 1))) C dX2_allInsults_32 35 rfl [(2, .int (nI (j + 1))), (1, .int (nI (t1 + 1))), (0, .ref (h 0))] 2 rfl (nI_1 j) (by decide) rfl ?_
          refine zv_goto C dX2_allInsults_35 8 (by decide) ?_
          refine zv_sub [2, 1, 0] (lv' := [(0, .ref (h 0)), (1, .int (nI (t1 + 1))), (2, .int (nI (j + 1)))]) rfl ?_
          exact ih_L8 (j + 1) (t1 + 1) g8 g9 g10 g11 (by omega) hM (by rw [ht]; exact (cnb_y (fun i => insd (f7 i) (g11 (f6 i).toNatClampNeg)) c2).symm) (by omega)
  refine zv_go (pc' := 0) rfl (lv' := [(0, .ref (h 0))]) rfl rfl rfl rfl ?_
  refine zv_aload_n C dX2_allInsults_0 1 rfl 0 rfl ?_
  refine zv_callV (rest := []) (wr := []) C (k_X2_reckon l D cI cZ h t n r y b f0 f1 f2 f3 f4 f5 f6 f7 f8 f9 f10 f11 f12 f13 s d (by omega) (by assumption)) (cwV 0 C.1.2.2.2.2 gX2_allInsults_X2_reckon rfl rfl rfl (by decide +kernel) ⟨Nat.le_of_ble_eq_true rfl, Nat.le_of_ble_eq_true rfl⟩) dX2_allInsults_1 4 rfl (ci := 2) 0 rfl rfl rfl rfl (Nat.le_of_ble_eq_true rfl) ⟨Nat.le_of_ble_eq_true rfl, Nat.le_of_ble_eq_true rfl⟩ [0, 1] rfl [0, 1, 2, 3, 4, 5, 6, 7, 8, 9, 10, 11, 12, 13, 14] rfl (by decide) [] rfl (by decide) (by decide +kernel) (fun v w hv => ?_)
  obtain ⟨u8_58, u9_58, u10_58, u11_58, rfl, rfl, huM58⟩ := hv
  refine zv_go rfl rfl (st' := []) rfl (kc' := 0) rfl (ns' := 0) rfl ?_
  refine zv_wd (ws' := (cM cI cZ h t (nI n) r y (nI b) f0 f1 f2 f3 f4 f5 f6 f7 u8_58 u9_58 u10_58 u11_58 f12 f13)) rfl ?_
  refine zv_iconst (v := 0) C dX2_allInsults_4 5 rfl (by decide) ?_
  refine zv_istore_n C dX2_allInsults_5 6 rfl [(1, .int 0), (0, .ref (h 0))] (by decide) rfl ?_
  refine zv_iconst (v := 0) C dX2_allInsults_6 7 rfl (by decide) ?_
  refine zv_istore_n C dX2_allInsults_7 8 rfl [(2, .int 0), (1, .int 0), (0, .ref (h 0))] (by decide) rfl ?_
  refine zv_sub [2, 1, 0] (lv' := [(0, .ref (h 0)), (1, .int 0), (2, .int 0)]) rfl ?_
  exact L8 _ 0 0 u8_58 u9_58 u10_58 u11_58 (Nat.zero_le b) huM58 rfl (Nat.lt_succ_self _)
abbrev rmX2_insults : Room := { frames := 5, cells := 0, slots := 0, locals := 112 }
set_option maxHeartbeats 4000000 in
set_option maxRecDepth 100000 in
theorem k_X2_insults (l : Launch) (D : va_G) (cI cZ : ClassId) (h : Nat → Nat) (t : Int32) (n : Nat) (r y : Int32) (b : Nat) (f0 f1 f2 f3 f4 f5 f6 f7 f8 f9 f10 f11 f12 f13 : Nat → Int32) (s : Nat → Int32) (d : Nat → Nat) (hn : n ≤ 16) (hD : Dep n f0 s d) (hb : b ≤ 16) (hB : Brg n b f6) : zv_M l yX2_insults wsX2_insults rmX2_insults D vwCl (tyL cI cZ) [.ref (h 0)] (cM cI cZ h t (nI n) r y (nI b) f0 f1 f2 f3 f4 f5 f6 f7 f8 f9 f10 f11 f12 f13) (fun v w => ∃ (g8 g9 g10 g11 : Nat → Int32), v = some (.int (nI (inN f6 f7 (nmS n f0 f1 f2 f3 f5 r) b))) ∧ w = (cM cI cZ h 0 (nI n) r y (nI b) f0 f1 f2 f3 f4 f5 f6 f7 g8 g9 g10 g11 f12 f13)) := by
  refine zv_M.of cX2_insults 1 (some .int) (by decide) rfl (Nat.le_of_ble_eq_true rfl) ?_
  intro pP eE sS mM aA bB mT cD A C hr hlk hnm Q hQ
  refine zv_go (pc' := 0) rfl (lv' := [(0, .ref (h 0))]) rfl rfl rfl rfl ?_
  refine zv_aload_n C dX2_insults_0 1 rfl 0 rfl ?_
  refine zv_aload_n C dX2_insults_1 2 rfl 0 rfl ?_
  refine zv_callV (rest := [.ref (h 0)]) (wr := []) C (k_X2_allInsults l D cI cZ h t n r y b f0 f1 f2 f3 f4 f5 f6 f7 f8 f9 f10 f11 f12 f13 s d (by omega) (by assumption) (by omega) (by assumption)) (cwV 0 C.1.2.2.2.2 gX2_insults_X2_allInsults rfl rfl rfl (by decide +kernel) ⟨Nat.le_of_ble_eq_true rfl, Nat.le_of_ble_eq_true rfl⟩) dX2_insults_2 5 rfl (ci := 2) 0 rfl rfl rfl rfl (Nat.le_of_ble_eq_true rfl) ⟨Nat.le_of_ble_eq_true rfl, Nat.le_of_ble_eq_true rfl⟩ [0, 1] rfl [0, 1, 2, 3, 4, 5, 6, 7, 8, 9, 10, 11, 12, 13, 14] rfl (by decide) [] rfl (by decide) (by decide +kernel) (fun v w hv => ?_)
  obtain ⟨u8_59, u9_59, u10_59, u11_59, rfl, rfl, huM59⟩ := hv
  refine zv_go rfl rfl (st' := [.int (nI (inN f6 f7 (nmS n f0 f1 f2 f3 f5 r) b)), .ref (h 0)]) rfl (kc' := 0) rfl (ns' := 0) rfl ?_
  refine zv_wd (ws' := (cM cI cZ h t (nI n) r y (nI b) f0 f1 f2 f3 f4 f5 f6 f7 u8_59 u9_59 u10_59 u11_59 f12 f13)) rfl ?_
  refine zv_callV (rest := []) (wr := []) C (k_X2_ok l D cI cZ h t n r y b f0 f1 f2 f3 f4 f5 f6 f7 u8_59 u9_59 u10_59 u11_59 f12 f13 (nI (inN f6 f7 (nmS n f0 f1 f2 f3 f5 r) b))) (cwV 1 C.1.2.2.2.2 gX2_insults_X2_ok rfl rfl rfl (by decide +kernel) ⟨Nat.le_of_ble_eq_true rfl, Nat.le_of_ble_eq_true rfl⟩) dX2_insults_5 8 rfl (ci := 2) 0 rfl rfl rfl rfl (Nat.le_of_ble_eq_true rfl) ⟨Nat.le_of_ble_eq_true rfl, Nat.le_of_ble_eq_true rfl⟩ [0, 1] rfl [0, 1, 2, 3, 4, 5, 6, 7, 8, 9, 10, 11, 12, 13, 14] rfl (by decide) [] rfl (by decide) (by decide +kernel) (fun v w hv => ?_)
  obtain ⟨rfl, rfl⟩ := hv
  refine zv_go rfl rfl (st' := [.int (nI (inN f6 f7 (nmS n f0 f1 f2 f3 f5 r) b))]) rfl (kc' := 0) rfl (ns' := 0) rfl ?_
  refine zv_wd (ws' := (cM cI cZ h 0 (nI n) r y (nI b) f0 f1 f2 f3 f4 f5 f6 f7 u8_59 u9_59 u10_59 u11_59 f12 f13)) rfl ?_
  exact zv_iret C hr hlk hQ dX2_insults_8 ⟨u8_59, u9_59, u10_59, u11_59, rfl, rfl⟩
abbrev rmX2_pass : Room := { frames := 5, cells := 0, slots := 0, locals := 112 }
set_option maxHeartbeats 4000000 in
set_option maxRecDepth 100000 in
theorem k_X2_pass_ok (l : Launch) (D : va_G) (cI cZ : ClassId) (h : Nat → Nat) (t : Int32) (n : Nat) (r y : Int32) (b : Nat) (f0 f1 f2 f3 f4 f5 f6 f7 f8 f9 f10 f11 f12 f13 : Nat → Int32) (k : Nat) (hk1 : 1 ≤ k) (hk2 : k ≤ 50) (s : Nat → Int32) (d : Nat → Nat) (hn : n ≤ 16) (hD : Dep n f0 s d) (hb : b ≤ 16) (hB : Brg n b f6) : zv_M l yX2_pass wsX2_pass rmX2_pass D vwCl (tyL cI cZ) [.ref (h 0), .int (nI k)] (cM cI cZ h t (nI n) r y (nI b) f0 f1 f2 f3 f4 f5 f6 f7 f8 f9 f10 f11 f12 f13) (fun v w => ∃ (g3 g8 g9 g10 g11 : Nat → Int32), v = some (.int (nI (inN f6 f7 (nmS n f0 f1 f2 (swN f1 f3 f4 k) f5 r) b))) ∧ w = (cM cI cZ h 0 (nI n) r (y + nI k) (nI b) f0 f1 f2 g3 f4 f5 f6 f7 g8 g9 g10 g11 f12 f13) ∧ (∀ i, i < n → g3 i = (swN f1 f3 f4 k) i) ∧ (∀ i, n ≤ i → g3 i = f3 i)) := by
  refine zv_M.of cX2_pass 3 (some .int) (by decide) rfl (Nat.le_of_ble_eq_true rfl) ?_
  intro pP eE sS mM aA bB mT cD A C hr hlk hnm Q hQ
  have inX2 : ∀ w ∈ u_ws RX2 TX2 19, w ∈ wsX2_pass := by decide +kernel
  have lk132 : Cond.fieldLink RX2 132 "RiverNamesModel" "year" "I" ∈ wsX2_pass := by decide +kernel
  have lk53 : Cond.fieldLink RX2 53 "RiverNamesModel" "thrown" "I" ∈ wsX2_pass := by decide +kernel
  have L23 : ∀ (mu_L23 : Nat), ∀ (j : Nat) (e3 : Nat → Int32), (j ≤ k) → (∀ i, i < n → e3 i = swN f1 f3 f4 j i) → (∀ i, n ≤ i → e3 i = f3 i) → k - j < mu_L23 → zv_V pP l eE rmX2_pass sS mM aA bB mT cD Q 3 D vwCl A A (tyL cI cZ) (cM cI cZ h 0 (nI n) r y (nI b) f0 f1 f2 e3 f4 f5 f6 f7 f8 f9 f10 f11 f12 f13) 0 0 23 [(0, .ref (h 0)), (1, .int (nI k)), (2, .int (nI j))] [] := by
    intro mu_L23
    induction mu_L23 with
    | zero => intro j e3 hj ha hc hmu_L23; exact absurd hmu_L23 (Nat.not_lt_zero _)
    | succ mu_L23 ih_L23 =>
      intro j e3 hj ha hc hmu_L23
      refine zv_iload_n C dX2_pass_23 24 rfl 2 rfl ?_
      refine zv_iload_n C dX2_pass_24 25 rfl 1 rfl ?_
      refine zv_icmp_ge C dX2_pass_25 28 38 rfl (by decide) (fun c1 => ?_) (fun c1 => ?_)
      · replace c1 := zn_le (a := k) (b := j) (by omega) (by omega) c1
        refine zv_aload_n C dX2_pass_38 39 rfl 0 rfl ?_
        refine zv_dup C dX2_pass_39 40 rfl rfl ?_
        refine zv_get (ci := 2) C inX2 rfl dX2_pass_40 43 rfl 0 3 rfl (by decide) lk132 rfl ?_
        refine zv_iload_n C dX2_pass_43 44 rfl 1 rfl ?_
        refine zv_iadd (v := (y + (nI k))) C dX2_pass_44 45 rfl rfl ?_
        refine zv_put (ci := 2) C inX2 rfl tyX2_ok nmX2 dX2_pass_45 48 rfl 0 3 rfl (by decide) lk132 rfl rfl rfl (Nat.le_of_ble_eq_true rfl) (cM cI cZ h 0 (nI n) r (y + (nI k)) (nI b) f0 f1 f2 e3 f4 f5 f6 f7 f8 f9 f10 f11 f12 f13) rfl ?_
        refine zv_aload_n C dX2_pass_48 49 rfl 0 rfl ?_
        refine zv_callV (rest := []) (wr := []) C (k_X2_allInsults l D cI cZ h 0 n r (y + (nI k)) b f0 f1 f2 e3 f4 f5 f6 f7 f8 f9 f10 f11 f12 f13 s d (by omega) (by assumption) (by omega) (by assumption)) (cwV 0 C.1.2.2.2.2 gX2_pass_X2_allInsults rfl rfl rfl (by decide +kernel) ⟨Nat.le_of_ble_eq_true rfl, Nat.le_of_ble_eq_true rfl⟩) dX2_pass_49 52 rfl (ci := 2) 0 rfl rfl rfl rfl (Nat.le_of_ble_eq_true rfl) ⟨Nat.le_of_ble_eq_true rfl, Nat.le_of_ble_eq_true rfl⟩ [0, 1] rfl [0, 1, 2, 3, 4, 5, 6, 7, 8, 9, 10, 11, 12, 13, 14] rfl (by decide) [] rfl (by decide) (by decide +kernel) (fun v w hv => ?_)
        obtain ⟨u8_61, u9_61, u10_61, u11_61, rfl, rfl, huM61⟩ := hv
        refine zv_go rfl rfl (st' := [.int (nI (inN f6 f7 (nmS n f0 f1 f2 e3 f5 r) b))]) rfl (kc' := 0) rfl (ns' := 0) rfl ?_
        refine zv_wd (ws' := (cM cI cZ h 0 (nI n) r (y + (nI k)) (nI b) f0 f1 f2 e3 f4 f5 f6 f7 u8_61 u9_61 u10_61 u11_61 f12 f13)) rfl ?_
        exact zv_iret C hr hlk hQ dX2_pass_52 ⟨e3, u8_61, u9_61, u10_61, u11_61, (by rw [nmS_congr (f3 := e3) (e3 := swN f1 f3 f4 k) (fun i hi => ⟨rfl, rfl, (ha i hi).trans (by rw [show j = k by omega]), rfl, fun _ => rfl⟩)]), rfl, (fun i hi => (ha i hi).trans (by rw [show j = k by omega])), hc⟩
      · replace c1 := zn_le' (a := k) (b := j) (by omega) (by omega) c1
        refine zv_aload_n C dX2_pass_28 29 rfl 0 rfl ?_
        refine zv_callV (rest := []) (wr := []) C (k_X2_swells l D cI cZ h 0 n r y b f0 f1 f2 e3 f4 f5 f6 f7 f8 f9 f10 f11 f12 f13 (by omega)) (cwV 0 C.1.2.2.2.2 gX2_pass_X2_swells rfl rfl rfl (by decide +kernel) ⟨Nat.le_of_ble_eq_true rfl, Nat.le_of_ble_eq_true rfl⟩) dX2_pass_29 32 rfl (ci := 2) 0 rfl rfl rfl rfl (Nat.le_of_ble_eq_true rfl) ⟨Nat.le_of_ble_eq_true rfl, Nat.le_of_ble_eq_true rfl⟩ [0, 1] rfl [0, 1, 2, 3, 4, 5, 6, 7, 8, 9, 10, 11, 12, 13, 14] rfl (by decide) [] rfl (by decide) (by decide +kernel) (fun v w hv => ?_)
        obtain ⟨u3_62, rfl, rfl, hua62, hub62⟩ := hv
        refine zv_go rfl rfl (st' := []) rfl (kc' := 0) rfl (ns' := 0) rfl ?_
        refine zv_wd (ws' := (cM cI cZ h 0 (nI n) r y (nI b) f0 f1 f2 u3_62 f4 f5 f6 f7 f8 f9 f10 f11 f12 f13)) rfl ?_
        refine zv_iinc (v := (nI (j + 1))) C dX2_pass_32 35 rfl [(2, .int (nI (j + 1))), (0, .ref (h 0)), (1, .int (nI k))] 2 rfl (nI_1 j) (by decide) rfl ?_
        refine zv_goto C dX2_pass_35 23 (by decide) ?_
        refine zv_sub [1, 2, 0] (lv' := [(0, .ref (h 0)), (1, .int (nI k)), (2, .int (nI (j + 1)))]) rfl ?_
        exact ih_L23 (j + 1) u3_62 (by omega) (fun i hi => (hua62 i hi).trans (swl_congr rfl (ha i hi) rfl)) (fun i hi => (hub62 i hi).trans (hc i hi)) (by omega)
  refine zv_go (pc' := 0) rfl (lv' := [(0, .ref (h 0)), (1, .int (nI k))]) rfl rfl rfl rfl ?_
  refine zv_aload_n C dX2_pass_0 1 rfl 0 rfl ?_
  refine zv_iconst (v := 0) C dX2_pass_1 2 rfl (by decide) ?_
  refine zv_put (ci := 2) C inX2 rfl tyX2_ok nmX2 dX2_pass_2 5 rfl 0 0 rfl (by decide) lk53 rfl rfl rfl (Nat.le_of_ble_eq_true rfl) (cM cI cZ h 0 (nI n) r y (nI b) f0 f1 f2 f3 f4 f5 f6 f7 f8 f9 f10 f11 f12 f13) rfl ?_
  refine zv_iload_n C dX2_pass_5 6 rfl 1 rfl ?_
  refine zv_iconst (v := 1) C dX2_pass_6 7 rfl (by decide) ?_
  refine zv_bipush (v := 50) C dX2_pass_7 9 rfl (by decide) ?_
  refine zv_callSR (rest := []) C (k_X2_isIn l D cI cZ (nI k) 1 50) (cwS 3 C.1.2.2.2.2 gX2_pass_X2_isIn rfl rfl rfl (by decide +kernel) ⟨Nat.le_of_ble_eq_true rfl, Nat.le_of_ble_eq_true rfl⟩) dX2_pass_9 12 rfl rfl rfl (Nat.le_of_ble_eq_true rfl) ⟨Nat.le_of_ble_eq_true rfl, Nat.le_of_ble_eq_true rfl⟩ [0, 1] rfl [] rfl (by decide) (fun v hv => ?_)
  subst hv
  refine zv_go rfl rfl (st' := [.int (zb (isI (nI k) 1 50))]) rfl (kc' := 0) rfl (ns' := 0) rfl ?_
  refine zv_if_ne C dX2_pass_12 15 21 rfl (by decide) (fun c2 => ?_) (fun c2 => ?_)
  · refine zv_iconst (v := 0) C dX2_pass_21 22 rfl (by decide) ?_
    refine zv_istore_n C dX2_pass_22 23 rfl [(2, .int 0), (0, .ref (h 0)), (1, .int (nI k))] (by decide) rfl ?_
    refine zv_sub [1, 2, 0] (lv' := [(0, .ref (h 0)), (1, .int (nI k)), (2, .int 0)]) rfl ?_
    exact L23 _ 0 f3 (Nat.zero_le k) (fun i _ => rfl) (fun i _ => rfl) (Nat.lt_succ_self _)
  · exact absurd (isI_yr hk1 hk2) (by rw [zb_eq0.mp c2]; decide)
set_option maxHeartbeats 4000000 in
set_option maxRecDepth 100000 in
theorem k_X2_pass_no (l : Launch) (D : va_G) (cI cZ : ClassId) (h : Nat → Nat) (t : Int32) (n : Nat) (r y : Int32) (b : Nat) (f0 f1 f2 f3 f4 f5 f6 f7 f8 f9 f10 f11 f12 f13 : Nat → Int32) (i : Int32) (h1 : isI i 1 50 = false) : zv_M l yX2_pass wsX2_pass rmX2_pass D vwCl (tyL cI cZ) [.ref (h 0), .int i] (cM cI cZ h t (nI n) r y (nI b) f0 f1 f2 f3 f4 f5 f6 f7 f8 f9 f10 f11 f12 f13) (fun v w => v = some (.int 0) ∧ w = (cM cI cZ h 1 (nI n) r y (nI b) f0 f1 f2 f3 f4 f5 f6 f7 f8 f9 f10 f11 f12 f13)) := by
  refine zv_M.of cX2_pass 3 (some .int) (by decide) rfl (Nat.le_of_ble_eq_true rfl) ?_
  intro pP eE sS mM aA bB mT cD A C hr hlk hnm Q hQ
  have inX2 : ∀ w ∈ u_ws RX2 TX2 19, w ∈ wsX2_pass := by decide +kernel
  have lk53 : Cond.fieldLink RX2 53 "RiverNamesModel" "thrown" "I" ∈ wsX2_pass := by decide +kernel
  refine zv_go (pc' := 0) rfl (lv' := [(0, .ref (h 0)), (1, .int i)]) rfl rfl rfl rfl ?_
  refine zv_aload_n C dX2_pass_0 1 rfl 0 rfl ?_
  refine zv_iconst (v := 0) C dX2_pass_1 2 rfl (by decide) ?_
  refine zv_put (ci := 2) C inX2 rfl tyX2_ok nmX2 dX2_pass_2 5 rfl 0 0 rfl (by decide) lk53 rfl rfl rfl (Nat.le_of_ble_eq_true rfl) (cM cI cZ h 0 (nI n) r y (nI b) f0 f1 f2 f3 f4 f5 f6 f7 f8 f9 f10 f11 f12 f13) rfl ?_
  refine zv_iload_n C dX2_pass_5 6 rfl 1 rfl ?_
  refine zv_iconst (v := 1) C dX2_pass_6 7 rfl (by decide) ?_
  refine zv_bipush (v := 50) C dX2_pass_7 9 rfl (by decide) ?_
  refine zv_callSR (rest := []) C (k_X2_isIn l D cI cZ i 1 50) (cwS 3 C.1.2.2.2.2 gX2_pass_X2_isIn rfl rfl rfl (by decide +kernel) ⟨Nat.le_of_ble_eq_true rfl, Nat.le_of_ble_eq_true rfl⟩) dX2_pass_9 12 rfl rfl rfl (Nat.le_of_ble_eq_true rfl) ⟨Nat.le_of_ble_eq_true rfl, Nat.le_of_ble_eq_true rfl⟩ [0, 1] rfl [] rfl (by decide) (fun v hv => ?_)
  subst hv
  refine zv_go rfl rfl (st' := [.int (zb (isI i 1 50))]) rfl (kc' := 0) rfl (ns' := 0) rfl ?_
  refine zv_if_ne C dX2_pass_12 15 21 rfl (by decide) (fun c1 => ?_) (fun c1 => ?_)
  · exact absurd h1 (by rw [zb_ne0.mp c1]; decide)
  · refine zv_aload_n C dX2_pass_15 16 rfl 0 rfl ?_
    refine zv_iconst (v := 1) C dX2_pass_16 17 rfl (by decide) ?_
    refine zv_callV (rest := []) (wr := []) C (k_X2_no l D cI cZ h 0 n r y b f0 f1 f2 f3 f4 f5 f6 f7 f8 f9 f10 f11 f12 f13 1) (cwV 1 C.1.2.2.2.2 gX2_pass_X2_no rfl rfl rfl (by decide +kernel) ⟨Nat.le_of_ble_eq_true rfl, Nat.le_of_ble_eq_true rfl⟩) dX2_pass_17 20 rfl (ci := 2) 0 rfl rfl rfl rfl (Nat.le_of_ble_eq_true rfl) ⟨Nat.le_of_ble_eq_true rfl, Nat.le_of_ble_eq_true rfl⟩ [0, 1] rfl [0, 1, 2, 3, 4, 5, 6, 7, 8, 9, 10, 11, 12, 13, 14] rfl (by decide) [] rfl (by decide) (by decide +kernel) (fun v w hv => ?_)
    obtain ⟨rfl, rfl⟩ := hv
    refine zv_go rfl rfl (st' := [.int 0]) rfl (kc' := 0) rfl (ns' := 0) rfl ?_
    refine zv_wd (ws' := (cM cI cZ h 1 (nI n) r y (nI b) f0 f1 f2 f3 f4 f5 f6 f7 f8 f9 f10 f11 f12 f13)) rfl ?_
    exact zv_iret C hr hlk hQ dX2_pass_20 ⟨rfl, rfl⟩
abbrev rmX2_arguingAt : Room := { frames := 1, cells := 0, slots := 0, locals := 21 }
set_option maxHeartbeats 4000000 in
set_option maxRecDepth 100000 in
theorem k_X2_arguingAt (l : Launch) (D : va_G) (cI cZ : ClassId) (h : Nat → Nat) (t : Int32) (n : Nat) (r y : Int32) (b : Nat) (f0 f1 f2 f3 f4 f5 f6 f7 f8 f9 f10 f11 f12 f13 : Nat → Int32) (p : Nat) (hn : n ≤ 16) (hp : p < n) : zv_R l yX2_arguingAt wsX2_arguingAt rmX2_arguingAt D vwCl (tyL cI cZ) [.ref (h 0), .int (nI p)] (cM cI cZ h t (nI n) r y (nI b) f0 f1 f2 f3 f4 f5 f6 f7 f8 f9 f10 f11 f12 f13) (fun v => v = some (.int (nI (agA f0 f1 f3 f5 f11 p n)))) := by
  refine zv_R.of cX2_arguingAt 4 (some .int) (by decide) rfl (Nat.le_of_ble_eq_true rfl) ?_
  intro pP eE sS mM aA bB mT cD A C hr hlk hA Q hQ
  have inX2 : ∀ w ∈ u_ws RX2 TX2 19, w ∈ wsX2_arguingAt := by decide +kernel
  have lk57 : Cond.fieldLink RX2 57 "RiverNamesModel" "places" "I" ∈ wsX2_arguingAt := by decide +kernel
  have lk9 : Cond.fieldLink RX2 9 "RiverNamesModel" "to" "[I" ∈ wsX2_arguingAt := by decide +kernel
  have lk44 : Cond.fieldLink RX2 44 "RiverNamesModel" "name" "[I" ∈ wsX2_arguingAt := by decide +kernel
  have lk26 : Cond.fieldLink RX2 26 "RiverNamesModel" "delta" "[Z" ∈ wsX2_arguingAt := by decide +kernel
  have L27 : ∀ (mu_L27 : Nat), ∀ (j t1 : Nat), (j ≤ n) → (f5 p = 0) → (t1 = (if sprg f1 f3 p = true then 1 else 0) + cnb (fun q => decide (f0 q = nI p) && !decide (f11 q = -1)) j) → n - j < mu_L27 → zv_V pP l eE rmX2_arguingAt sS mM aA bB mT cD Q 4 D vwCl A (fun _ => True) (tyL cI cZ) (cM cI cZ h t (nI n) r y (nI b) f0 f1 f2 f3 f4 f5 f6 f7 f8 f9 f10 f11 f12 f13) 0 0 27 [(0, .ref (h 0)), (1, .int (nI p)), (2, .int (nI t1)), (3, .int (nI j))] [] := by
    intro mu_L27
    induction mu_L27 with
    | zero => intro j t1 hj hd ht hmu_L27; exact absurd hmu_L27 (Nat.not_lt_zero _)
    | succ mu_L27 ih_L27 =>
      intro j t1 hj hd ht hmu_L27
      refine zv_iload_n C dX2_arguingAt_27 28 rfl 3 rfl ?_
      refine zv_aload_n C dX2_arguingAt_28 29 rfl 0 rfl ?_
      refine zv_get (ci := 2) C inX2 rfl dX2_arguingAt_29 32 rfl 0 1 rfl (by decide) lk57 rfl ?_
      refine zv_icmp_ge C dX2_arguingAt_32 35 69 rfl (by decide) (fun c1 => ?_) (fun c1 => ?_)
      · replace c1 := zn_le (a := n) (b := j) (by omega) (by omega) c1
        refine zv_iload_n C dX2_arguingAt_69 70 rfl 2 rfl ?_
        exact zv_iretR C hr hlk hA hQ dX2_arguingAt_70 (by have hjn : j = n := (by omega); rw [agA, if_neg (fun z => z hd), ← hjn, ht])
      · replace c1 := zn_le' (a := n) (b := j) (by omega) (by omega) c1
        refine zv_iload_n C dX2_arguingAt_35 36 rfl 2 rfl ?_
        refine zv_aload_n C dX2_arguingAt_36 37 rfl 0 rfl ?_
        refine zv_get (ci := 2) C inX2 rfl dX2_arguingAt_37 40 rfl 0 4 rfl (by decide) lk9 rfl ?_
        refine zv_iload_n C dX2_arguingAt_40 41 rfl 3 rfl ?_
        refine zv_iald (v := (f0 j)) C dX2_arguingAt_41 42 rfl 1 0 j rfl rfl rfl (by omega) (by decide) rfl ?_
        refine zv_iload_n C dX2_arguingAt_42 43 rfl 1 rfl ?_
        refine zv_icmp_ne C dX2_arguingAt_43 46 60 rfl (by decide) (fun c2 => ?_) (fun c2 => ?_)
        · refine zv_iconst (v := 0) C dX2_arguingAt_60 61 rfl (by decide) ?_
          refine zv_iadd (v := (nI t1)) C dX2_arguingAt_61 62 rfl (Int32.add_zero _) ?_
          refine zv_istore_n C dX2_arguingAt_62 63 rfl [(2, .int (nI t1)), (0, .ref (h 0)), (1, .int (nI p)), (3, .int (nI j))] (by decide) rfl ?_
          refine zv_iinc (v := (nI (j + 1))) C dX2_arguingAt_63 66 rfl [(3, .int (nI (j + 1))), (2, .int (nI t1)), (0, .ref (h 0)), (1, .int (nI p))] 3 rfl (nI_1 j) (by decide) rfl ?_
          refine zv_goto C dX2_arguingAt_66 27 (by decide) ?_
          refine zv_sub [2, 3, 1, 0] (lv' := [(0, .ref (h 0)), (1, .int (nI p)), (2, .int (nI t1)), (3, .int (nI (j + 1)))]) rfl ?_
          exact ih_L27 (j + 1) t1 (by omega) hd (by rw [ht, cnb_n (fun q => decide (f0 q = nI p) && !decide (f11 q = -1)) (by simp [c2])]) (by omega)
        · refine zv_aload_n C dX2_arguingAt_46 47 rfl 0 rfl ?_
          refine zv_get (ci := 2) C inX2 rfl dX2_arguingAt_47 50 rfl 0 16 rfl (by decide) lk44 rfl ?_
          refine zv_iload_n C dX2_arguingAt_50 51 rfl 3 rfl ?_
          refine zv_iald (v := (f11 j)) C dX2_arguingAt_51 52 rfl 12 0 j rfl rfl rfl (by omega) (by decide) rfl ?_
          refine zv_iconst (v := (-1 : Int32)) C dX2_arguingAt_52 53 rfl (by decide) ?_
          refine zv_icmp_eq C dX2_arguingAt_53 56 60 rfl (by decide) (fun c3 => ?_) (fun c3 => ?_)
          · refine zv_iconst (v := 0) C dX2_arguingAt_60 61 rfl (by decide) ?_
            refine zv_iadd (v := (nI t1)) C dX2_arguingAt_61 62 rfl (Int32.add_zero _) ?_
            refine zv_istore_n C dX2_arguingAt_62 63 rfl [(2, .int (nI t1)), (0, .ref (h 0)), (1, .int (nI p)), (3, .int (nI j))] (by decide) rfl ?_
            refine zv_iinc (v := (nI (j + 1))) C dX2_arguingAt_63 66 rfl [(3, .int (nI (j + 1))), (2, .int (nI t1)), (0, .ref (h 0)), (1, .int (nI p))] 3 rfl (nI_1 j) (by decide) rfl ?_
            refine zv_goto C dX2_arguingAt_66 27 (by decide) ?_
            refine zv_sub [2, 3, 1, 0] (lv' := [(0, .ref (h 0)), (1, .int (nI p)), (2, .int (nI t1)), (3, .int (nI (j + 1)))]) rfl ?_
            exact ih_L27 (j + 1) t1 (by omega) hd (by rw [ht, cnb_n (fun q => decide (f0 q = nI p) && !decide (f11 q = -1)) (by simp [c3])]) (by omega)
          · refine zv_iconst (v := 1) C dX2_arguingAt_56 57 rfl (by decide) ?_
            refine zv_goto C dX2_arguingAt_57 61 (by decide) ?_
            refine zv_iadd (v := (nI (t1 + 1))) C dX2_arguingAt_61 62 rfl (nI_1 t1) ?_
            refine zv_istore_n C dX2_arguingAt_62 63 rfl [(2, .int (nI (t1 + 1))), (0, .ref (h 0)), (1, .int (nI p)), (3, .int (nI j))] (by decide) rfl ?_
            refine zv_iinc (v := (nI (j + 1))) C dX2_arguingAt_63 66 rfl [(3, .int (nI (j + 1))), (2, .int (nI (t1 + 1))), (0, .ref (h 0)), (1, .int (nI p))] 3 rfl (nI_1 j) (by decide) rfl ?_
            refine zv_goto C dX2_arguingAt_66 27 (by decide) ?_
            refine zv_sub [2, 3, 1, 0] (lv' := [(0, .ref (h 0)), (1, .int (nI p)), (2, .int (nI (t1 + 1))), (3, .int (nI (j + 1)))]) rfl ?_
            exact ih_L27 (j + 1) (t1 + 1) (by omega) hd (by rw [ht, cnb_y (fun q => decide (f0 q = nI p) && !decide (f11 q = -1)) (by simp [c2, c3])] <;> rfl) (by omega)
  refine zv_go (pc' := 0) rfl (lv' := [(0, .ref (h 0)), (1, .int (nI p))]) rfl rfl rfl rfl ?_
  refine zv_aload_n C dX2_arguingAt_0 1 rfl 0 rfl ?_
  refine zv_get (ci := 2) C inX2 rfl dX2_arguingAt_1 4 rfl 0 9 rfl (by decide) lk26 rfl ?_
  refine zv_iload_n C dX2_arguingAt_4 5 rfl 1 rfl ?_
  refine zv_zald (v := (f5 p)) C dX2_arguingAt_5 6 rfl 6 1 p rfl rfl rfl (by omega) (by decide) rfl ?_
  refine zv_if_eq C dX2_arguingAt_6 9 11 rfl (by decide) (fun c4 => ?_) (fun c4 => ?_)
  · refine zv_aload_n C dX2_arguingAt_11 12 rfl 0 rfl ?_
    refine zv_iload_n C dX2_arguingAt_12 13 rfl 1 rfl ?_
    refine zv_callVR (rest := []) C (k_X2_springs l D cI cZ h t n r y b f0 f1 f2 f3 f4 f5 f6 f7 f8 f9 f10 f11 f12 f13 p (by omega)) (cwV 1 C.1.2.2.2.2 gX2_arguingAt_X2_springs rfl rfl rfl (by decide +kernel) ⟨Nat.le_of_ble_eq_true rfl, Nat.le_of_ble_eq_true rfl⟩) dX2_arguingAt_13 16 rfl (ci := 2) 0 rfl rfl rfl rfl (Nat.le_of_ble_eq_true rfl) ⟨Nat.le_of_ble_eq_true rfl, Nat.le_of_ble_eq_true rfl⟩ [0, 1] rfl [0, 1, 2, 3, 4, 5, 6, 7, 8, 9, 10, 11, 12, 13, 14] rfl (by decide) (fun v hv => ?_)
    subst hv
    refine zv_go rfl rfl (st' := [.int (zb (sprg f1 f3 p))]) rfl (kc' := 0) rfl (ns' := 0) rfl ?_
    refine zv_if_eq C dX2_arguingAt_16 19 23 rfl (by decide) (fun c5 => ?_) (fun c5 => ?_)
    · replace c5 := zb_eq0.mp c5
      refine zv_iconst (v := 0) C dX2_arguingAt_23 24 rfl (by decide) ?_
      refine zv_istore_n C dX2_arguingAt_24 25 rfl [(2, .int 0), (0, .ref (h 0)), (1, .int (nI p))] (by decide) rfl ?_
      refine zv_iconst (v := 0) C dX2_arguingAt_25 26 rfl (by decide) ?_
      refine zv_istore_n C dX2_arguingAt_26 27 rfl [(3, .int 0), (2, .int 0), (0, .ref (h 0)), (1, .int (nI p))] (by decide) rfl ?_
      refine zv_sub [2, 3, 1, 0] (lv' := [(0, .ref (h 0)), (1, .int (nI p)), (2, .int 0), (3, .int 0)]) rfl ?_
      exact L27 _ 0 0 (Nat.zero_le n) c4 (by simp [cnb, c5]) (Nat.lt_succ_self _)
    · replace c5 := zb_ne0.mp c5
      refine zv_iconst (v := 1) C dX2_arguingAt_19 20 rfl (by decide) ?_
      refine zv_goto C dX2_arguingAt_20 24 (by decide) ?_
      refine zv_istore_n C dX2_arguingAt_24 25 rfl [(2, .int 1), (0, .ref (h 0)), (1, .int (nI p))] (by decide) rfl ?_
      refine zv_iconst (v := 0) C dX2_arguingAt_25 26 rfl (by decide) ?_
      refine zv_istore_n C dX2_arguingAt_26 27 rfl [(3, .int 0), (2, .int 1), (0, .ref (h 0)), (1, .int (nI p))] (by decide) rfl ?_
      refine zv_sub [2, 3, 1, 0] (lv' := [(0, .ref (h 0)), (1, .int (nI p)), (2, .int 1), (3, .int 0)]) rfl ?_
      exact L27 _ 0 1 (Nat.zero_le n) c4 (by simp [cnb, c5]) (Nat.lt_succ_self _)
  · refine zv_iconst (v := 0) C dX2_arguingAt_9 10 rfl (by decide) ?_
    exact zv_iretR C hr hlk hA hQ dX2_arguingAt_10 (by rw [agA, if_pos c4]; rfl)
abbrev rmX2_argued : Room := { frames := 1, cells := 0, slots := 0, locals := 21 }
set_option maxHeartbeats 4000000 in
set_option maxRecDepth 100000 in
theorem k_X2_argued (l : Launch) (D : va_G) (cI cZ : ClassId) (h : Nat → Nat) (t : Int32) (n : Nat) (r y : Int32) (b : Nat) (f0 f1 f2 f3 f4 f5 f6 f7 f8 f9 f10 f11 f12 f13 : Nat → Int32) (p : Nat) (hn : n ≤ 16) (hp : p < n) : zv_R l yX2_argued wsX2_argued rmX2_argued D vwCl (tyL cI cZ) [.ref (h 0), .int (nI p)] (cM cI cZ h t (nI n) r y (nI b) f0 f1 f2 f3 f4 f5 f6 f7 f8 f9 f10 f11 f12 f13) (fun v => v = some (.int (zb (agD f0 f1 f2 f3 f5 f11 p n)))) := by
  refine zv_R.of cX2_argued 3 (some .boolean) (by decide) rfl (Nat.le_of_ble_eq_true rfl) ?_
  intro pP eE sS mM aA bB mT cD A C hr hlk hA Q hQ
  have inX2 : ∀ w ∈ u_ws RX2 TX2 19, w ∈ wsX2_argued := by decide +kernel
  have lk57 : Cond.fieldLink RX2 57 "RiverNamesModel" "places" "I" ∈ wsX2_argued := by decide +kernel
  have lk9 : Cond.fieldLink RX2 9 "RiverNamesModel" "to" "[I" ∈ wsX2_argued := by decide +kernel
  have lk44 : Cond.fieldLink RX2 44 "RiverNamesModel" "name" "[I" ∈ wsX2_argued := by decide +kernel
  have lk26 : Cond.fieldLink RX2 26 "RiverNamesModel" "delta" "[Z" ∈ wsX2_argued := by decide +kernel
  have lk17 : Cond.fieldLink RX2 17 "RiverNamesModel" "own" "[I" ∈ wsX2_argued := by decide +kernel
  have L38 : ∀ (mu_L38 : Nat), ∀ (j : Nat), (j ≤ n) → (f5 p = 0) → ((sprg f1 f3 p && !decide (f2 p = f11 p)) = false) → (anb (fun q => decide (f0 q = nI p) && !decide (f11 q = -1) && !decide (f11 q = f11 p)) j = false) → n - j < mu_L38 → zv_V pP l eE rmX2_argued sS mM aA bB mT cD Q 3 D vwCl A (fun _ => True) (tyL cI cZ) (cM cI cZ h t (nI n) r y (nI b) f0 f1 f2 f3 f4 f5 f6 f7 f8 f9 f10 f11 f12 f13) 0 0 38 [(0, .ref (h 0)), (1, .int (nI p)), (2, .int (nI j))] [] := by
    intro mu_L38
    induction mu_L38 with
    | zero => intro j hj hd hs ha hmu_L38; exact absurd hmu_L38 (Nat.not_lt_zero _)
    | succ mu_L38 ih_L38 =>
      intro j hj hd hs ha hmu_L38
      refine zv_iload_n C dX2_argued_38 39 rfl 2 rfl ?_
      refine zv_aload_n C dX2_argued_39 40 rfl 0 rfl ?_
      refine zv_get (ci := 2) C inX2 rfl dX2_argued_40 43 rfl 0 1 rfl (by decide) lk57 rfl ?_
      refine zv_icmp_ge C dX2_argued_43 46 89 rfl (by decide) (fun c1 => ?_) (fun c1 => ?_)
      · replace c1 := zn_le (a := n) (b := j) (by omega) (by omega) c1
        refine zv_iconst (v := 0) C dX2_argued_89 90 rfl (by decide) ?_
        exact zv_zretR C (by decide) hr hlk hA hQ dX2_argued_90 (by have hjn : j = n := (by omega); rw [agD, if_neg (fun z => z hd), hs, ← hjn, ha]; rfl)
      · replace c1 := zn_le' (a := n) (b := j) (by omega) (by omega) c1
        refine zv_aload_n C dX2_argued_46 47 rfl 0 rfl ?_
        refine zv_get (ci := 2) C inX2 rfl dX2_argued_47 50 rfl 0 4 rfl (by decide) lk9 rfl ?_
        refine zv_iload_n C dX2_argued_50 51 rfl 2 rfl ?_
        refine zv_iald (v := (f0 j)) C dX2_argued_51 52 rfl 1 0 j rfl rfl rfl (by omega) (by decide) rfl ?_
        refine zv_iload_n C dX2_argued_52 53 rfl 1 rfl ?_
        refine zv_icmp_ne C dX2_argued_53 56 83 rfl (by decide) (fun c2 => ?_) (fun c2 => ?_)
        · refine zv_iinc (v := (nI (j + 1))) C dX2_argued_83 86 rfl [(2, .int (nI (j + 1))), (0, .ref (h 0)), (1, .int (nI p))] 2 rfl (nI_1 j) (by decide) rfl ?_
          refine zv_goto C dX2_argued_86 38 (by decide) ?_
          refine zv_sub [1, 2, 0] (lv' := [(0, .ref (h 0)), (1, .int (nI p)), (2, .int (nI (j + 1)))]) rfl ?_
          exact ih_L38 (j + 1) (by omega) hd hs (by simp only [anb, ha, Bool.false_or]; simp [c2]) (by omega)
        · refine zv_aload_n C dX2_argued_56 57 rfl 0 rfl ?_
          refine zv_get (ci := 2) C inX2 rfl dX2_argued_57 60 rfl 0 16 rfl (by decide) lk44 rfl ?_
          refine zv_iload_n C dX2_argued_60 61 rfl 2 rfl ?_
          refine zv_iald (v := (f11 j)) C dX2_argued_61 62 rfl 12 0 j rfl rfl rfl (by omega) (by decide) rfl ?_
          refine zv_iconst (v := (-1 : Int32)) C dX2_argued_62 63 rfl (by decide) ?_
          refine zv_icmp_eq C dX2_argued_63 66 83 rfl (by decide) (fun c3 => ?_) (fun c3 => ?_)
          · refine zv_iinc (v := (nI (j + 1))) C dX2_argued_83 86 rfl [(2, .int (nI (j + 1))), (0, .ref (h 0)), (1, .int (nI p))] 2 rfl (nI_1 j) (by decide) rfl ?_
            refine zv_goto C dX2_argued_86 38 (by decide) ?_
            refine zv_sub [1, 2, 0] (lv' := [(0, .ref (h 0)), (1, .int (nI p)), (2, .int (nI (j + 1)))]) rfl ?_
            exact ih_L38 (j + 1) (by omega) hd hs (by simp only [anb, ha, Bool.false_or]; simp [c3]) (by omega)
          · refine zv_aload_n C dX2_argued_66 67 rfl 0 rfl ?_
            refine zv_get (ci := 2) C inX2 rfl dX2_argued_67 70 rfl 0 16 rfl (by decide) lk44 rfl ?_
            refine zv_iload_n C dX2_argued_70 71 rfl 2 rfl ?_
            refine zv_iald (v := (f11 j)) C dX2_argued_71 72 rfl 12 0 j rfl rfl rfl (by omega) (by decide) rfl ?_
            refine zv_aload_n C dX2_argued_72 73 rfl 0 rfl ?_
            refine zv_get (ci := 2) C inX2 rfl dX2_argued_73 76 rfl 0 16 rfl (by decide) lk44 rfl ?_
            refine zv_iload_n C dX2_argued_76 77 rfl 1 rfl ?_
            refine zv_iald (v := (f11 p)) C dX2_argued_77 78 rfl 12 0 p rfl rfl rfl (by omega) (by decide) rfl ?_
            refine zv_icmp_eq C dX2_argued_78 81 83 rfl (by decide) (fun c4 => ?_) (fun c4 => ?_)
            · refine zv_iinc (v := (nI (j + 1))) C dX2_argued_83 86 rfl [(2, .int (nI (j + 1))), (0, .ref (h 0)), (1, .int (nI p))] 2 rfl (nI_1 j) (by decide) rfl ?_
              refine zv_goto C dX2_argued_86 38 (by decide) ?_
              refine zv_sub [1, 2, 0] (lv' := [(0, .ref (h 0)), (1, .int (nI p)), (2, .int (nI (j + 1)))]) rfl ?_
              exact ih_L38 (j + 1) (by omega) hd hs (by simp only [anb, ha, Bool.false_or]; simp [c4]) (by omega)
            · refine zv_iconst (v := 1) C dX2_argued_81 82 rfl (by decide) ?_
              exact zv_zretR C (by decide) hr hlk hA hQ dX2_argued_82 (by
      have e : anb (fun q => decide (f0 q = nI p) && !decide (f11 q = -1) && !decide (f11 q = f11 p)) n = true := (anb_iff _ n).mpr ⟨j, by omega, by simp [c2, c3, c4]⟩
      rw [agD, if_neg (fun z => z hd), e, Bool.or_true]; rfl)
  refine zv_go (pc' := 0) rfl (lv' := [(0, .ref (h 0)), (1, .int (nI p))]) rfl rfl rfl rfl ?_
  refine zv_aload_n C dX2_argued_0 1 rfl 0 rfl ?_
  refine zv_get (ci := 2) C inX2 rfl dX2_argued_1 4 rfl 0 9 rfl (by decide) lk26 rfl ?_
  refine zv_iload_n C dX2_argued_4 5 rfl 1 rfl ?_
  refine zv_zald (v := (f5 p)) C dX2_argued_5 6 rfl 6 1 p rfl rfl rfl (by omega) (by decide) rfl ?_
  refine zv_if_eq C dX2_argued_6 9 11 rfl (by decide) (fun c5 => ?_) (fun c5 => ?_)
  · refine zv_aload_n C dX2_argued_11 12 rfl 0 rfl ?_
    refine zv_iload_n C dX2_argued_12 13 rfl 1 rfl ?_
    refine zv_callVR (rest := []) C (k_X2_springs l D cI cZ h t n r y b f0 f1 f2 f3 f4 f5 f6 f7 f8 f9 f10 f11 f12 f13 p (by omega)) (cwV 1 C.1.2.2.2.2 gX2_argued_X2_springs rfl rfl rfl (by decide +kernel) ⟨Nat.le_of_ble_eq_true rfl, Nat.le_of_ble_eq_true rfl⟩) dX2_argued_13 16 rfl (ci := 2) 0 rfl rfl rfl rfl (Nat.le_of_ble_eq_true rfl) ⟨Nat.le_of_ble_eq_true rfl, Nat.le_of_ble_eq_true rfl⟩ [0, 1] rfl [0, 1, 2, 3, 4, 5, 6, 7, 8, 9, 10, 11, 12, 13, 14] rfl (by decide) (fun v hv => ?_)
    subst hv
    refine zv_go rfl rfl (st' := [.int (zb (sprg f1 f3 p))]) rfl (kc' := 0) rfl (ns' := 0) rfl ?_
    refine zv_if_eq C dX2_argued_16 19 36 rfl (by decide) (fun c6 => ?_) (fun c6 => ?_)
    · replace c6 := zb_eq0.mp c6
      refine zv_iconst (v := 0) C dX2_argued_36 37 rfl (by decide) ?_
      refine zv_istore_n C dX2_argued_37 38 rfl [(2, .int 0), (0, .ref (h 0)), (1, .int (nI p))] (by decide) rfl ?_
      refine zv_sub [1, 2, 0] (lv' := [(0, .ref (h 0)), (1, .int (nI p)), (2, .int 0)]) rfl ?_
      exact L38 _ 0 (Nat.zero_le n) c5 (by simp [c6]) rfl (Nat.lt_succ_self _)
    · replace c6 := zb_ne0.mp c6
      refine zv_aload_n C dX2_argued_19 20 rfl 0 rfl ?_
      refine zv_get (ci := 2) C inX2 rfl dX2_argued_20 23 rfl 0 6 rfl (by decide) lk17 rfl ?_
      refine zv_iload_n C dX2_argued_23 24 rfl 1 rfl ?_
      refine zv_iald (v := (f2 p)) C dX2_argued_24 25 rfl 3 0 p rfl rfl rfl (by omega) (by decide) rfl ?_
      refine zv_aload_n C dX2_argued_25 26 rfl 0 rfl ?_
      refine zv_get (ci := 2) C inX2 rfl dX2_argued_26 29 rfl 0 16 rfl (by decide) lk44 rfl ?_
      refine zv_iload_n C dX2_argued_29 30 rfl 1 rfl ?_
      refine zv_iald (v := (f11 p)) C dX2_argued_30 31 rfl 12 0 p rfl rfl rfl (by omega) (by decide) rfl ?_
      refine zv_icmp_eq C dX2_argued_31 34 36 rfl (by decide) (fun c7 => ?_) (fun c7 => ?_)
      · refine zv_iconst (v := 0) C dX2_argued_36 37 rfl (by decide) ?_
        refine zv_istore_n C dX2_argued_37 38 rfl [(2, .int 0), (0, .ref (h 0)), (1, .int (nI p))] (by decide) rfl ?_
        refine zv_sub [1, 2, 0] (lv' := [(0, .ref (h 0)), (1, .int (nI p)), (2, .int 0)]) rfl ?_
        exact L38 _ 0 (Nat.zero_le n) c5 (by simp [c6, c7]) rfl (Nat.lt_succ_self _)
      · refine zv_iconst (v := 1) C dX2_argued_34 35 rfl (by decide) ?_
        exact zv_zretR C (by decide) hr hlk hA hQ dX2_argued_35 (by rw [agD, if_neg (fun z => z c5)]; simp [zb, c6, c7])
  · refine zv_iconst (v := 0) C dX2_argued_9 10 rfl (by decide) ?_
    exact zv_zretR C (by decide) hr hlk hA hQ dX2_argued_10 (by rw [agD, if_pos c5]; rfl)
abbrev rmX2_arguing : Room := { frames := 4, cells := 0, slots := 0, locals := 90 }
set_option maxHeartbeats 4000000 in
set_option maxRecDepth 100000 in
theorem k_X2_arguing_ok (l : Launch) (D : va_G) (cI cZ : ClassId) (h : Nat → Nat) (t : Int32) (n : Nat) (r y : Int32) (b : Nat) (f0 f1 f2 f3 f4 f5 f6 f7 f8 f9 f10 f11 f12 f13 : Nat → Int32) (p : Nat) (s : Nat → Int32) (d : Nat → Nat) (hn : n ≤ 16) (hD : Dep n f0 s d) (hp : p < n) : zv_M l yX2_arguing wsX2_arguing rmX2_arguing D vwCl (tyL cI cZ) [.ref (h 0), .int (nI p)] (cM cI cZ h t (nI n) r y (nI b) f0 f1 f2 f3 f4 f5 f6 f7 f8 f9 f10 f11 f12 f13) (fun v w => ∃ (g8 g9 g10 g11 : Nat → Int32), v = some (.int (nI (agA f0 f1 f3 f5 (nmS n f0 f1 f2 f3 f5 r) p n))) ∧ w = (cM cI cZ h 0 (nI n) r y (nI b) f0 f1 f2 f3 f4 f5 f6 f7 g8 g9 g10 g11 f12 f13)) := by
  refine zv_M.of cX2_arguing 2 (some .int) (by decide) rfl (Nat.le_of_ble_eq_true rfl) ?_
  intro pP eE sS mM aA bB mT cD A C hr hlk hnm Q hQ
  have inX2 : ∀ w ∈ u_ws RX2 TX2 19, w ∈ wsX2_arguing := by decide +kernel
  have lk53 : Cond.fieldLink RX2 53 "RiverNamesModel" "thrown" "I" ∈ wsX2_arguing := by decide +kernel
  refine zv_go (pc' := 0) rfl (lv' := [(0, .ref (h 0)), (1, .int (nI p))]) rfl rfl rfl rfl ?_
  refine zv_aload_n C dX2_arguing_0 1 rfl 0 rfl ?_
  refine zv_iconst (v := 0) C dX2_arguing_1 2 rfl (by decide) ?_
  refine zv_put (ci := 2) C inX2 rfl tyX2_ok nmX2 dX2_arguing_2 5 rfl 0 0 rfl (by decide) lk53 rfl rfl rfl (Nat.le_of_ble_eq_true rfl) (cM cI cZ h 0 (nI n) r y (nI b) f0 f1 f2 f3 f4 f5 f6 f7 f8 f9 f10 f11 f12 f13) rfl ?_
  refine zv_aload_n C dX2_arguing_5 6 rfl 0 rfl ?_
  refine zv_iload_n C dX2_arguing_6 7 rfl 1 rfl ?_
  refine zv_callVR (rest := []) C (k_X2_isPlace l D cI cZ h 0 n r y b f0 f1 f2 f3 f4 f5 f6 f7 f8 f9 f10 f11 f12 f13 (nI p) (by omega)) (cwV 1 C.1.2.2.2.2 gX2_arguing_X2_isPlace rfl rfl rfl (by decide +kernel) ⟨Nat.le_of_ble_eq_true rfl, Nat.le_of_ble_eq_true rfl⟩) dX2_arguing_7 10 rfl (ci := 2) 0 rfl rfl rfl rfl (Nat.le_of_ble_eq_true rfl) ⟨Nat.le_of_ble_eq_true rfl, Nat.le_of_ble_eq_true rfl⟩ [0, 1] rfl [0, 1, 2, 3, 4, 5, 6, 7, 8, 9, 10, 11, 12, 13, 14] rfl (by decide) (fun v hv => ?_)
  subst hv
  refine zv_go rfl rfl (st' := [.int (zb (isP n (nI p)))]) rfl (kc' := 0) rfl (ns' := 0) rfl ?_
  refine zv_if_ne C dX2_arguing_10 13 19 rfl (by decide) (fun c1 => ?_) (fun c1 => ?_)
  · refine zv_aload_n C dX2_arguing_19 20 rfl 0 rfl ?_
    refine zv_callV (rest := []) (wr := []) C (k_X2_reckon l D cI cZ h 0 n r y b f0 f1 f2 f3 f4 f5 f6 f7 f8 f9 f10 f11 f12 f13 s d (by omega) (by assumption)) (cwV 0 C.1.2.2.2.2 gX2_arguing_X2_reckon rfl rfl rfl (by decide +kernel) ⟨Nat.le_of_ble_eq_true rfl, Nat.le_of_ble_eq_true rfl⟩) dX2_arguing_20 23 rfl (ci := 2) 0 rfl rfl rfl rfl (Nat.le_of_ble_eq_true rfl) ⟨Nat.le_of_ble_eq_true rfl, Nat.le_of_ble_eq_true rfl⟩ [0, 1] rfl [0, 1, 2, 3, 4, 5, 6, 7, 8, 9, 10, 11, 12, 13, 14] rfl (by decide) [] rfl (by decide) (by decide +kernel) (fun v w hv => ?_)
    obtain ⟨u8_64, u9_64, u10_64, u11_64, rfl, rfl, huM64⟩ := hv
    refine zv_go rfl rfl (st' := []) rfl (kc' := 0) rfl (ns' := 0) rfl ?_
    refine zv_wd (ws' := (cM cI cZ h 0 (nI n) r y (nI b) f0 f1 f2 f3 f4 f5 f6 f7 u8_64 u9_64 u10_64 u11_64 f12 f13)) rfl ?_
    refine zv_aload_n C dX2_arguing_23 24 rfl 0 rfl ?_
    refine zv_iload_n C dX2_arguing_24 25 rfl 1 rfl ?_
    refine zv_callVR (rest := []) C (k_X2_arguingAt l D cI cZ h 0 n r y b f0 f1 f2 f3 f4 f5 f6 f7 u8_64 u9_64 u10_64 u11_64 f12 f13 p (by omega) (by omega)) (cwV 1 C.1.2.2.2.2 gX2_arguing_X2_arguingAt rfl rfl rfl (by decide +kernel) ⟨Nat.le_of_ble_eq_true rfl, Nat.le_of_ble_eq_true rfl⟩) dX2_arguing_25 28 rfl (ci := 2) 0 rfl rfl rfl rfl (Nat.le_of_ble_eq_true rfl) ⟨Nat.le_of_ble_eq_true rfl, Nat.le_of_ble_eq_true rfl⟩ [0, 1] rfl [0, 1, 2, 3, 4, 5, 6, 7, 8, 9, 10, 11, 12, 13, 14] rfl (by decide) (fun v hv => ?_)
    subst hv
    refine zv_go rfl rfl (st' := [.int (nI (agA f0 f1 f3 f5 u11_64 p n))]) rfl (kc' := 0) rfl (ns' := 0) rfl ?_
    exact zv_iret C hr hlk hQ dX2_arguing_28 ⟨u8_64, u9_64, u10_64, u11_64, (by rw [agA_congr (fun i hi => ((MA.sol hD hn huM64) i hi).2.2)]), rfl⟩
  · exact absurd (isP_nI (by omega) hp) (by rw [zb_eq0.mp c1]; decide)
set_option maxHeartbeats 4000000 in
set_option maxRecDepth 100000 in
theorem k_X2_arguing_no (l : Launch) (D : va_G) (cI cZ : ClassId) (h : Nat → Nat) (t : Int32) (n : Nat) (r y : Int32) (b : Nat) (f0 f1 f2 f3 f4 f5 f6 f7 f8 f9 f10 f11 f12 f13 : Nat → Int32) (i : Int32) (hn : n ≤ 16) (hf : isP n i = false) : zv_M l yX2_arguing wsX2_arguing rmX2_arguing D vwCl (tyL cI cZ) [.ref (h 0), .int i] (cM cI cZ h t (nI n) r y (nI b) f0 f1 f2 f3 f4 f5 f6 f7 f8 f9 f10 f11 f12 f13) (fun v w => v = some (.int 0) ∧ w = (cM cI cZ h 1 (nI n) r y (nI b) f0 f1 f2 f3 f4 f5 f6 f7 f8 f9 f10 f11 f12 f13)) := by
  refine zv_M.of cX2_arguing 2 (some .int) (by decide) rfl (Nat.le_of_ble_eq_true rfl) ?_
  intro pP eE sS mM aA bB mT cD A C hr hlk hnm Q hQ
  have inX2 : ∀ w ∈ u_ws RX2 TX2 19, w ∈ wsX2_arguing := by decide +kernel
  have lk53 : Cond.fieldLink RX2 53 "RiverNamesModel" "thrown" "I" ∈ wsX2_arguing := by decide +kernel
  refine zv_go (pc' := 0) rfl (lv' := [(0, .ref (h 0)), (1, .int i)]) rfl rfl rfl rfl ?_
  refine zv_aload_n C dX2_arguing_0 1 rfl 0 rfl ?_
  refine zv_iconst (v := 0) C dX2_arguing_1 2 rfl (by decide) ?_
  refine zv_put (ci := 2) C inX2 rfl tyX2_ok nmX2 dX2_arguing_2 5 rfl 0 0 rfl (by decide) lk53 rfl rfl rfl (Nat.le_of_ble_eq_true rfl) (cM cI cZ h 0 (nI n) r y (nI b) f0 f1 f2 f3 f4 f5 f6 f7 f8 f9 f10 f11 f12 f13) rfl ?_
  refine zv_aload_n C dX2_arguing_5 6 rfl 0 rfl ?_
  refine zv_iload_n C dX2_arguing_6 7 rfl 1 rfl ?_
  refine zv_callVR (rest := []) C (k_X2_isPlace l D cI cZ h 0 n r y b f0 f1 f2 f3 f4 f5 f6 f7 f8 f9 f10 f11 f12 f13 i (by omega)) (cwV 1 C.1.2.2.2.2 gX2_arguing_X2_isPlace rfl rfl rfl (by decide +kernel) ⟨Nat.le_of_ble_eq_true rfl, Nat.le_of_ble_eq_true rfl⟩) dX2_arguing_7 10 rfl (ci := 2) 0 rfl rfl rfl rfl (Nat.le_of_ble_eq_true rfl) ⟨Nat.le_of_ble_eq_true rfl, Nat.le_of_ble_eq_true rfl⟩ [0, 1] rfl [0, 1, 2, 3, 4, 5, 6, 7, 8, 9, 10, 11, 12, 13, 14] rfl (by decide) (fun v hv => ?_)
  subst hv
  refine zv_go rfl rfl (st' := [.int (zb (isP n i))]) rfl (kc' := 0) rfl (ns' := 0) rfl ?_
  refine zv_if_ne C dX2_arguing_10 13 19 rfl (by decide) (fun c1 => ?_) (fun c1 => ?_)
  · exact absurd hf (by rw [zb_ne0.mp c1]; decide)
  · refine zv_aload_n C dX2_arguing_13 14 rfl 0 rfl ?_
    refine zv_iconst (v := 1) C dX2_arguing_14 15 rfl (by decide) ?_
    refine zv_callV (rest := []) (wr := []) C (k_X2_no l D cI cZ h 0 n r y b f0 f1 f2 f3 f4 f5 f6 f7 f8 f9 f10 f11 f12 f13 1) (cwV 1 C.1.2.2.2.2 gX2_arguing_X2_no rfl rfl rfl (by decide +kernel) ⟨Nat.le_of_ble_eq_true rfl, Nat.le_of_ble_eq_true rfl⟩) dX2_arguing_15 18 rfl (ci := 2) 0 rfl rfl rfl rfl (Nat.le_of_ble_eq_true rfl) ⟨Nat.le_of_ble_eq_true rfl, Nat.le_of_ble_eq_true rfl⟩ [0, 1] rfl [0, 1, 2, 3, 4, 5, 6, 7, 8, 9, 10, 11, 12, 13, 14] rfl (by decide) [] rfl (by decide) (by decide +kernel) (fun v w hv => ?_)
    obtain ⟨rfl, rfl⟩ := hv
    refine zv_go rfl rfl (st' := [.int 0]) rfl (kc' := 0) rfl (ns' := 0) rfl ?_
    refine zv_wd (ws' := (cM cI cZ h 1 (nI n) r y (nI b) f0 f1 f2 f3 f4 f5 f6 f7 f8 f9 f10 f11 f12 f13)) rfl ?_
    exact zv_iret C hr hlk hQ dX2_arguing_18 ⟨rfl, rfl⟩
abbrev rmX2_isArgued : Room := { frames := 4, cells := 0, slots := 0, locals := 90 }
set_option maxHeartbeats 4000000 in
set_option maxRecDepth 100000 in
theorem k_X2_isArgued_ok (l : Launch) (D : va_G) (cI cZ : ClassId) (h : Nat → Nat) (t : Int32) (n : Nat) (r y : Int32) (b : Nat) (f0 f1 f2 f3 f4 f5 f6 f7 f8 f9 f10 f11 f12 f13 : Nat → Int32) (p : Nat) (s : Nat → Int32) (d : Nat → Nat) (hn : n ≤ 16) (hD : Dep n f0 s d) (hp : p < n) : zv_M l yX2_isArgued wsX2_isArgued rmX2_isArgued D vwCl (tyL cI cZ) [.ref (h 0), .int (nI p)] (cM cI cZ h t (nI n) r y (nI b) f0 f1 f2 f3 f4 f5 f6 f7 f8 f9 f10 f11 f12 f13) (fun v w => ∃ (g8 g9 g10 g11 : Nat → Int32), v = some (.int (zb (agD f0 f1 f2 f3 f5 (nmS n f0 f1 f2 f3 f5 r) p n))) ∧ w = (cM cI cZ h 0 (nI n) r y (nI b) f0 f1 f2 f3 f4 f5 f6 f7 g8 g9 g10 g11 f12 f13)) := by
  refine zv_M.of cX2_isArgued 2 (some .boolean) (by decide) rfl (Nat.le_of_ble_eq_true rfl) ?_
  intro pP eE sS mM aA bB mT cD A C hr hlk hnm Q hQ
  have inX2 : ∀ w ∈ u_ws RX2 TX2 19, w ∈ wsX2_isArgued := by decide +kernel
  have lk53 : Cond.fieldLink RX2 53 "RiverNamesModel" "thrown" "I" ∈ wsX2_isArgued := by decide +kernel
  refine zv_go (pc' := 0) rfl (lv' := [(0, .ref (h 0)), (1, .int (nI p))]) rfl rfl rfl rfl ?_
  refine zv_aload_n C dX2_isArgued_0 1 rfl 0 rfl ?_
  refine zv_iconst (v := 0) C dX2_isArgued_1 2 rfl (by decide) ?_
  refine zv_put (ci := 2) C inX2 rfl tyX2_ok nmX2 dX2_isArgued_2 5 rfl 0 0 rfl (by decide) lk53 rfl rfl rfl (Nat.le_of_ble_eq_true rfl) (cM cI cZ h 0 (nI n) r y (nI b) f0 f1 f2 f3 f4 f5 f6 f7 f8 f9 f10 f11 f12 f13) rfl ?_
  refine zv_aload_n C dX2_isArgued_5 6 rfl 0 rfl ?_
  refine zv_iload_n C dX2_isArgued_6 7 rfl 1 rfl ?_
  refine zv_callVR (rest := []) C (k_X2_isPlace l D cI cZ h 0 n r y b f0 f1 f2 f3 f4 f5 f6 f7 f8 f9 f10 f11 f12 f13 (nI p) (by omega)) (cwV 1 C.1.2.2.2.2 gX2_isArgued_X2_isPlace rfl rfl rfl (by decide +kernel) ⟨Nat.le_of_ble_eq_true rfl, Nat.le_of_ble_eq_true rfl⟩) dX2_isArgued_7 10 rfl (ci := 2) 0 rfl rfl rfl rfl (Nat.le_of_ble_eq_true rfl) ⟨Nat.le_of_ble_eq_true rfl, Nat.le_of_ble_eq_true rfl⟩ [0, 1] rfl [0, 1, 2, 3, 4, 5, 6, 7, 8, 9, 10, 11, 12, 13, 14] rfl (by decide) (fun v hv => ?_)
  subst hv
  refine zv_go rfl rfl (st' := [.int (zb (isP n (nI p)))]) rfl (kc' := 0) rfl (ns' := 0) rfl ?_
  refine zv_if_ne C dX2_isArgued_10 13 19 rfl (by decide) (fun c1 => ?_) (fun c1 => ?_)
  · refine zv_aload_n C dX2_isArgued_19 20 rfl 0 rfl ?_
    refine zv_callV (rest := []) (wr := []) C (k_X2_reckon l D cI cZ h 0 n r y b f0 f1 f2 f3 f4 f5 f6 f7 f8 f9 f10 f11 f12 f13 s d (by omega) (by assumption)) (cwV 0 C.1.2.2.2.2 gX2_isArgued_X2_reckon rfl rfl rfl (by decide +kernel) ⟨Nat.le_of_ble_eq_true rfl, Nat.le_of_ble_eq_true rfl⟩) dX2_isArgued_20 23 rfl (ci := 2) 0 rfl rfl rfl rfl (Nat.le_of_ble_eq_true rfl) ⟨Nat.le_of_ble_eq_true rfl, Nat.le_of_ble_eq_true rfl⟩ [0, 1] rfl [0, 1, 2, 3, 4, 5, 6, 7, 8, 9, 10, 11, 12, 13, 14] rfl (by decide) [] rfl (by decide) (by decide +kernel) (fun v w hv => ?_)
    obtain ⟨u8_66, u9_66, u10_66, u11_66, rfl, rfl, huM66⟩ := hv
    refine zv_go rfl rfl (st' := []) rfl (kc' := 0) rfl (ns' := 0) rfl ?_
    refine zv_wd (ws' := (cM cI cZ h 0 (nI n) r y (nI b) f0 f1 f2 f3 f4 f5 f6 f7 u8_66 u9_66 u10_66 u11_66 f12 f13)) rfl ?_
    refine zv_aload_n C dX2_isArgued_23 24 rfl 0 rfl ?_
    refine zv_iload_n C dX2_isArgued_24 25 rfl 1 rfl ?_
    refine zv_callVR (rest := []) C (k_X2_argued l D cI cZ h 0 n r y b f0 f1 f2 f3 f4 f5 f6 f7 u8_66 u9_66 u10_66 u11_66 f12 f13 p (by omega) (by omega)) (cwV 1 C.1.2.2.2.2 gX2_isArgued_X2_argued rfl rfl rfl (by decide +kernel) ⟨Nat.le_of_ble_eq_true rfl, Nat.le_of_ble_eq_true rfl⟩) dX2_isArgued_25 28 rfl (ci := 2) 0 rfl rfl rfl rfl (Nat.le_of_ble_eq_true rfl) ⟨Nat.le_of_ble_eq_true rfl, Nat.le_of_ble_eq_true rfl⟩ [0, 1] rfl [0, 1, 2, 3, 4, 5, 6, 7, 8, 9, 10, 11, 12, 13, 14] rfl (by decide) (fun v hv => ?_)
    subst hv
    refine zv_go rfl rfl (st' := [.int (zb (agD f0 f1 f2 f3 f5 u11_66 p n))]) rfl (kc' := 0) rfl (ns' := 0) rfl ?_
    exact zv_zret C (zb_narrow _) hr hlk hQ dX2_isArgued_28 ⟨u8_66, u9_66, u10_66, u11_66, (by rw [agD_congr hp (fun i hi => ((MA.sol hD hn huM66) i hi).2.2)]), rfl⟩
  · exact absurd (isP_nI (by omega) hp) (by rw [zb_eq0.mp c1]; decide)
set_option maxHeartbeats 4000000 in
set_option maxRecDepth 100000 in
theorem k_X2_isArgued_no (l : Launch) (D : va_G) (cI cZ : ClassId) (h : Nat → Nat) (t : Int32) (n : Nat) (r y : Int32) (b : Nat) (f0 f1 f2 f3 f4 f5 f6 f7 f8 f9 f10 f11 f12 f13 : Nat → Int32) (i : Int32) (hn : n ≤ 16) (hf : isP n i = false) : zv_M l yX2_isArgued wsX2_isArgued rmX2_isArgued D vwCl (tyL cI cZ) [.ref (h 0), .int i] (cM cI cZ h t (nI n) r y (nI b) f0 f1 f2 f3 f4 f5 f6 f7 f8 f9 f10 f11 f12 f13) (fun v w => v = some (.int 0) ∧ w = (cM cI cZ h 1 (nI n) r y (nI b) f0 f1 f2 f3 f4 f5 f6 f7 f8 f9 f10 f11 f12 f13)) := by
  refine zv_M.of cX2_isArgued 2 (some .boolean) (by decide) rfl (Nat.le_of_ble_eq_true rfl) ?_
  intro pP eE sS mM aA bB mT cD A C hr hlk hnm Q hQ
  have inX2 : ∀ w ∈ u_ws RX2 TX2 19, w ∈ wsX2_isArgued := by decide +kernel
  have lk53 : Cond.fieldLink RX2 53 "RiverNamesModel" "thrown" "I" ∈ wsX2_isArgued := by decide +kernel
  refine zv_go (pc' := 0) rfl (lv' := [(0, .ref (h 0)), (1, .int i)]) rfl rfl rfl rfl ?_
  refine zv_aload_n C dX2_isArgued_0 1 rfl 0 rfl ?_
  refine zv_iconst (v := 0) C dX2_isArgued_1 2 rfl (by decide) ?_
  refine zv_put (ci := 2) C inX2 rfl tyX2_ok nmX2 dX2_isArgued_2 5 rfl 0 0 rfl (by decide) lk53 rfl rfl rfl (Nat.le_of_ble_eq_true rfl) (cM cI cZ h 0 (nI n) r y (nI b) f0 f1 f2 f3 f4 f5 f6 f7 f8 f9 f10 f11 f12 f13) rfl ?_
  refine zv_aload_n C dX2_isArgued_5 6 rfl 0 rfl ?_
  refine zv_iload_n C dX2_isArgued_6 7 rfl 1 rfl ?_
  refine zv_callVR (rest := []) C (k_X2_isPlace l D cI cZ h 0 n r y b f0 f1 f2 f3 f4 f5 f6 f7 f8 f9 f10 f11 f12 f13 i (by omega)) (cwV 1 C.1.2.2.2.2 gX2_isArgued_X2_isPlace rfl rfl rfl (by decide +kernel) ⟨Nat.le_of_ble_eq_true rfl, Nat.le_of_ble_eq_true rfl⟩) dX2_isArgued_7 10 rfl (ci := 2) 0 rfl rfl rfl rfl (Nat.le_of_ble_eq_true rfl) ⟨Nat.le_of_ble_eq_true rfl, Nat.le_of_ble_eq_true rfl⟩ [0, 1] rfl [0, 1, 2, 3, 4, 5, 6, 7, 8, 9, 10, 11, 12, 13, 14] rfl (by decide) (fun v hv => ?_)
  subst hv
  refine zv_go rfl rfl (st' := [.int (zb (isP n i))]) rfl (kc' := 0) rfl (ns' := 0) rfl ?_
  refine zv_if_ne C dX2_isArgued_10 13 19 rfl (by decide) (fun c1 => ?_) (fun c1 => ?_)
  · exact absurd hf (by rw [zb_ne0.mp c1]; decide)
  · refine zv_aload_n C dX2_isArgued_13 14 rfl 0 rfl ?_
    refine zv_iconst (v := 1) C dX2_isArgued_14 15 rfl (by decide) ?_
    refine zv_callV (rest := []) (wr := []) C (k_X2_isNot l D cI cZ h 0 n r y b f0 f1 f2 f3 f4 f5 f6 f7 f8 f9 f10 f11 f12 f13 1) (cwV 1 C.1.2.2.2.2 gX2_isArgued_X2_isNot rfl rfl rfl (by decide +kernel) ⟨Nat.le_of_ble_eq_true rfl, Nat.le_of_ble_eq_true rfl⟩) dX2_isArgued_15 18 rfl (ci := 2) 0 rfl rfl rfl rfl (Nat.le_of_ble_eq_true rfl) ⟨Nat.le_of_ble_eq_true rfl, Nat.le_of_ble_eq_true rfl⟩ [0, 1] rfl [0, 1, 2, 3, 4, 5, 6, 7, 8, 9, 10, 11, 12, 13, 14] rfl (by decide) [] rfl (by decide) (by decide +kernel) (fun v w hv => ?_)
    obtain ⟨rfl, rfl⟩ := hv
    refine zv_go rfl rfl (st' := [.int 0]) rfl (kc' := 0) rfl (ns' := 0) rfl ?_
    refine zv_wd (ws' := (cM cI cZ h 1 (nI n) r y (nI b) f0 f1 f2 f3 f4 f5 f6 f7 f8 f9 f10 f11 f12 f13)) rfl ?_
    exact zv_zret C (by decide) hr hlk hQ dX2_isArgued_18 ⟨rfl, rfl⟩
abbrev rmX2_many : Room := { frames := 0, cells := 0, slots := 0, locals := 0 }
set_option maxHeartbeats 4000000 in
set_option maxRecDepth 100000 in
theorem k_X2_many (l : Launch) (D : va_G) (cI cZ : ClassId) (h : Nat → Nat) (t : Int32) (n : Nat) (r y : Int32) (b : Nat) (f0 f1 f2 f3 f4 f5 f6 f7 f8 f9 f10 f11 f12 f13 : Nat → Int32) (x : Int32) (hn : n ≤ 16) : zv_R l yX2_many wsX2_many rmX2_many D vwCl (tyL cI cZ) [.ref (h 0), .int x] (cM cI cZ h t (nI n) r y (nI b) f0 f1 f2 f3 f4 f5 f6 f7 f8 f9 f10 f11 f12 f13) (fun v => v = some (.int (nI (cnt f11 x n)))) := by
  refine zv_R.of cX2_many 4 (some .int) (by decide) rfl (Nat.le_of_ble_eq_true rfl) ?_
  intro pP eE sS mM aA bB mT cD A C hr hlk hA Q hQ
  have inX2 : ∀ w ∈ u_ws RX2 TX2 19, w ∈ wsX2_many := by decide +kernel
  have lk57 : Cond.fieldLink RX2 57 "RiverNamesModel" "places" "I" ∈ wsX2_many := by decide +kernel
  have lk44 : Cond.fieldLink RX2 44 "RiverNamesModel" "name" "[I" ∈ wsX2_many := by decide +kernel
  have L4 : ∀ (mu_L4 : Nat), ∀ (j t1 : Nat), (j ≤ n) → (t1 = cnt f11 x j) → n - j < mu_L4 → zv_V pP l eE rmX2_many sS mM aA bB mT cD Q 4 D vwCl A (fun _ => True) (tyL cI cZ) (cM cI cZ h t (nI n) r y (nI b) f0 f1 f2 f3 f4 f5 f6 f7 f8 f9 f10 f11 f12 f13) 0 0 4 [(0, .ref (h 0)), (1, .int x), (2, .int (nI t1)), (3, .int (nI j))] [] := by
    intro mu_L4
    induction mu_L4 with
    | zero => intro j t1 hj ht hmu_L4; exact absurd hmu_L4 (Nat.not_lt_zero _)
    | succ mu_L4 ih_L4 =>
      intro j t1 hj ht hmu_L4
      refine zv_iload_n C dX2_many_4 5 rfl 3 rfl ?_
      refine zv_aload_n C dX2_many_5 6 rfl 0 rfl ?_
      refine zv_get (ci := 2) C inX2 rfl dX2_many_6 9 rfl 0 1 rfl (by decide) lk57 rfl ?_
      refine zv_icmp_ge C dX2_many_9 12 36 rfl (by decide) (fun c1 => ?_) (fun c1 => ?_)
      · replace c1 := zn_le (a := n) (b := j) (by omega) (by omega) c1
        refine zv_iload_n C dX2_many_36 37 rfl 2 rfl ?_
        exact zv_iretR C hr hlk hA hQ dX2_many_37 (by have hjn : j = n := (by omega); subst hjn; rw [ht])
      · replace c1 := zn_le' (a := n) (b := j) (by omega) (by omega) c1
        refine zv_iload_n C dX2_many_12 13 rfl 2 rfl ?_
        refine zv_aload_n C dX2_many_13 14 rfl 0 rfl ?_
        refine zv_get (ci := 2) C inX2 rfl dX2_many_14 17 rfl 0 16 rfl (by decide) lk44 rfl ?_
        refine zv_iload_n C dX2_many_17 18 rfl 3 rfl ?_
        refine zv_iald (v := (f11 j)) C dX2_many_18 19 rfl 12 0 j rfl rfl rfl (by omega) (by decide) rfl ?_
        refine zv_iload_n C dX2_many_19 20 rfl 1 rfl ?_
        refine zv_icmp_ne C dX2_many_20 23 27 rfl (by decide) (fun c2 => ?_) (fun c2 => ?_)
        · refine zv_iconst (v := 0) C dX2_many_27 28 rfl (by decide) ?_
          refine zv_iadd (v := (nI t1)) C dX2_many_28 29 rfl (Int32.add_zero _) ?_
          refine zv_istore_n C dX2_many_29 30 rfl [(2, .int (nI t1)), (0, .ref (h 0)), (1, .int x), (3, .int (nI j))] (by decide) rfl ?_
          refine zv_iinc (v := (nI (j + 1))) C dX2_many_30 33 rfl [(3, .int (nI (j + 1))), (2, .int (nI t1)), (0, .ref (h 0)), (1, .int x)] 3 rfl (nI_1 j) (by decide) rfl ?_
          refine zv_goto C dX2_many_33 4 (by decide) ?_
          refine zv_sub [2, 3, 1, 0] (lv' := [(0, .ref (h 0)), (1, .int x), (2, .int (nI t1)), (3, .int (nI (j + 1)))]) rfl ?_
          exact ih_L4 (j + 1) t1 (by omega) (by rw [ht, cnt_n _ _ c2]) (by omega)
        · refine zv_iconst (v := 1) C dX2_many_23 24 rfl (by decide) ?_
          refine zv_goto C dX2_many_24 28 (by decide) ?_
          refine zv_iadd (v := (nI (t1 + 1))) C dX2_many_28 29 rfl (nI_1 t1) ?_
          refine zv_istore_n C dX2_many_29 30 rfl [(2, .int (nI (t1 + 1))), (0, .ref (h 0)), (1, .int x), (3, .int (nI j))] (by decide) rfl ?_
          refine zv_iinc (v := (nI (j + 1))) C dX2_many_30 33 rfl [(3, .int (nI (j + 1))), (2, .int (nI (t1 + 1))), (0, .ref (h 0)), (1, .int x)] 3 rfl (nI_1 j) (by decide) rfl ?_
          refine zv_goto C dX2_many_33 4 (by decide) ?_
          refine zv_sub [2, 3, 1, 0] (lv' := [(0, .ref (h 0)), (1, .int x), (2, .int (nI (t1 + 1))), (3, .int (nI (j + 1)))]) rfl ?_
          exact ih_L4 (j + 1) (t1 + 1) (by omega) (by rw [ht, cnt_y _ _ c2]) (by omega)
  refine zv_go (pc' := 0) rfl (lv' := [(0, .ref (h 0)), (1, .int x)]) rfl rfl rfl rfl ?_
  refine zv_iconst (v := 0) C dX2_many_0 1 rfl (by decide) ?_
  refine zv_istore_n C dX2_many_1 2 rfl [(2, .int 0), (0, .ref (h 0)), (1, .int x)] (by decide) rfl ?_
  refine zv_iconst (v := 0) C dX2_many_2 3 rfl (by decide) ?_
  refine zv_istore_n C dX2_many_3 4 rfl [(3, .int 0), (2, .int 0), (0, .ref (h 0)), (1, .int x)] (by decide) rfl ?_
  refine zv_sub [2, 3, 1, 0] (lv' := [(0, .ref (h 0)), (1, .int x), (2, .int 0), (3, .int 0)]) rfl ?_
  exact L4 _ 0 0 (by omega) rfl (Nat.lt_succ_self _)
abbrev rmX2_placesNamed : Room := { frames := 4, cells := 0, slots := 0, locals := 90 }
set_option maxHeartbeats 4000000 in
set_option maxRecDepth 100000 in
theorem k_X2_placesNamed_ok (l : Launch) (D : va_G) (cI cZ : ClassId) (h : Nat → Nat) (t : Int32) (n : Nat) (r y : Int32) (b : Nat) (f0 f1 f2 f3 f4 f5 f6 f7 f8 f9 f10 f11 f12 f13 : Nat → Int32) (x : Int32) (s : Nat → Int32) (d : Nat → Nat) (hn : n ≤ 16) (hD : Dep n f0 s d) (h1 : isI x 0 9 = true) : zv_M l yX2_placesNamed wsX2_placesNamed rmX2_placesNamed D vwCl (tyL cI cZ) [.ref (h 0), .int x] (cM cI cZ h t (nI n) r y (nI b) f0 f1 f2 f3 f4 f5 f6 f7 f8 f9 f10 f11 f12 f13) (fun v w => ∃ (g8 g9 g10 g11 : Nat → Int32), v = some (.int (nI (cnt (nmS n f0 f1 f2 f3 f5 r) x n))) ∧ w = (cM cI cZ h 0 (nI n) r y (nI b) f0 f1 f2 f3 f4 f5 f6 f7 g8 g9 g10 g11 f12 f13)) := by
  refine zv_M.of cX2_placesNamed 2 (some .int) (by decide) rfl (Nat.le_of_ble_eq_true rfl) ?_
  intro pP eE sS mM aA bB mT cD A C hr hlk hnm Q hQ
  have inX2 : ∀ w ∈ u_ws RX2 TX2 19, w ∈ wsX2_placesNamed := by decide +kernel
  have lk53 : Cond.fieldLink RX2 53 "RiverNamesModel" "thrown" "I" ∈ wsX2_placesNamed := by decide +kernel
  refine zv_go (pc' := 0) rfl (lv' := [(0, .ref (h 0)), (1, .int x)]) rfl rfl rfl rfl ?_
  refine zv_aload_n C dX2_placesNamed_0 1 rfl 0 rfl ?_
  refine zv_iconst (v := 0) C dX2_placesNamed_1 2 rfl (by decide) ?_
  refine zv_put (ci := 2) C inX2 rfl tyX2_ok nmX2 dX2_placesNamed_2 5 rfl 0 0 rfl (by decide) lk53 rfl rfl rfl (Nat.le_of_ble_eq_true rfl) (cM cI cZ h 0 (nI n) r y (nI b) f0 f1 f2 f3 f4 f5 f6 f7 f8 f9 f10 f11 f12 f13) rfl ?_
  refine zv_iload_n C dX2_placesNamed_5 6 rfl 1 rfl ?_
  refine zv_iconst (v := 0) C dX2_placesNamed_6 7 rfl (by decide) ?_
  refine zv_bipush (v := 9) C dX2_placesNamed_7 9 rfl (by decide) ?_
  refine zv_callSR (rest := []) C (k_X2_isIn l D cI cZ x 0 9) (cwS 3 C.1.2.2.2.2 gX2_placesNamed_X2_isIn rfl rfl rfl (by decide +kernel) ⟨Nat.le_of_ble_eq_true rfl, Nat.le_of_ble_eq_true rfl⟩) dX2_placesNamed_9 12 rfl rfl rfl (Nat.le_of_ble_eq_true rfl) ⟨Nat.le_of_ble_eq_true rfl, Nat.le_of_ble_eq_true rfl⟩ [0, 1] rfl [] rfl (by decide) (fun v hv => ?_)
  subst hv
  refine zv_go rfl rfl (st' := [.int (zb (isI x 0 9))]) rfl (kc' := 0) rfl (ns' := 0) rfl ?_
  refine zv_if_ne C dX2_placesNamed_12 15 21 rfl (by decide) (fun c1 => ?_) (fun c1 => ?_)
  · refine zv_aload_n C dX2_placesNamed_21 22 rfl 0 rfl ?_
    refine zv_callV (rest := []) (wr := []) C (k_X2_reckon l D cI cZ h 0 n r y b f0 f1 f2 f3 f4 f5 f6 f7 f8 f9 f10 f11 f12 f13 s d (by omega) (by assumption)) (cwV 0 C.1.2.2.2.2 gX2_placesNamed_X2_reckon rfl rfl rfl (by decide +kernel) ⟨Nat.le_of_ble_eq_true rfl, Nat.le_of_ble_eq_true rfl⟩) dX2_placesNamed_22 25 rfl (ci := 2) 0 rfl rfl rfl rfl (Nat.le_of_ble_eq_true rfl) ⟨Nat.le_of_ble_eq_true rfl, Nat.le_of_ble_eq_true rfl⟩ [0, 1] rfl [0, 1, 2, 3, 4, 5, 6, 7, 8, 9, 10, 11, 12, 13, 14] rfl (by decide) [] rfl (by decide) (by decide +kernel) (fun v w hv => ?_)
    obtain ⟨u8_68, u9_68, u10_68, u11_68, rfl, rfl, huM68⟩ := hv
    refine zv_go rfl rfl (st' := []) rfl (kc' := 0) rfl (ns' := 0) rfl ?_
    refine zv_wd (ws' := (cM cI cZ h 0 (nI n) r y (nI b) f0 f1 f2 f3 f4 f5 f6 f7 u8_68 u9_68 u10_68 u11_68 f12 f13)) rfl ?_
    refine zv_aload_n C dX2_placesNamed_25 26 rfl 0 rfl ?_
    refine zv_iload_n C dX2_placesNamed_26 27 rfl 1 rfl ?_
    refine zv_callVR (rest := []) C (k_X2_many l D cI cZ h 0 n r y b f0 f1 f2 f3 f4 f5 f6 f7 u8_68 u9_68 u10_68 u11_68 f12 f13 x (by omega)) (cwV 1 C.1.2.2.2.2 gX2_placesNamed_X2_many rfl rfl rfl (by decide +kernel) ⟨Nat.le_of_ble_eq_true rfl, Nat.le_of_ble_eq_true rfl⟩) dX2_placesNamed_27 30 rfl (ci := 2) 0 rfl rfl rfl rfl (Nat.le_of_ble_eq_true rfl) ⟨Nat.le_of_ble_eq_true rfl, Nat.le_of_ble_eq_true rfl⟩ [0, 1] rfl [0, 1, 2, 3, 4, 5, 6, 7, 8, 9, 10, 11, 12, 13, 14] rfl (by decide) (fun v hv => ?_)
    subst hv
    refine zv_go rfl rfl (st' := [.int (nI (cnt u11_68 x n))]) rfl (kc' := 0) rfl (ns' := 0) rfl ?_
    exact zv_iret C hr hlk hQ dX2_placesNamed_30 ⟨u8_68, u9_68, u10_68, u11_68, (by rw [cnt_congr x n (fun i hi => ((MA.sol hD hn huM68) i hi).2.2)]), rfl⟩
  · exact absurd h1 (by rw [zb_eq0.mp c1]; decide)
set_option maxHeartbeats 4000000 in
set_option maxRecDepth 100000 in
theorem k_X2_placesNamed_no (l : Launch) (D : va_G) (cI cZ : ClassId) (h : Nat → Nat) (t : Int32) (n : Nat) (r y : Int32) (b : Nat) (f0 f1 f2 f3 f4 f5 f6 f7 f8 f9 f10 f11 f12 f13 : Nat → Int32) (x : Int32) (h1 : isI x 0 9 = false) : zv_M l yX2_placesNamed wsX2_placesNamed rmX2_placesNamed D vwCl (tyL cI cZ) [.ref (h 0), .int x] (cM cI cZ h t (nI n) r y (nI b) f0 f1 f2 f3 f4 f5 f6 f7 f8 f9 f10 f11 f12 f13) (fun v w => v = some (.int 0) ∧ w = (cM cI cZ h 1 (nI n) r y (nI b) f0 f1 f2 f3 f4 f5 f6 f7 f8 f9 f10 f11 f12 f13)) := by
  refine zv_M.of cX2_placesNamed 2 (some .int) (by decide) rfl (Nat.le_of_ble_eq_true rfl) ?_
  intro pP eE sS mM aA bB mT cD A C hr hlk hnm Q hQ
  have inX2 : ∀ w ∈ u_ws RX2 TX2 19, w ∈ wsX2_placesNamed := by decide +kernel
  have lk53 : Cond.fieldLink RX2 53 "RiverNamesModel" "thrown" "I" ∈ wsX2_placesNamed := by decide +kernel
  refine zv_go (pc' := 0) rfl (lv' := [(0, .ref (h 0)), (1, .int x)]) rfl rfl rfl rfl ?_
  refine zv_aload_n C dX2_placesNamed_0 1 rfl 0 rfl ?_
  refine zv_iconst (v := 0) C dX2_placesNamed_1 2 rfl (by decide) ?_
  refine zv_put (ci := 2) C inX2 rfl tyX2_ok nmX2 dX2_placesNamed_2 5 rfl 0 0 rfl (by decide) lk53 rfl rfl rfl (Nat.le_of_ble_eq_true rfl) (cM cI cZ h 0 (nI n) r y (nI b) f0 f1 f2 f3 f4 f5 f6 f7 f8 f9 f10 f11 f12 f13) rfl ?_
  refine zv_iload_n C dX2_placesNamed_5 6 rfl 1 rfl ?_
  refine zv_iconst (v := 0) C dX2_placesNamed_6 7 rfl (by decide) ?_
  refine zv_bipush (v := 9) C dX2_placesNamed_7 9 rfl (by decide) ?_
  refine zv_callSR (rest := []) C (k_X2_isIn l D cI cZ x 0 9) (cwS 3 C.1.2.2.2.2 gX2_placesNamed_X2_isIn rfl rfl rfl (by decide +kernel) ⟨Nat.le_of_ble_eq_true rfl, Nat.le_of_ble_eq_true rfl⟩) dX2_placesNamed_9 12 rfl rfl rfl (Nat.le_of_ble_eq_true rfl) ⟨Nat.le_of_ble_eq_true rfl, Nat.le_of_ble_eq_true rfl⟩ [0, 1] rfl [] rfl (by decide) (fun v hv => ?_)
  subst hv
  refine zv_go rfl rfl (st' := [.int (zb (isI x 0 9))]) rfl (kc' := 0) rfl (ns' := 0) rfl ?_
  refine zv_if_ne C dX2_placesNamed_12 15 21 rfl (by decide) (fun c1 => ?_) (fun c1 => ?_)
  · exact absurd h1 (by rw [zb_ne0.mp c1]; decide)
  · refine zv_aload_n C dX2_placesNamed_15 16 rfl 0 rfl ?_
    refine zv_iconst (v := 1) C dX2_placesNamed_16 17 rfl (by decide) ?_
    refine zv_callV (rest := []) (wr := []) C (k_X2_no l D cI cZ h 0 n r y b f0 f1 f2 f3 f4 f5 f6 f7 f8 f9 f10 f11 f12 f13 1) (cwV 1 C.1.2.2.2.2 gX2_placesNamed_X2_no rfl rfl rfl (by decide +kernel) ⟨Nat.le_of_ble_eq_true rfl, Nat.le_of_ble_eq_true rfl⟩) dX2_placesNamed_17 20 rfl (ci := 2) 0 rfl rfl rfl rfl (Nat.le_of_ble_eq_true rfl) ⟨Nat.le_of_ble_eq_true rfl, Nat.le_of_ble_eq_true rfl⟩ [0, 1] rfl [0, 1, 2, 3, 4, 5, 6, 7, 8, 9, 10, 11, 12, 13, 14] rfl (by decide) [] rfl (by decide) (by decide +kernel) (fun v w hv => ?_)
    obtain ⟨rfl, rfl⟩ := hv
    refine zv_go rfl rfl (st' := [.int 0]) rfl (kc' := 0) rfl (ns' := 0) rfl ?_
    refine zv_wd (ws' := (cM cI cZ h 1 (nI n) r y (nI b) f0 f1 f2 f3 f4 f5 f6 f7 f8 f9 f10 f11 f12 f13)) rfl ?_
    exact zv_iret C hr hlk hQ dX2_placesNamed_20 ⟨rfl, rfl⟩
abbrev rmX2_greatest : Room := { frames := 1, cells := 0, slots := 0, locals := 23 }
set_option maxHeartbeats 4000000 in
set_option maxRecDepth 100000 in
theorem k_X2_greatest (l : Launch) (D : va_G) (cI cZ : ClassId) (h : Nat → Nat) (t : Int32) (n : Nat) (r y : Int32) (b : Nat) (f0 f1 f2 f3 f4 f5 f6 f7 f8 f9 f10 f11 f12 f13 : Nat → Int32) (hn : n ≤ 16) : zv_R l yX2_greatest wsX2_greatest rmX2_greatest D vwCl (tyL cI cZ) [.ref (h 0)] (cM cI cZ h t (nI n) r y (nI b) f0 f1 f2 f3 f4 f5 f6 f7 f8 f9 f10 f11 f12 f13) (fun v => v = some (.int (gst f11 n 10))) := by
  refine zv_R.of cX2_greatest 3 (some .int) (by decide) rfl (Nat.le_of_ble_eq_true rfl) ?_
  intro pP eE sS mM aA bB mT cD A C hr hlk hA Q hQ
  have L4 : ∀ (mu_L4 : Nat), ∀ (k : Nat) (bs : Int32), (k ≤ 10) → (bs = gst f11 n k) → 10 - k < mu_L4 → zv_V pP l eE rmX2_greatest sS mM aA bB mT cD Q 3 D vwCl A (fun _ => True) (tyL cI cZ) (cM cI cZ h t (nI n) r y (nI b) f0 f1 f2 f3 f4 f5 f6 f7 f8 f9 f10 f11 f12 f13) 0 0 4 [(0, .ref (h 0)), (1, .int bs), (2, .int (nI k))] [] := by
    intro mu_L4
    induction mu_L4 with
    | zero => intro k bs hk he hmu_L4; exact absurd hmu_L4 (Nat.not_lt_zero _)
    | succ mu_L4 ih_L4 =>
      intro k bs hk he hmu_L4
      refine zv_iload_n C dX2_greatest_4 5 rfl 2 rfl ?_
      refine zv_bipush (v := 10) C dX2_greatest_5 7 rfl (by decide) ?_
      refine zv_icmp_ge C dX2_greatest_7 10 44 rfl (by decide) (fun c1 => ?_) (fun c1 => ?_)
      · replace c1 := zn_le (a := 10) (b := k) (by omega) (by omega) c1
        refine zv_iload_n C dX2_greatest_44 45 rfl 1 rfl ?_
        exact zv_iretR C hr hlk hA hQ dX2_greatest_45 (by have hk10 : k = 10 := (by omega); rw [he, hk10])
      · replace c1 := zn_le' (a := 10) (b := k) (by omega) (by omega) c1
        refine zv_aload_n C dX2_greatest_10 11 rfl 0 rfl ?_
        refine zv_iload_n C dX2_greatest_11 12 rfl 2 rfl ?_
        refine zv_callVR (rest := []) C (k_X2_many l D cI cZ h t n r y b f0 f1 f2 f3 f4 f5 f6 f7 f8 f9 f10 f11 f12 f13 (nI k) (by omega)) (cwV 1 C.1.2.2.2.2 gX2_greatest_X2_many rfl rfl rfl (by decide +kernel) ⟨Nat.le_of_ble_eq_true rfl, Nat.le_of_ble_eq_true rfl⟩) dX2_greatest_12 15 rfl (ci := 2) 0 rfl rfl rfl rfl (Nat.le_of_ble_eq_true rfl) ⟨Nat.le_of_ble_eq_true rfl, Nat.le_of_ble_eq_true rfl⟩ [0, 1] rfl [0, 1, 2, 3, 4, 5, 6, 7, 8, 9, 10, 11, 12, 13, 14] rfl (by decide) (fun v hv => ?_)
        subst hv
        refine zv_go rfl rfl (st' := [.int (nI (cnt f11 (nI k) n))]) rfl (kc' := 0) rfl (ns' := 0) rfl ?_
        refine zv_if_le C dX2_greatest_15 18 38 rfl (by decide) (fun c2 => ?_) (fun c2 => ?_)
        · have hcl := cnt_le f11 (nI k) n
          replace c2 := zn_le (a := cnt f11 (nI k) n) (b := 0) (by omega) (by omega) c2
          refine zv_iinc (v := (nI (k + 1))) C dX2_greatest_38 41 rfl [(2, .int (nI (k + 1))), (0, .ref (h 0)), (1, .int bs)] 2 rfl (nI_1 k) (by decide) rfl ?_
          refine zv_goto C dX2_greatest_41 4 (by decide) ?_
          refine zv_sub [1, 2, 0] (lv' := [(0, .ref (h 0)), (1, .int bs), (2, .int (nI (k + 1)))]) rfl ?_
          exact ih_L4 (k + 1) bs (by omega) (by rw [gst_0 _ _ (by omega), he]) (by omega)
        · have hcl := cnt_le f11 (nI k) n
          replace c2 := zn_le' (a := cnt f11 (nI k) n) (b := 0) (by omega) (by omega) c2
          refine zv_iload_n C dX2_greatest_18 19 rfl 1 rfl ?_
          refine zv_iconst (v := (-1 : Int32)) C dX2_greatest_19 20 rfl (by decide) ?_
          refine zv_icmp_eq C dX2_greatest_20 23 36 rfl (by decide) (fun c3 => ?_) (fun c3 => ?_)
          · refine zv_iload_n C dX2_greatest_36 37 rfl 2 rfl ?_
            refine zv_istore_n C dX2_greatest_37 38 rfl [(1, .int (nI k)), (0, .ref (h 0)), (2, .int (nI k))] (by decide) rfl ?_
            refine zv_iinc (v := (nI (k + 1))) C dX2_greatest_38 41 rfl [(2, .int (nI (k + 1))), (1, .int (nI k)), (0, .ref (h 0))] 2 rfl (nI_1 k) (by decide) rfl ?_
            refine zv_goto C dX2_greatest_41 4 (by decide) ?_
            refine zv_sub [2, 1, 0] (lv' := [(0, .ref (h 0)), (1, .int (nI k)), (2, .int (nI (k + 1)))]) rfl ?_
            exact ih_L4 (k + 1) (nI k) (by omega) (by rw [gst_y _ _ (by omega) (Or.inl (he.symm.trans c3))]) (by omega)
          · refine zv_aload_n C dX2_greatest_23 24 rfl 0 rfl ?_
            refine zv_iload_n C dX2_greatest_24 25 rfl 2 rfl ?_
            refine zv_callVR (rest := []) C (k_X2_many l D cI cZ h t n r y b f0 f1 f2 f3 f4 f5 f6 f7 f8 f9 f10 f11 f12 f13 (nI k) (by omega)) (cwV 1 C.1.2.2.2.2 gX2_greatest_X2_many rfl rfl rfl (by decide +kernel) ⟨Nat.le_of_ble_eq_true rfl, Nat.le_of_ble_eq_true rfl⟩) dX2_greatest_25 28 rfl (ci := 2) 0 rfl rfl rfl rfl (Nat.le_of_ble_eq_true rfl) ⟨Nat.le_of_ble_eq_true rfl, Nat.le_of_ble_eq_true rfl⟩ [0, 1] rfl [0, 1, 2, 3, 4, 5, 6, 7, 8, 9, 10, 11, 12, 13, 14] rfl (by decide) (fun v hv => ?_)
            subst hv
            refine zv_go rfl rfl (st' := [.int (nI (cnt f11 (nI k) n))]) rfl (kc' := 0) rfl (ns' := 0) rfl ?_
            refine zv_aload_n C dX2_greatest_28 29 rfl 0 rfl ?_
            refine zv_iload_n C dX2_greatest_29 30 rfl 1 rfl ?_
            refine zv_callVR (rest := [.int (nI (cnt f11 (nI k) n))]) C (k_X2_many l D cI cZ h t n r y b f0 f1 f2 f3 f4 f5 f6 f7 f8 f9 f10 f11 f12 f13 bs (by omega)) (cwV 1 C.1.2.2.2.2 gX2_greatest_X2_many rfl rfl rfl (by decide +kernel) ⟨Nat.le_of_ble_eq_true rfl, Nat.le_of_ble_eq_true rfl⟩) dX2_greatest_30 33 rfl (ci := 2) 0 rfl rfl rfl rfl (Nat.le_of_ble_eq_true rfl) ⟨Nat.le_of_ble_eq_true rfl, Nat.le_of_ble_eq_true rfl⟩ [0, 1] rfl [0, 1, 2, 3, 4, 5, 6, 7, 8, 9, 10, 11, 12, 13, 14] rfl (by decide) (fun v hv => ?_)
            subst hv
            refine zv_go rfl rfl (st' := [.int (nI (cnt f11 bs n)), .int (nI (cnt f11 (nI k) n))]) rfl (kc' := 0) rfl (ns' := 0) rfl ?_
            refine zv_icmp_le C dX2_greatest_33 36 38 rfl (by decide) (fun c4 => ?_) (fun c4 => ?_)
            · have hcl2 := cnt_le f11 bs n
              replace c4 := zn_le (a := cnt f11 (nI k) n) (b := cnt f11 bs n) (by omega) (by omega) c4
              refine zv_iinc (v := (nI (k + 1))) C dX2_greatest_38 41 rfl [(2, .int (nI (k + 1))), (0, .ref (h 0)), (1, .int bs)] 2 rfl (nI_1 k) (by decide) rfl ?_
              refine zv_goto C dX2_greatest_41 4 (by decide) ?_
              refine zv_sub [1, 2, 0] (lv' := [(0, .ref (h 0)), (1, .int bs), (2, .int (nI (k + 1)))]) rfl ?_
              exact ih_L4 (k + 1) bs (by omega) (by rw [gst_n _ _ (by rw [← he]; exact c3) (by rw [← he]; omega), he]) (by omega)
            · have hcl2 := cnt_le f11 bs n
              replace c4 := zn_le' (a := cnt f11 (nI k) n) (b := cnt f11 bs n) (by omega) (by omega) c4
              refine zv_iload_n C dX2_greatest_36 37 rfl 2 rfl ?_
              refine zv_istore_n C dX2_greatest_37 38 rfl [(1, .int (nI k)), (0, .ref (h 0)), (2, .int (nI k))] (by decide) rfl ?_
              refine zv_iinc (v := (nI (k + 1))) C dX2_greatest_38 41 rfl [(2, .int (nI (k + 1))), (1, .int (nI k)), (0, .ref (h 0))] 2 rfl (nI_1 k) (by decide) rfl ?_
              refine zv_goto C dX2_greatest_41 4 (by decide) ?_
              refine zv_sub [2, 1, 0] (lv' := [(0, .ref (h 0)), (1, .int (nI k)), (2, .int (nI (k + 1)))]) rfl ?_
              exact ih_L4 (k + 1) (nI k) (by omega) (by rw [gst_y _ _ (by omega) (Or.inr (by rw [← he]; omega))]) (by omega)
  refine zv_go (pc' := 0) rfl (lv' := [(0, .ref (h 0))]) rfl rfl rfl rfl ?_
  refine zv_iconst (v := (-1 : Int32)) C dX2_greatest_0 1 rfl (by decide) ?_
  refine zv_istore_n C dX2_greatest_1 2 rfl [(1, .int (-1 : Int32)), (0, .ref (h 0))] (by decide) rfl ?_
  refine zv_iconst (v := 0) C dX2_greatest_2 3 rfl (by decide) ?_
  refine zv_istore_n C dX2_greatest_3 4 rfl [(2, .int 0), (1, .int (-1 : Int32)), (0, .ref (h 0))] (by decide) rfl ?_
  refine zv_sub [2, 1, 0] (lv' := [(0, .ref (h 0)), (1, .int (-1 : Int32)), (2, .int 0)]) rfl ?_
  exact L4 _ 0 (-1) (by omega) rfl (Nat.lt_succ_self _)
abbrev rmX2_greatestName : Room := { frames := 4, cells := 0, slots := 0, locals := 90 }
set_option maxHeartbeats 4000000 in
set_option maxRecDepth 100000 in
theorem k_X2_greatestName (l : Launch) (D : va_G) (cI cZ : ClassId) (h : Nat → Nat) (t : Int32) (n : Nat) (r y : Int32) (b : Nat) (f0 f1 f2 f3 f4 f5 f6 f7 f8 f9 f10 f11 f12 f13 : Nat → Int32) (s : Nat → Int32) (d : Nat → Nat) (hn : n ≤ 16) (hD : Dep n f0 s d) : zv_M l yX2_greatestName wsX2_greatestName rmX2_greatestName D vwCl (tyL cI cZ) [.ref (h 0)] (cM cI cZ h t (nI n) r y (nI b) f0 f1 f2 f3 f4 f5 f6 f7 f8 f9 f10 f11 f12 f13) (fun v w => ∃ (g8 g9 g10 g11 : Nat → Int32), v = some (.int (gst (nmS n f0 f1 f2 f3 f5 r) n 10)) ∧ w = (cM cI cZ h 0 (nI n) r y (nI b) f0 f1 f2 f3 f4 f5 f6 f7 g8 g9 g10 g11 f12 f13)) := by
  refine zv_M.of cX2_greatestName 1 (some .int) (by decide) rfl (Nat.le_of_ble_eq_true rfl) ?_
  intro pP eE sS mM aA bB mT cD A C hr hlk hnm Q hQ
  refine zv_go (pc' := 0) rfl (lv' := [(0, .ref (h 0))]) rfl rfl rfl rfl ?_
  refine zv_aload_n C dX2_greatestName_0 1 rfl 0 rfl ?_
  refine zv_callV (rest := []) (wr := []) C (k_X2_reckon l D cI cZ h t n r y b f0 f1 f2 f3 f4 f5 f6 f7 f8 f9 f10 f11 f12 f13 s d (by omega) (by assumption)) (cwV 0 C.1.2.2.2.2 gX2_greatestName_X2_reckon rfl rfl rfl (by decide +kernel) ⟨Nat.le_of_ble_eq_true rfl, Nat.le_of_ble_eq_true rfl⟩) dX2_greatestName_1 4 rfl (ci := 2) 0 rfl rfl rfl rfl (Nat.le_of_ble_eq_true rfl) ⟨Nat.le_of_ble_eq_true rfl, Nat.le_of_ble_eq_true rfl⟩ [0, 1] rfl [0, 1, 2, 3, 4, 5, 6, 7, 8, 9, 10, 11, 12, 13, 14] rfl (by decide) [] rfl (by decide) (by decide +kernel) (fun v w hv => ?_)
  obtain ⟨u8_70, u9_70, u10_70, u11_70, rfl, rfl, huM70⟩ := hv
  refine zv_go rfl rfl (st' := []) rfl (kc' := 0) rfl (ns' := 0) rfl ?_
  refine zv_wd (ws' := (cM cI cZ h t (nI n) r y (nI b) f0 f1 f2 f3 f4 f5 f6 f7 u8_70 u9_70 u10_70 u11_70 f12 f13)) rfl ?_
  refine zv_aload_n C dX2_greatestName_4 5 rfl 0 rfl ?_
  refine zv_aload_n C dX2_greatestName_5 6 rfl 0 rfl ?_
  refine zv_callVR (rest := [.ref (h 0)]) C (k_X2_greatest l D cI cZ h t n r y b f0 f1 f2 f3 f4 f5 f6 f7 u8_70 u9_70 u10_70 u11_70 f12 f13 (by omega)) (cwV 0 C.1.2.2.2.2 gX2_greatestName_X2_greatest rfl rfl rfl (by decide +kernel) ⟨Nat.le_of_ble_eq_true rfl, Nat.le_of_ble_eq_true rfl⟩) dX2_greatestName_6 9 rfl (ci := 2) 0 rfl rfl rfl rfl (Nat.le_of_ble_eq_true rfl) ⟨Nat.le_of_ble_eq_true rfl, Nat.le_of_ble_eq_true rfl⟩ [0, 1] rfl [0, 1, 2, 3, 4, 5, 6, 7, 8, 9, 10, 11, 12, 13, 14] rfl (by decide) (fun v hv => ?_)
  subst hv
  refine zv_go rfl rfl (st' := [.int (gst u11_70 n 10), .ref (h 0)]) rfl (kc' := 0) rfl (ns' := 0) rfl ?_
  refine zv_callV (rest := []) (wr := []) C (k_X2_ok l D cI cZ h t n r y b f0 f1 f2 f3 f4 f5 f6 f7 u8_70 u9_70 u10_70 u11_70 f12 f13 (gst u11_70 n 10)) (cwV 1 C.1.2.2.2.2 gX2_greatestName_X2_ok rfl rfl rfl (by decide +kernel) ⟨Nat.le_of_ble_eq_true rfl, Nat.le_of_ble_eq_true rfl⟩) dX2_greatestName_9 12 rfl (ci := 2) 0 rfl rfl rfl rfl (Nat.le_of_ble_eq_true rfl) ⟨Nat.le_of_ble_eq_true rfl, Nat.le_of_ble_eq_true rfl⟩ [0, 1] rfl [0, 1, 2, 3, 4, 5, 6, 7, 8, 9, 10, 11, 12, 13, 14] rfl (by decide) [] rfl (by decide) (by decide +kernel) (fun v w hv => ?_)
  obtain ⟨rfl, rfl⟩ := hv
  refine zv_go rfl rfl (st' := [.int (gst u11_70 n 10)]) rfl (kc' := 0) rfl (ns' := 0) rfl ?_
  refine zv_wd (ws' := (cM cI cZ h 0 (nI n) r y (nI b) f0 f1 f2 f3 f4 f5 f6 f7 u8_70 u9_70 u10_70 u11_70 f12 f13)) rfl ?_
  exact zv_iret C hr hlk hQ dX2_greatestName_12 ⟨u8_70, u9_70, u10_70, u11_70, (by rw [gst_congr (fun i hi => (MA.sol hD hn huM70 i hi).2.2)]), rfl⟩
abbrev rmX2_nameless : Room := { frames := 4, cells := 0, slots := 0, locals := 90 }
set_option maxHeartbeats 4000000 in
set_option maxRecDepth 100000 in
theorem k_X2_nameless (l : Launch) (D : va_G) (cI cZ : ClassId) (h : Nat → Nat) (t : Int32) (n : Nat) (r y : Int32) (b : Nat) (f0 f1 f2 f3 f4 f5 f6 f7 f8 f9 f10 f11 f12 f13 : Nat → Int32) (s : Nat → Int32) (d : Nat → Nat) (hn : n ≤ 16) (hD : Dep n f0 s d) : zv_M l yX2_nameless wsX2_nameless rmX2_nameless D vwCl (tyL cI cZ) [.ref (h 0)] (cM cI cZ h t (nI n) r y (nI b) f0 f1 f2 f3 f4 f5 f6 f7 f8 f9 f10 f11 f12 f13) (fun v w => ∃ (g8 g9 g10 g11 : Nat → Int32), v = some (.int (nI (cnt (nmS n f0 f1 f2 f3 f5 r) (-1) n))) ∧ w = (cM cI cZ h 0 (nI n) r y (nI b) f0 f1 f2 f3 f4 f5 f6 f7 g8 g9 g10 g11 f12 f13)) := by
  refine zv_M.of cX2_nameless 1 (some .int) (by decide) rfl (Nat.le_of_ble_eq_true rfl) ?_
  intro pP eE sS mM aA bB mT cD A C hr hlk hnm Q hQ
  refine zv_go (pc' := 0) rfl (lv' := [(0, .ref (h 0))]) rfl rfl rfl rfl ?_
  refine zv_aload_n C dX2_nameless_0 1 rfl 0 rfl ?_
  refine zv_callV (rest := []) (wr := []) C (k_X2_reckon l D cI cZ h t n r y b f0 f1 f2 f3 f4 f5 f6 f7 f8 f9 f10 f11 f12 f13 s d (by omega) (by assumption)) (cwV 0 C.1.2.2.2.2 gX2_nameless_X2_reckon rfl rfl rfl (by decide +kernel) ⟨Nat.le_of_ble_eq_true rfl, Nat.le_of_ble_eq_true rfl⟩) dX2_nameless_1 4 rfl (ci := 2) 0 rfl rfl rfl rfl (Nat.le_of_ble_eq_true rfl) ⟨Nat.le_of_ble_eq_true rfl, Nat.le_of_ble_eq_true rfl⟩ [0, 1] rfl [0, 1, 2, 3, 4, 5, 6, 7, 8, 9, 10, 11, 12, 13, 14] rfl (by decide) [] rfl (by decide) (by decide +kernel) (fun v w hv => ?_)
  obtain ⟨u8_72, u9_72, u10_72, u11_72, rfl, rfl, huM72⟩ := hv
  refine zv_go rfl rfl (st' := []) rfl (kc' := 0) rfl (ns' := 0) rfl ?_
  refine zv_wd (ws' := (cM cI cZ h t (nI n) r y (nI b) f0 f1 f2 f3 f4 f5 f6 f7 u8_72 u9_72 u10_72 u11_72 f12 f13)) rfl ?_
  refine zv_aload_n C dX2_nameless_4 5 rfl 0 rfl ?_
  refine zv_aload_n C dX2_nameless_5 6 rfl 0 rfl ?_
  refine zv_iconst (v := (-1 : Int32)) C dX2_nameless_6 7 rfl (by decide) ?_
  refine zv_callVR (rest := [.ref (h 0)]) C (k_X2_many l D cI cZ h t n r y b f0 f1 f2 f3 f4 f5 f6 f7 u8_72 u9_72 u10_72 u11_72 f12 f13 (-1 : Int32) (by omega)) (cwV 1 C.1.2.2.2.2 gX2_nameless_X2_many rfl rfl rfl (by decide +kernel) ⟨Nat.le_of_ble_eq_true rfl, Nat.le_of_ble_eq_true rfl⟩) dX2_nameless_7 10 rfl (ci := 2) 0 rfl rfl rfl rfl (Nat.le_of_ble_eq_true rfl) ⟨Nat.le_of_ble_eq_true rfl, Nat.le_of_ble_eq_true rfl⟩ [0, 1] rfl [0, 1, 2, 3, 4, 5, 6, 7, 8, 9, 10, 11, 12, 13, 14] rfl (by decide) (fun v hv => ?_)
  subst hv
  refine zv_go rfl rfl (st' := [.int (nI (cnt u11_72 (-1 : Int32) n)), .ref (h 0)]) rfl (kc' := 0) rfl (ns' := 0) rfl ?_
  refine zv_callV (rest := []) (wr := []) C (k_X2_ok l D cI cZ h t n r y b f0 f1 f2 f3 f4 f5 f6 f7 u8_72 u9_72 u10_72 u11_72 f12 f13 (nI (cnt u11_72 (-1 : Int32) n))) (cwV 1 C.1.2.2.2.2 gX2_nameless_X2_ok rfl rfl rfl (by decide +kernel) ⟨Nat.le_of_ble_eq_true rfl, Nat.le_of_ble_eq_true rfl⟩) dX2_nameless_10 13 rfl (ci := 2) 0 rfl rfl rfl rfl (Nat.le_of_ble_eq_true rfl) ⟨Nat.le_of_ble_eq_true rfl, Nat.le_of_ble_eq_true rfl⟩ [0, 1] rfl [0, 1, 2, 3, 4, 5, 6, 7, 8, 9, 10, 11, 12, 13, 14] rfl (by decide) [] rfl (by decide) (by decide +kernel) (fun v w hv => ?_)
  obtain ⟨rfl, rfl⟩ := hv
  refine zv_go rfl rfl (st' := [.int (nI (cnt u11_72 (-1 : Int32) n))]) rfl (kc' := 0) rfl (ns' := 0) rfl ?_
  refine zv_wd (ws' := (cM cI cZ h 0 (nI n) r y (nI b) f0 f1 f2 f3 f4 f5 f6 f7 u8_72 u9_72 u10_72 u11_72 f12 f13)) rfl ?_
  exact zv_iret C hr hlk hQ dX2_nameless_13 ⟨u8_72, u9_72, u10_72, u11_72, (by rw [cnt_congr (-1) n (fun i hi => (MA.sol hD hn huM72 i hi).2.2)]), rfl⟩
abbrev rmX2_isInsulted : Room := { frames := 4, cells := 0, slots := 0, locals := 90 }
set_option maxHeartbeats 4000000 in
set_option maxRecDepth 100000 in
theorem k_X2_isInsulted_ok (l : Launch) (D : va_G) (cI cZ : ClassId) (h : Nat → Nat) (t : Int32) (n : Nat) (r y : Int32) (b : Nat) (f0 f1 f2 f3 f4 f5 f6 f7 f8 f9 f10 f11 f12 f13 : Nat → Int32) (p : Nat) (s : Nat → Int32) (d : Nat → Nat) (hn : n ≤ 16) (hD : Dep n f0 s d) (hb : b ≤ 16) (hB : Brg n b f6) (hp : p < b) : zv_M l yX2_isInsulted wsX2_isInsulted rmX2_isInsulted D vwCl (tyL cI cZ) [.ref (h 0), .int (nI p)] (cM cI cZ h t (nI n) r y (nI b) f0 f1 f2 f3 f4 f5 f6 f7 f8 f9 f10 f11 f12 f13) (fun v w => ∃ (g8 g9 g10 g11 : Nat → Int32), v = some (.int (zb (insd (f7 p) ((nmS n f0 f1 f2 f3 f5 r) (f6 p).toNatClampNeg)))) ∧ w = (cM cI cZ h 0 (nI n) r y (nI b) f0 f1 f2 f3 f4 f5 f6 f7 g8 g9 g10 g11 f12 f13)) := by
  refine zv_M.of cX2_isInsulted 2 (some .boolean) (by decide) rfl (Nat.le_of_ble_eq_true rfl) ?_
  intro pP eE sS mM aA bB mT cD A C hr hlk hnm Q hQ
  have inX2 : ∀ w ∈ u_ws RX2 TX2 19, w ∈ wsX2_isInsulted := by decide +kernel
  have lk53 : Cond.fieldLink RX2 53 "RiverNamesModel" "thrown" "I" ∈ wsX2_isInsulted := by decide +kernel
  refine zv_go (pc' := 0) rfl (lv' := [(0, .ref (h 0)), (1, .int (nI p))]) rfl rfl rfl rfl ?_
  refine zv_aload_n C dX2_isInsulted_0 1 rfl 0 rfl ?_
  refine zv_iconst (v := 0) C dX2_isInsulted_1 2 rfl (by decide) ?_
  refine zv_put (ci := 2) C inX2 rfl tyX2_ok nmX2 dX2_isInsulted_2 5 rfl 0 0 rfl (by decide) lk53 rfl rfl rfl (Nat.le_of_ble_eq_true rfl) (cM cI cZ h 0 (nI n) r y (nI b) f0 f1 f2 f3 f4 f5 f6 f7 f8 f9 f10 f11 f12 f13) rfl ?_
  refine zv_aload_n C dX2_isInsulted_5 6 rfl 0 rfl ?_
  refine zv_iload_n C dX2_isInsulted_6 7 rfl 1 rfl ?_
  refine zv_callVR (rest := []) C (k_X2_isBridge l D cI cZ h 0 n r y b f0 f1 f2 f3 f4 f5 f6 f7 f8 f9 f10 f11 f12 f13 (nI p) (by omega)) (cwV 1 C.1.2.2.2.2 gX2_isInsulted_X2_isBridge rfl rfl rfl (by decide +kernel) ⟨Nat.le_of_ble_eq_true rfl, Nat.le_of_ble_eq_true rfl⟩) dX2_isInsulted_7 10 rfl (ci := 2) 0 rfl rfl rfl rfl (Nat.le_of_ble_eq_true rfl) ⟨Nat.le_of_ble_eq_true rfl, Nat.le_of_ble_eq_true rfl⟩ [0, 1] rfl [0, 1, 2, 3, 4, 5, 6, 7, 8, 9, 10, 11, 12, 13, 14] rfl (by decide) (fun v hv => ?_)
  subst hv
  refine zv_go rfl rfl (st' := [.int (zb (isP b (nI p)))]) rfl (kc' := 0) rfl (ns' := 0) rfl ?_
  refine zv_if_ne C dX2_isInsulted_10 13 19 rfl (by decide) (fun c1 => ?_) (fun c1 => ?_)
  · refine zv_aload_n C dX2_isInsulted_19 20 rfl 0 rfl ?_
    refine zv_callV (rest := []) (wr := []) C (k_X2_reckon l D cI cZ h 0 n r y b f0 f1 f2 f3 f4 f5 f6 f7 f8 f9 f10 f11 f12 f13 s d (by omega) (by assumption)) (cwV 0 C.1.2.2.2.2 gX2_isInsulted_X2_reckon rfl rfl rfl (by decide +kernel) ⟨Nat.le_of_ble_eq_true rfl, Nat.le_of_ble_eq_true rfl⟩) dX2_isInsulted_20 23 rfl (ci := 2) 0 rfl rfl rfl rfl (Nat.le_of_ble_eq_true rfl) ⟨Nat.le_of_ble_eq_true rfl, Nat.le_of_ble_eq_true rfl⟩ [0, 1] rfl [0, 1, 2, 3, 4, 5, 6, 7, 8, 9, 10, 11, 12, 13, 14] rfl (by decide) [] rfl (by decide) (by decide +kernel) (fun v w hv => ?_)
    obtain ⟨u8_74, u9_74, u10_74, u11_74, rfl, rfl, huM74⟩ := hv
    refine zv_go rfl rfl (st' := []) rfl (kc' := 0) rfl (ns' := 0) rfl ?_
    refine zv_wd (ws' := (cM cI cZ h 0 (nI n) r y (nI b) f0 f1 f2 f3 f4 f5 f6 f7 u8_74 u9_74 u10_74 u11_74 f12 f13)) rfl ?_
    refine zv_aload_n C dX2_isInsulted_23 24 rfl 0 rfl ?_
    refine zv_iload_n C dX2_isInsulted_24 25 rfl 1 rfl ?_
    refine zv_callVR (rest := []) C (k_X2_insulted l D cI cZ h 0 n r y b f0 f1 f2 f3 f4 f5 f6 f7 u8_74 u9_74 u10_74 u11_74 f12 f13 p (by omega) (by obtain ⟨q, hq, e⟩ := hB p (by omega); exact ⟨q, by omega, e⟩)) (cwV 1 C.1.2.2.2.2 gX2_isInsulted_X2_insulted rfl rfl rfl (by decide +kernel) ⟨Nat.le_of_ble_eq_true rfl, Nat.le_of_ble_eq_true rfl⟩) dX2_isInsulted_25 28 rfl (ci := 2) 0 rfl rfl rfl rfl (Nat.le_of_ble_eq_true rfl) ⟨Nat.le_of_ble_eq_true rfl, Nat.le_of_ble_eq_true rfl⟩ [0, 1] rfl [0, 1, 2, 3, 4, 5, 6, 7, 8, 9, 10, 11, 12, 13, 14] rfl (by decide) (fun v hv => ?_)
    subst hv
    refine zv_go rfl rfl (st' := [.int (zb (insd (f7 p) (u11_74 (f6 p).toNatClampNeg)))]) rfl (kc' := 0) rfl (ns' := 0) rfl ?_
    exact zv_zret C (zb_narrow _) hr hlk hQ dX2_isInsulted_28 ⟨u8_74, u9_74, u10_74, u11_74, (by
      obtain ⟨q, hq, e⟩ := hB p hp
      rw [e, nI_clamp (by omega), ((MA.sol hD hn huM74) q hq).2.2]), rfl⟩
  · exact absurd (isP_nI (by omega) hp) (by rw [zb_eq0.mp c1]; decide)
set_option maxHeartbeats 4000000 in
set_option maxRecDepth 100000 in
theorem k_X2_isInsulted_no (l : Launch) (D : va_G) (cI cZ : ClassId) (h : Nat → Nat) (t : Int32) (n : Nat) (r y : Int32) (b : Nat) (f0 f1 f2 f3 f4 f5 f6 f7 f8 f9 f10 f11 f12 f13 : Nat → Int32) (i : Int32) (hb : b ≤ 16) (hf : isP b i = false) : zv_M l yX2_isInsulted wsX2_isInsulted rmX2_isInsulted D vwCl (tyL cI cZ) [.ref (h 0), .int i] (cM cI cZ h t (nI n) r y (nI b) f0 f1 f2 f3 f4 f5 f6 f7 f8 f9 f10 f11 f12 f13) (fun v w => v = some (.int 0) ∧ w = (cM cI cZ h 1 (nI n) r y (nI b) f0 f1 f2 f3 f4 f5 f6 f7 f8 f9 f10 f11 f12 f13)) := by
  refine zv_M.of cX2_isInsulted 2 (some .boolean) (by decide) rfl (Nat.le_of_ble_eq_true rfl) ?_
  intro pP eE sS mM aA bB mT cD A C hr hlk hnm Q hQ
  have inX2 : ∀ w ∈ u_ws RX2 TX2 19, w ∈ wsX2_isInsulted := by decide +kernel
  have lk53 : Cond.fieldLink RX2 53 "RiverNamesModel" "thrown" "I" ∈ wsX2_isInsulted := by decide +kernel
  refine zv_go (pc' := 0) rfl (lv' := [(0, .ref (h 0)), (1, .int i)]) rfl rfl rfl rfl ?_
  refine zv_aload_n C dX2_isInsulted_0 1 rfl 0 rfl ?_
  refine zv_iconst (v := 0) C dX2_isInsulted_1 2 rfl (by decide) ?_
  refine zv_put (ci := 2) C inX2 rfl tyX2_ok nmX2 dX2_isInsulted_2 5 rfl 0 0 rfl (by decide) lk53 rfl rfl rfl (Nat.le_of_ble_eq_true rfl) (cM cI cZ h 0 (nI n) r y (nI b) f0 f1 f2 f3 f4 f5 f6 f7 f8 f9 f10 f11 f12 f13) rfl ?_
  refine zv_aload_n C dX2_isInsulted_5 6 rfl 0 rfl ?_
  refine zv_iload_n C dX2_isInsulted_6 7 rfl 1 rfl ?_
  refine zv_callVR (rest := []) C (k_X2_isBridge l D cI cZ h 0 n r y b f0 f1 f2 f3 f4 f5 f6 f7 f8 f9 f10 f11 f12 f13 i (by omega)) (cwV 1 C.1.2.2.2.2 gX2_isInsulted_X2_isBridge rfl rfl rfl (by decide +kernel) ⟨Nat.le_of_ble_eq_true rfl, Nat.le_of_ble_eq_true rfl⟩) dX2_isInsulted_7 10 rfl (ci := 2) 0 rfl rfl rfl rfl (Nat.le_of_ble_eq_true rfl) ⟨Nat.le_of_ble_eq_true rfl, Nat.le_of_ble_eq_true rfl⟩ [0, 1] rfl [0, 1, 2, 3, 4, 5, 6, 7, 8, 9, 10, 11, 12, 13, 14] rfl (by decide) (fun v hv => ?_)
  subst hv
  refine zv_go rfl rfl (st' := [.int (zb (isP b i))]) rfl (kc' := 0) rfl (ns' := 0) rfl ?_
  refine zv_if_ne C dX2_isInsulted_10 13 19 rfl (by decide) (fun c1 => ?_) (fun c1 => ?_)
  · exact absurd hf (by rw [zb_ne0.mp c1]; decide)
  · refine zv_aload_n C dX2_isInsulted_13 14 rfl 0 rfl ?_
    refine zv_iconst (v := 1) C dX2_isInsulted_14 15 rfl (by decide) ?_
    refine zv_callV (rest := []) (wr := []) C (k_X2_isNot l D cI cZ h 0 n r y b f0 f1 f2 f3 f4 f5 f6 f7 f8 f9 f10 f11 f12 f13 1) (cwV 1 C.1.2.2.2.2 gX2_isInsulted_X2_isNot rfl rfl rfl (by decide +kernel) ⟨Nat.le_of_ble_eq_true rfl, Nat.le_of_ble_eq_true rfl⟩) dX2_isInsulted_15 18 rfl (ci := 2) 0 rfl rfl rfl rfl (Nat.le_of_ble_eq_true rfl) ⟨Nat.le_of_ble_eq_true rfl, Nat.le_of_ble_eq_true rfl⟩ [0, 1] rfl [0, 1, 2, 3, 4, 5, 6, 7, 8, 9, 10, 11, 12, 13, 14] rfl (by decide) [] rfl (by decide) (by decide +kernel) (fun v w hv => ?_)
    obtain ⟨rfl, rfl⟩ := hv
    refine zv_go rfl rfl (st' := [.int 0]) rfl (kc' := 0) rfl (ns' := 0) rfl ?_
    refine zv_wd (ws' := (cM cI cZ h 1 (nI n) r y (nI b) f0 f1 f2 f3 f4 f5 f6 f7 f8 f9 f10 f11 f12 f13)) rfl ?_
    exact zv_zret C (by decide) hr hlk hQ dX2_isInsulted_18 ⟨rfl, rfl⟩
abbrev rmX2_insultsAt : Room := { frames := 4, cells := 0, slots := 0, locals := 90 }
set_option maxHeartbeats 4000000 in
set_option maxRecDepth 100000 in
theorem k_X2_insultsAt_ok (l : Launch) (D : va_G) (cI cZ : ClassId) (h : Nat → Nat) (t : Int32) (n : Nat) (r y : Int32) (b : Nat) (f0 f1 f2 f3 f4 f5 f6 f7 f8 f9 f10 f11 f12 f13 : Nat → Int32) (p : Nat) (s : Nat → Int32) (d : Nat → Nat) (hn : n ≤ 16) (hD : Dep n f0 s d) (hb : b ≤ 16) (hB : Brg n b f6) (hp : p < n) : zv_M l yX2_insultsAt wsX2_insultsAt rmX2_insultsAt D vwCl (tyL cI cZ) [.ref (h 0), .int (nI p)] (cM cI cZ h t (nI n) r y (nI b) f0 f1 f2 f3 f4 f5 f6 f7 f8 f9 f10 f11 f12 f13) (fun v w => ∃ (g8 g9 g10 g11 : Nat → Int32), v = some (.int (nI (inP f6 f7 (nmS n f0 f1 f2 f3 f5 r) p b))) ∧ w = (cM cI cZ h 0 (nI n) r y (nI b) f0 f1 f2 f3 f4 f5 f6 f7 g8 g9 g10 g11 f12 f13)) := by
  refine zv_M.of cX2_insultsAt 4 (some .int) (by decide) rfl (Nat.le_of_ble_eq_true rfl) ?_
  intro pP eE sS mM aA bB mT cD A C hr hlk hnm Q hQ
  have inX2 : ∀ w ∈ u_ws RX2 TX2 19, w ∈ wsX2_insultsAt := by decide +kernel
  have lk64 : Cond.fieldLink RX2 64 "RiverNamesModel" "bridges" "I" ∈ wsX2_insultsAt := by decide +kernel
  have lk29 : Cond.fieldLink RX2 29 "RiverNamesModel" "at" "[I" ∈ wsX2_insultsAt := by decide +kernel
  have lk53 : Cond.fieldLink RX2 53 "RiverNamesModel" "thrown" "I" ∈ wsX2_insultsAt := by decide +kernel
  have L27 : ∀ (mu_L27 : Nat), ∀ (j t1 : Nat) (g8 g9 g10 g11 : Nat → Int32), (j ≤ b) → (∀ p, p < n → MA n f0 f1 f2 f3 f5 r g9 g10 g11 p) → (t1 = cnb (fun i => decide (f6 i = nI p) && insd (f7 i) (g11 (f6 i).toNatClampNeg)) j) → b - j < mu_L27 → zv_V pP l eE rmX2_insultsAt sS mM aA bB mT cD Q 4 D vwCl A A (tyL cI cZ) (cM cI cZ h 0 (nI n) r y (nI b) f0 f1 f2 f3 f4 f5 f6 f7 g8 g9 g10 g11 f12 f13) 0 0 27 [(0, .ref (h 0)), (1, .int (nI p)), (2, .int (nI t1)), (3, .int (nI j))] [] := by
    intro mu_L27
    induction mu_L27 with
    | zero => intro j t1 g8 g9 g10 g11 hj hM ht hmu_L27; exact absurd hmu_L27 (Nat.not_lt_zero _)
    | succ mu_L27 ih_L27 =>
      intro j t1 g8 g9 g10 g11 hj hM ht hmu_L27
      refine zv_iload_n C dX2_insultsAt_27 28 rfl 3 rfl ?_
      refine zv_aload_n C dX2_insultsAt_28 29 rfl 0 rfl ?_
      refine zv_get (ci := 2) C inX2 rfl dX2_insultsAt_29 32 rfl 0 10 rfl (by decide) lk64 rfl ?_
      refine zv_icmp_ge C dX2_insultsAt_32 35 67 rfl (by decide) (fun c1 => ?_) (fun c1 => ?_)
      · replace c1 := zn_le (a := b) (b := j) (by omega) (by omega) c1
        refine zv_iload_n C dX2_insultsAt_67 68 rfl 2 rfl ?_
        exact zv_iret C hr hlk hQ dX2_insultsAt_68 (by
      have hjn : j = b := (by omega)
      refine ⟨g8, g9, g10, g11, ?_, rfl⟩
      rw [ht, hjn, ← inP_congr hn hB (fun i hi => (MA.sol hD hn hM i hi).2.2)]; rfl)
      · replace c1 := zn_le' (a := b) (b := j) (by omega) (by omega) c1
        refine zv_iload_n C dX2_insultsAt_35 36 rfl 2 rfl ?_
        refine zv_aload_n C dX2_insultsAt_36 37 rfl 0 rfl ?_
        refine zv_get (ci := 2) C inX2 rfl dX2_insultsAt_37 40 rfl 0 11 rfl (by decide) lk29 rfl ?_
        refine zv_iload_n C dX2_insultsAt_40 41 rfl 3 rfl ?_
        refine zv_iald (v := (f6 j)) C dX2_insultsAt_41 42 rfl 7 0 j rfl rfl rfl (by omega) (by decide) rfl ?_
        refine zv_iload_n C dX2_insultsAt_42 43 rfl 1 rfl ?_
        refine zv_icmp_ne C dX2_insultsAt_43 46 58 rfl (by decide) (fun c2 => ?_) (fun c2 => ?_)
        · refine zv_iconst (v := 0) C dX2_insultsAt_58 59 rfl (by decide) ?_
          refine zv_iadd (v := (nI t1)) C dX2_insultsAt_59 60 rfl (Int32.add_zero _) ?_
          refine zv_istore_n C dX2_insultsAt_60 61 rfl [(2, .int (nI t1)), (0, .ref (h 0)), (1, .int (nI p)), (3, .int (nI j))] (by decide) rfl ?_
          refine zv_iinc (v := (nI (j + 1))) C dX2_insultsAt_61 64 rfl [(3, .int (nI (j + 1))), (2, .int (nI t1)), (0, .ref (h 0)), (1, .int (nI p))] 3 rfl (nI_1 j) (by decide) rfl ?_
          refine zv_goto C dX2_insultsAt_64 27 (by decide) ?_
          refine zv_sub [2, 3, 1, 0] (lv' := [(0, .ref (h 0)), (1, .int (nI p)), (2, .int (nI t1)), (3, .int (nI (j + 1)))]) rfl ?_
          exact ih_L27 (j + 1) t1 g8 g9 g10 g11 (by omega) hM (by rw [ht]; exact (cnb_n (fun i => decide (f6 i = nI p) && insd (f7 i) (g11 (f6 i).toNatClampNeg)) (by simp [c2])).symm) (by omega)
        · refine zv_aload_n C dX2_insultsAt_46 47 rfl 0 rfl ?_
          refine zv_iload_n C dX2_insultsAt_47 48 rfl 3 rfl ?_
          refine zv_callVR (rest := [.int (nI t1)]) C (k_X2_insulted l D cI cZ h 0 n r y b f0 f1 f2 f3 f4 f5 f6 f7 g8 g9 g10 g11 f12 f13 j (by omega) (by obtain ⟨q, hq, e⟩ := hB j (by omega); exact ⟨q, by omega, e⟩)) (cwV 1 C.1.2.2.2.2 gX2_insultsAt_X2_insulted rfl rfl rfl (by decide +kernel) ⟨Nat.le_of_ble_eq_true rfl, Nat.le_of_ble_eq_true rfl⟩) dX2_insultsAt_48 51 rfl (ci := 2) 0 rfl rfl rfl rfl (Nat.le_of_ble_eq_true rfl) ⟨Nat.le_of_ble_eq_true rfl, Nat.le_of_ble_eq_true rfl⟩ [0, 1] rfl [0, 1, 2, 3, 4, 5, 6, 7, 8, 9, 10, 11, 12, 13, 14] rfl (by decide) (fun v hv => ?_)
          subst hv
          refine zv_go rfl rfl (st' := [.int (zb (insd (f7 j) (g11 (f6 j).toNatClampNeg))), .int (nI t1)]) rfl (kc' := 0) rfl (ns' := 0) rfl ?_
          refine zv_if_eq C dX2_insultsAt_51 54 58 rfl (by decide) (fun c3 => ?_) (fun c3 => ?_)
          · replace c3 := zb_eq0.mp c3
            refine zv_iconst (v := 0) C dX2_insultsAt_58 59 rfl (by decide) ?_
            refine zv_iadd (v := (nI t1)) C dX2_insultsAt_59 60 rfl (Int32.add_zero _) ?_
            refine zv_istore_n C dX2_insultsAt_60 61 rfl [(2, .int (nI t1)), (0, .ref (h 0)), (1, .int (nI p)), (3, .int (nI j))] (by decide) rfl ?_
            refine zv_iinc (v := (nI (j + 1))) C dX2_insultsAt_61 64 rfl [(3, .int (nI (j + 1))), (2, .int (nI t1)), (0, .ref (h 0)), (1, .int (nI p))] 3 rfl (nI_1 j) (by decide) rfl ?_
            refine zv_goto C dX2_insultsAt_64 27 (by decide) ?_
            refine zv_sub [2, 3, 1, 0] (lv' := [(0, .ref (h 0)), (1, .int (nI p)), (2, .int (nI t1)), (3, .int (nI (j + 1)))]) rfl ?_
            exact ih_L27 (j + 1) t1 g8 g9 g10 g11 (by omega) hM (by rw [ht]; exact (cnb_n (fun i => decide (f6 i = nI p) && insd (f7 i) (g11 (f6 i).toNatClampNeg)) (by simp [c3])).symm) (by omega)
          · replace c3 := zb_ne0.mp c3
            refine zv_iconst (v := 1) C dX2_insultsAt_54 55 rfl (by decide) ?_
            refine zv_goto C dX2_insultsAt_55 59 (by decide) ?_
            refine zv_iadd (v := (nI (t1 + 1))) C dX2_insultsAt_59 60 rfl (nI_1 t1) ?_
            refine zv_istore_n C dX2_insultsAt_60 61 rfl [(2, .int (nI (t1 + 1))), (0, .ref (h 0)), (1, .int (nI p)), (3, .int (nI j))] (by decide) rfl ?_
            refine zv_iinc (v := (nI (j + 1))) C dX2_insultsAt_61 64 rfl [(3, .int (nI (j + 1))), (2, .int (nI (t1 + 1))), (0, .ref (h 0)), (1, .int (nI p))] 3 rfl (nI_1 j) (by decide) rfl ?_
            refine zv_goto C dX2_insultsAt_64 27 (by decide) ?_
            refine zv_sub [2, 3, 1, 0] (lv' := [(0, .ref (h 0)), (1, .int (nI p)), (2, .int (nI (t1 + 1))), (3, .int (nI (j + 1)))]) rfl ?_
            exact ih_L27 (j + 1) (t1 + 1) g8 g9 g10 g11 (by omega) hM (by rw [ht]; exact (cnb_y (fun i => decide (f6 i = nI p) && insd (f7 i) (g11 (f6 i).toNatClampNeg)) (by show (decide (f6 j = nI p) && insd (f7 j) (g11 (f6 j).toNatClampNeg)) = true; rw [c3, Bool.and_true]; exact decide_eq_true c2)).symm) (by omega)
  refine zv_go (pc' := 0) rfl (lv' := [(0, .ref (h 0)), (1, .int (nI p))]) rfl rfl rfl rfl ?_
  refine zv_aload_n C dX2_insultsAt_0 1 rfl 0 rfl ?_
  refine zv_iconst (v := 0) C dX2_insultsAt_1 2 rfl (by decide) ?_
  refine zv_put (ci := 2) C inX2 rfl tyX2_ok nmX2 dX2_insultsAt_2 5 rfl 0 0 rfl (by decide) lk53 rfl rfl rfl (Nat.le_of_ble_eq_true rfl) (cM cI cZ h 0 (nI n) r y (nI b) f0 f1 f2 f3 f4 f5 f6 f7 f8 f9 f10 f11 f12 f13) rfl ?_
  refine zv_aload_n C dX2_insultsAt_5 6 rfl 0 rfl ?_
  refine zv_iload_n C dX2_insultsAt_6 7 rfl 1 rfl ?_
  refine zv_callVR (rest := []) C (k_X2_isPlace l D cI cZ h 0 n r y b f0 f1 f2 f3 f4 f5 f6 f7 f8 f9 f10 f11 f12 f13 (nI p) (by omega)) (cwV 1 C.1.2.2.2.2 gX2_insultsAt_X2_isPlace rfl rfl rfl (by decide +kernel) ⟨Nat.le_of_ble_eq_true rfl, Nat.le_of_ble_eq_true rfl⟩) dX2_insultsAt_7 10 rfl (ci := 2) 0 rfl rfl rfl rfl (Nat.le_of_ble_eq_true rfl) ⟨Nat.le_of_ble_eq_true rfl, Nat.le_of_ble_eq_true rfl⟩ [0, 1] rfl [0, 1, 2, 3, 4, 5, 6, 7, 8, 9, 10, 11, 12, 13, 14] rfl (by decide) (fun v hv => ?_)
  subst hv
  refine zv_go rfl rfl (st' := [.int (zb (isP n (nI p)))]) rfl (kc' := 0) rfl (ns' := 0) rfl ?_
  refine zv_if_ne C dX2_insultsAt_10 13 19 rfl (by decide) (fun c4 => ?_) (fun c4 => ?_)
  · refine zv_aload_n C dX2_insultsAt_19 20 rfl 0 rfl ?_
    refine zv_callV (rest := []) (wr := []) C (k_X2_reckon l D cI cZ h 0 n r y b f0 f1 f2 f3 f4 f5 f6 f7 f8 f9 f10 f11 f12 f13 s d (by omega) (by assumption)) (cwV 0 C.1.2.2.2.2 gX2_insultsAt_X2_reckon rfl rfl rfl (by decide +kernel) ⟨Nat.le_of_ble_eq_true rfl, Nat.le_of_ble_eq_true rfl⟩) dX2_insultsAt_20 23 rfl (ci := 2) 0 rfl rfl rfl rfl (Nat.le_of_ble_eq_true rfl) ⟨Nat.le_of_ble_eq_true rfl, Nat.le_of_ble_eq_true rfl⟩ [0, 1] rfl [0, 1, 2, 3, 4, 5, 6, 7, 8, 9, 10, 11, 12, 13, 14] rfl (by decide) [] rfl (by decide) (by decide +kernel) (fun v w hv => ?_)
    obtain ⟨u8_76, u9_76, u10_76, u11_76, rfl, rfl, huM76⟩ := hv
    refine zv_go rfl rfl (st' := []) rfl (kc' := 0) rfl (ns' := 0) rfl ?_
    refine zv_wd (ws' := (cM cI cZ h 0 (nI n) r y (nI b) f0 f1 f2 f3 f4 f5 f6 f7 u8_76 u9_76 u10_76 u11_76 f12 f13)) rfl ?_
    refine zv_iconst (v := 0) C dX2_insultsAt_23 24 rfl (by decide) ?_
    refine zv_istore_n C dX2_insultsAt_24 25 rfl [(2, .int 0), (0, .ref (h 0)), (1, .int (nI p))] (by decide) rfl ?_
    refine zv_iconst (v := 0) C dX2_insultsAt_25 26 rfl (by decide) ?_
    refine zv_istore_n C dX2_insultsAt_26 27 rfl [(3, .int 0), (2, .int 0), (0, .ref (h 0)), (1, .int (nI p))] (by decide) rfl ?_
    refine zv_sub [2, 3, 1, 0] (lv' := [(0, .ref (h 0)), (1, .int (nI p)), (2, .int 0), (3, .int 0)]) rfl ?_
    exact L27 _ 0 0 u8_76 u9_76 u10_76 u11_76 (Nat.zero_le b) huM76 rfl (Nat.lt_succ_self _)
  · exact absurd (isP_nI (by omega) hp) (by rw [zb_eq0.mp c4]; decide)
set_option maxHeartbeats 4000000 in
set_option maxRecDepth 100000 in
theorem k_X2_insultsAt_no (l : Launch) (D : va_G) (cI cZ : ClassId) (h : Nat → Nat) (t : Int32) (n : Nat) (r y : Int32) (b : Nat) (f0 f1 f2 f3 f4 f5 f6 f7 f8 f9 f10 f11 f12 f13 : Nat → Int32) (i : Int32) (hn : n ≤ 16) (hf : isP n i = false) : zv_M l yX2_insultsAt wsX2_insultsAt rmX2_insultsAt D vwCl (tyL cI cZ) [.ref (h 0), .int i] (cM cI cZ h t (nI n) r y (nI b) f0 f1 f2 f3 f4 f5 f6 f7 f8 f9 f10 f11 f12 f13) (fun v w => v = some (.int 0) ∧ w = (cM cI cZ h 1 (nI n) r y (nI b) f0 f1 f2 f3 f4 f5 f6 f7 f8 f9 f10 f11 f12 f13)) := by
  refine zv_M.of cX2_insultsAt 4 (some .int) (by decide) rfl (Nat.le_of_ble_eq_true rfl) ?_
  intro pP eE sS mM aA bB mT cD A C hr hlk hnm Q hQ
  have inX2 : ∀ w ∈ u_ws RX2 TX2 19, w ∈ wsX2_insultsAt := by decide +kernel
  have lk53 : Cond.fieldLink RX2 53 "RiverNamesModel" "thrown" "I" ∈ wsX2_insultsAt := by decide +kernel
  refine zv_go (pc' := 0) rfl (lv' := [(0, .ref (h 0)), (1, .int i)]) rfl rfl rfl rfl ?_
  refine zv_aload_n C dX2_insultsAt_0 1 rfl 0 rfl ?_
  refine zv_iconst (v := 0) C dX2_insultsAt_1 2 rfl (by decide) ?_
  refine zv_put (ci := 2) C inX2 rfl tyX2_ok nmX2 dX2_insultsAt_2 5 rfl 0 0 rfl (by decide) lk53 rfl rfl rfl (Nat.le_of_ble_eq_true rfl) (cM cI cZ h 0 (nI n) r y (nI b) f0 f1 f2 f3 f4 f5 f6 f7 f8 f9 f10 f11 f12 f13) rfl ?_
  refine zv_aload_n C dX2_insultsAt_5 6 rfl 0 rfl ?_
  refine zv_iload_n C dX2_insultsAt_6 7 rfl 1 rfl ?_
  refine zv_callVR (rest := []) C (k_X2_isPlace l D cI cZ h 0 n r y b f0 f1 f2 f3 f4 f5 f6 f7 f8 f9 f10 f11 f12 f13 i (by omega)) (cwV 1 C.1.2.2.2.2 gX2_insultsAt_X2_isPlace rfl rfl rfl (by decide +kernel) ⟨Nat.le_of_ble_eq_true rfl, Nat.le_of_ble_eq_true rfl⟩) dX2_insultsAt_7 10 rfl (ci := 2) 0 rfl rfl rfl rfl (Nat.le_of_ble_eq_true rfl) ⟨Nat.le_of_ble_eq_true rfl, Nat.le_of_ble_eq_true rfl⟩ [0, 1] rfl [0, 1, 2, 3, 4, 5, 6, 7, 8, 9, 10, 11, 12, 13, 14] rfl (by decide) (fun v hv => ?_)
  subst hv
  refine zv_go rfl rfl (st' := [.int (zb (isP n i))]) rfl (kc' := 0) rfl (ns' := 0) rfl ?_
  refine zv_if_ne C dX2_insultsAt_10 13 19 rfl (by decide) (fun c1 => ?_) (fun c1 => ?_)
  · exact absurd hf (by rw [zb_ne0.mp c1]; decide)
  · refine zv_aload_n C dX2_insultsAt_13 14 rfl 0 rfl ?_
    refine zv_iconst (v := 1) C dX2_insultsAt_14 15 rfl (by decide) ?_
    refine zv_callV (rest := []) (wr := []) C (k_X2_no l D cI cZ h 0 n r y b f0 f1 f2 f3 f4 f5 f6 f7 f8 f9 f10 f11 f12 f13 1) (cwV 1 C.1.2.2.2.2 gX2_insultsAt_X2_no rfl rfl rfl (by decide +kernel) ⟨Nat.le_of_ble_eq_true rfl, Nat.le_of_ble_eq_true rfl⟩) dX2_insultsAt_15 18 rfl (ci := 2) 0 rfl rfl rfl rfl (Nat.le_of_ble_eq_true rfl) ⟨Nat.le_of_ble_eq_true rfl, Nat.le_of_ble_eq_true rfl⟩ [0, 1] rfl [0, 1, 2, 3, 4, 5, 6, 7, 8, 9, 10, 11, 12, 13, 14] rfl (by decide) [] rfl (by decide) (by decide +kernel) (fun v w hv => ?_)
    obtain ⟨rfl, rfl⟩ := hv
    refine zv_go rfl rfl (st' := [.int 0]) rfl (kc' := 0) rfl (ns' := 0) rfl ?_
    refine zv_wd (ws' := (cM cI cZ h 1 (nI n) r y (nI b) f0 f1 f2 f3 f4 f5 f6 f7 f8 f9 f10 f11 f12 f13)) rfl ?_
    exact zv_iret C hr hlk hQ dX2_insultsAt_18 ⟨rfl, rfl⟩
abbrev rmX2_build : Room := { frames := 4, cells := 0, slots := 0, locals := 90 }
set_option maxHeartbeats 4000000 in
set_option maxRecDepth 100000 in
theorem k_X2_build_ok (l : Launch) (D : va_G) (cI cZ : ClassId) (h : Nat → Nat) (t : Int32) (n : Nat) (r y : Int32) (b : Nat) (f0 f1 f2 f3 f4 f5 f6 f7 f8 f9 f10 f11 f12 f13 : Nat → Int32) (p : Nat) (s : Nat → Int32) (d : Nat → Nat) (hn : n ≤ 16) (hD : Dep n f0 s d) (hp : p < n) (hb : b < 16) : zv_M l yX2_build wsX2_build rmX2_build D vwCl (tyL cI cZ) [.ref (h 0), .int (nI p)] (cM cI cZ h t (nI n) r y (nI b) f0 f1 f2 f3 f4 f5 f6 f7 f8 f9 f10 f11 f12 f13) (fun v w => ∃ (g8 g9 g10 g11 g7 : Nat → Int32), v = some (.int (nI b)) ∧ w = (cM cI cZ h 0 (nI n) r y (nI (b + 1)) f0 f1 f2 f3 f4 f5 (upd f6 b (nI p)) g7 g8 g9 g10 g11 f12 f13) ∧ (g7 = upd f7 b ((nmS n f0 f1 f2 f3 f5 r) p))) := by
  refine zv_M.of cX2_build 2 (some .int) (by decide) rfl (Nat.le_of_ble_eq_true rfl) ?_
  intro pP eE sS mM aA bB mT cD A C hr hlk hnm Q hQ
  have inX2 : ∀ w ∈ u_ws RX2 TX2 19, w ∈ wsX2_build := by decide +kernel
  have lk53 : Cond.fieldLink RX2 53 "RiverNamesModel" "thrown" "I" ∈ wsX2_build := by decide +kernel
  have lk64 : Cond.fieldLink RX2 64 "RiverNamesModel" "bridges" "I" ∈ wsX2_build := by decide +kernel
  have lk29 : Cond.fieldLink RX2 29 "RiverNamesModel" "at" "[I" ∈ wsX2_build := by decide +kernel
  have lk32 : Cond.fieldLink RX2 32 "RiverNamesModel" "kept" "[I" ∈ wsX2_build := by decide +kernel
  have lk44 : Cond.fieldLink RX2 44 "RiverNamesModel" "name" "[I" ∈ wsX2_build := by decide +kernel
  refine zv_go (pc' := 0) rfl (lv' := [(0, .ref (h 0)), (1, .int (nI p))]) rfl rfl rfl rfl ?_
  refine zv_aload_n C dX2_build_0 1 rfl 0 rfl ?_
  refine zv_iconst (v := 0) C dX2_build_1 2 rfl (by decide) ?_
  refine zv_put (ci := 2) C inX2 rfl tyX2_ok nmX2 dX2_build_2 5 rfl 0 0 rfl (by decide) lk53 rfl rfl rfl (Nat.le_of_ble_eq_true rfl) (cM cI cZ h 0 (nI n) r y (nI b) f0 f1 f2 f3 f4 f5 f6 f7 f8 f9 f10 f11 f12 f13) rfl ?_
  refine zv_aload_n C dX2_build_5 6 rfl 0 rfl ?_
  refine zv_iload_n C dX2_build_6 7 rfl 1 rfl ?_
  refine zv_callVR (rest := []) C (k_X2_isPlace l D cI cZ h 0 n r y b f0 f1 f2 f3 f4 f5 f6 f7 f8 f9 f10 f11 f12 f13 (nI p) (by omega)) (cwV 1 C.1.2.2.2.2 gX2_build_X2_isPlace rfl rfl rfl (by decide +kernel) ⟨Nat.le_of_ble_eq_true rfl, Nat.le_of_ble_eq_true rfl⟩) dX2_build_7 10 rfl (ci := 2) 0 rfl rfl rfl rfl (Nat.le_of_ble_eq_true rfl) ⟨Nat.le_of_ble_eq_true rfl, Nat.le_of_ble_eq_true rfl⟩ [0, 1] rfl [0, 1, 2, 3, 4, 5, 6, 7, 8, 9, 10, 11, 12, 13, 14] rfl (by decide) (fun v hv => ?_)
  subst hv
  refine zv_go rfl rfl (st' := [.int (zb (isP n (nI p)))]) rfl (kc' := 0) rfl (ns' := 0) rfl ?_
  refine zv_if_ne C dX2_build_10 13 19 rfl (by decide) (fun c1 => ?_) (fun c1 => ?_)
  · refine zv_aload_n C dX2_build_19 20 rfl 0 rfl ?_
    refine zv_get (ci := 2) C inX2 rfl dX2_build_20 23 rfl 0 10 rfl (by decide) lk64 rfl ?_
    refine zv_bipush (v := 16) C dX2_build_23 25 rfl (by decide) ?_
    refine zv_icmp_ne C dX2_build_25 28 34 rfl (by decide) (fun c2 => ?_) (fun c2 => ?_)
    · refine zv_aload_n C dX2_build_34 35 rfl 0 rfl ?_
      refine zv_callV (rest := []) (wr := []) C (k_X2_reckon l D cI cZ h 0 n r y b f0 f1 f2 f3 f4 f5 f6 f7 f8 f9 f10 f11 f12 f13 s d (by omega) (by assumption)) (cwV 0 C.1.2.2.2.2 gX2_build_X2_reckon rfl rfl rfl (by decide +kernel) ⟨Nat.le_of_ble_eq_true rfl, Nat.le_of_ble_eq_true rfl⟩) dX2_build_35 38 rfl (ci := 2) 0 rfl rfl rfl rfl (Nat.le_of_ble_eq_true rfl) ⟨Nat.le_of_ble_eq_true rfl, Nat.le_of_ble_eq_true rfl⟩ [0, 1] rfl [0, 1, 2, 3, 4, 5, 6, 7, 8, 9, 10, 11, 12, 13, 14] rfl (by decide) [] rfl (by decide) (by decide +kernel) (fun v w hv => ?_)
      obtain ⟨u8_78, u9_78, u10_78, u11_78, rfl, rfl, huM78⟩ := hv
      refine zv_go rfl rfl (st' := []) rfl (kc' := 0) rfl (ns' := 0) rfl ?_
      refine zv_wd (ws' := (cM cI cZ h 0 (nI n) r y (nI b) f0 f1 f2 f3 f4 f5 f6 f7 u8_78 u9_78 u10_78 u11_78 f12 f13)) rfl ?_
      refine zv_aload_n C dX2_build_38 39 rfl 0 rfl ?_
      refine zv_get (ci := 2) C inX2 rfl dX2_build_39 42 rfl 0 11 rfl (by decide) lk29 rfl ?_
      refine zv_aload_n C dX2_build_42 43 rfl 0 rfl ?_
      refine zv_get (ci := 2) C inX2 rfl dX2_build_43 46 rfl 0 10 rfl (by decide) lk64 rfl ?_
      refine zv_iload_n C dX2_build_46 47 rfl 1 rfl ?_
      refine zv_iast (x' := (nI p)) C dX2_build_47 48 rfl 7 0 b rfl rfl rfl (by omega) (by decide) rfl (cM cI cZ h 0 (nI n) r y (nI b) f0 f1 f2 f3 f4 f5 (upd f6 b (nI p)) f7 u8_78 u9_78 u10_78 u11_78 f12 f13) rfl ?_
      refine zv_aload_n C dX2_build_48 49 rfl 0 rfl ?_
      refine zv_get (ci := 2) C inX2 rfl dX2_build_49 52 rfl 0 12 rfl (by decide) lk32 rfl ?_
      refine zv_aload_n C dX2_build_52 53 rfl 0 rfl ?_
      refine zv_get (ci := 2) C inX2 rfl dX2_build_53 56 rfl 0 10 rfl (by decide) lk64 rfl ?_
      refine zv_aload_n C dX2_build_56 57 rfl 0 rfl ?_
      refine zv_get (ci := 2) C inX2 rfl dX2_build_57 60 rfl 0 16 rfl (by decide) lk44 rfl ?_
      refine zv_iload_n C dX2_build_60 61 rfl 1 rfl ?_
      refine zv_iald (v := (u11_78 p)) C dX2_build_61 62 rfl 12 0 p rfl rfl rfl (by omega) (by decide) rfl ?_
      refine zv_iast (x' := (u11_78 p)) C dX2_build_62 63 rfl 8 0 b rfl rfl rfl (by omega) (by decide) rfl (cM cI cZ h 0 (nI n) r y (nI b) f0 f1 f2 f3 f4 f5 (upd f6 b (nI p)) (upd f7 b (u11_78 p)) u8_78 u9_78 u10_78 u11_78 f12 f13) rfl ?_
      refine zv_aload_n C dX2_build_63 64 rfl 0 rfl ?_
      refine zv_dup C dX2_build_64 65 rfl rfl ?_
      refine zv_get (ci := 2) C inX2 rfl dX2_build_65 68 rfl 0 10 rfl (by decide) lk64 rfl ?_
      refine zv_iconst (v := 1) C dX2_build_68 69 rfl (by decide) ?_
      refine zv_iadd (v := (nI (b + 1))) C dX2_build_69 70 rfl (nI_1 b) ?_
      refine zv_put (ci := 2) C inX2 rfl tyX2_ok nmX2 dX2_build_70 73 rfl 0 10 rfl (by decide) lk64 rfl rfl rfl (Nat.le_of_ble_eq_true rfl) (cM cI cZ h 0 (nI n) r y (nI (b + 1)) f0 f1 f2 f3 f4 f5 (upd f6 b (nI p)) (upd f7 b (u11_78 p)) u8_78 u9_78 u10_78 u11_78 f12 f13) rfl ?_
      refine zv_aload_n C dX2_build_73 74 rfl 0 rfl ?_
      refine zv_get (ci := 2) C inX2 rfl dX2_build_74 77 rfl 0 10 rfl (by decide) lk64 rfl ?_
      refine zv_iconst (v := 1) C dX2_build_77 78 rfl (by decide) ?_
      refine zv_isub (v := (nI b)) C dX2_build_78 79 rfl (nI_pred b) ?_
      exact zv_iret C hr hlk hQ dX2_build_79 ⟨u8_78, u9_78, u10_78, u11_78, (upd f7 b (u11_78 p)), rfl, rfl, (by rw [(MA.sol hD hn huM78 p hp).2.2])⟩
    · exact absurd (zn_eq (a := b) (b := 16) (by omega) (by omega) c2) (by omega)
  · exact absurd (isP_nI (by omega) hp) (by rw [zb_eq0.mp c1]; decide)
set_option maxHeartbeats 4000000 in
set_option maxRecDepth 100000 in
theorem k_X2_build_n1 (l : Launch) (D : va_G) (cI cZ : ClassId) (h : Nat → Nat) (t : Int32) (n : Nat) (r y : Int32) (b : Nat) (f0 f1 f2 f3 f4 f5 f6 f7 f8 f9 f10 f11 f12 f13 : Nat → Int32) (i : Int32) (hn : n ≤ 16) (hf : isP n i = false) : zv_M l yX2_build wsX2_build rmX2_build D vwCl (tyL cI cZ) [.ref (h 0), .int i] (cM cI cZ h t (nI n) r y (nI b) f0 f1 f2 f3 f4 f5 f6 f7 f8 f9 f10 f11 f12 f13) (fun v w => v = some (.int 0) ∧ w = (cM cI cZ h 1 (nI n) r y (nI b) f0 f1 f2 f3 f4 f5 f6 f7 f8 f9 f10 f11 f12 f13)) := by
  refine zv_M.of cX2_build 2 (some .int) (by decide) rfl (Nat.le_of_ble_eq_true rfl) ?_
  intro pP eE sS mM aA bB mT cD A C hr hlk hnm Q hQ
  have inX2 : ∀ w ∈ u_ws RX2 TX2 19, w ∈ wsX2_build := by decide +kernel
  have lk53 : Cond.fieldLink RX2 53 "RiverNamesModel" "thrown" "I" ∈ wsX2_build := by decide +kernel
  refine zv_go (pc' := 0) rfl (lv' := [(0, .ref (h 0)), (1, .int i)]) rfl rfl rfl rfl ?_
  refine zv_aload_n C dX2_build_0 1 rfl 0 rfl ?_
  refine zv_iconst (v := 0) C dX2_build_1 2 rfl (by decide) ?_
  refine zv_put (ci := 2) C inX2 rfl tyX2_ok nmX2 dX2_build_2 5 rfl 0 0 rfl (by decide) lk53 rfl rfl rfl (Nat.le_of_ble_eq_true rfl) (cM cI cZ h 0 (nI n) r y (nI b) f0 f1 f2 f3 f4 f5 f6 f7 f8 f9 f10 f11 f12 f13) rfl ?_
  refine zv_aload_n C dX2_build_5 6 rfl 0 rfl ?_
  refine zv_iload_n C dX2_build_6 7 rfl 1 rfl ?_
  refine zv_callVR (rest := []) C (k_X2_isPlace l D cI cZ h 0 n r y b f0 f1 f2 f3 f4 f5 f6 f7 f8 f9 f10 f11 f12 f13 i (by omega)) (cwV 1 C.1.2.2.2.2 gX2_build_X2_isPlace rfl rfl rfl (by decide +kernel) ⟨Nat.le_of_ble_eq_true rfl, Nat.le_of_ble_eq_true rfl⟩) dX2_build_7 10 rfl (ci := 2) 0 rfl rfl rfl rfl (Nat.le_of_ble_eq_true rfl) ⟨Nat.le_of_ble_eq_true rfl, Nat.le_of_ble_eq_true rfl⟩ [0, 1] rfl [0, 1, 2, 3, 4, 5, 6, 7, 8, 9, 10, 11, 12, 13, 14] rfl (by decide) (fun v hv => ?_)
  subst hv
  refine zv_go rfl rfl (st' := [.int (zb (isP n i))]) rfl (kc' := 0) rfl (ns' := 0) rfl ?_
  refine zv_if_ne C dX2_build_10 13 19 rfl (by decide) (fun c1 => ?_) (fun c1 => ?_)
  · exact absurd hf (by rw [zb_ne0.mp c1]; decide)
  · refine zv_aload_n C dX2_build_13 14 rfl 0 rfl ?_
    refine zv_iconst (v := 1) C dX2_build_14 15 rfl (by decide) ?_
    refine zv_callV (rest := []) (wr := []) C (k_X2_no l D cI cZ h 0 n r y b f0 f1 f2 f3 f4 f5 f6 f7 f8 f9 f10 f11 f12 f13 1) (cwV 1 C.1.2.2.2.2 gX2_build_X2_no rfl rfl rfl (by decide +kernel) ⟨Nat.le_of_ble_eq_true rfl, Nat.le_of_ble_eq_true rfl⟩) dX2_build_15 18 rfl (ci := 2) 0 rfl rfl rfl rfl (Nat.le_of_ble_eq_true rfl) ⟨Nat.le_of_ble_eq_true rfl, Nat.le_of_ble_eq_true rfl⟩ [0, 1] rfl [0, 1, 2, 3, 4, 5, 6, 7, 8, 9, 10, 11, 12, 13, 14] rfl (by decide) [] rfl (by decide) (by decide +kernel) (fun v w hv => ?_)
    obtain ⟨rfl, rfl⟩ := hv
    refine zv_go rfl rfl (st' := [.int 0]) rfl (kc' := 0) rfl (ns' := 0) rfl ?_
    refine zv_wd (ws' := (cM cI cZ h 1 (nI n) r y (nI b) f0 f1 f2 f3 f4 f5 f6 f7 f8 f9 f10 f11 f12 f13)) rfl ?_
    exact zv_iret C hr hlk hQ dX2_build_18 ⟨rfl, rfl⟩
set_option maxHeartbeats 4000000 in
set_option maxRecDepth 100000 in
theorem k_X2_build_n2 (l : Launch) (D : va_G) (cI cZ : ClassId) (h : Nat → Nat) (t : Int32) (n : Nat) (r y : Int32) (b : Nat) (f0 f1 f2 f3 f4 f5 f6 f7 f8 f9 f10 f11 f12 f13 : Nat → Int32) (p : Nat) (hn : n ≤ 16) (hp : p < n) (hb : b = 16) : zv_M l yX2_build wsX2_build rmX2_build D vwCl (tyL cI cZ) [.ref (h 0), .int (nI p)] (cM cI cZ h t (nI n) r y (nI b) f0 f1 f2 f3 f4 f5 f6 f7 f8 f9 f10 f11 f12 f13) (fun v w => v = some (.int 0) ∧ w = (cM cI cZ h 2 (nI n) r y (nI b) f0 f1 f2 f3 f4 f5 f6 f7 f8 f9 f10 f11 f12 f13)) := by
  refine zv_M.of cX2_build 2 (some .int) (by decide) rfl (Nat.le_of_ble_eq_true rfl) ?_
  intro pP eE sS mM aA bB mT cD A C hr hlk hnm Q hQ
  have inX2 : ∀ w ∈ u_ws RX2 TX2 19, w ∈ wsX2_build := by decide +kernel
  have lk53 : Cond.fieldLink RX2 53 "RiverNamesModel" "thrown" "I" ∈ wsX2_build := by decide +kernel
  have lk64 : Cond.fieldLink RX2 64 "RiverNamesModel" "bridges" "I" ∈ wsX2_build := by decide +kernel
  refine zv_go (pc' := 0) rfl (lv' := [(0, .ref (h 0)), (1, .int (nI p))]) rfl rfl rfl rfl ?_
  refine zv_aload_n C dX2_build_0 1 rfl 0 rfl ?_
  refine zv_iconst (v := 0) C dX2_build_1 2 rfl (by decide) ?_
  refine zv_put (ci := 2) C inX2 rfl tyX2_ok nmX2 dX2_build_2 5 rfl 0 0 rfl (by decide) lk53 rfl rfl rfl (Nat.le_of_ble_eq_true rfl) (cM cI cZ h 0 (nI n) r y (nI b) f0 f1 f2 f3 f4 f5 f6 f7 f8 f9 f10 f11 f12 f13) rfl ?_
  refine zv_aload_n C dX2_build_5 6 rfl 0 rfl ?_
  refine zv_iload_n C dX2_build_6 7 rfl 1 rfl ?_
  refine zv_callVR (rest := []) C (k_X2_isPlace l D cI cZ h 0 n r y b f0 f1 f2 f3 f4 f5 f6 f7 f8 f9 f10 f11 f12 f13 (nI p) (by omega)) (cwV 1 C.1.2.2.2.2 gX2_build_X2_isPlace rfl rfl rfl (by decide +kernel) ⟨Nat.le_of_ble_eq_true rfl, Nat.le_of_ble_eq_true rfl⟩) dX2_build_7 10 rfl (ci := 2) 0 rfl rfl rfl rfl (Nat.le_of_ble_eq_true rfl) ⟨Nat.le_of_ble_eq_true rfl, Nat.le_of_ble_eq_true rfl⟩ [0, 1] rfl [0, 1, 2, 3, 4, 5, 6, 7, 8, 9, 10, 11, 12, 13, 14] rfl (by decide) (fun v hv => ?_)
  subst hv
  refine zv_go rfl rfl (st' := [.int (zb (isP n (nI p)))]) rfl (kc' := 0) rfl (ns' := 0) rfl ?_
  refine zv_if_ne C dX2_build_10 13 19 rfl (by decide) (fun c1 => ?_) (fun c1 => ?_)
  · refine zv_aload_n C dX2_build_19 20 rfl 0 rfl ?_
    refine zv_get (ci := 2) C inX2 rfl dX2_build_20 23 rfl 0 10 rfl (by decide) lk64 rfl ?_
    refine zv_bipush (v := 16) C dX2_build_23 25 rfl (by decide) ?_
    refine zv_icmp_ne C dX2_build_25 28 34 rfl (by decide) (fun c2 => ?_) (fun c2 => ?_)
    · exact absurd (by rw [hb]; rfl) c2
    · refine zv_aload_n C dX2_build_28 29 rfl 0 rfl ?_
      refine zv_iconst (v := 2) C dX2_build_29 30 rfl (by decide) ?_
      refine zv_callV (rest := []) (wr := []) C (k_X2_no l D cI cZ h 0 n r y b f0 f1 f2 f3 f4 f5 f6 f7 f8 f9 f10 f11 f12 f13 2) (cwV 1 C.1.2.2.2.2 gX2_build_X2_no rfl rfl rfl (by decide +kernel) ⟨Nat.le_of_ble_eq_true rfl, Nat.le_of_ble_eq_true rfl⟩) dX2_build_30 33 rfl (ci := 2) 0 rfl rfl rfl rfl (Nat.le_of_ble_eq_true rfl) ⟨Nat.le_of_ble_eq_true rfl, Nat.le_of_ble_eq_true rfl⟩ [0, 1] rfl [0, 1, 2, 3, 4, 5, 6, 7, 8, 9, 10, 11, 12, 13, 14] rfl (by decide) [] rfl (by decide) (by decide +kernel) (fun v w hv => ?_)
      obtain ⟨rfl, rfl⟩ := hv
      refine zv_go rfl rfl (st' := [.int 0]) rfl (kc' := 0) rfl (ns' := 0) rfl ?_
      refine zv_wd (ws' := (cM cI cZ h 2 (nI n) r y (nI b) f0 f1 f2 f3 f4 f5 f6 f7 f8 f9 f10 f11 f12 f13)) rfl ?_
      exact zv_iret C hr hlk hQ dX2_build_33 ⟨rfl, rfl⟩
  · exact absurd (isP_nI (by omega) hp) (by rw [zb_eq0.mp c1]; decide)
