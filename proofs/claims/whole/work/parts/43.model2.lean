abbrev rmX2_springs : Room := { frames := 0, cells := 0, slots := 0, locals := 0 }
set_option maxHeartbeats 4000000 in
set_option maxRecDepth 100000 in
theorem k_X2_springs (l : Launch) (D : va_G) (cI cZ : ClassId) (h : Nat → Nat) (t : Int32) (n : Nat) (r y : Int32) (b : Nat) (f0 f1 f2 f3 f4 f5 f6 f7 f8 f9 f10 f11 f12 f13 : Nat → Int32) (p : Nat) (hp : p < 16) : zv_R l yX2_springs wsX2_springs rmX2_springs D vwCl (tyL cI cZ) [.ref (h 0), .int (nI p)] (cM cI cZ h t (nI n) r y (nI b) f0 f1 f2 f3 f4 f5 f6 f7 f8 f9 f10 f11 f12 f13) (fun v => v = some (.int (zb (sprg f1 f3 p)))) := by
  refine zv_R.of cX2_springs 2 (some .boolean) (by decide) rfl (Nat.le_of_ble_eq_true rfl) ?_
  intro pP eE sS mM aA bB mT cD A C hr hlk hA Q hQ
  have inX2 : ∀ w ∈ u_ws RX2 TX2 19, w ∈ wsX2_springs := by decide +kernel
  have lk13 : Cond.fieldLink RX2 13 "RiverNamesModel" "has" "[Z" ∈ wsX2_springs := by decide +kernel
  have lk20 : Cond.fieldLink RX2 20 "RiverNamesModel" "spring" "[I" ∈ wsX2_springs := by decide +kernel
  refine zv_go (pc' := 0) rfl (lv' := [(0, .ref (h 0)), (1, .int (nI p))]) rfl rfl rfl rfl ?_
  refine zv_aload_n C dX2_springs_0 1 rfl 0 rfl ?_
  refine zv_get (ci := 2) C inX2 rfl dX2_springs_1 4 rfl 0 5 rfl (by decide) lk13 rfl ?_
  refine zv_iload_n C dX2_springs_4 5 rfl 1 rfl ?_
  refine zv_zald (v := (f1 p)) C dX2_springs_5 6 rfl 2 1 p rfl rfl rfl (by omega) (by decide) rfl ?_
  refine zv_if_eq C dX2_springs_6 9 22 rfl (by decide) (fun c1 => ?_) (fun c1 => ?_)
  · refine zv_iconst (v := 0) C dX2_springs_22 23 rfl (by decide) ?_
    exact zv_zretR C (by decide) hr hlk hA hQ dX2_springs_23 (by simp [sprg, zb, c1])
  · refine zv_aload_n C dX2_springs_9 10 rfl 0 rfl ?_
    refine zv_get (ci := 2) C inX2 rfl dX2_springs_10 13 rfl 0 7 rfl (by decide) lk20 rfl ?_
    refine zv_iload_n C dX2_springs_13 14 rfl 1 rfl ?_
    refine zv_iald (v := (f3 p)) C dX2_springs_14 15 rfl 4 0 p rfl rfl rfl (by omega) (by decide) rfl ?_
    refine zv_if_le C dX2_springs_15 18 22 rfl (by decide) (fun c2 => ?_) (fun c2 => ?_)
    · refine zv_iconst (v := 0) C dX2_springs_22 23 rfl (by decide) ?_
      exact zv_zretR C (by decide) hr hlk hA hQ dX2_springs_23 (by simp [sprg, zb, c1, c2])
    · refine zv_iconst (v := 1) C dX2_springs_18 19 rfl (by decide) ?_
      refine zv_goto C dX2_springs_19 23 (by decide) ?_
      exact zv_zretR C (by decide) hr hlk hA hQ dX2_springs_23 (by simp [sprg, zb, c1, c2])
abbrev rmX2_worth : Room := { frames := 0, cells := 0, slots := 0, locals := 0 }
set_option maxHeartbeats 4000000 in
set_option maxRecDepth 100000 in
theorem k_X2_worth (l : Launch) (D : va_G) (cI cZ : ClassId) (h : Nat → Nat) (t : Int32) (n : Nat) (r y : Int32) (b : Nat) (f0 f1 f2 f3 f4 f5 f6 f7 f8 f9 f10 f11 f12 f13 : Nat → Int32) (p : Nat) (hp : p < 16) : zv_R l yX2_worth wsX2_worth rmX2_worth D vwCl (tyL cI cZ) [.ref (h 0), .int (nI p)] (cM cI cZ h t (nI n) r y (nI b) f0 f1 f2 f3 f4 f5 f6 f7 f8 f9 f10 f11 f12 f13) (fun v => v = some (.int (wor r f9 f10 p))) := by
  refine zv_R.of cX2_worth 2 (some .int) (by decide) rfl (Nat.le_of_ble_eq_true rfl) ?_
  intro pP eE sS mM aA bB mT cD A C hr hlk hA Q hQ
  have inX2 : ∀ w ∈ u_ws RX2 TX2 19, w ∈ wsX2_worth := by decide +kernel
  have lk75 : Cond.fieldLink RX2 75 "RiverNamesModel" "rule" "I" ∈ wsX2_worth := by decide +kernel
  have lk41 : Cond.fieldLink RX2 41 "RiverNamesModel" "length" "[I" ∈ wsX2_worth := by decide +kernel
  have lk38 : Cond.fieldLink RX2 38 "RiverNamesModel" "water" "[I" ∈ wsX2_worth := by decide +kernel
  refine zv_go (pc' := 0) rfl (lv' := [(0, .ref (h 0)), (1, .int (nI p))]) rfl rfl rfl rfl ?_
  refine zv_aload_n C dX2_worth_0 1 rfl 0 rfl ?_
  refine zv_get (ci := 2) C inX2 rfl dX2_worth_1 4 rfl 0 2 rfl (by decide) lk75 rfl ?_
  refine zv_if_ne C dX2_worth_4 7 16 rfl (by decide) (fun c1 => ?_) (fun c1 => ?_)
  · refine zv_aload_n C dX2_worth_16 17 rfl 0 rfl ?_
    refine zv_get (ci := 2) C inX2 rfl dX2_worth_17 20 rfl 0 15 rfl (by decide) lk41 rfl ?_
    refine zv_iload_n C dX2_worth_20 21 rfl 1 rfl ?_
    refine zv_iald (v := (f10 p)) C dX2_worth_21 22 rfl 11 0 p rfl rfl rfl (by omega) (by decide) rfl ?_
    exact zv_iretR C hr hlk hA hQ dX2_worth_22 (by simp [wor, c1])
  · refine zv_aload_n C dX2_worth_7 8 rfl 0 rfl ?_
    refine zv_get (ci := 2) C inX2 rfl dX2_worth_8 11 rfl 0 14 rfl (by decide) lk38 rfl ?_
    refine zv_iload_n C dX2_worth_11 12 rfl 1 rfl ?_
    refine zv_iald (v := (f9 p)) C dX2_worth_12 13 rfl 10 0 p rfl rfl rfl (by omega) (by decide) rfl ?_
    refine zv_goto C dX2_worth_13 22 (by decide) ?_
    exact zv_iretR C hr hlk hA hQ dX2_worth_22 (by simp [wor, c1])
abbrev rmX2_flow : Room := { frames := 1, cells := 0, slots := 0, locals := 21 }
set_option maxHeartbeats 4000000 in
set_option maxRecDepth 100000 in
theorem k_X2_flow (l : Launch) (D : va_G) (cI cZ : ClassId) (h : Nat → Nat) (t : Int32) (n : Nat) (r y : Int32) (b : Nat) (f0 f1 f2 f3 f4 f5 f6 f7 f8 f9 f10 f11 f12 f13 : Nat → Int32) (p : Nat) (s : Nat → Int32) (d : Nat → Nat) (hn : n ≤ 16) (hD : Dep n f0 s d) (hp : p < n) : zv_M l yX2_flow wsX2_flow rmX2_flow D vwCl (tyL cI cZ) [.ref (h 0), .int (nI p)] (cM cI cZ h t (nI n) r y (nI b) f0 f1 f2 f3 f4 f5 f6 f7 f8 f9 f10 f11 f12 f13) (fun v w => ∃ (g9 g10 : Nat → Int32), v = none ∧ w = (cM cI cZ h t (nI n) r y (nI b) f0 f1 f2 f3 f4 f5 f6 f7 f8 g9 g10 f11 f12 f13) ∧ (∀ j, ¬ j = p → g9 j = f9 j ∧ g10 j = f10 j) ∧ (g9 p = mW f0 f9 (mB f1 f3 p) p n) ∧ (g10 p = mLf (mL f0 f10 p n) (sprg f1 f3 p))) := by
  refine zv_M.of cX2_flow 3 none (by decide) rfl (Nat.le_of_ble_eq_true rfl) ?_
  intro pP eE sS mM aA bB mT cD A C hr hlk hnm Q hQ
  have inX2 : ∀ w ∈ u_ws RX2 TX2 19, w ∈ wsX2_flow := by decide +kernel
  have lk57 : Cond.fieldLink RX2 57 "RiverNamesModel" "places" "I" ∈ wsX2_flow := by decide +kernel
  have lk41 : Cond.fieldLink RX2 41 "RiverNamesModel" "length" "[I" ∈ wsX2_flow := by decide +kernel
  have lk9 : Cond.fieldLink RX2 9 "RiverNamesModel" "to" "[I" ∈ wsX2_flow := by decide +kernel
  have lk38 : Cond.fieldLink RX2 38 "RiverNamesModel" "water" "[I" ∈ wsX2_flow := by decide +kernel
  have mmaxlink : Cond.methodLink RX2 78 Lib.Math.max.name ∈ wsX2_flow := by decide +kernel
  have mmaxstat : Cond.static Lib.Math.max.name ∈ wsX2_flow := by decide +kernel
  have mmaxcode : Cond.code Lib.Math.max.name Lib.Math.max.code 2 (some .int) ∈ wsX2_flow := by decide +kernel
  have mini : Cond.initialized "java/lang/Math" ∈ wsX2_flow := by decide +kernel
  have lk13 : Cond.fieldLink RX2 13 "RiverNamesModel" "has" "[Z" ∈ wsX2_flow := by decide +kernel
  have lk20 : Cond.fieldLink RX2 20 "RiverNamesModel" "spring" "[I" ∈ wsX2_flow := by decide +kernel
  have L34 : ∀ (mu_L34 : Nat), ∀ (j : Nat) (g9 g10 : Nat → Int32), (j ≤ n) → (∀ i, ¬ i = p → g9 i = f9 i ∧ g10 i = f10 i) → (g9 p = mW f0 f9 (mB f1 f3 p) p j) → (g10 p = mL f0 f10 p j) → n - j < mu_L34 → zv_V pP l eE rmX2_flow sS mM aA bB mT cD Q 3 D vwCl A A (tyL cI cZ) (cM cI cZ h t (nI n) r y (nI b) f0 f1 f2 f3 f4 f5 f6 f7 f8 g9 g10 f11 f12 f13) 0 0 34 [(0, .ref (h 0)), (1, .int (nI p)), (2, .int (nI j))] [] := by
    intro mu_L34
    induction mu_L34 with
    | zero => intro j g9 g10 hj ho h9 h10 hmu_L34; exact absurd hmu_L34 (Nat.not_lt_zero _)
    | succ mu_L34 ih_L34 =>
      intro j g9 g10 hj ho h9 h10 hmu_L34
      refine zv_iload_n C dX2_flow_34 35 rfl 2 rfl ?_
      refine zv_aload_n C dX2_flow_35 36 rfl 0 rfl ?_
      refine zv_get (ci := 2) C inX2 rfl dX2_flow_36 39 rfl 0 1 rfl (by decide) lk57 rfl ?_
      refine zv_icmp_ge C dX2_flow_39 42 108 rfl (by decide) (fun c1 => ?_) (fun c1 => ?_)
      · replace c1 := zn_le (a := n) (b := j) (by omega) (by omega) c1
        refine zv_aload_n C dX2_flow_108 109 rfl 0 rfl ?_
        refine zv_get (ci := 2) C inX2 rfl dX2_flow_109 112 rfl 0 15 rfl (by decide) lk41 rfl ?_
        refine zv_iload_n C dX2_flow_112 113 rfl 1 rfl ?_
        refine zv_iald (v := (g10 p)) C dX2_flow_113 114 rfl 11 0 p rfl rfl rfl (by omega) (by decide) rfl ?_
        refine zv_if_ne C dX2_flow_114 117 132 rfl (by decide) (fun c2 => ?_) (fun c2 => ?_)
        · exact zv_vret C hr hlk hQ dX2_flow_132 ⟨g9, g10, rfl, rfl, ho, (by have hjn : j = n := (by omega); rw [← hjn]; exact h9), (by have hjn : j = n := (by omega); rw [← hjn, ← h10]; simp [mLf, c2])⟩
        · refine zv_aload_n C dX2_flow_117 118 rfl 0 rfl ?_
          refine zv_iload_n C dX2_flow_118 119 rfl 1 rfl ?_
          refine zv_callVR (rest := []) C (k_X2_springs l D cI cZ h t n r y b f0 f1 f2 f3 f4 f5 f6 f7 f8 g9 g10 f11 f12 f13 p (by omega)) (cwV 1 C.1.2.2.2.2 gX2_flow_X2_springs rfl rfl rfl (by decide +kernel) ⟨Nat.le_of_ble_eq_true rfl, Nat.le_of_ble_eq_true rfl⟩) dX2_flow_119 122 rfl (ci := 2) 0 rfl rfl rfl rfl (Nat.le_of_ble_eq_true rfl) ⟨Nat.le_of_ble_eq_true rfl, Nat.le_of_ble_eq_true rfl⟩ [0, 1] rfl [0, 1, 2, 3, 4, 5, 6, 7, 8, 9, 10, 11, 12, 13, 14] rfl (by decide) (fun v hv => ?_)
          subst hv
          refine zv_go rfl rfl (st' := [.int (zb (sprg f1 f3 p))]) rfl (kc' := 0) rfl (ns' := 0) rfl ?_
          refine zv_if_eq C dX2_flow_122 125 132 rfl (by decide) (fun c3 => ?_) (fun c3 => ?_)
          · replace c3 := zb_eq0.mp c3
            exact zv_vret C hr hlk hQ dX2_flow_132 ⟨g9, g10, rfl, rfl, ho, (by have hjn : j = n := (by omega); rw [← hjn]; exact h9), (by have hjn : j = n := (by omega); rw [← hjn, ← h10]; simp [mLf, c2, c3])⟩
          · replace c3 := zb_ne0.mp c3
            refine zv_aload_n C dX2_flow_125 126 rfl 0 rfl ?_
            refine zv_get (ci := 2) C inX2 rfl dX2_flow_126 129 rfl 0 15 rfl (by decide) lk41 rfl ?_
            refine zv_iload_n C dX2_flow_129 130 rfl 1 rfl ?_
            refine zv_iconst (v := 1) C dX2_flow_130 131 rfl (by decide) ?_
            refine zv_iast (x' := 1) C dX2_flow_131 132 rfl 11 0 p rfl rfl rfl (by omega) (by decide) rfl (cM cI cZ h t (nI n) r y (nI b) f0 f1 f2 f3 f4 f5 f6 f7 f8 g9 (upd g10 p 1) f11 f12 f13) rfl ?_
            exact zv_vret C hr hlk hQ dX2_flow_132 ⟨g9, (upd g10 p 1), rfl, rfl, (fun i hi => ⟨(ho i hi).1, (upd_ne _ _ _ hi).trans (ho i hi).2⟩), (by have hjn : j = n := (by omega); rw [← hjn]; exact h9), (by have hjn : j = n := (by omega); rw [upd_at, ← hjn, ← h10]; simp [mLf, c2, c3])⟩
      · replace c1 := zn_le' (a := n) (b := j) (by omega) (by omega) c1
        refine zv_aload_n C dX2_flow_42 43 rfl 0 rfl ?_
        refine zv_get (ci := 2) C inX2 rfl dX2_flow_43 46 rfl 0 4 rfl (by decide) lk9 rfl ?_
        refine zv_iload_n C dX2_flow_46 47 rfl 2 rfl ?_
        refine zv_iald (v := (f0 j)) C dX2_flow_47 48 rfl 1 0 j rfl rfl rfl (by omega) (by decide) rfl ?_
        refine zv_iload_n C dX2_flow_48 49 rfl 1 rfl ?_
        refine zv_icmp_eq C dX2_flow_49 52 55 rfl (by decide) (fun c4 => ?_) (fun c4 => ?_)
        · have hjp : ¬ j = p := fun z => by subst z; exact hD.ne hn hp c4
          refine zv_aload_n C dX2_flow_55 56 rfl 0 rfl ?_
          refine zv_get (ci := 2) C inX2 rfl dX2_flow_56 59 rfl 0 14 rfl (by decide) lk38 rfl ?_
          refine zv_iload_n C dX2_flow_59 60 rfl 1 rfl ?_
          refine zv_dup2 C dX2_flow_60 61 rfl rfl rfl ?_
          refine zv_iald (v := (g9 p)) C dX2_flow_61 62 rfl 10 0 p rfl rfl rfl (by omega) (by decide) rfl ?_
          refine zv_aload_n C dX2_flow_62 63 rfl 0 rfl ?_
          refine zv_get (ci := 2) C inX2 rfl dX2_flow_63 66 rfl 0 14 rfl (by decide) lk38 rfl ?_
          refine zv_iload_n C dX2_flow_66 67 rfl 2 rfl ?_
          refine zv_iald (v := (g9 j)) C dX2_flow_67 68 rfl 10 0 j rfl rfl rfl (by omega) (by decide) rfl ?_
          refine zv_iadd (v := ((g9 p) + (g9 j))) C dX2_flow_68 69 rfl rfl ?_
          refine zv_iast (x' := ((g9 p) + (g9 j))) C dX2_flow_69 70 rfl 10 0 p rfl rfl rfl (by omega) (by decide) rfl (cM cI cZ h t (nI n) r y (nI b) f0 f1 f2 f3 f4 f5 f6 f7 f8 (upd g9 p ((g9 p) + (g9 j))) g10 f11 f12 f13) rfl ?_
          refine zv_aload_n C dX2_flow_70 71 rfl 0 rfl ?_
          refine zv_get (ci := 2) C inX2 rfl dX2_flow_71 74 rfl 0 15 rfl (by decide) lk41 rfl ?_
          refine zv_iload_n C dX2_flow_74 75 rfl 2 rfl ?_
          refine zv_iald (v := (g10 j)) C dX2_flow_75 76 rfl 11 0 j rfl rfl rfl (by omega) (by decide) rfl ?_
          refine zv_if_le C dX2_flow_76 79 102 rfl (by decide) (fun c5 => ?_) (fun c5 => ?_)
          · refine zv_iinc (v := (nI (j + 1))) C dX2_flow_102 105 rfl [(2, .int (nI (j + 1))), (0, .ref (h 0)), (1, .int (nI p))] 2 rfl (nI_1 j) (by decide) rfl ?_
            refine zv_goto C dX2_flow_105 34 (by decide) ?_
            refine zv_sub [1, 2, 0] (lv' := [(0, .ref (h 0)), (1, .int (nI p)), (2, .int (nI (j + 1)))]) rfl ?_
            exact ih_L34 (j + 1) (upd g9 p ((g9 p) + (g9 j))) g10 (by omega) (fun i hi => ⟨(upd_ne _ _ _ hi).trans (ho i hi).1, (ho i hi).2⟩) (by rw [upd_at, h9, (ho j hjp).1, mW_y _ _ _ c4]) (by rw [h10, mL_0 _ _ (by rw [← (ho j hjp).2]; exact c5)]) (by omega)
          · refine zv_aload_n C dX2_flow_79 80 rfl 0 rfl ?_
            refine zv_get (ci := 2) C inX2 rfl dX2_flow_80 83 rfl 0 15 rfl (by decide) lk41 rfl ?_
            refine zv_iload_n C dX2_flow_83 84 rfl 1 rfl ?_
            refine zv_aload_n C dX2_flow_84 85 rfl 0 rfl ?_
            refine zv_get (ci := 2) C inX2 rfl dX2_flow_85 88 rfl 0 15 rfl (by decide) lk41 rfl ?_
            refine zv_iload_n C dX2_flow_88 89 rfl 1 rfl ?_
            refine zv_iald (v := (g10 p)) C dX2_flow_89 90 rfl 11 0 p rfl rfl rfl (by omega) (by decide) rfl ?_
            refine zv_aload_n C dX2_flow_90 91 rfl 0 rfl ?_
            refine zv_get (ci := 2) C inX2 rfl dX2_flow_91 94 rfl 0 15 rfl (by decide) lk41 rfl ?_
            refine zv_iload_n C dX2_flow_94 95 rfl 2 rfl ?_
            refine zv_iald (v := (g10 j)) C dX2_flow_95 96 rfl 11 0 j rfl rfl rfl (by omega) (by decide) rfl ?_
            refine zv_iconst (v := 1) C dX2_flow_96 97 rfl (by decide) ?_
            refine zv_iadd (v := ((g10 j) + 1)) C dX2_flow_97 98 rfl rfl ?_
            refine zv_mmax C dX2_flow_98 101 rfl mmaxlink mmaxstat mini mmaxcode (Nat.le_of_ble_eq_true rfl) (Nat.le_of_ble_eq_true rfl) (Nat.le_of_ble_eq_true rfl) (Nat.le_of_ble_eq_true rfl) ?_
            refine zv_iast (x' := (if (g10 p) < ((g10 j) + 1) then ((g10 j) + 1) else (g10 p))) C dX2_flow_101 102 rfl 11 0 p rfl rfl rfl (by omega) (by decide) rfl (cM cI cZ h t (nI n) r y (nI b) f0 f1 f2 f3 f4 f5 f6 f7 f8 (upd g9 p ((g9 p) + (g9 j))) (upd g10 p (if (g10 p) < ((g10 j) + 1) then ((g10 j) + 1) else (g10 p))) f11 f12 f13) rfl ?_
            refine zv_iinc (v := (nI (j + 1))) C dX2_flow_102 105 rfl [(2, .int (nI (j + 1))), (0, .ref (h 0)), (1, .int (nI p))] 2 rfl (nI_1 j) (by decide) rfl ?_
            refine zv_goto C dX2_flow_105 34 (by decide) ?_
            refine zv_sub [1, 2, 0] (lv' := [(0, .ref (h 0)), (1, .int (nI p)), (2, .int (nI (j + 1)))]) rfl ?_
            exact ih_L34 (j + 1) (upd g9 p ((g9 p) + (g9 j))) (upd g10 p (if (g10 p) < ((g10 j) + 1) then ((g10 j) + 1) else (g10 p))) (by omega) (fun i hi => ⟨(upd_ne _ _ _ hi).trans (ho i hi).1, (upd_ne _ _ _ hi).trans (ho i hi).2⟩) (by rw [upd_at, h9, (ho j hjp).1, mW_y _ _ _ c4]) (by rw [upd_at, h10, (ho j hjp).2, mL_y _ _ c4 (by rw [← (ho j hjp).2]; exact c5)]) (by omega)
        · refine zv_goto C dX2_flow_52 102 (by decide) ?_
          refine zv_iinc (v := (nI (j + 1))) C dX2_flow_102 105 rfl [(2, .int (nI (j + 1))), (0, .ref (h 0)), (1, .int (nI p))] 2 rfl (nI_1 j) (by decide) rfl ?_
          refine zv_goto C dX2_flow_105 34 (by decide) ?_
          refine zv_sub [1, 2, 0] (lv' := [(0, .ref (h 0)), (1, .int (nI p)), (2, .int (nI (j + 1)))]) rfl ?_
          exact ih_L34 (j + 1) g9 g10 (by omega) ho (by rw [h9, mW_n _ _ _ c4]) (by rw [h10, mL_n _ _ c4]) (by omega)
  refine zv_go (pc' := 0) rfl (lv' := [(0, .ref (h 0)), (1, .int (nI p))]) rfl rfl rfl rfl ?_
  refine zv_aload_n C dX2_flow_0 1 rfl 0 rfl ?_
  refine zv_get (ci := 2) C inX2 rfl dX2_flow_1 4 rfl 0 14 rfl (by decide) lk38 rfl ?_
  refine zv_iload_n C dX2_flow_4 5 rfl 1 rfl ?_
  refine zv_aload_n C dX2_flow_5 6 rfl 0 rfl ?_
  refine zv_get (ci := 2) C inX2 rfl dX2_flow_6 9 rfl 0 5 rfl (by decide) lk13 rfl ?_
  refine zv_iload_n C dX2_flow_9 10 rfl 1 rfl ?_
  refine zv_zald (v := (f1 p)) C dX2_flow_10 11 rfl 2 1 p rfl rfl rfl (by omega) (by decide) rfl ?_
  refine zv_if_eq C dX2_flow_11 14 23 rfl (by decide) (fun c6 => ?_) (fun c6 => ?_)
  · refine zv_iconst (v := 0) C dX2_flow_23 24 rfl (by decide) ?_
    refine zv_iast (x' := 0) C dX2_flow_24 25 rfl 10 0 p rfl rfl rfl (by omega) (by decide) rfl (cM cI cZ h t (nI n) r y (nI b) f0 f1 f2 f3 f4 f5 f6 f7 f8 (upd f9 p 0) f10 f11 f12 f13) rfl ?_
    refine zv_aload_n C dX2_flow_25 26 rfl 0 rfl ?_
    refine zv_get (ci := 2) C inX2 rfl dX2_flow_26 29 rfl 0 15 rfl (by decide) lk41 rfl ?_
    refine zv_iload_n C dX2_flow_29 30 rfl 1 rfl ?_
    refine zv_iconst (v := 0) C dX2_flow_30 31 rfl (by decide) ?_
    refine zv_iast (x' := 0) C dX2_flow_31 32 rfl 11 0 p rfl rfl rfl (by omega) (by decide) rfl (cM cI cZ h t (nI n) r y (nI b) f0 f1 f2 f3 f4 f5 f6 f7 f8 (upd f9 p 0) (upd f10 p 0) f11 f12 f13) rfl ?_
    refine zv_iconst (v := 0) C dX2_flow_32 33 rfl (by decide) ?_
    refine zv_istore_n C dX2_flow_33 34 rfl [(2, .int 0), (0, .ref (h 0)), (1, .int (nI p))] (by decide) rfl ?_
    refine zv_sub [1, 2, 0] (lv' := [(0, .ref (h 0)), (1, .int (nI p)), (2, .int 0)]) rfl ?_
    exact L34 _ 0 (upd f9 p 0) (upd f10 p 0) (Nat.zero_le n) (fun i hi => ⟨upd_ne _ _ _ hi, upd_ne _ _ _ hi⟩) (by rw [upd_at]; simp [mW, mB, c6]) (upd_at _ _ _) (Nat.lt_succ_self _)
  · refine zv_aload_n C dX2_flow_14 15 rfl 0 rfl ?_
    refine zv_get (ci := 2) C inX2 rfl dX2_flow_15 18 rfl 0 7 rfl (by decide) lk20 rfl ?_
    refine zv_iload_n C dX2_flow_18 19 rfl 1 rfl ?_
    refine zv_iald (v := (f3 p)) C dX2_flow_19 20 rfl 4 0 p rfl rfl rfl (by omega) (by decide) rfl ?_
    refine zv_goto C dX2_flow_20 24 (by decide) ?_
    refine zv_iast (x' := (f3 p)) C dX2_flow_24 25 rfl 10 0 p rfl rfl rfl (by omega) (by decide) rfl (cM cI cZ h t (nI n) r y (nI b) f0 f1 f2 f3 f4 f5 f6 f7 f8 (upd f9 p (f3 p)) f10 f11 f12 f13) rfl ?_
    refine zv_aload_n C dX2_flow_25 26 rfl 0 rfl ?_
    refine zv_get (ci := 2) C inX2 rfl dX2_flow_26 29 rfl 0 15 rfl (by decide) lk41 rfl ?_
    refine zv_iload_n C dX2_flow_29 30 rfl 1 rfl ?_
    refine zv_iconst (v := 0) C dX2_flow_30 31 rfl (by decide) ?_
    refine zv_iast (x' := 0) C dX2_flow_31 32 rfl 11 0 p rfl rfl rfl (by omega) (by decide) rfl (cM cI cZ h t (nI n) r y (nI b) f0 f1 f2 f3 f4 f5 f6 f7 f8 (upd f9 p (f3 p)) (upd f10 p 0) f11 f12 f13) rfl ?_
    refine zv_iconst (v := 0) C dX2_flow_32 33 rfl (by decide) ?_
    refine zv_istore_n C dX2_flow_33 34 rfl [(2, .int 0), (0, .ref (h 0)), (1, .int (nI p))] (by decide) rfl ?_
    refine zv_sub [1, 2, 0] (lv' := [(0, .ref (h 0)), (1, .int (nI p)), (2, .int 0)]) rfl ?_
    exact L34 _ 0 (upd f9 p (f3 p)) (upd f10 p 0) (Nat.zero_le n) (fun i hi => ⟨upd_ne _ _ _ hi, upd_ne _ _ _ hi⟩) (by rw [upd_at]; simp [mW, mB, c6]) (upd_at _ _ _) (Nat.lt_succ_self _)
abbrev rmX2_named : Room := { frames := 1, cells := 0, slots := 0, locals := 21 }
set_option maxHeartbeats 4000000 in
set_option maxRecDepth 100000 in
theorem k_X2_named (l : Launch) (D : va_G) (cI cZ : ClassId) (h : Nat → Nat) (t : Int32) (n : Nat) (r y : Int32) (b : Nat) (f0 f1 f2 f3 f4 f5 f6 f7 f8 f9 f10 f11 f12 f13 : Nat → Int32) (p : Nat) (hn : n ≤ 16) (hp : p < n) : zv_R l yX2_named wsX2_named rmX2_named D vwCl (tyL cI cZ) [.ref (h 0), .int (nI p)] (cM cI cZ h t (nI n) r y (nI b) f0 f1 f2 f3 f4 f5 f6 f7 f8 f9 f10 f11 f12 f13) (fun v => v = some (.int (nmd f0 f1 f2 f3 f5 f9 f10 f11 r p n))) := by
  refine zv_R.of cX2_named 7 (some .int) (by decide) rfl (Nat.le_of_ble_eq_true rfl) ?_
  intro pP eE sS mM aA bB mT cD A C hr hlk hA Q hQ
  have inX2 : ∀ w ∈ u_ws RX2 TX2 19, w ∈ wsX2_named := by decide +kernel
  have lk57 : Cond.fieldLink RX2 57 "RiverNamesModel" "places" "I" ∈ wsX2_named := by decide +kernel
  have lk9 : Cond.fieldLink RX2 9 "RiverNamesModel" "to" "[I" ∈ wsX2_named := by decide +kernel
  have lk44 : Cond.fieldLink RX2 44 "RiverNamesModel" "name" "[I" ∈ wsX2_named := by decide +kernel
  have lk75 : Cond.fieldLink RX2 75 "RiverNamesModel" "rule" "I" ∈ wsX2_named := by decide +kernel
  have lk17 : Cond.fieldLink RX2 17 "RiverNamesModel" "own" "[I" ∈ wsX2_named := by decide +kernel
  have lk20 : Cond.fieldLink RX2 20 "RiverNamesModel" "spring" "[I" ∈ wsX2_named := by decide +kernel
  have lk26 : Cond.fieldLink RX2 26 "RiverNamesModel" "delta" "[Z" ∈ wsX2_named := by decide +kernel
  have L18 : ∀ (mu_L18 : Nat), ∀ (j : Nat) (bs ms : Int32), (j ≤ n) → (f5 p = 0) → (mN f0 f1 f2 f3 f9 f10 f11 r p j = (bs, ms)) → n - j < mu_L18 → zv_V pP l eE rmX2_named sS mM aA bB mT cD Q 7 D vwCl A (fun _ => True) (tyL cI cZ) (cM cI cZ h t (nI n) r y (nI b) f0 f1 f2 f3 f4 f5 f6 f7 f8 f9 f10 f11 f12 f13) 0 0 18 [(0, .ref (h 0)), (1, .int (nI p)), (2, .int bs), (3, .int ms), (4, .int (nI j))] [] := by
    intro mu_L18
    induction mu_L18 with
    | zero => intro j bs ms hj hd he hmu_L18; exact absurd hmu_L18 (Nat.not_lt_zero _)
    | succ mu_L18 ih_L18 =>
      intro j bs ms hj hd he hmu_L18
      refine zv_iload C dX2_named_18 20 rfl 4 rfl ?_
      refine zv_aload_n C dX2_named_20 21 rfl 0 rfl ?_
      refine zv_get (ci := 2) C inX2 rfl dX2_named_21 24 rfl 0 1 rfl (by decide) lk57 rfl ?_
      refine zv_icmp_ge C dX2_named_24 27 151 rfl (by decide) (fun c1 => ?_) (fun c1 => ?_)
      · replace c1 := zn_le (a := n) (b := j) (by omega) (by omega) c1
        refine zv_iload_n C dX2_named_151 152 rfl 2 rfl ?_
        exact zv_iretR C hr hlk hA hQ dX2_named_152 (by have hjn : j = n := (by omega); rw [nmd, if_neg (fun z => z hd), ← hjn, he])
      · replace c1 := zn_le' (a := n) (b := j) (by omega) (by omega) c1
        refine zv_iload C dX2_named_27 29 rfl 4 rfl ?_
        refine zv_iload_n C dX2_named_29 30 rfl 1 rfl ?_
        refine zv_icmp_ne C dX2_named_30 33 45 rfl (by decide) (fun c2 => ?_) (fun c2 => ?_)
        · replace c2 := zn_eq' (a := j) (b := p) (by omega) (by omega) c2
          refine zv_iconst (v := 0) C dX2_named_45 46 rfl (by decide) ?_
          refine zv_istore C dX2_named_46 48 rfl [(5, .int 0), (0, .ref (h 0)), (1, .int (nI p)), (2, .int bs), (3, .int ms), (4, .int (nI j))] (by decide) rfl ?_
          refine zv_iload C dX2_named_48 50 rfl 0 rfl ?_
          refine zv_if_ne C dX2_named_50 53 78 rfl (by decide) (fun q => absurd (by decide) q) (fun _ => ?_)
          refine zv_aload_n C dX2_named_53 54 rfl 1 rfl ?_
          refine zv_get (ci := 2) C inX2 rfl dX2_named_54 57 rfl 0 4 rfl (by decide) lk9 rfl ?_
          refine zv_iload C dX2_named_57 59 rfl 5 rfl ?_
          refine zv_iald (v := (f0 j)) C dX2_named_59 60 rfl 1 0 j rfl rfl rfl (by omega) (by decide) rfl ?_
          refine zv_iload_n C dX2_named_60 61 rfl 2 rfl ?_
          refine zv_icmp_ne C dX2_named_61 64 145 rfl (by decide) (fun c3 => ?_) (fun c3 => ?_)
          · refine zv_iinc (v := (nI (j + 1))) C dX2_named_145 148 rfl [(4, .int (nI (j + 1))), (5, .int 0), (0, .ref (h 0)), (1, .int (nI p)), (2, .int bs), (3, .int ms)] 5 rfl (nI_1 j) (by decide) rfl ?_
            refine zv_goto C dX2_named_148 18 (by decide) ?_
            refine zv_sub [2, 3, 4, 5, 0] (lv' := [(0, .ref (h 0)), (1, .int (nI p)), (2, .int bs), (3, .int ms), (4, .int (nI (j + 1)))]) rfl ?_
            exact ih_L18 (j + 1) bs ms (by omega) hd (by rw [mN_s1 (by simp [c2]) c3, he]) (by omega)
          · refine zv_aload_n C dX2_named_64 65 rfl 1 rfl ?_
            refine zv_get (ci := 2) C inX2 rfl dX2_named_65 68 rfl 0 16 rfl (by decide) lk44 rfl ?_
            refine zv_iload C dX2_named_68 70 rfl 5 rfl ?_
            refine zv_iald (v := (f11 j)) C dX2_named_70 71 rfl 12 0 j rfl rfl rfl (by omega) (by decide) rfl ?_
            refine zv_iconst (v := (-1 : Int32)) C dX2_named_71 72 rfl (by decide) ?_
            refine zv_icmp_ne C dX2_named_72 75 78 rfl (by decide) (fun c4 => ?_) (fun c4 => ?_)
            · refine zv_iload C dX2_named_78 80 rfl 0 rfl ?_
              refine zv_if_eq C dX2_named_80 83 103 rfl (by decide) (fun _ => ?_) (fun q => absurd (by decide) q)
              refine zv_aload_n C dX2_named_103 104 rfl 1 rfl ?_
              refine zv_iload C dX2_named_104 106 rfl 5 rfl ?_
              refine zv_callVR (rest := []) C (k_X2_worth l D cI cZ h t n r y b f0 f1 f2 f3 f4 f5 f6 f7 f8 f9 f10 f11 f12 f13 j (by omega)) (cwV 1 C.1.2.2.2.2 gX2_named_X2_worth rfl rfl rfl (by decide +kernel) ⟨Nat.le_of_ble_eq_true rfl, Nat.le_of_ble_eq_true rfl⟩) dX2_named_106 109 rfl (ci := 2) 0 rfl rfl rfl rfl (Nat.le_of_ble_eq_true rfl) ⟨Nat.le_of_ble_eq_true rfl, Nat.le_of_ble_eq_true rfl⟩ [0, 1] rfl [0, 1, 2, 3, 4, 5, 6, 7, 8, 9, 10, 11, 12, 13, 14] rfl (by decide) (fun v hv => ?_)
              subst hv
              refine zv_go rfl rfl (st' := [.int (wor r f9 f10 j)]) rfl (kc' := 0) rfl (ns' := 0) rfl ?_
              refine zv_istore C dX2_named_109 111 rfl [(6, .int (wor r f9 f10 j)), (5, .int 0), (0, .ref (h 0)), (1, .int (nI p)), (2, .int bs), (3, .int ms), (4, .int (nI j))] (by decide) rfl ?_
              refine zv_iload C dX2_named_111 113 rfl 0 rfl ?_
              refine zv_iload_n C dX2_named_113 114 rfl 5 rfl ?_
              refine zv_icmp_gt C dX2_named_114 117 120 rfl (by decide) (fun c5 => ?_) (fun c5 => ?_)
              · refine zv_iload C dX2_named_120 122 rfl 0 rfl ?_
                refine zv_istore_n C dX2_named_122 123 rfl [(3, .int (wor r f9 f10 j)), (6, .int (wor r f9 f10 j)), (5, .int 0), (0, .ref (h 0)), (1, .int (nI p)), (2, .int bs), (4, .int (nI j))] (by decide) rfl ?_
                refine zv_iload C dX2_named_123 125 rfl 2 rfl ?_
                refine zv_if_eq C dX2_named_125 128 137 rfl (by decide) (fun _ => ?_) (fun q => absurd (by decide) q)
                refine zv_aload_n C dX2_named_137 138 rfl 3 rfl ?_
                refine zv_get (ci := 2) C inX2 rfl dX2_named_138 141 rfl 0 16 rfl (by decide) lk44 rfl ?_
                refine zv_iload C dX2_named_141 143 rfl 6 rfl ?_
                refine zv_iald (v := (f11 j)) C dX2_named_143 144 rfl 12 0 j rfl rfl rfl (by omega) (by decide) rfl ?_
                refine zv_istore_n C dX2_named_144 145 rfl [(2, .int (f11 j)), (3, .int (wor r f9 f10 j)), (6, .int (wor r f9 f10 j)), (5, .int 0), (0, .ref (h 0)), (1, .int (nI p)), (4, .int (nI j))] (by decide) rfl ?_
                refine zv_iinc (v := (nI (j + 1))) C dX2_named_145 148 rfl [(4, .int (nI (j + 1))), (2, .int (f11 j)), (3, .int (wor r f9 f10 j)), (6, .int (wor r f9 f10 j)), (5, .int 0), (0, .ref (h 0)), (1, .int (nI p))] 6 rfl (nI_1 j) (by decide) rfl ?_
                refine zv_goto C dX2_named_148 18 (by decide) ?_
                refine zv_sub [5, 6, 1, 2, 0] (lv' := [(0, .ref (h 0)), (1, .int (nI p)), (2, .int (f11 j)), (3, .int (wor r f9 f10 j)), (4, .int (nI (j + 1)))]) rfl ?_
                exact ih_L18 (j + 1) (f11 j) (wor r f9 f10 j) (by omega) hd (by rw [mN_up (by simp [c2]) c3 c4, he]; exact if_pos c5) (by omega)
              · refine zv_goto C dX2_named_117 145 (by decide) ?_
                refine zv_iinc (v := (nI (j + 1))) C dX2_named_145 148 rfl [(4, .int (nI (j + 1))), (6, .int (wor r f9 f10 j)), (5, .int 0), (0, .ref (h 0)), (1, .int (nI p)), (2, .int bs), (3, .int ms)] 6 rfl (nI_1 j) (by decide) rfl ?_
                refine zv_goto C dX2_named_148 18 (by decide) ?_
                refine zv_sub [3, 4, 5, 6, 0] (lv' := [(0, .ref (h 0)), (1, .int (nI p)), (2, .int bs), (3, .int ms), (4, .int (nI (j + 1)))]) rfl ?_
                exact ih_L18 (j + 1) bs ms (by omega) hd (by rw [mN_up (by simp [c2]) c3 c4, he]; exact if_neg c5) (by omega)
            · refine zv_goto C dX2_named_75 145 (by decide) ?_
              refine zv_iinc (v := (nI (j + 1))) C dX2_named_145 148 rfl [(4, .int (nI (j + 1))), (5, .int 0), (0, .ref (h 0)), (1, .int (nI p)), (2, .int bs), (3, .int ms)] 5 rfl (nI_1 j) (by decide) rfl ?_
              refine zv_goto C dX2_named_148 18 (by decide) ?_
              refine zv_sub [2, 3, 4, 5, 0] (lv' := [(0, .ref (h 0)), (1, .int (nI p)), (2, .int bs), (3, .int ms), (4, .int (nI (j + 1)))]) rfl ?_
              exact ih_L18 (j + 1) bs ms (by omega) hd (by rw [mN_s2 (by simp [c2]) c4, he]) (by omega)
        · replace c2 := zn_eq (a := j) (b := p) (by omega) (by omega) c2
          refine zv_aload_n C dX2_named_33 34 rfl 0 rfl ?_
          refine zv_iload_n C dX2_named_34 35 rfl 1 rfl ?_
          refine zv_callVR (rest := []) C (k_X2_springs l D cI cZ h t n r y b f0 f1 f2 f3 f4 f5 f6 f7 f8 f9 f10 f11 f12 f13 p (by omega)) (cwV 1 C.1.2.2.2.2 gX2_named_X2_springs rfl rfl rfl (by decide +kernel) ⟨Nat.le_of_ble_eq_true rfl, Nat.le_of_ble_eq_true rfl⟩) dX2_named_35 38 rfl (ci := 2) 0 rfl rfl rfl rfl (Nat.le_of_ble_eq_true rfl) ⟨Nat.le_of_ble_eq_true rfl, Nat.le_of_ble_eq_true rfl⟩ [0, 1] rfl [0, 1, 2, 3, 4, 5, 6, 7, 8, 9, 10, 11, 12, 13, 14] rfl (by decide) (fun v hv => ?_)
          subst hv
          refine zv_go rfl rfl (st' := [.int (zb (sprg f1 f3 p))]) rfl (kc' := 0) rfl (ns' := 0) rfl ?_
          refine zv_if_eq C dX2_named_38 41 45 rfl (by decide) (fun c6 => ?_) (fun c6 => ?_)
          · replace c6 := zb_eq0.mp c6
            refine zv_iconst (v := 0) C dX2_named_45 46 rfl (by decide) ?_
            refine zv_istore C dX2_named_46 48 rfl [(5, .int 0), (0, .ref (h 0)), (1, .int (nI p)), (2, .int bs), (3, .int ms), (4, .int (nI j))] (by decide) rfl ?_
            refine zv_iload C dX2_named_48 50 rfl 0 rfl ?_
            refine zv_if_ne C dX2_named_50 53 78 rfl (by decide) (fun q => absurd (by decide) q) (fun _ => ?_)
            refine zv_aload_n C dX2_named_53 54 rfl 1 rfl ?_
            refine zv_get (ci := 2) C inX2 rfl dX2_named_54 57 rfl 0 4 rfl (by decide) lk9 rfl ?_
            refine zv_iload C dX2_named_57 59 rfl 5 rfl ?_
            refine zv_iald (v := (f0 j)) C dX2_named_59 60 rfl 1 0 j rfl rfl rfl (by omega) (by decide) rfl ?_
            refine zv_iload_n C dX2_named_60 61 rfl 2 rfl ?_
            refine zv_icmp_ne C dX2_named_61 64 145 rfl (by decide) (fun c7 => ?_) (fun c7 => ?_)
            · refine zv_iinc (v := (nI (j + 1))) C dX2_named_145 148 rfl [(4, .int (nI (j + 1))), (5, .int 0), (0, .ref (h 0)), (1, .int (nI p)), (2, .int bs), (3, .int ms)] 5 rfl (nI_1 j) (by decide) rfl ?_
              refine zv_goto C dX2_named_148 18 (by decide) ?_
              refine zv_sub [2, 3, 4, 5, 0] (lv' := [(0, .ref (h 0)), (1, .int (nI p)), (2, .int bs), (3, .int ms), (4, .int (nI (j + 1)))]) rfl ?_
              exact ih_L18 (j + 1) bs ms (by omega) hd (by rw [mN_s1 (by simp [c6]) c7, he]) (by omega)
            · refine zv_aload_n C dX2_named_64 65 rfl 1 rfl ?_
              refine zv_get (ci := 2) C inX2 rfl dX2_named_65 68 rfl 0 16 rfl (by decide) lk44 rfl ?_
              refine zv_iload C dX2_named_68 70 rfl 5 rfl ?_
              refine zv_iald (v := (f11 j)) C dX2_named_70 71 rfl 12 0 j rfl rfl rfl (by omega) (by decide) rfl ?_
              refine zv_iconst (v := (-1 : Int32)) C dX2_named_71 72 rfl (by decide) ?_
              refine zv_icmp_ne C dX2_named_72 75 78 rfl (by decide) (fun c8 => ?_) (fun c8 => ?_)
              · refine zv_iload C dX2_named_78 80 rfl 0 rfl ?_
                refine zv_if_eq C dX2_named_80 83 103 rfl (by decide) (fun _ => ?_) (fun q => absurd (by decide) q)
                refine zv_aload_n C dX2_named_103 104 rfl 1 rfl ?_
                refine zv_iload C dX2_named_104 106 rfl 5 rfl ?_
                refine zv_callVR (rest := []) C (k_X2_worth l D cI cZ h t n r y b f0 f1 f2 f3 f4 f5 f6 f7 f8 f9 f10 f11 f12 f13 j (by omega)) (cwV 1 C.1.2.2.2.2 gX2_named_X2_worth rfl rfl rfl (by decide +kernel) ⟨Nat.le_of_ble_eq_true rfl, Nat.le_of_ble_eq_true rfl⟩) dX2_named_106 109 rfl (ci := 2) 0 rfl rfl rfl rfl (Nat.le_of_ble_eq_true rfl) ⟨Nat.le_of_ble_eq_true rfl, Nat.le_of_ble_eq_true rfl⟩ [0, 1] rfl [0, 1, 2, 3, 4, 5, 6, 7, 8, 9, 10, 11, 12, 13, 14] rfl (by decide) (fun v hv => ?_)
                subst hv
                refine zv_go rfl rfl (st' := [.int (wor r f9 f10 j)]) rfl (kc' := 0) rfl (ns' := 0) rfl ?_
                refine zv_istore C dX2_named_109 111 rfl [(6, .int (wor r f9 f10 j)), (5, .int 0), (0, .ref (h 0)), (1, .int (nI p)), (2, .int bs), (3, .int ms), (4, .int (nI j))] (by decide) rfl ?_
                refine zv_iload C dX2_named_111 113 rfl 0 rfl ?_
                refine zv_iload_n C dX2_named_113 114 rfl 5 rfl ?_
                refine zv_icmp_gt C dX2_named_114 117 120 rfl (by decide) (fun c9 => ?_) (fun c9 => ?_)
                · refine zv_iload C dX2_named_120 122 rfl 0 rfl ?_
                  refine zv_istore_n C dX2_named_122 123 rfl [(3, .int (wor r f9 f10 j)), (6, .int (wor r f9 f10 j)), (5, .int 0), (0, .ref (h 0)), (1, .int (nI p)), (2, .int bs), (4, .int (nI j))] (by decide) rfl ?_
                  refine zv_iload C dX2_named_123 125 rfl 2 rfl ?_
                  refine zv_if_eq C dX2_named_125 128 137 rfl (by decide) (fun _ => ?_) (fun q => absurd (by decide) q)
                  refine zv_aload_n C dX2_named_137 138 rfl 3 rfl ?_
                  refine zv_get (ci := 2) C inX2 rfl dX2_named_138 141 rfl 0 16 rfl (by decide) lk44 rfl ?_
                  refine zv_iload C dX2_named_141 143 rfl 6 rfl ?_
                  refine zv_iald (v := (f11 j)) C dX2_named_143 144 rfl 12 0 j rfl rfl rfl (by omega) (by decide) rfl ?_
                  refine zv_istore_n C dX2_named_144 145 rfl [(2, .int (f11 j)), (3, .int (wor r f9 f10 j)), (6, .int (wor r f9 f10 j)), (5, .int 0), (0, .ref (h 0)), (1, .int (nI p)), (4, .int (nI j))] (by decide) rfl ?_
                  refine zv_iinc (v := (nI (j + 1))) C dX2_named_145 148 rfl [(4, .int (nI (j + 1))), (2, .int (f11 j)), (3, .int (wor r f9 f10 j)), (6, .int (wor r f9 f10 j)), (5, .int 0), (0, .ref (h 0)), (1, .int (nI p))] 6 rfl (nI_1 j) (by decide) rfl ?_
                  refine zv_goto C dX2_named_148 18 (by decide) ?_
                  refine zv_sub [5, 6, 1, 2, 0] (lv' := [(0, .ref (h 0)), (1, .int (nI p)), (2, .int (f11 j)), (3, .int (wor r f9 f10 j)), (4, .int (nI (j + 1)))]) rfl ?_
                  exact ih_L18 (j + 1) (f11 j) (wor r f9 f10 j) (by omega) hd (by rw [mN_up (by simp [c6]) c7 c8, he]; exact if_pos c9) (by omega)
                · refine zv_goto C dX2_named_117 145 (by decide) ?_
                  refine zv_iinc (v := (nI (j + 1))) C dX2_named_145 148 rfl [(4, .int (nI (j + 1))), (6, .int (wor r f9 f10 j)), (5, .int 0), (0, .ref (h 0)), (1, .int (nI p)), (2, .int bs), (3, .int ms)] 6 rfl (nI_1 j) (by decide) rfl ?_
                  refine zv_goto C dX2_named_148 18 (by decide) ?_
                  refine zv_sub [3, 4, 5, 6, 0] (lv' := [(0, .ref (h 0)), (1, .int (nI p)), (2, .int bs), (3, .int ms), (4, .int (nI (j + 1)))]) rfl ?_
                  exact ih_L18 (j + 1) bs ms (by omega) hd (by rw [mN_up (by simp [c6]) c7 c8, he]; exact if_neg c9) (by omega)
              · refine zv_goto C dX2_named_75 145 (by decide) ?_
                refine zv_iinc (v := (nI (j + 1))) C dX2_named_145 148 rfl [(4, .int (nI (j + 1))), (5, .int 0), (0, .ref (h 0)), (1, .int (nI p)), (2, .int bs), (3, .int ms)] 5 rfl (nI_1 j) (by decide) rfl ?_
                refine zv_goto C dX2_named_148 18 (by decide) ?_
                refine zv_sub [2, 3, 4, 5, 0] (lv' := [(0, .ref (h 0)), (1, .int (nI p)), (2, .int bs), (3, .int ms), (4, .int (nI (j + 1)))]) rfl ?_
                exact ih_L18 (j + 1) bs ms (by omega) hd (by rw [mN_s2 (by simp [c6]) c8, he]) (by omega)
          · replace c6 := zb_ne0.mp c6
            refine zv_iconst (v := 1) C dX2_named_41 42 rfl (by decide) ?_
            refine zv_goto C dX2_named_42 46 (by decide) ?_
            refine zv_istore C dX2_named_46 48 rfl [(5, .int 1), (0, .ref (h 0)), (1, .int (nI p)), (2, .int bs), (3, .int ms), (4, .int (nI j))] (by decide) rfl ?_
            refine zv_iload C dX2_named_48 50 rfl 0 rfl ?_
            refine zv_if_ne C dX2_named_50 53 78 rfl (by decide) (fun _ => ?_) (fun q => absurd q (by decide))
            refine zv_iload C dX2_named_78 80 rfl 0 rfl ?_
            refine zv_if_eq C dX2_named_80 83 103 rfl (by decide) (fun q => absurd q (by decide)) (fun _ => ?_)
            refine zv_aload_n C dX2_named_83 84 rfl 1 rfl ?_
            refine zv_get (ci := 2) C inX2 rfl dX2_named_84 87 rfl 0 2 rfl (by decide) lk75 rfl ?_
            refine zv_if_ne C dX2_named_87 90 99 rfl (by decide) (fun c10 => ?_) (fun c10 => ?_)
            · refine zv_iconst (v := 0) C dX2_named_99 100 rfl (by decide) ?_
              refine zv_goto C dX2_named_100 109 (by decide) ?_
              refine zv_istore C dX2_named_109 111 rfl [(6, .int 0), (5, .int 1), (0, .ref (h 0)), (1, .int (nI p)), (2, .int bs), (3, .int ms), (4, .int (nI j))] (by decide) rfl ?_
              refine zv_iload C dX2_named_111 113 rfl 0 rfl ?_
              refine zv_iload_n C dX2_named_113 114 rfl 5 rfl ?_
              refine zv_icmp_gt C dX2_named_114 117 120 rfl (by decide) (fun c11 => ?_) (fun c11 => ?_)
              · refine zv_iload C dX2_named_120 122 rfl 0 rfl ?_
                refine zv_istore_n C dX2_named_122 123 rfl [(3, .int 0), (6, .int 0), (5, .int 1), (0, .ref (h 0)), (1, .int (nI p)), (2, .int bs), (4, .int (nI j))] (by decide) rfl ?_
                refine zv_iload C dX2_named_123 125 rfl 2 rfl ?_
                refine zv_if_eq C dX2_named_125 128 137 rfl (by decide) (fun q => absurd q (by decide)) (fun _ => ?_)
                refine zv_aload_n C dX2_named_128 129 rfl 3 rfl ?_
                refine zv_get (ci := 2) C inX2 rfl dX2_named_129 132 rfl 0 6 rfl (by decide) lk17 rfl ?_
                refine zv_iload_n C dX2_named_132 133 rfl 4 rfl ?_
                refine zv_iald (v := (f2 p)) C dX2_named_133 134 rfl 3 0 p rfl rfl rfl (by omega) (by decide) rfl ?_
                refine zv_goto C dX2_named_134 144 (by decide) ?_
                refine zv_istore_n C dX2_named_144 145 rfl [(2, .int (f2 p)), (3, .int 0), (6, .int 0), (5, .int 1), (0, .ref (h 0)), (1, .int (nI p)), (4, .int (nI j))] (by decide) rfl ?_
                refine zv_iinc (v := (nI (j + 1))) C dX2_named_145 148 rfl [(4, .int (nI (j + 1))), (2, .int (f2 p)), (3, .int 0), (6, .int 0), (5, .int 1), (0, .ref (h 0)), (1, .int (nI p))] 6 rfl (nI_1 j) (by decide) rfl ?_
                refine zv_goto C dX2_named_148 18 (by decide) ?_
                refine zv_sub [5, 6, 1, 2, 0] (lv' := [(0, .ref (h 0)), (1, .int (nI p)), (2, .int (f2 p)), (3, .int 0), (4, .int (nI (j + 1)))]) rfl ?_
                exact ih_L18 (j + 1) (f2 p) 0 (by omega) hd (by rw [mN_own (by simp [c2, c6]), he, if_neg c10]; exact if_pos c11) (by omega)
              · refine zv_goto C dX2_named_117 145 (by decide) ?_
                refine zv_iinc (v := (nI (j + 1))) C dX2_named_145 148 rfl [(4, .int (nI (j + 1))), (6, .int 0), (5, .int 1), (0, .ref (h 0)), (1, .int (nI p)), (2, .int bs), (3, .int ms)] 6 rfl (nI_1 j) (by decide) rfl ?_
                refine zv_goto C dX2_named_148 18 (by decide) ?_
                refine zv_sub [3, 4, 5, 6, 0] (lv' := [(0, .ref (h 0)), (1, .int (nI p)), (2, .int bs), (3, .int ms), (4, .int (nI (j + 1)))]) rfl ?_
                exact ih_L18 (j + 1) bs ms (by omega) hd (by rw [mN_own (by simp [c2, c6]), he, if_neg c10]; exact if_neg c11) (by omega)
            · refine zv_aload_n C dX2_named_90 91 rfl 1 rfl ?_
              refine zv_get (ci := 2) C inX2 rfl dX2_named_91 94 rfl 0 7 rfl (by decide) lk20 rfl ?_
              refine zv_iload_n C dX2_named_94 95 rfl 2 rfl ?_
              refine zv_iald (v := (f3 p)) C dX2_named_95 96 rfl 4 0 p rfl rfl rfl (by omega) (by decide) rfl ?_
              refine zv_goto C dX2_named_96 109 (by decide) ?_
              refine zv_istore C dX2_named_109 111 rfl [(6, .int (f3 p)), (5, .int 1), (0, .ref (h 0)), (1, .int (nI p)), (2, .int bs), (3, .int ms), (4, .int (nI j))] (by decide) rfl ?_
              refine zv_iload C dX2_named_111 113 rfl 0 rfl ?_
              refine zv_iload_n C dX2_named_113 114 rfl 5 rfl ?_
              refine zv_icmp_gt C dX2_named_114 117 120 rfl (by decide) (fun c12 => ?_) (fun c12 => ?_)
              · refine zv_iload C dX2_named_120 122 rfl 0 rfl ?_
                refine zv_istore_n C dX2_named_122 123 rfl [(3, .int (f3 p)), (6, .int (f3 p)), (5, .int 1), (0, .ref (h 0)), (1, .int (nI p)), (2, .int bs), (4, .int (nI j))] (by decide) rfl ?_
                refine zv_iload C dX2_named_123 125 rfl 2 rfl ?_
                refine zv_if_eq C dX2_named_125 128 137 rfl (by decide) (fun q => absurd q (by decide)) (fun _ => ?_)
                refine zv_aload_n C dX2_named_128 129 rfl 3 rfl ?_
                refine zv_get (ci := 2) C inX2 rfl dX2_named_129 132 rfl 0 6 rfl (by decide) lk17 rfl ?_
                refine zv_iload_n C dX2_named_132 133 rfl 4 rfl ?_
                refine zv_iald (v := (f2 p)) C dX2_named_133 134 rfl 3 0 p rfl rfl rfl (by omega) (by decide) rfl ?_
                refine zv_goto C dX2_named_134 144 (by decide) ?_
                refine zv_istore_n C dX2_named_144 145 rfl [(2, .int (f2 p)), (3, .int (f3 p)), (6, .int (f3 p)), (5, .int 1), (0, .ref (h 0)), (1, .int (nI p)), (4, .int (nI j))] (by decide) rfl ?_
                refine zv_iinc (v := (nI (j + 1))) C dX2_named_145 148 rfl [(4, .int (nI (j + 1))), (2, .int (f2 p)), (3, .int (f3 p)), (6, .int (f3 p)), (5, .int 1), (0, .ref (h 0)), (1, .int (nI p))] 6 rfl (nI_1 j) (by decide) rfl ?_
                refine zv_goto C dX2_named_148 18 (by decide) ?_
                refine zv_sub [5, 6, 1, 2, 0] (lv' := [(0, .ref (h 0)), (1, .int (nI p)), (2, .int (f2 p)), (3, .int (f3 p)), (4, .int (nI (j + 1)))]) rfl ?_
                exact ih_L18 (j + 1) (f2 p) (f3 p) (by omega) hd (by rw [mN_own (by simp [c2, c6]), he, if_pos c10]; exact if_pos c12) (by omega)
              · refine zv_goto C dX2_named_117 145 (by decide) ?_
                refine zv_iinc (v := (nI (j + 1))) C dX2_named_145 148 rfl [(4, .int (nI (j + 1))), (6, .int (f3 p)), (5, .int 1), (0, .ref (h 0)), (1, .int (nI p)), (2, .int bs), (3, .int ms)] 6 rfl (nI_1 j) (by decide) rfl ?_
                refine zv_goto C dX2_named_148 18 (by decide) ?_
                refine zv_sub [3, 4, 5, 6, 0] (lv' := [(0, .ref (h 0)), (1, .int (nI p)), (2, .int bs), (3, .int ms), (4, .int (nI (j + 1)))]) rfl ?_
                exact ih_L18 (j + 1) bs ms (by omega) hd (by rw [mN_own (by simp [c2, c6]), he, if_pos c10]; exact if_neg c12) (by omega)
  refine zv_go (pc' := 0) rfl (lv' := [(0, .ref (h 0)), (1, .int (nI p))]) rfl rfl rfl rfl ?_
  refine zv_aload_n C dX2_named_0 1 rfl 0 rfl ?_
  refine zv_get (ci := 2) C inX2 rfl dX2_named_1 4 rfl 0 9 rfl (by decide) lk26 rfl ?_
  refine zv_iload_n C dX2_named_4 5 rfl 1 rfl ?_
  refine zv_zald (v := (f5 p)) C dX2_named_5 6 rfl 6 1 p rfl rfl rfl (by omega) (by decide) rfl ?_
  refine zv_if_eq C dX2_named_6 9 11 rfl (by decide) (fun c13 => ?_) (fun c13 => ?_)
  · refine zv_iconst (v := (-1 : Int32)) C dX2_named_11 12 rfl (by decide) ?_
    refine zv_istore_n C dX2_named_12 13 rfl [(2, .int (-1 : Int32)), (0, .ref (h 0)), (1, .int (nI p))] (by decide) rfl ?_
    refine zv_iconst (v := (-1 : Int32)) C dX2_named_13 14 rfl (by decide) ?_
    refine zv_istore_n C dX2_named_14 15 rfl [(3, .int (-1 : Int32)), (2, .int (-1 : Int32)), (0, .ref (h 0)), (1, .int (nI p))] (by decide) rfl ?_
    refine zv_iconst (v := 0) C dX2_named_15 16 rfl (by decide) ?_
    refine zv_istore C dX2_named_16 18 rfl [(4, .int 0), (3, .int (-1 : Int32)), (2, .int (-1 : Int32)), (0, .ref (h 0)), (1, .int (nI p))] (by decide) rfl ?_
    refine zv_sub [3, 4, 2, 1, 0] (lv' := [(0, .ref (h 0)), (1, .int (nI p)), (2, .int (-1 : Int32)), (3, .int (-1 : Int32)), (4, .int 0)]) rfl ?_
    exact L18 _ 0 (-1) (-1) (Nat.zero_le n) c13 rfl (Nat.lt_succ_self _)
  · refine zv_iconst (v := (-1 : Int32)) C dX2_named_9 10 rfl (by decide) ?_
    exact zv_iretR C hr hlk hA hQ dX2_named_10 (by rw [nmd, if_pos c13])
abbrev rmX2_reckon : Room := { frames := 3, cells := 0, slots := 0, locals := 69 }
set_option maxHeartbeats 4000000 in
set_option maxRecDepth 100000 in
theorem k_X2_reckon (l : Launch) (D : va_G) (cI cZ : ClassId) (h : Nat → Nat) (t : Int32) (n : Nat) (r y : Int32) (b : Nat) (f0 f1 f2 f3 f4 f5 f6 f7 f8 f9 f10 f11 f12 f13 : Nat → Int32) (s : Nat → Int32) (d : Nat → Nat) (hn : n ≤ 16) (hD : Dep n f0 s d) : zv_M l yX2_reckon wsX2_reckon rmX2_reckon D vwCl (tyL cI cZ) [.ref (h 0)] (cM cI cZ h t (nI n) r y (nI b) f0 f1 f2 f3 f4 f5 f6 f7 f8 f9 f10 f11 f12 f13) (fun v w => ∃ (g8 g9 g10 g11 : Nat → Int32), v = none ∧ w = (cM cI cZ h t (nI n) r y (nI b) f0 f1 f2 f3 f4 f5 f6 f7 g8 g9 g10 g11 f12 f13) ∧ (∀ p, p < n → MA n f0 f1 f2 f3 f5 r g9 g10 g11 p)) := by
  refine zv_M.of cX2_reckon 2 none (by decide) rfl (Nat.le_of_ble_eq_true rfl) ?_
  intro pP eE sS mM aA bB mT cD A C hr hlk hnm Q hQ
  have inX2 : ∀ w ∈ u_ws RX2 TX2 19, w ∈ wsX2_reckon := by decide +kernel
  have lk57 : Cond.fieldLink RX2 57 "RiverNamesModel" "places" "I" ∈ wsX2_reckon := by decide +kernel
  have lk35 : Cond.fieldLink RX2 35 "RiverNamesModel" "order" "[I" ∈ wsX2_reckon := by decide +kernel
  have lk44 : Cond.fieldLink RX2 44 "RiverNamesModel" "name" "[I" ∈ wsX2_reckon := by decide +kernel
  have L6 : ∀ (mu_L6 : Nat), ∀ (k : Nat) (g8 g9 g10 g11 : Nat → Int32) (o : Nat → Nat), (k ≤ n) → (Srt n (ao n f0) g8 o) → (∀ j, j < k → MA n f0 f1 f2 f3 f5 r g9 g10 g11 (o j)) → n - k < mu_L6 → zv_V pP l eE rmX2_reckon sS mM aA bB mT cD Q 2 D vwCl A A (tyL cI cZ) (cM cI cZ h t (nI n) r y (nI b) f0 f1 f2 f3 f4 f5 f6 f7 g8 g9 g10 g11 f12 f13) 0 0 6 [(0, .ref (h 0)), (1, .int (nI k))] [] := by
    intro mu_L6
    induction mu_L6 with
    | zero => intro k g8 g9 g10 g11 o hk hO hM hmu_L6; exact absurd hmu_L6 (Nat.not_lt_zero _)
    | succ mu_L6 ih_L6 =>
      intro k g8 g9 g10 g11 o hk hO hM hmu_L6
      refine zv_iload_n C dX2_reckon_6 7 rfl 1 rfl ?_
      refine zv_aload_n C dX2_reckon_7 8 rfl 0 rfl ?_
      refine zv_get (ci := 2) C inX2 rfl dX2_reckon_8 11 rfl 0 1 rfl (by decide) lk57 rfl ?_
      refine zv_icmp_ge C dX2_reckon_11 14 51 rfl (by decide) (fun c1 => ?_) (fun c1 => ?_)
      · replace c1 := zn_le (a := n) (b := k) (by omega) (by omega) c1
        exact zv_vret C hr hlk hQ dX2_reckon_51 ⟨g8, g9, g10, g11, rfl, rfl, (fun p hp => by
      obtain ⟨j, hj, e⟩ := hO.2.1 p hp
      rw [← e]; exact hM j (by omega))⟩
      · replace c1 := zn_le' (a := n) (b := k) (by omega) (by omega) c1
        obtain ⟨hok1, hok2⟩ := hO.1 k (by omega)
        refine zv_aload_n C dX2_reckon_14 15 rfl 0 rfl ?_
        refine zv_aload_n C dX2_reckon_15 16 rfl 0 rfl ?_
        refine zv_get (ci := 2) C inX2 rfl dX2_reckon_16 19 rfl 0 13 rfl (by decide) lk35 rfl ?_
        refine zv_iload_n C dX2_reckon_19 20 rfl 1 rfl ?_
        refine zv_iald (v := (nI (o k))) C dX2_reckon_20 21 rfl 9 0 k rfl rfl rfl (by omega) (by decide) hok1 ?_
        refine zv_callV (rest := []) (wr := []) C (k_X2_flow l D cI cZ h t n r y b f0 f1 f2 f3 f4 f5 f6 f7 g8 g9 g10 g11 f12 f13 (o k) s d (by omega) (by assumption) (by omega)) (cwV 1 C.1.2.2.2.2 gX2_reckon_X2_flow rfl rfl rfl (by decide +kernel) ⟨Nat.le_of_ble_eq_true rfl, Nat.le_of_ble_eq_true rfl⟩) dX2_reckon_21 24 rfl (ci := 2) 0 rfl rfl rfl rfl (Nat.le_of_ble_eq_true rfl) ⟨Nat.le_of_ble_eq_true rfl, Nat.le_of_ble_eq_true rfl⟩ [0, 1] rfl [0, 1, 2, 3, 4, 5, 6, 7, 8, 9, 10, 11, 12, 13, 14] rfl (by decide) [] rfl (by decide) (by decide +kernel) (fun v w hv => ?_)
        obtain ⟨u9_17, u10_17, rfl, rfl, huo17, hu917, hu1017⟩ := hv
        refine zv_go rfl rfl (st' := []) rfl (kc' := 0) rfl (ns' := 0) rfl ?_
        refine zv_wd (ws' := (cM cI cZ h t (nI n) r y (nI b) f0 f1 f2 f3 f4 f5 f6 f7 g8 u9_17 u10_17 g11 f12 f13)) rfl ?_
        refine zv_aload_n C dX2_reckon_24 25 rfl 0 rfl ?_
        refine zv_get (ci := 2) C inX2 rfl dX2_reckon_25 28 rfl 0 16 rfl (by decide) lk44 rfl ?_
        refine zv_aload_n C dX2_reckon_28 29 rfl 0 rfl ?_
        refine zv_get (ci := 2) C inX2 rfl dX2_reckon_29 32 rfl 0 13 rfl (by decide) lk35 rfl ?_
        refine zv_iload_n C dX2_reckon_32 33 rfl 1 rfl ?_
        refine zv_iald (v := (nI (o k))) C dX2_reckon_33 34 rfl 9 0 k rfl rfl rfl (by omega) (by decide) hok1 ?_
        refine zv_aload_n C dX2_reckon_34 35 rfl 0 rfl ?_
        refine zv_aload_n C dX2_reckon_35 36 rfl 0 rfl ?_
        refine zv_get (ci := 2) C inX2 rfl dX2_reckon_36 39 rfl 0 13 rfl (by decide) lk35 rfl ?_
        refine zv_iload_n C dX2_reckon_39 40 rfl 1 rfl ?_
        refine zv_iald (v := (nI (o k))) C dX2_reckon_40 41 rfl 9 0 k rfl rfl rfl (by omega) (by decide) hok1 ?_
        refine zv_callVR (rest := [.int (nI (o k)), .ref (h 12)]) C (k_X2_named l D cI cZ h t n r y b f0 f1 f2 f3 f4 f5 f6 f7 g8 u9_17 u10_17 g11 f12 f13 (o k) (by omega) (by omega)) (cwV 1 C.1.2.2.2.2 gX2_reckon_X2_named rfl rfl rfl (by decide +kernel) ⟨Nat.le_of_ble_eq_true rfl, Nat.le_of_ble_eq_true rfl⟩) dX2_reckon_41 44 rfl (ci := 2) 0 rfl rfl rfl rfl (Nat.le_of_ble_eq_true rfl) ⟨Nat.le_of_ble_eq_true rfl, Nat.le_of_ble_eq_true rfl⟩ [0, 1] rfl [0, 1, 2, 3, 4, 5, 6, 7, 8, 9, 10, 11, 12, 13, 14] rfl (by decide) (fun v hv => ?_)
        subst hv
        refine zv_go rfl rfl (st' := [.int (nmd f0 f1 f2 f3 f5 u9_17 u10_17 g11 r (o k) n), .int (nI (o k)), .ref (h 12)]) rfl (kc' := 0) rfl (ns' := 0) rfl ?_
        refine zv_iast (x' := (nmd f0 f1 f2 f3 f5 u9_17 u10_17 g11 r (o k) n)) C dX2_reckon_44 45 rfl 12 0 (o k) rfl rfl rfl (by omega) (by decide) rfl (cM cI cZ h t (nI n) r y (nI b) f0 f1 f2 f3 f4 f5 f6 f7 g8 u9_17 u10_17 (upd g11 (o k) (nmd f0 f1 f2 f3 f5 u9_17 u10_17 g11 r (o k) n)) f12 f13) rfl ?_
        refine zv_iinc (v := (nI (k + 1))) C dX2_reckon_45 48 rfl [(1, .int (nI (k + 1))), (0, .ref (h 0))] 1 rfl (nI_1 k) (by decide) rfl ?_
        refine zv_goto C dX2_reckon_48 6 (by decide) ?_
        refine zv_sub [1, 0] (lv' := [(0, .ref (h 0)), (1, .int (nI (k + 1)))]) rfl ?_
        exact ih_L6 (k + 1) g8 u9_17 u10_17 (upd g11 (o k) (nmd f0 f1 f2 f3 f5 u9_17 u10_17 g11 r (o k) n)) o (by omega) hO (MA.step hD hn hO (by omega) hM huo17 hu917 hu1017) (by omega)
  refine zv_go (pc' := 0) rfl (lv' := [(0, .ref (h 0))]) rfl rfl rfl rfl ?_
  refine zv_aload_n C dX2_reckon_0 1 rfl 0 rfl ?_
  refine zv_callV (rest := []) (wr := []) C (k_X2_sort l D cI cZ h t n r y b f0 f1 f2 f3 f4 f5 f6 f7 f8 f9 f10 f11 f12 f13 s d (by omega) (by assumption)) (cwV 0 C.1.2.2.2.2 gX2_reckon_X2_sort rfl rfl rfl (by decide +kernel) ⟨Nat.le_of_ble_eq_true rfl, Nat.le_of_ble_eq_true rfl⟩) dX2_reckon_1 4 rfl (ci := 2) 0 rfl rfl rfl rfl (Nat.le_of_ble_eq_true rfl) ⟨Nat.le_of_ble_eq_true rfl, Nat.le_of_ble_eq_true rfl⟩ [0, 1] rfl [0, 1, 2, 3, 4, 5, 6, 7, 8, 9, 10, 11, 12, 13, 14] rfl (by decide) [] rfl (by decide) (by decide +kernel) (fun v w hv => ?_)
  obtain ⟨u8_18, rfl, rfl, huS18⟩ := hv
  refine zv_go rfl rfl (st' := []) rfl (kc' := 0) rfl (ns' := 0) rfl ?_
  refine zv_wd (ws' := (cM cI cZ h t (nI n) r y (nI b) f0 f1 f2 f3 f4 f5 f6 f7 u8_18 f9 f10 f11 f12 f13)) rfl ?_
  refine zv_iconst (v := 0) C dX2_reckon_4 5 rfl (by decide) ?_
  refine zv_istore_n C dX2_reckon_5 6 rfl [(1, .int 0), (0, .ref (h 0))] (by decide) rfl ?_
  obtain ⟨o, hO⟩ := huS18
  refine zv_sub [1, 0] (lv' := [(0, .ref (h 0)), (1, .int 0)]) rfl ?_
  exact L6 _ 0 u8_18 f9 f10 f11 o (Nat.zero_le n) hO (fun j hj => absurd hj (Nat.not_lt_zero j)) (Nat.lt_succ_self _)
abbrev rmX2_remember : Room := { frames := 4, cells := 0, slots := 0, locals := 90 }
set_option maxHeartbeats 4000000 in
set_option maxRecDepth 100000 in
theorem k_X2_remember (l : Launch) (D : va_G) (cI cZ : ClassId) (h : Nat → Nat) (t : Int32) (n : Nat) (r y : Int32) (b : Nat) (f0 f1 f2 f3 f4 f5 f6 f7 f8 f9 f10 f11 f12 f13 : Nat → Int32) (s : Nat → Int32) (d : Nat → Nat) (hn : n ≤ 16) (hD : Dep n f0 s d) : zv_M l yX2_remember wsX2_remember rmX2_remember D vwCl (tyL cI cZ) [.ref (h 0)] (cM cI cZ h t (nI n) r y (nI b) f0 f1 f2 f3 f4 f5 f6 f7 f8 f9 f10 f11 f12 f13) (fun v w => ∃ (g8 g9 g10 g11 g12 : Nat → Int32), v = none ∧ w = (cM cI cZ h t (nI n) r y (nI b) f0 f1 f2 f3 f4 f5 f6 f7 g8 g9 g10 g11 g12 f13) ∧ (∀ p, p < n → MA n f0 f1 f2 f3 f5 r g9 g10 g11 p) ∧ (∀ i, i < 16 → g12 i = g11 i)) := by
  refine zv_M.of cX2_remember 1 none (by decide) rfl (Nat.le_of_ble_eq_true rfl) ?_
  intro pP eE sS mM aA bB mT cD A C hr hlk hnm Q hQ
  have inX2 : ∀ w ∈ u_ws RX2 TX2 19, w ∈ wsX2_remember := by decide +kernel
  have lk44 : Cond.fieldLink RX2 44 "RiverNamesModel" "name" "[I" ∈ wsX2_remember := by decide +kernel
  have lk47 : Cond.fieldLink RX2 47 "RiverNamesModel" "before" "[I" ∈ wsX2_remember := by decide +kernel
  have aclink : Cond.methodLink RX2 104 arraycopyName ∈ wsX2_remember := by decide +kernel
  have acnat : Cond.native arraycopyName ∈ wsX2_remember := by decide +kernel
  have acstat : Cond.static arraycopyName ∈ wsX2_remember := by decide +kernel
  have acini : Cond.initialized "java/lang/System" ∈ wsX2_remember := by decide +kernel
  refine zv_go (pc' := 0) rfl (lv' := [(0, .ref (h 0))]) rfl rfl rfl rfl ?_
  refine zv_aload_n C dX2_remember_0 1 rfl 0 rfl ?_
  refine zv_callV (rest := []) (wr := []) C (k_X2_reckon l D cI cZ h t n r y b f0 f1 f2 f3 f4 f5 f6 f7 f8 f9 f10 f11 f12 f13 s d (by omega) (by assumption)) (cwV 0 C.1.2.2.2.2 gX2_remember_X2_reckon rfl rfl rfl (by decide +kernel) ⟨Nat.le_of_ble_eq_true rfl, Nat.le_of_ble_eq_true rfl⟩) dX2_remember_1 4 rfl (ci := 2) 0 rfl rfl rfl rfl (Nat.le_of_ble_eq_true rfl) ⟨Nat.le_of_ble_eq_true rfl, Nat.le_of_ble_eq_true rfl⟩ [0, 1] rfl [0, 1, 2, 3, 4, 5, 6, 7, 8, 9, 10, 11, 12, 13, 14] rfl (by decide) [] rfl (by decide) (by decide +kernel) (fun v w hv => ?_)
  obtain ⟨u8_19, u9_19, u10_19, u11_19, rfl, rfl, huM19⟩ := hv
  refine zv_go rfl rfl (st' := []) rfl (kc' := 0) rfl (ns' := 0) rfl ?_
  refine zv_wd (ws' := (cM cI cZ h t (nI n) r y (nI b) f0 f1 f2 f3 f4 f5 f6 f7 u8_19 u9_19 u10_19 u11_19 f12 f13)) rfl ?_
  refine zv_aload_n C dX2_remember_4 5 rfl 0 rfl ?_
  refine zv_get (ci := 2) C inX2 rfl dX2_remember_5 8 rfl 0 16 rfl (by decide) lk44 rfl ?_
  refine zv_iconst (v := 0) C dX2_remember_8 9 rfl (by decide) ?_
  refine zv_aload_n C dX2_remember_9 10 rfl 0 rfl ?_
  refine zv_get (ci := 2) C inX2 rfl dX2_remember_10 13 rfl 0 17 rfl (by decide) lk47 rfl ?_
  refine zv_iconst (v := 0) C dX2_remember_13 14 rfl (by decide) ?_
  refine zv_bipush (v := 16) C dX2_remember_14 16 rfl (by decide) ?_
  refine zv_copyi C dX2_remember_16 19 rfl aclink acnat acstat acini 12 13 0 0 rfl rfl rfl rfl (by decide) (by decide) (by decide) (by decide) (by decide) (Nat.le_of_ble_eq_true rfl) (Nat.le_of_ble_eq_true rfl) (cM cI cZ h t (nI n) r y (nI b) f0 f1 f2 f3 f4 f5 f6 f7 u8_19 u9_19 u10_19 u11_19 (va_cpy u11_19 f12 0 0 16) f13) rfl ?_
  exact zv_vret C hr hlk hQ dX2_remember_19 ⟨u8_19, u9_19, u10_19, u11_19, (va_cpy u11_19 f12 0 0 16), rfl, rfl, huM19, (fun i hi => sb_cpy0 hi)⟩
abbrev rmX2_renamed : Room := { frames := 4, cells := 0, slots := 0, locals := 90 }
set_option maxHeartbeats 4000000 in
set_option maxRecDepth 100000 in
theorem k_X2_renamed (l : Launch) (D : va_G) (cI cZ : ClassId) (h : Nat → Nat) (t : Int32) (n : Nat) (r y : Int32) (b : Nat) (f0 f1 f2 f3 f4 f5 f6 f7 f8 f9 f10 f11 f12 f13 : Nat → Int32) (s : Nat → Int32) (d : Nat → Nat) (hn : n ≤ 16) (hD : Dep n f0 s d) : zv_M l yX2_renamed wsX2_renamed rmX2_renamed D vwCl (tyL cI cZ) [.ref (h 0)] (cM cI cZ h t (nI n) r y (nI b) f0 f1 f2 f3 f4 f5 f6 f7 f8 f9 f10 f11 f12 f13) (fun v w => ∃ (g8 g9 g10 g11 : Nat → Int32), v = some (.int (nI (cne g11 f12 n))) ∧ w = (cM cI cZ h t (nI n) r y (nI b) f0 f1 f2 f3 f4 f5 f6 f7 g8 g9 g10 g11 f12 f13) ∧ (∀ p, p < n → MA n f0 f1 f2 f3 f5 r g9 g10 g11 p)) := by
  refine zv_M.of cX2_renamed 3 (some .int) (by decide) rfl (Nat.le_of_ble_eq_true rfl) ?_
  intro pP eE sS mM aA bB mT cD A C hr hlk hnm Q hQ
  have inX2 : ∀ w ∈ u_ws RX2 TX2 19, w ∈ wsX2_renamed := by decide +kernel
  have lk57 : Cond.fieldLink RX2 57 "RiverNamesModel" "places" "I" ∈ wsX2_renamed := by decide +kernel
  have lk44 : Cond.fieldLink RX2 44 "RiverNamesModel" "name" "[I" ∈ wsX2_renamed := by decide +kernel
  have lk47 : Cond.fieldLink RX2 47 "RiverNamesModel" "before" "[I" ∈ wsX2_renamed := by decide +kernel
  have L8 : ∀ (mu_L8 : Nat), ∀ (j t1 : Nat) (g8 g9 g10 g11 : Nat → Int32), (j ≤ n) → (∀ p, p < n → MA n f0 f1 f2 f3 f5 r g9 g10 g11 p) → (t1 = cne g11 f12 j) → n - j < mu_L8 → zv_V pP l eE rmX2_renamed sS mM aA bB mT cD Q 3 D vwCl A A (tyL cI cZ) (cM cI cZ h t (nI n) r y (nI b) f0 f1 f2 f3 f4 f5 f6 f7 g8 g9 g10 g11 f12 f13) 0 0 8 [(0, .ref (h 0)), (1, .int (nI t1)), (2, .int (nI j))] [] := by
    intro mu_L8
    induction mu_L8 with
    | zero => intro j t1 g8 g9 g10 g11 hj hM ht hmu_L8; exact absurd hmu_L8 (Nat.not_lt_zero _)
    | succ mu_L8 ih_L8 =>
      intro j t1 g8 g9 g10 g11 hj hM ht hmu_L8
      refine zv_iload_n C dX2_renamed_8 9 rfl 2 rfl ?_
      refine zv_aload_n C dX2_renamed_9 10 rfl 0 rfl ?_
      refine zv_get (ci := 2) C inX2 rfl dX2_renamed_10 13 rfl 0 1 rfl (by decide) lk57 rfl ?_
      refine zv_icmp_ge C dX2_renamed_13 16 45 rfl (by decide) (fun c1 => ?_) (fun c1 => ?_)
      · replace c1 := zn_le (a := n) (b := j) (by omega) (by omega) c1
        refine zv_iload_n C dX2_renamed_45 46 rfl 1 rfl ?_
        exact zv_iret C hr hlk hQ dX2_renamed_46 (by
      have hjn : j = n := (by omega)
      refine ⟨g8, g9, g10, g11, by rw [ht, hjn], rfl, hM⟩)
      · replace c1 := zn_le' (a := n) (b := j) (by omega) (by omega) c1
        refine zv_iload_n C dX2_renamed_16 17 rfl 1 rfl ?_
        refine zv_aload_n C dX2_renamed_17 18 rfl 0 rfl ?_
        refine zv_get (ci := 2) C inX2 rfl dX2_renamed_18 21 rfl 0 16 rfl (by decide) lk44 rfl ?_
        refine zv_iload_n C dX2_renamed_21 22 rfl 2 rfl ?_
        refine zv_iald (v := (g11 j)) C dX2_renamed_22 23 rfl 12 0 j rfl rfl rfl (by omega) (by decide) rfl ?_
        refine zv_aload_n C dX2_renamed_23 24 rfl 0 rfl ?_
        refine zv_get (ci := 2) C inX2 rfl dX2_renamed_24 27 rfl 0 17 rfl (by decide) lk47 rfl ?_
        refine zv_iload_n C dX2_renamed_27 28 rfl 2 rfl ?_
        refine zv_iald (v := (f12 j)) C dX2_renamed_28 29 rfl 13 0 j rfl rfl rfl (by omega) (by decide) rfl ?_
        refine zv_icmp_ne C dX2_renamed_29 32 36 rfl (by decide) (fun c2 => ?_) (fun c2 => ?_)
        · refine zv_iconst (v := 1) C dX2_renamed_36 37 rfl (by decide) ?_
          refine zv_iadd (v := (nI (t1 + 1))) C dX2_renamed_37 38 rfl (nI_1 t1) ?_
          refine zv_istore_n C dX2_renamed_38 39 rfl [(1, .int (nI (t1 + 1))), (0, .ref (h 0)), (2, .int (nI j))] (by decide) rfl ?_
          refine zv_iinc (v := (nI (j + 1))) C dX2_renamed_39 42 rfl [(2, .int (nI (j + 1))), (1, .int (nI (t1 + 1))), (0, .ref (h 0))] 2 rfl (nI_1 j) (by decide) rfl ?_
          refine zv_goto C dX2_renamed_42 8 (by decide) ?_
          refine zv_sub [2, 1, 0] (lv' := [(0, .ref (h 0)), (1, .int (nI (t1 + 1))), (2, .int (nI (j + 1)))]) rfl ?_
          exact ih_L8 (j + 1) (t1 + 1) g8 g9 g10 g11 (by omega) hM (by rw [ht, cne_y _ _ c2]) (by omega)
        · refine zv_iconst (v := 0) C dX2_renamed_32 33 rfl (by decide) ?_
          refine zv_goto C dX2_renamed_33 37 (by decide) ?_
          refine zv_iadd (v := (nI t1)) C dX2_renamed_37 38 rfl (Int32.add_zero _) ?_
          refine zv_istore_n C dX2_renamed_38 39 rfl [(1, .int (nI t1)), (0, .ref (h 0)), (2, .int (nI j))] (by decide) rfl ?_
          refine zv_iinc (v := (nI (j + 1))) C dX2_renamed_39 42 rfl [(2, .int (nI (j + 1))), (1, .int (nI t1)), (0, .ref (h 0))] 2 rfl (nI_1 j) (by decide) rfl ?_
          refine zv_goto C dX2_renamed_42 8 (by decide) ?_
          refine zv_sub [2, 1, 0] (lv' := [(0, .ref (h 0)), (1, .int (nI t1)), (2, .int (nI (j + 1)))]) rfl ?_
          exact ih_L8 (j + 1) t1 g8 g9 g10 g11 (by omega) hM (by rw [ht, cne_n _ _ c2]) (by omega)
  refine zv_go (pc' := 0) rfl (lv' := [(0, .ref (h 0))]) rfl rfl rfl rfl ?_
  refine zv_aload_n C dX2_renamed_0 1 rfl 0 rfl ?_
  refine zv_callV (rest := []) (wr := []) C (k_X2_reckon l D cI cZ h t n r y b f0 f1 f2 f3 f4 f5 f6 f7 f8 f9 f10 f11 f12 f13 s d (by omega) (by assumption)) (cwV 0 C.1.2.2.2.2 gX2_renamed_X2_reckon rfl rfl rfl (by decide +kernel) ⟨Nat.le_of_ble_eq_true rfl, Nat.le_of_ble_eq_true rfl⟩) dX2_renamed_1 4 rfl (ci := 2) 0 rfl rfl rfl rfl (Nat.le_of_ble_eq_true rfl) ⟨Nat.le_of_ble_eq_true rfl, Nat.le_of_ble_eq_true rfl⟩ [0, 1] rfl [0, 1, 2, 3, 4, 5, 6, 7, 8, 9, 10, 11, 12, 13, 14] rfl (by decide) [] rfl (by decide) (by decide +kernel) (fun v w hv => ?_)
  obtain ⟨u8_20, u9_20, u10_20, u11_20, rfl, rfl, huM20⟩ := hv
  refine zv_go rfl rfl (st' := []) rfl (kc' := 0) rfl (ns' := 0) rfl ?_
  refine zv_wd (ws' := (cM cI cZ h t (nI n) r y (nI b) f0 f1 f2 f3 f4 f5 f6 f7 u8_20 u9_20 u10_20 u11_20 f12 f13)) rfl ?_
  refine zv_iconst (v := 0) C dX2_renamed_4 5 rfl (by decide) ?_
  refine zv_istore_n C dX2_renamed_5 6 rfl [(1, .int 0), (0, .ref (h 0))] (by decide) rfl ?_
  refine zv_iconst (v := 0) C dX2_renamed_6 7 rfl (by decide) ?_
  refine zv_istore_n C dX2_renamed_7 8 rfl [(2, .int 0), (1, .int 0), (0, .ref (h 0))] (by decide) rfl ?_
  refine zv_sub [2, 1, 0] (lv' := [(0, .ref (h 0)), (1, .int 0), (2, .int 0)]) rfl ?_
  exact L8 _ 0 0 u8_20 u9_20 u10_20 u11_20 (Nat.zero_le n) huM20 rfl (Nat.lt_succ_self _)
abbrev rmX2_swells : Room := { frames := 1, cells := 0, slots := 0, locals := 21 }
set_option maxHeartbeats 4000000 in
set_option maxRecDepth 100000 in
theorem k_X2_swells (l : Launch) (D : va_G) (cI cZ : ClassId) (h : Nat → Nat) (t : Int32) (n : Nat) (r y : Int32) (b : Nat) (f0 f1 f2 f3 f4 f5 f6 f7 f8 f9 f10 f11 f12 f13 : Nat → Int32) (hn : n ≤ 16) : zv_M l yX2_swells wsX2_swells rmX2_swells D vwCl (tyL cI cZ) [.ref (h 0)] (cM cI cZ h t (nI n) r y (nI b) f0 f1 f2 f3 f4 f5 f6 f7 f8 f9 f10 f11 f12 f13) (fun v w => ∃ (g3 : Nat → Int32), v = none ∧ w = (cM cI cZ h t (nI n) r y (nI b) f0 f1 f2 g3 f4 f5 f6 f7 f8 f9 f10 f11 f12 f13) ∧ (∀ i, i < n → g3 i = swl f1 f3 f4 i) ∧ (∀ i, n ≤ i → g3 i = f3 i)) := by
  refine zv_M.of cX2_swells 2 none (by decide) rfl (Nat.le_of_ble_eq_true rfl) ?_
  intro pP eE sS mM aA bB mT cD A C hr hlk hnm Q hQ
  have inX2 : ∀ w ∈ u_ws RX2 TX2 19, w ∈ wsX2_swells := by decide +kernel
  have lk57 : Cond.fieldLink RX2 57 "RiverNamesModel" "places" "I" ∈ wsX2_swells := by decide +kernel
  have lk13 : Cond.fieldLink RX2 13 "RiverNamesModel" "has" "[Z" ∈ wsX2_swells := by decide +kernel
  have lk20 : Cond.fieldLink RX2 20 "RiverNamesModel" "spring" "[I" ∈ wsX2_swells := by decide +kernel
  have lk23 : Cond.fieldLink RX2 23 "RiverNamesModel" "swell" "[I" ∈ wsX2_swells := by decide +kernel
  have mminlink : Cond.methodLink RX2 110 Lib.Math.min.name ∈ wsX2_swells := by decide +kernel
  have mminstat : Cond.static Lib.Math.min.name ∈ wsX2_swells := by decide +kernel
  have mmincode : Cond.code Lib.Math.min.name Lib.Math.min.code 2 (some .int) ∈ wsX2_swells := by decide +kernel
  have mini : Cond.initialized "java/lang/Math" ∈ wsX2_swells := by decide +kernel
  have mmaxlink : Cond.methodLink RX2 78 Lib.Math.max.name ∈ wsX2_swells := by decide +kernel
  have mmaxstat : Cond.static Lib.Math.max.name ∈ wsX2_swells := by decide +kernel
  have mmaxcode : Cond.code Lib.Math.max.name Lib.Math.max.code 2 (some .int) ∈ wsX2_swells := by decide +kernel
  have L2 : ∀ (mu_L2 : Nat), ∀ (j : Nat) (e3 : Nat → Int32), (j ≤ n) → (∀ i, i < j → e3 i = swl f1 f3 f4 i) → (∀ i, j ≤ i → e3 i = f3 i) → n - j < mu_L2 → zv_V pP l eE rmX2_swells sS mM aA bB mT cD Q 2 D vwCl A A (tyL cI cZ) (cM cI cZ h t (nI n) r y (nI b) f0 f1 f2 e3 f4 f5 f6 f7 f8 f9 f10 f11 f12 f13) 0 0 2 [(0, .ref (h 0)), (1, .int (nI j))] [] := by
    intro mu_L2
    induction mu_L2 with
    | zero => intro j e3 hj ha hb hmu_L2; exact absurd hmu_L2 (Nat.not_lt_zero _)
    | succ mu_L2 ih_L2 =>
      intro j e3 hj ha hb hmu_L2
      refine zv_iload_n C dX2_swells_2 3 rfl 1 rfl ?_
      refine zv_aload_n C dX2_swells_3 4 rfl 0 rfl ?_
      refine zv_get (ci := 2) C inX2 rfl dX2_swells_4 7 rfl 0 1 rfl (by decide) lk57 rfl ?_
      refine zv_icmp_ge C dX2_swells_7 10 53 rfl (by decide) (fun c1 => ?_) (fun c1 => ?_)
      · replace c1 := zn_le (a := n) (b := j) (by omega) (by omega) c1
        exact zv_vret C hr hlk hQ dX2_swells_53 ⟨e3, rfl, rfl, (fun i hi => ha i (by omega)), (fun i hi => hb i (by omega))⟩
      · replace c1 := zn_le' (a := n) (b := j) (by omega) (by omega) c1
        refine zv_aload_n C dX2_swells_10 11 rfl 0 rfl ?_
        refine zv_get (ci := 2) C inX2 rfl dX2_swells_11 14 rfl 0 5 rfl (by decide) lk13 rfl ?_
        refine zv_iload_n C dX2_swells_14 15 rfl 1 rfl ?_
        refine zv_zald (v := (f1 j)) C dX2_swells_15 16 rfl 2 1 j rfl rfl rfl (by omega) (by decide) rfl ?_
        refine zv_if_eq C dX2_swells_16 19 47 rfl (by decide) (fun c2 => ?_) (fun c2 => ?_)
        · refine zv_iinc (v := (nI (j + 1))) C dX2_swells_47 50 rfl [(1, .int (nI (j + 1))), (0, .ref (h 0))] 1 rfl (nI_1 j) (by decide) rfl ?_
          refine zv_goto C dX2_swells_50 2 (by decide) ?_
          refine zv_sub [1, 0] (lv' := [(0, .ref (h 0)), (1, .int (nI (j + 1)))]) rfl ?_
          exact ih_L2 (j + 1) e3 (by omega) (fun i hi => by
      by_cases hij : i = j
      · subst hij; rw [hb i (Nat.le_refl i), swl, if_pos c2]
      · exact ha i (by omega)) (fun i hi => hb i (by omega)) (by omega)
        · refine zv_aload_n C dX2_swells_19 20 rfl 0 rfl ?_
          refine zv_get (ci := 2) C inX2 rfl dX2_swells_20 23 rfl 0 7 rfl (by decide) lk20 rfl ?_
          refine zv_iload_n C dX2_swells_23 24 rfl 1 rfl ?_
          refine zv_iconst (v := 0) C dX2_swells_24 25 rfl (by decide) ?_
          refine zv_bipush (v := 99) C dX2_swells_25 27 rfl (by decide) ?_
          refine zv_aload_n C dX2_swells_27 28 rfl 0 rfl ?_
          refine zv_get (ci := 2) C inX2 rfl dX2_swells_28 31 rfl 0 7 rfl (by decide) lk20 rfl ?_
          refine zv_iload_n C dX2_swells_31 32 rfl 1 rfl ?_
          refine zv_iald (v := (e3 j)) C dX2_swells_32 33 rfl 4 0 j rfl rfl rfl (by omega) (by decide) rfl ?_
          refine zv_aload_n C dX2_swells_33 34 rfl 0 rfl ?_
          refine zv_get (ci := 2) C inX2 rfl dX2_swells_34 37 rfl 0 8 rfl (by decide) lk23 rfl ?_
          refine zv_iload_n C dX2_swells_37 38 rfl 1 rfl ?_
          refine zv_iald (v := (f4 j)) C dX2_swells_38 39 rfl 5 0 j rfl rfl rfl (by omega) (by decide) rfl ?_
          refine zv_iadd (v := ((e3 j) + (f4 j))) C dX2_swells_39 40 rfl rfl ?_
          refine zv_mmin C dX2_swells_40 43 rfl mminlink mminstat mini mmincode (Nat.le_of_ble_eq_true rfl) (Nat.le_of_ble_eq_true rfl) (Nat.le_of_ble_eq_true rfl) (Nat.le_of_ble_eq_true rfl) ?_
          refine zv_mmax C dX2_swells_43 46 rfl mmaxlink mmaxstat mini mmaxcode (Nat.le_of_ble_eq_true rfl) (Nat.le_of_ble_eq_true rfl) (Nat.le_of_ble_eq_true rfl) (Nat.le_of_ble_eq_true rfl) ?_
          refine zv_iast (x' := (if 0 < (if ((e3 j) + (f4 j)) < 99 then ((e3 j) + (f4 j)) else 99) then (if ((e3 j) + (f4 j)) < 99 then ((e3 j) + (f4 j)) else 99) else 0)) C dX2_swells_46 47 rfl 4 0 j rfl rfl rfl (by omega) (by decide) rfl (cM cI cZ h t (nI n) r y (nI b) f0 f1 f2 (upd e3 j (if 0 < (if ((e3 j) + (f4 j)) < 99 then ((e3 j) + (f4 j)) else 99) then (if ((e3 j) + (f4 j)) < 99 then ((e3 j) + (f4 j)) else 99) else 0)) f4 f5 f6 f7 f8 f9 f10 f11 f12 f13) rfl ?_
          refine zv_iinc (v := (nI (j + 1))) C dX2_swells_47 50 rfl [(1, .int (nI (j + 1))), (0, .ref (h 0))] 1 rfl (nI_1 j) (by decide) rfl ?_
          refine zv_goto C dX2_swells_50 2 (by decide) ?_
          refine zv_sub [1, 0] (lv' := [(0, .ref (h 0)), (1, .int (nI (j + 1)))]) rfl ?_
          exact ih_L2 (j + 1) (upd e3 j (if 0 < (if ((e3 j) + (f4 j)) < 99 then ((e3 j) + (f4 j)) else 99) then (if ((e3 j) + (f4 j)) < 99 then ((e3 j) + (f4 j)) else 99) else 0)) (by omega) (fun i hi => by
      by_cases hij : i = j
      · subst hij; rw [upd_at, hb i (Nat.le_refl i), swl, if_neg c2]; rfl
      · rw [upd_ne _ _ _ hij]; exact ha i (by omega)) (fun i hi => by rw [upd_ne _ _ _ (by omega)]; exact hb i (by omega)) (by omega)
  refine zv_go (pc' := 0) rfl (lv' := [(0, .ref (h 0))]) rfl rfl rfl rfl ?_
  refine zv_iconst (v := 0) C dX2_swells_0 1 rfl (by decide) ?_
  refine zv_istore_n C dX2_swells_1 2 rfl [(1, .int 0), (0, .ref (h 0))] (by decide) rfl ?_
  refine zv_sub [1, 0] (lv' := [(0, .ref (h 0)), (1, .int 0)]) rfl ?_
  exact L2 _ 0 f3 (Nat.zero_le n) (fun i hi => absurd hi (Nat.not_lt_zero i)) (fun i _ => rfl) (Nat.lt_succ_self _)
abbrev rmX2_putAway : Room := { frames := 1, cells := 0, slots := 0, locals := 26 }
set_option maxHeartbeats 4000000 in
set_option maxRecDepth 100000 in
theorem k_X2_putAway (l : Launch) (D : va_G) (cI cZ : ClassId) (h : Nat → Nat) (t : Int32) (n : Nat) (r y : Int32) (b : Nat) (f0 f1 f2 f3 f4 f5 f6 f7 f8 f9 f10 f11 f12 f13 : Nat → Int32) : zv_M l yX2_putAway wsX2_putAway rmX2_putAway D vwCl (tyL cI cZ) [.ref (h 0)] (cM cI cZ h t (nI n) r y (nI b) f0 f1 f2 f3 f4 f5 f6 f7 f8 f9 f10 f11 f12 f13) (fun v w => ∃ (g13 : Nat → Int32), v = none ∧ w = (cM cI cZ h t (nI n) r y (nI b) f0 f1 f2 f3 f4 f5 f6 f7 f8 f9 f10 f11 f12 g13) ∧ (∀ i, i < 16 → g13 i = f3 i)) := by
  refine zv_M.of cX2_putAway 1 none (by decide) rfl (Nat.le_of_ble_eq_true rfl) ?_
  intro pP eE sS mM aA bB mT cD A C hr hlk hnm Q hQ
  have inX2 : ∀ w ∈ u_ws RX2 TX2 19, w ∈ wsX2_putAway := by decide +kernel
  have lk20 : Cond.fieldLink RX2 20 "RiverNamesModel" "spring" "[I" ∈ wsX2_putAway := by decide +kernel
  have lk50 : Cond.fieldLink RX2 50 "RiverNamesModel" "away" "[I" ∈ wsX2_putAway := by decide +kernel
  have aclink : Cond.methodLink RX2 104 arraycopyName ∈ wsX2_putAway := by decide +kernel
  have acnat : Cond.native arraycopyName ∈ wsX2_putAway := by decide +kernel
  have acstat : Cond.static arraycopyName ∈ wsX2_putAway := by decide +kernel
  have acini : Cond.initialized "java/lang/System" ∈ wsX2_putAway := by decide +kernel
  refine zv_go (pc' := 0) rfl (lv' := [(0, .ref (h 0))]) rfl rfl rfl rfl ?_
  refine zv_aload_n C dX2_putAway_0 1 rfl 0 rfl ?_
  refine zv_get (ci := 2) C inX2 rfl dX2_putAway_1 4 rfl 0 7 rfl (by decide) lk20 rfl ?_
  refine zv_iconst (v := 0) C dX2_putAway_4 5 rfl (by decide) ?_
  refine zv_aload_n C dX2_putAway_5 6 rfl 0 rfl ?_
  refine zv_get (ci := 2) C inX2 rfl dX2_putAway_6 9 rfl 0 18 rfl (by decide) lk50 rfl ?_
  refine zv_iconst (v := 0) C dX2_putAway_9 10 rfl (by decide) ?_
  refine zv_bipush (v := 16) C dX2_putAway_10 12 rfl (by decide) ?_
  refine zv_copyi C dX2_putAway_12 15 rfl aclink acnat acstat acini 4 14 0 0 rfl rfl rfl rfl (by decide) (by decide) (by decide) (by decide) (by decide) (Nat.le_of_ble_eq_true rfl) (Nat.le_of_ble_eq_true rfl) (cM cI cZ h t (nI n) r y (nI b) f0 f1 f2 f3 f4 f5 f6 f7 f8 f9 f10 f11 f12 (va_cpy f3 f13 0 0 16)) rfl ?_
  exact zv_vret C hr hlk hQ dX2_putAway_15 ⟨(va_cpy f3 f13 0 0 16), rfl, rfl, (fun i hi => sb_cpy0 hi)⟩
abbrev rmX2_bringBack : Room := { frames := 1, cells := 0, slots := 0, locals := 26 }
set_option maxHeartbeats 4000000 in
set_option maxRecDepth 100000 in
theorem k_X2_bringBack (l : Launch) (D : va_G) (cI cZ : ClassId) (h : Nat → Nat) (t : Int32) (n : Nat) (r y : Int32) (b : Nat) (f0 f1 f2 f3 f4 f5 f6 f7 f8 f9 f10 f11 f12 f13 : Nat → Int32) : zv_M l yX2_bringBack wsX2_bringBack rmX2_bringBack D vwCl (tyL cI cZ) [.ref (h 0)] (cM cI cZ h t (nI n) r y (nI b) f0 f1 f2 f3 f4 f5 f6 f7 f8 f9 f10 f11 f12 f13) (fun v w => ∃ (g3 : Nat → Int32), v = none ∧ w = (cM cI cZ h t (nI n) r y (nI b) f0 f1 f2 g3 f4 f5 f6 f7 f8 f9 f10 f11 f12 f13) ∧ (∀ i, i < 16 → g3 i = f13 i)) := by
  refine zv_M.of cX2_bringBack 1 none (by decide) rfl (Nat.le_of_ble_eq_true rfl) ?_
  intro pP eE sS mM aA bB mT cD A C hr hlk hnm Q hQ
  have inX2 : ∀ w ∈ u_ws RX2 TX2 19, w ∈ wsX2_bringBack := by decide +kernel
  have lk50 : Cond.fieldLink RX2 50 "RiverNamesModel" "away" "[I" ∈ wsX2_bringBack := by decide +kernel
  have lk20 : Cond.fieldLink RX2 20 "RiverNamesModel" "spring" "[I" ∈ wsX2_bringBack := by decide +kernel
  have aclink : Cond.methodLink RX2 104 arraycopyName ∈ wsX2_bringBack := by decide +kernel
  have acnat : Cond.native arraycopyName ∈ wsX2_bringBack := by decide +kernel
  have acstat : Cond.static arraycopyName ∈ wsX2_bringBack := by decide +kernel
  have acini : Cond.initialized "java/lang/System" ∈ wsX2_bringBack := by decide +kernel
  refine zv_go (pc' := 0) rfl (lv' := [(0, .ref (h 0))]) rfl rfl rfl rfl ?_
  refine zv_aload_n C dX2_bringBack_0 1 rfl 0 rfl ?_
  refine zv_get (ci := 2) C inX2 rfl dX2_bringBack_1 4 rfl 0 18 rfl (by decide) lk50 rfl ?_
  refine zv_iconst (v := 0) C dX2_bringBack_4 5 rfl (by decide) ?_
  refine zv_aload_n C dX2_bringBack_5 6 rfl 0 rfl ?_
  refine zv_get (ci := 2) C inX2 rfl dX2_bringBack_6 9 rfl 0 7 rfl (by decide) lk20 rfl ?_
  refine zv_iconst (v := 0) C dX2_bringBack_9 10 rfl (by decide) ?_
  refine zv_bipush (v := 16) C dX2_bringBack_10 12 rfl (by decide) ?_
  refine zv_copyi C dX2_bringBack_12 15 rfl aclink acnat acstat acini 14 4 0 0 rfl rfl rfl rfl (by decide) (by decide) (by decide) (by decide) (by decide) (Nat.le_of_ble_eq_true rfl) (Nat.le_of_ble_eq_true rfl) (cM cI cZ h t (nI n) r y (nI b) f0 f1 f2 (va_cpy f13 f3 0 0 16) f4 f5 f6 f7 f8 f9 f10 f11 f12 f13) rfl ?_
  exact zv_vret C hr hlk hQ dX2_bringBack_15 ⟨(va_cpy f13 f3 0 0 16), rfl, rfl, (fun i hi => sb_cpy0 hi)⟩
abbrev rmX2_add : Room := { frames := 0, cells := 0, slots := 0, locals := 0 }
set_option maxHeartbeats 4000000 in
set_option maxRecDepth 100000 in
theorem k_X2_add (l : Launch) (D : va_G) (cI cZ : ClassId) (h : Nat → Nat) (t : Int32) (n : Nat) (r y : Int32) (b : Nat) (f0 f1 f2 f3 f4 f5 f6 f7 f8 f9 f10 f11 f12 f13 : Nat → Int32) (z nm wa sw : Int32) (hz : zo z) (hn : n < 16) : zv_M l yX2_add wsX2_add rmX2_add D vwCl (tyL cI cZ) [.ref (h 0), .int z, .int nm, .int wa, .int sw] (cM cI cZ h t (nI n) r y (nI b) f0 f1 f2 f3 f4 f5 f6 f7 f8 f9 f10 f11 f12 f13) (fun v w => v = some (.int (nI n)) ∧ w = (cM cI cZ h t (nI (n + 1)) r y (nI b) (upd f0 n (-1 : Int32)) (upd f1 n z) (upd f2 n nm) (upd f3 n wa) (upd f4 n sw) f5 f6 f7 f8 f9 f10 f11 f12 f13)) := by
  refine zv_M.of cX2_add 5 (some .int) (by decide) rfl (Nat.le_of_ble_eq_true rfl) ?_
  intro pP eE sS mM aA bB mT cD A C hr hlk hnm Q hQ
  have inX2 : ∀ w ∈ u_ws RX2 TX2 19, w ∈ wsX2_add := by decide +kernel
  have lk9 : Cond.fieldLink RX2 9 "RiverNamesModel" "to" "[I" ∈ wsX2_add := by decide +kernel
  have lk57 : Cond.fieldLink RX2 57 "RiverNamesModel" "places" "I" ∈ wsX2_add := by decide +kernel
  have lk13 : Cond.fieldLink RX2 13 "RiverNamesModel" "has" "[Z" ∈ wsX2_add := by decide +kernel
  have lk17 : Cond.fieldLink RX2 17 "RiverNamesModel" "own" "[I" ∈ wsX2_add := by decide +kernel
  have lk20 : Cond.fieldLink RX2 20 "RiverNamesModel" "spring" "[I" ∈ wsX2_add := by decide +kernel
  have lk23 : Cond.fieldLink RX2 23 "RiverNamesModel" "swell" "[I" ∈ wsX2_add := by decide +kernel
  refine zv_go (pc' := 0) rfl (lv' := [(0, .ref (h 0)), (1, .int z), (2, .int nm), (3, .int wa), (4, .int sw)]) rfl rfl rfl rfl ?_
  refine zv_aload_n C dX2_add_0 1 rfl 0 rfl ?_
  refine zv_get (ci := 2) C inX2 rfl dX2_add_1 4 rfl 0 4 rfl (by decide) lk9 rfl ?_
  refine zv_aload_n C dX2_add_4 5 rfl 0 rfl ?_
  refine zv_get (ci := 2) C inX2 rfl dX2_add_5 8 rfl 0 1 rfl (by decide) lk57 rfl ?_
  refine zv_iconst (v := (-1 : Int32)) C dX2_add_8 9 rfl (by decide) ?_
  refine zv_iast (x' := (-1 : Int32)) C dX2_add_9 10 rfl 1 0 n rfl rfl rfl (by omega) (by decide) rfl (cM cI cZ h t (nI n) r y (nI b) (upd f0 n (-1 : Int32)) f1 f2 f3 f4 f5 f6 f7 f8 f9 f10 f11 f12 f13) rfl ?_
  refine zv_aload_n C dX2_add_10 11 rfl 0 rfl ?_
  refine zv_get (ci := 2) C inX2 rfl dX2_add_11 14 rfl 0 5 rfl (by decide) lk13 rfl ?_
  refine zv_aload_n C dX2_add_14 15 rfl 0 rfl ?_
  refine zv_get (ci := 2) C inX2 rfl dX2_add_15 18 rfl 0 1 rfl (by decide) lk57 rfl ?_
  refine zv_iload_n C dX2_add_18 19 rfl 1 rfl ?_
  refine zv_zast (x' := z) C dX2_add_19 20 rfl 2 1 n rfl rfl rfl (by omega) (by decide) (zo_nar (by assumption)) (cM cI cZ h t (nI n) r y (nI b) (upd f0 n (-1 : Int32)) (upd f1 n z) f2 f3 f4 f5 f6 f7 f8 f9 f10 f11 f12 f13) rfl ?_
  refine zv_aload_n C dX2_add_20 21 rfl 0 rfl ?_
  refine zv_get (ci := 2) C inX2 rfl dX2_add_21 24 rfl 0 6 rfl (by decide) lk17 rfl ?_
  refine zv_aload_n C dX2_add_24 25 rfl 0 rfl ?_
  refine zv_get (ci := 2) C inX2 rfl dX2_add_25 28 rfl 0 1 rfl (by decide) lk57 rfl ?_
  refine zv_iload_n C dX2_add_28 29 rfl 2 rfl ?_
  refine zv_iast (x' := nm) C dX2_add_29 30 rfl 3 0 n rfl rfl rfl (by omega) (by decide) rfl (cM cI cZ h t (nI n) r y (nI b) (upd f0 n (-1 : Int32)) (upd f1 n z) (upd f2 n nm) f3 f4 f5 f6 f7 f8 f9 f10 f11 f12 f13) rfl ?_
  refine zv_aload_n C dX2_add_30 31 rfl 0 rfl ?_
  refine zv_get (ci := 2) C inX2 rfl dX2_add_31 34 rfl 0 7 rfl (by decide) lk20 rfl ?_
  refine zv_aload_n C dX2_add_34 35 rfl 0 rfl ?_
  refine zv_get (ci := 2) C inX2 rfl dX2_add_35 38 rfl 0 1 rfl (by decide) lk57 rfl ?_
  refine zv_iload_n C dX2_add_38 39 rfl 3 rfl ?_
  refine zv_iast (x' := wa) C dX2_add_39 40 rfl 4 0 n rfl rfl rfl (by omega) (by decide) rfl (cM cI cZ h t (nI n) r y (nI b) (upd f0 n (-1 : Int32)) (upd f1 n z) (upd f2 n nm) (upd f3 n wa) f4 f5 f6 f7 f8 f9 f10 f11 f12 f13) rfl ?_
  refine zv_aload_n C dX2_add_40 41 rfl 0 rfl ?_
  refine zv_get (ci := 2) C inX2 rfl dX2_add_41 44 rfl 0 8 rfl (by decide) lk23 rfl ?_
  refine zv_aload_n C dX2_add_44 45 rfl 0 rfl ?_
  refine zv_get (ci := 2) C inX2 rfl dX2_add_45 48 rfl 0 1 rfl (by decide) lk57 rfl ?_
  refine zv_iload C dX2_add_48 50 rfl 4 rfl ?_
  refine zv_iast (x' := sw) C dX2_add_50 51 rfl 5 0 n rfl rfl rfl (by omega) (by decide) rfl (cM cI cZ h t (nI n) r y (nI b) (upd f0 n (-1 : Int32)) (upd f1 n z) (upd f2 n nm) (upd f3 n wa) (upd f4 n sw) f5 f6 f7 f8 f9 f10 f11 f12 f13) rfl ?_
  refine zv_aload_n C dX2_add_51 52 rfl 0 rfl ?_
  refine zv_dup C dX2_add_52 53 rfl rfl ?_
  refine zv_get (ci := 2) C inX2 rfl dX2_add_53 56 rfl 0 1 rfl (by decide) lk57 rfl ?_
  refine zv_iconst (v := 1) C dX2_add_56 57 rfl (by decide) ?_
  refine zv_iadd (v := (nI (n + 1))) C dX2_add_57 58 rfl (nI_1 n) ?_
  refine zv_put (ci := 2) C inX2 rfl tyX2_ok nmX2 dX2_add_58 61 rfl 0 1 rfl (by decide) lk57 rfl rfl rfl (Nat.le_of_ble_eq_true rfl) (cM cI cZ h t (nI (n + 1)) r y (nI b) (upd f0 n (-1 : Int32)) (upd f1 n z) (upd f2 n nm) (upd f3 n wa) (upd f4 n sw) f5 f6 f7 f8 f9 f10 f11 f12 f13) rfl ?_
  refine zv_aload_n C dX2_add_61 62 rfl 0 rfl ?_
  refine zv_get (ci := 2) C inX2 rfl dX2_add_62 65 rfl 0 1 rfl (by decide) lk57 rfl ?_
  refine zv_iconst (v := 1) C dX2_add_65 66 rfl (by decide) ?_
  refine zv_isub (v := (nI n)) C dX2_add_66 67 rfl (nI_pred n) ?_
  exact zv_iret C hr hlk hQ dX2_add_67 ⟨rfl, rfl⟩
