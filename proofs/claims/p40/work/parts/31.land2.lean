abbrev rmX0_countNamed : Room := { frames := 0, cells := 0, slots := 0, locals := 0 }
set_option maxHeartbeats 4000000 in
set_option maxRecDepth 100000 in
theorem k_X0_countNamed (l : Launch) (D : va_G) (cI cZ : ClassId) (h : Nat → Nat) (n : Nat) (r : Int32) (f0 f1 f2 f3 f4 f5 f6 f7 f8 f9 f10 f11 f12 f13 : Nat → Int32) (x : Int32) (hn : n ≤ 16) : zv_R l yX0_countNamed wsX0_countNamed rmX0_countNamed D vwCl (tyL cI cZ) [.ref (h 0), .int x] (cL cI cZ h (nI n) r f0 f1 f2 f3 f4 f5 f6 f7 f8 f9 f10 f11 f12 f13) (fun v => v = some (.int (nI (cnt f9 x n)))) := by
  refine zv_R.of cX0_countNamed 4 (some .int) (by decide) rfl (Nat.le_of_ble_eq_true rfl) ?_
  intro pP eE sS mM aA bB mT cD A C hr hlk hA Q hQ
  have inX0 : ∀ w ∈ u_ws RX0 TX0 16, w ∈ wsX0_countNamed := by decide +kernel
  have lk9 : Cond.fieldLink RX0 9 "RiverNames$Land" "count" "I" ∈ wsX0_countNamed := by decide +kernel
  have lk47 : Cond.fieldLink RX0 47 "RiverNames$Land" "names" "[I" ∈ wsX0_countNamed := by decide +kernel
  have L4 : ∀ (mu_L4 : Nat), ∀ (j t : Nat), (j ≤ n) → (t = cnt f9 x j) → n - j < mu_L4 → zv_V pP l eE rmX0_countNamed sS mM aA bB mT cD Q 4 D vwCl A (fun _ => True) (tyL cI cZ) (cL cI cZ h (nI n) r f0 f1 f2 f3 f4 f5 f6 f7 f8 f9 f10 f11 f12 f13) 0 0 4 [(0, .ref (h 0)), (1, .int x), (2, .int (nI t)), (3, .int (nI j))] [] := by
    intro mu_L4
    induction mu_L4 with
    | zero => intro j t hj ht hmu_L4; exact absurd hmu_L4 (Nat.not_lt_zero _)
    | succ mu_L4 ih_L4 =>
      intro j t hj ht hmu_L4
      refine zv_iload_n C dX0_countNamed_4 5 rfl 3 rfl ?_
      refine zv_aload_n C dX0_countNamed_5 6 rfl 0 rfl ?_
      refine zv_get (ci := 0) C inX0 rfl dX0_countNamed_6 9 rfl 0 0 rfl (by decide) lk9 rfl ?_
      refine zv_icmp_ge C dX0_countNamed_9 12 31 rfl (by decide) (fun c1 => ?_) (fun c1 => ?_)
      · replace c1 := zn_le (a := n) (b := j) (by omega) (by omega) c1
        refine zv_iload_n C dX0_countNamed_31 32 rfl 2 rfl ?_
        exact zv_iretR C hr hlk hA hQ dX0_countNamed_32 (by have hjn : j = n := (by omega); subst hjn; rw [ht])
      · replace c1 := zn_le' (a := n) (b := j) (by omega) (by omega) c1
        refine zv_aload_n C dX0_countNamed_12 13 rfl 0 rfl ?_
        refine zv_get (ci := 0) C inX0 rfl dX0_countNamed_13 16 rfl 0 11 rfl (by decide) lk47 rfl ?_
        refine zv_iload_n C dX0_countNamed_16 17 rfl 3 rfl ?_
        refine zv_iald (v := (f9 j)) C dX0_countNamed_17 18 rfl 10 0 j rfl rfl rfl (by omega) (by decide) rfl ?_
        refine zv_iload_n C dX0_countNamed_18 19 rfl 1 rfl ?_
        refine zv_icmp_ne C dX0_countNamed_19 22 25 rfl (by decide) (fun c2 => ?_) (fun c2 => ?_)
        · refine zv_iinc (v := (nI (j + 1))) C dX0_countNamed_25 28 rfl [(3, .int (nI (j + 1))), (0, .ref (h 0)), (1, .int x), (2, .int (nI t))] 3 rfl (nI_1 j) (by decide) rfl ?_
          refine zv_goto C dX0_countNamed_28 4 (by decide) ?_
          refine zv_sub [1, 2, 3, 0] (lv' := [(0, .ref (h 0)), (1, .int x), (2, .int (nI t)), (3, .int (nI (j + 1)))]) rfl ?_
          exact ih_L4 (j + 1) t (by omega) (by rw [ht, cnt_n _ _ c2]) (by omega)
        · refine zv_iinc (v := (nI (t + 1))) C dX0_countNamed_22 25 rfl [(2, .int (nI (t + 1))), (0, .ref (h 0)), (1, .int x), (3, .int (nI j))] 2 rfl (nI_1 t) (by decide) rfl ?_
          refine zv_iinc (v := (nI (j + 1))) C dX0_countNamed_25 28 rfl [(3, .int (nI (j + 1))), (2, .int (nI (t + 1))), (0, .ref (h 0)), (1, .int x)] 3 rfl (nI_1 j) (by decide) rfl ?_
          refine zv_goto C dX0_countNamed_28 4 (by decide) ?_
          refine zv_sub [2, 3, 1, 0] (lv' := [(0, .ref (h 0)), (1, .int x), (2, .int (nI (t + 1))), (3, .int (nI (j + 1)))]) rfl ?_
          exact ih_L4 (j + 1) (t + 1) (by omega) (by rw [ht, cnt_y _ _ c2]) (by omega)
  refine zv_go (pc' := 0) rfl (lv' := [(0, .ref (h 0)), (1, .int x)]) rfl rfl rfl rfl ?_
  refine zv_iconst (v := 0) C dX0_countNamed_0 1 rfl (by decide) ?_
  refine zv_istore_n C dX0_countNamed_1 2 rfl [(2, .int 0), (0, .ref (h 0)), (1, .int x)] (by decide) rfl ?_
  refine zv_iconst (v := 0) C dX0_countNamed_2 3 rfl (by decide) ?_
  refine zv_istore_n C dX0_countNamed_3 4 rfl [(3, .int 0), (2, .int 0), (0, .ref (h 0)), (1, .int x)] (by decide) rfl ?_
  refine zv_sub [2, 3, 1, 0] (lv' := [(0, .ref (h 0)), (1, .int x), (2, .int 0), (3, .int 0)]) rfl ?_
  exact L4 _ 0 0 (by omega) rfl (Nat.lt_succ_self _)
abbrev rmX0_countNamedOtherThan : Room := { frames := 0, cells := 0, slots := 0, locals := 0 }
set_option maxHeartbeats 4000000 in
set_option maxRecDepth 100000 in
theorem k_X0_countNamedOtherThan (l : Launch) (D : va_G) (cI cZ : ClassId) (h k : Nat → Nat) (n : Nat) (r : Int32) (f0 f1 f2 f3 f4 f5 f6 f7 f8 f9 f10 f11 f12 f13 : Nat → Int32) (n1 : Nat) (r1 : Int32) (g0 g1 g2 g3 g4 g5 g6 g7 g8 g9 g10 g11 g12 g13 : Nat → Int32) (hn : n ≤ 16) : zv_R l yX0_countNamedOtherThan wsX0_countNamedOtherThan rmX0_countNamedOtherThan D vwCl (tyL cI cZ) [.ref (h 0), .ref (k 0)] ((cL cI cZ h (nI n) r f0 f1 f2 f3 f4 f5 f6 f7 f8 f9 f10 f11 f12 f13) ++ (cL cI cZ k (nI n1) r1 g0 g1 g2 g3 g4 g5 g6 g7 g8 g9 g10 g11 g12 g13)) (fun v => v = some (.int (nI (cne f9 g9 n)))) := by
  refine zv_R.of cX0_countNamedOtherThan 4 (some .int) (by decide) rfl (Nat.le_of_ble_eq_true rfl) ?_
  intro pP eE sS mM aA bB mT cD A C hr hlk hA Q hQ
  have inX0 : ∀ w ∈ u_ws RX0 TX0 16, w ∈ wsX0_countNamedOtherThan := by decide +kernel
  have lk9 : Cond.fieldLink RX0 9 "RiverNames$Land" "count" "I" ∈ wsX0_countNamedOtherThan := by decide +kernel
  have lk47 : Cond.fieldLink RX0 47 "RiverNames$Land" "names" "[I" ∈ wsX0_countNamedOtherThan := by decide +kernel
  have L4 : ∀ (mu_L4 : Nat), ∀ (j t : Nat), (j ≤ n) → (t = cne f9 g9 j) → n - j < mu_L4 → zv_V pP l eE rmX0_countNamedOtherThan sS mM aA bB mT cD Q 4 D vwCl A (fun _ => True) (tyL cI cZ) ((cL cI cZ h (nI n) r f0 f1 f2 f3 f4 f5 f6 f7 f8 f9 f10 f11 f12 f13) ++ (cL cI cZ k (nI n1) r1 g0 g1 g2 g3 g4 g5 g6 g7 g8 g9 g10 g11 g12 g13)) 0 0 4 [(0, .ref (h 0)), (1, .ref (k 0)), (2, .int (nI t)), (3, .int (nI j))] [] := by
    intro mu_L4
    induction mu_L4 with
    | zero => intro j t hj ht hmu_L4; exact absurd hmu_L4 (Nat.not_lt_zero _)
    | succ mu_L4 ih_L4 =>
      intro j t hj ht hmu_L4
      refine zv_iload_n C dX0_countNamedOtherThan_4 5 rfl 3 rfl ?_
      refine zv_aload_n C dX0_countNamedOtherThan_5 6 rfl 0 rfl ?_
      refine zv_get (ci := 0) C inX0 rfl dX0_countNamedOtherThan_6 9 rfl 0 0 rfl (by decide) lk9 rfl ?_
      refine zv_icmp_ge C dX0_countNamedOtherThan_9 12 36 rfl (by decide) (fun c1 => ?_) (fun c1 => ?_)
      · replace c1 := zn_le (a := n) (b := j) (by omega) (by omega) c1
        refine zv_iload_n C dX0_countNamedOtherThan_36 37 rfl 2 rfl ?_
        exact zv_iretR C hr hlk hA hQ dX0_countNamedOtherThan_37 (by have hjn : j = n := (by omega); subst hjn; rw [ht])
      · replace c1 := zn_le' (a := n) (b := j) (by omega) (by omega) c1
        refine zv_aload_n C dX0_countNamedOtherThan_12 13 rfl 0 rfl ?_
        refine zv_get (ci := 0) C inX0 rfl dX0_countNamedOtherThan_13 16 rfl 0 11 rfl (by decide) lk47 rfl ?_
        refine zv_iload_n C dX0_countNamedOtherThan_16 17 rfl 3 rfl ?_
        refine zv_iald (v := (f9 j)) C dX0_countNamedOtherThan_17 18 rfl 10 0 j rfl rfl rfl (by omega) (by decide) rfl ?_
        refine zv_aload_n C dX0_countNamedOtherThan_18 19 rfl 1 rfl ?_
        refine zv_get (ci := 0) C inX0 rfl dX0_countNamedOtherThan_19 22 rfl 15 11 rfl (by decide) lk47 rfl ?_
        refine zv_iload_n C dX0_countNamedOtherThan_22 23 rfl 3 rfl ?_
        refine zv_iald (v := (g9 j)) C dX0_countNamedOtherThan_23 24 rfl 25 0 j rfl rfl rfl (by omega) (by decide) rfl ?_
        refine zv_icmp_eq C dX0_countNamedOtherThan_24 27 30 rfl (by decide) (fun c2 => ?_) (fun c2 => ?_)
        · refine zv_iinc (v := (nI (j + 1))) C dX0_countNamedOtherThan_30 33 rfl [(3, .int (nI (j + 1))), (0, .ref (h 0)), (1, .ref (k 0)), (2, .int (nI t))] 3 rfl (nI_1 j) (by decide) rfl ?_
          refine zv_goto C dX0_countNamedOtherThan_33 4 (by decide) ?_
          refine zv_sub [1, 2, 3, 0] (lv' := [(0, .ref (h 0)), (1, .ref (k 0)), (2, .int (nI t)), (3, .int (nI (j + 1)))]) rfl ?_
          exact ih_L4 (j + 1) t (by omega) (by rw [ht, cne_n _ _ c2]) (by omega)
        · refine zv_iinc (v := (nI (t + 1))) C dX0_countNamedOtherThan_27 30 rfl [(2, .int (nI (t + 1))), (0, .ref (h 0)), (1, .ref (k 0)), (3, .int (nI j))] 2 rfl (nI_1 t) (by decide) rfl ?_
          refine zv_iinc (v := (nI (j + 1))) C dX0_countNamedOtherThan_30 33 rfl [(3, .int (nI (j + 1))), (2, .int (nI (t + 1))), (0, .ref (h 0)), (1, .ref (k 0))] 3 rfl (nI_1 j) (by decide) rfl ?_
          refine zv_goto C dX0_countNamedOtherThan_33 4 (by decide) ?_
          refine zv_sub [2, 3, 1, 0] (lv' := [(0, .ref (h 0)), (1, .ref (k 0)), (2, .int (nI (t + 1))), (3, .int (nI (j + 1)))]) rfl ?_
          exact ih_L4 (j + 1) (t + 1) (by omega) (by rw [ht, cne_y _ _ c2]) (by omega)
  refine zv_go (pc' := 0) rfl (lv' := [(0, .ref (h 0)), (1, .ref (k 0))]) rfl rfl rfl rfl ?_
  refine zv_iconst (v := 0) C dX0_countNamedOtherThan_0 1 rfl (by decide) ?_
  refine zv_istore_n C dX0_countNamedOtherThan_1 2 rfl [(2, .int 0), (0, .ref (h 0)), (1, .ref (k 0))] (by decide) rfl ?_
  refine zv_iconst (v := 0) C dX0_countNamedOtherThan_2 3 rfl (by decide) ?_
  refine zv_istore_n C dX0_countNamedOtherThan_3 4 rfl [(3, .int 0), (2, .int 0), (0, .ref (h 0)), (1, .ref (k 0))] (by decide) rfl ?_
  refine zv_sub [2, 3, 1, 0] (lv' := [(0, .ref (h 0)), (1, .ref (k 0)), (2, .int 0), (3, .int 0)]) rfl ?_
  exact L4 _ 0 0 (by omega) rfl (Nat.lt_succ_self _)
abbrev rmX0_argue : Room := { frames := 0, cells := 0, slots := 0, locals := 0 }
set_option maxHeartbeats 4000000 in
set_option maxRecDepth 100000 in
theorem k_X0_argue (l : Launch) (D : va_G) (cI cZ : ClassId) (h : Nat → Nat) (n : Nat) (r : Int32) (f0 f1 f2 f3 f4 f5 f6 f7 f8 f9 f10 f11 f12 f13 : Nat → Int32) (p : Nat) (who nm str : Int32) (hp : p < 16) : zv_M l yX0_argue wsX0_argue rmX0_argue D vwCl (tyL cI cZ) [.ref (h 0), .int (nI p), .int who, .int nm, .int str] (cL cI cZ h (nI n) r f0 f1 f2 f3 f4 f5 f6 f7 f8 f9 f10 f11 f12 f13) (fun v w => v = none ∧ ∃ (g9 g10 g11 g12 g13 : Nat → Int32), w = (cL cI cZ h (nI n) r f0 f1 f2 f3 f4 f5 f6 f7 f8 g9 g10 g11 g12 g13) ∧ (∀ j, ¬ j = p → tat f7 f8 g9 g10 g11 g12 g13 j = tat f7 f8 f9 f10 f11 f12 f13 j) ∧ (g9 p, g10 p, g11 p, g12 p, g13 p) = arg5 (f6 p) who nm str (f9 p) (f10 p) (f11 p) (f12 p) (f13 p)) := by
  refine zv_M.of cX0_argue 6 none (by decide) rfl (Nat.le_of_ble_eq_true rfl) ?_
  intro pP eE sS mM aA bB mT cD A C hr hlk hnm Q hQ
  have inX0 : ∀ w ∈ u_ws RX0 TX0 16, w ∈ wsX0_argue := by decide +kernel
  have lk50 : Cond.fieldLink RX0 50 "RiverNames$Land" "arguers" "[I" ∈ wsX0_argue := by decide +kernel
  have lk56 : Cond.fieldLink RX0 56 "RiverNames$Land" "winners" "[I" ∈ wsX0_argue := by decide +kernel
  have lk59 : Cond.fieldLink RX0 59 "RiverNames$Land" "strengths" "[I" ∈ wsX0_argue := by decide +kernel
  have lk47 : Cond.fieldLink RX0 47 "RiverNames$Land" "names" "[I" ∈ wsX0_argue := by decide +kernel
  have lk38 : Cond.fieldLink RX0 38 "RiverNames$Land" "deltas" "[Z" ∈ wsX0_argue := by decide +kernel
  have lk53 : Cond.fieldLink RX0 53 "RiverNames$Land" "disputed" "[Z" ∈ wsX0_argue := by decide +kernel
  have L36 : ∀ (u11 : Nat → Int32), (f6 p = 0) → (∀ j, ¬ j = p → u11 j = f11 j) → (u11 p = if ¬ f10 p ≤ 0 ∧ ¬ nm = f9 p then 1 else f11 p) → zv_V pP l eE rmX0_argue sS mM aA bB mT cD Q 6 D vwCl A A (tyL cI cZ) (cL cI cZ h (nI n) r f0 f1 f2 f3 f4 f5 f6 f7 f8 f9 f10 u11 f12 f13) 0 0 36 [(0, .ref (h 0)), (1, .int (nI p)), (2, .int who), (3, .int nm), (4, .int str)] [] := by
    intro u11 hdel h11a h11b
    refine zv_aload_n C dX0_argue_36 37 rfl 0 rfl ?_
    refine zv_get (ci := 0) C inX0 rfl dX0_argue_37 40 rfl 0 12 rfl (by decide) lk50 rfl ?_
    refine zv_iload_n C dX0_argue_40 41 rfl 1 rfl ?_
    refine zv_dup2 C dX0_argue_41 42 rfl rfl rfl ?_
    refine zv_iald (v := (f10 p)) C dX0_argue_42 43 rfl 11 0 p rfl rfl rfl (by omega) (by decide) rfl ?_
    refine zv_iconst (v := 1) C dX0_argue_43 44 rfl (by decide) ?_
    refine zv_iadd (v := ((f10 p) + 1)) C dX0_argue_44 45 rfl rfl ?_
    refine zv_iast (x' := ((f10 p) + 1)) C dX0_argue_45 46 rfl 11 0 p rfl rfl rfl (by omega) (by decide) rfl (cL cI cZ h (nI n) r f0 f1 f2 f3 f4 f5 f6 f7 f8 f9 (upd f10 p ((f10 p) + 1)) u11 f12 f13) rfl ?_
    refine zv_aload_n C dX0_argue_46 47 rfl 0 rfl ?_
    refine zv_get (ci := 0) C inX0 rfl dX0_argue_47 50 rfl 0 14 rfl (by decide) lk56 rfl ?_
    refine zv_iload_n C dX0_argue_50 51 rfl 1 rfl ?_
    refine zv_iald (v := (f12 p)) C dX0_argue_51 52 rfl 13 0 p rfl rfl rfl (by omega) (by decide) rfl ?_
    refine zv_iconst (v := (-1 : Int32)) C dX0_argue_52 53 rfl (by decide) ?_
    refine zv_icmp_eq C dX0_argue_53 56 88 rfl (by decide) (fun c1 => ?_) (fun c1 => ?_)
    · refine zv_iconst (v := 1) C dX0_argue_88 89 rfl (by decide) ?_
      refine zv_goto C dX0_argue_89 93 (by decide) ?_
      refine zv_istore C dX0_argue_93 95 rfl [(5, .int 1), (0, .ref (h 0)), (1, .int (nI p)), (2, .int who), (3, .int nm), (4, .int str)] (by decide) rfl ?_
      refine zv_iload C dX0_argue_95 97 rfl 0 rfl ?_
      refine zv_if_eq C dX0_argue_97 100 122 rfl (by decide) (fun q => absurd q (by decide)) (fun _ => ?_)
      refine zv_aload_n C dX0_argue_100 101 rfl 1 rfl ?_
      refine zv_get (ci := 0) C inX0 rfl dX0_argue_101 104 rfl 0 14 rfl (by decide) lk56 rfl ?_
      refine zv_iload_n C dX0_argue_104 105 rfl 2 rfl ?_
      refine zv_iload_n C dX0_argue_105 106 rfl 3 rfl ?_
      refine zv_iast (x' := who) C dX0_argue_106 107 rfl 13 0 p rfl rfl rfl (by omega) (by decide) rfl (cL cI cZ h (nI n) r f0 f1 f2 f3 f4 f5 f6 f7 f8 f9 (upd f10 p ((f10 p) + 1)) u11 (upd f12 p who) f13) rfl ?_
      refine zv_aload_n C dX0_argue_107 108 rfl 1 rfl ?_
      refine zv_get (ci := 0) C inX0 rfl dX0_argue_108 111 rfl 0 15 rfl (by decide) lk59 rfl ?_
      refine zv_iload_n C dX0_argue_111 112 rfl 2 rfl ?_
      refine zv_iload C dX0_argue_112 114 rfl 5 rfl ?_
      refine zv_iast (x' := str) C dX0_argue_114 115 rfl 14 0 p rfl rfl rfl (by omega) (by decide) rfl (cL cI cZ h (nI n) r f0 f1 f2 f3 f4 f5 f6 f7 f8 f9 (upd f10 p ((f10 p) + 1)) u11 (upd f12 p who) (upd f13 p str)) rfl ?_
      refine zv_aload_n C dX0_argue_115 116 rfl 1 rfl ?_
      refine zv_get (ci := 0) C inX0 rfl dX0_argue_116 119 rfl 0 11 rfl (by decide) lk47 rfl ?_
      refine zv_iload_n C dX0_argue_119 120 rfl 2 rfl ?_
      refine zv_iload_n C dX0_argue_120 121 rfl 4 rfl ?_
      refine zv_iast (x' := nm) C dX0_argue_121 122 rfl 10 0 p rfl rfl rfl (by omega) (by decide) rfl (cL cI cZ h (nI n) r f0 f1 f2 f3 f4 f5 f6 f7 f8 (upd f9 p nm) (upd f10 p ((f10 p) + 1)) u11 (upd f12 p who) (upd f13 p str)) rfl ?_
      exact zv_vret C hr hlk hQ dX0_argue_122 ⟨rfl, (upd f9 p nm), (upd f10 p ((f10 p) + 1)), u11, (upd f12 p who), (upd f13 p str), rfl, ⟨fun j hj => by simp [tat, upd, hj, h11a], by simp [arg5, upd, h11b, hdel, c1]⟩⟩
    · refine zv_iload C dX0_argue_56 58 rfl 4 rfl ?_
      refine zv_aload_n C dX0_argue_58 59 rfl 0 rfl ?_
      refine zv_get (ci := 0) C inX0 rfl dX0_argue_59 62 rfl 0 15 rfl (by decide) lk59 rfl ?_
      refine zv_iload_n C dX0_argue_62 63 rfl 1 rfl ?_
      refine zv_iald (v := (f13 p)) C dX0_argue_63 64 rfl 14 0 p rfl rfl rfl (by omega) (by decide) rfl ?_
      refine zv_icmp_gt C dX0_argue_64 67 88 rfl (by decide) (fun c2 => ?_) (fun c2 => ?_)
      · refine zv_iconst (v := 1) C dX0_argue_88 89 rfl (by decide) ?_
        refine zv_goto C dX0_argue_89 93 (by decide) ?_
        refine zv_istore C dX0_argue_93 95 rfl [(5, .int 1), (0, .ref (h 0)), (1, .int (nI p)), (2, .int who), (3, .int nm), (4, .int str)] (by decide) rfl ?_
        refine zv_iload C dX0_argue_95 97 rfl 0 rfl ?_
        refine zv_if_eq C dX0_argue_97 100 122 rfl (by decide) (fun q => absurd q (by decide)) (fun _ => ?_)
        refine zv_aload_n C dX0_argue_100 101 rfl 1 rfl ?_
        refine zv_get (ci := 0) C inX0 rfl dX0_argue_101 104 rfl 0 14 rfl (by decide) lk56 rfl ?_
        refine zv_iload_n C dX0_argue_104 105 rfl 2 rfl ?_
        refine zv_iload_n C dX0_argue_105 106 rfl 3 rfl ?_
        refine zv_iast (x' := who) C dX0_argue_106 107 rfl 13 0 p rfl rfl rfl (by omega) (by decide) rfl (cL cI cZ h (nI n) r f0 f1 f2 f3 f4 f5 f6 f7 f8 f9 (upd f10 p ((f10 p) + 1)) u11 (upd f12 p who) f13) rfl ?_
        refine zv_aload_n C dX0_argue_107 108 rfl 1 rfl ?_
        refine zv_get (ci := 0) C inX0 rfl dX0_argue_108 111 rfl 0 15 rfl (by decide) lk59 rfl ?_
        refine zv_iload_n C dX0_argue_111 112 rfl 2 rfl ?_
        refine zv_iload C dX0_argue_112 114 rfl 5 rfl ?_
        refine zv_iast (x' := str) C dX0_argue_114 115 rfl 14 0 p rfl rfl rfl (by omega) (by decide) rfl (cL cI cZ h (nI n) r f0 f1 f2 f3 f4 f5 f6 f7 f8 f9 (upd f10 p ((f10 p) + 1)) u11 (upd f12 p who) (upd f13 p str)) rfl ?_
        refine zv_aload_n C dX0_argue_115 116 rfl 1 rfl ?_
        refine zv_get (ci := 0) C inX0 rfl dX0_argue_116 119 rfl 0 11 rfl (by decide) lk47 rfl ?_
        refine zv_iload_n C dX0_argue_119 120 rfl 2 rfl ?_
        refine zv_iload_n C dX0_argue_120 121 rfl 4 rfl ?_
        refine zv_iast (x' := nm) C dX0_argue_121 122 rfl 10 0 p rfl rfl rfl (by omega) (by decide) rfl (cL cI cZ h (nI n) r f0 f1 f2 f3 f4 f5 f6 f7 f8 (upd f9 p nm) (upd f10 p ((f10 p) + 1)) u11 (upd f12 p who) (upd f13 p str)) rfl ?_
        exact zv_vret C hr hlk hQ dX0_argue_122 ⟨rfl, (upd f9 p nm), (upd f10 p ((f10 p) + 1)), u11, (upd f12 p who), (upd f13 p str), rfl, ⟨fun j hj => by simp [tat, upd, hj, h11a], by simp [arg5, upd, h11b, hdel, c1, c2]⟩⟩
      · refine zv_iload C dX0_argue_67 69 rfl 4 rfl ?_
        refine zv_aload_n C dX0_argue_69 70 rfl 0 rfl ?_
        refine zv_get (ci := 0) C inX0 rfl dX0_argue_70 73 rfl 0 15 rfl (by decide) lk59 rfl ?_
        refine zv_iload_n C dX0_argue_73 74 rfl 1 rfl ?_
        refine zv_iald (v := (f13 p)) C dX0_argue_74 75 rfl 14 0 p rfl rfl rfl (by omega) (by decide) rfl ?_
        refine zv_icmp_ne C dX0_argue_75 78 92 rfl (by decide) (fun c3 => ?_) (fun c3 => ?_)
        · refine zv_iconst (v := 0) C dX0_argue_92 93 rfl (by decide) ?_
          refine zv_istore C dX0_argue_93 95 rfl [(5, .int 0), (0, .ref (h 0)), (1, .int (nI p)), (2, .int who), (3, .int nm), (4, .int str)] (by decide) rfl ?_
          refine zv_iload C dX0_argue_95 97 rfl 0 rfl ?_
          refine zv_if_eq C dX0_argue_97 100 122 rfl (by decide) (fun _ => ?_) (fun q => absurd (by decide) q)
          exact zv_vret C hr hlk hQ dX0_argue_122 ⟨rfl, f9, (upd f10 p ((f10 p) + 1)), u11, f12, f13, rfl, ⟨fun j hj => by simp [tat, upd, hj, h11a], by simp [arg5, upd, h11b, hdel, c1, c2, c3]⟩⟩
        · refine zv_iload_n C dX0_argue_78 79 rfl 2 rfl ?_
          refine zv_aload_n C dX0_argue_79 80 rfl 0 rfl ?_
          refine zv_get (ci := 0) C inX0 rfl dX0_argue_80 83 rfl 0 14 rfl (by decide) lk56 rfl ?_
          refine zv_iload_n C dX0_argue_83 84 rfl 1 rfl ?_
          refine zv_iald (v := (f12 p)) C dX0_argue_84 85 rfl 13 0 p rfl rfl rfl (by omega) (by decide) rfl ?_
          refine zv_icmp_ge C dX0_argue_85 88 92 rfl (by decide) (fun c4 => ?_) (fun c4 => ?_)
          · refine zv_iconst (v := 0) C dX0_argue_92 93 rfl (by decide) ?_
            refine zv_istore C dX0_argue_93 95 rfl [(5, .int 0), (0, .ref (h 0)), (1, .int (nI p)), (2, .int who), (3, .int nm), (4, .int str)] (by decide) rfl ?_
            refine zv_iload C dX0_argue_95 97 rfl 0 rfl ?_
            refine zv_if_eq C dX0_argue_97 100 122 rfl (by decide) (fun _ => ?_) (fun q => absurd (by decide) q)
            exact zv_vret C hr hlk hQ dX0_argue_122 ⟨rfl, f9, (upd f10 p ((f10 p) + 1)), u11, f12, f13, rfl, ⟨fun j hj => by simp [tat, upd, hj, h11a], by simp [arg5, upd, h11b, hdel, c1, c2, c3, c4]⟩⟩
          · refine zv_iconst (v := 1) C dX0_argue_88 89 rfl (by decide) ?_
            refine zv_goto C dX0_argue_89 93 (by decide) ?_
            refine zv_istore C dX0_argue_93 95 rfl [(5, .int 1), (0, .ref (h 0)), (1, .int (nI p)), (2, .int who), (3, .int nm), (4, .int str)] (by decide) rfl ?_
            refine zv_iload C dX0_argue_95 97 rfl 0 rfl ?_
            refine zv_if_eq C dX0_argue_97 100 122 rfl (by decide) (fun q => absurd q (by decide)) (fun _ => ?_)
            refine zv_aload_n C dX0_argue_100 101 rfl 1 rfl ?_
            refine zv_get (ci := 0) C inX0 rfl dX0_argue_101 104 rfl 0 14 rfl (by decide) lk56 rfl ?_
            refine zv_iload_n C dX0_argue_104 105 rfl 2 rfl ?_
            refine zv_iload_n C dX0_argue_105 106 rfl 3 rfl ?_
            refine zv_iast (x' := who) C dX0_argue_106 107 rfl 13 0 p rfl rfl rfl (by omega) (by decide) rfl (cL cI cZ h (nI n) r f0 f1 f2 f3 f4 f5 f6 f7 f8 f9 (upd f10 p ((f10 p) + 1)) u11 (upd f12 p who) f13) rfl ?_
            refine zv_aload_n C dX0_argue_107 108 rfl 1 rfl ?_
            refine zv_get (ci := 0) C inX0 rfl dX0_argue_108 111 rfl 0 15 rfl (by decide) lk59 rfl ?_
            refine zv_iload_n C dX0_argue_111 112 rfl 2 rfl ?_
            refine zv_iload C dX0_argue_112 114 rfl 5 rfl ?_
            refine zv_iast (x' := str) C dX0_argue_114 115 rfl 14 0 p rfl rfl rfl (by omega) (by decide) rfl (cL cI cZ h (nI n) r f0 f1 f2 f3 f4 f5 f6 f7 f8 f9 (upd f10 p ((f10 p) + 1)) u11 (upd f12 p who) (upd f13 p str)) rfl ?_
            refine zv_aload_n C dX0_argue_115 116 rfl 1 rfl ?_
            refine zv_get (ci := 0) C inX0 rfl dX0_argue_116 119 rfl 0 11 rfl (by decide) lk47 rfl ?_
            refine zv_iload_n C dX0_argue_119 120 rfl 2 rfl ?_
            refine zv_iload_n C dX0_argue_120 121 rfl 4 rfl ?_
            refine zv_iast (x' := nm) C dX0_argue_121 122 rfl 10 0 p rfl rfl rfl (by omega) (by decide) rfl (cL cI cZ h (nI n) r f0 f1 f2 f3 f4 f5 f6 f7 f8 (upd f9 p nm) (upd f10 p ((f10 p) + 1)) u11 (upd f12 p who) (upd f13 p str)) rfl ?_
            exact zv_vret C hr hlk hQ dX0_argue_122 ⟨rfl, (upd f9 p nm), (upd f10 p ((f10 p) + 1)), u11, (upd f12 p who), (upd f13 p str), rfl, ⟨fun j hj => by simp [tat, upd, hj, h11a], by simp [arg5, upd, h11b, hdel, c1, c2, c3, c4]⟩⟩
  refine zv_go (pc' := 0) rfl (lv' := [(0, .ref (h 0)), (1, .int (nI p)), (2, .int who), (3, .int nm), (4, .int str)]) rfl rfl rfl rfl ?_
  refine zv_aload_n C dX0_argue_0 1 rfl 0 rfl ?_
  refine zv_get (ci := 0) C inX0 rfl dX0_argue_1 4 rfl 0 8 rfl (by decide) lk38 rfl ?_
  refine zv_iload_n C dX0_argue_4 5 rfl 1 rfl ?_
  refine zv_zald (v := (f6 p)) C dX0_argue_5 6 rfl 7 1 p rfl rfl rfl (by omega) (by decide) rfl ?_
  refine zv_if_eq C dX0_argue_6 9 10 rfl (by decide) (fun c5 => ?_) (fun c5 => ?_)
  · refine zv_aload_n C dX0_argue_10 11 rfl 0 rfl ?_
    refine zv_get (ci := 0) C inX0 rfl dX0_argue_11 14 rfl 0 12 rfl (by decide) lk50 rfl ?_
    refine zv_iload_n C dX0_argue_14 15 rfl 1 rfl ?_
    refine zv_iald (v := (f10 p)) C dX0_argue_15 16 rfl 11 0 p rfl rfl rfl (by omega) (by decide) rfl ?_
    refine zv_if_le C dX0_argue_16 19 36 rfl (by decide) (fun c6 => ?_) (fun c6 => ?_)
    · exact L36 f11 c5 (fun j hj => rfl) (by simp [upd, c5, c6])
    · refine zv_iload_n C dX0_argue_19 20 rfl 3 rfl ?_
      refine zv_aload_n C dX0_argue_20 21 rfl 0 rfl ?_
      refine zv_get (ci := 0) C inX0 rfl dX0_argue_21 24 rfl 0 11 rfl (by decide) lk47 rfl ?_
      refine zv_iload_n C dX0_argue_24 25 rfl 1 rfl ?_
      refine zv_iald (v := (f9 p)) C dX0_argue_25 26 rfl 10 0 p rfl rfl rfl (by omega) (by decide) rfl ?_
      refine zv_icmp_eq C dX0_argue_26 29 36 rfl (by decide) (fun c7 => ?_) (fun c7 => ?_)
      · exact L36 f11 c5 (fun j hj => rfl) (by simp [upd, c5, c6, c7])
      · refine zv_aload_n C dX0_argue_29 30 rfl 0 rfl ?_
        refine zv_get (ci := 0) C inX0 rfl dX0_argue_30 33 rfl 0 13 rfl (by decide) lk53 rfl ?_
        refine zv_iload_n C dX0_argue_33 34 rfl 1 rfl ?_
        refine zv_iconst (v := 1) C dX0_argue_34 35 rfl (by decide) ?_
        refine zv_zast (x' := 1) C dX0_argue_35 36 rfl 12 1 p rfl rfl rfl (by omega) (by decide) (by decide) (cL cI cZ h (nI n) r f0 f1 f2 f3 f4 f5 f6 f7 f8 f9 f10 (upd f11 p 1) f12 f13) rfl ?_
        exact L36 (upd f11 p 1) c5 (fun j hj => by simp [upd, hj]) (by simp [upd, c5, c6, c7])
  · exact zv_vret C hr hlk hQ dX0_argue_9 ⟨rfl, f9, f10, f11, f12, f13, rfl, ⟨fun j hj => rfl, by simp [arg5, c5]⟩⟩
abbrev rmX0_rise : Room := { frames := 1, cells := 0, slots := 0, locals := 25 }
set_option maxHeartbeats 4000000 in
set_option maxRecDepth 100000 in
theorem k_X0_rise (l : Launch) (D : va_G) (cI cZ : ClassId) (h : Nat → Nat) (n : Nat) (r : Int32) (f0 f1 f2 f3 f4 f5 f6 f7 f8 f9 f10 f11 f12 f13 : Nat → Int32) (p : Nat) (hp : p < 16) : zv_M l yX0_rise wsX0_rise rmX0_rise D vwCl (tyL cI cZ) [.ref (h 0), .int (nI p)] (cL cI cZ h (nI n) r f0 f1 f2 f3 f4 f5 f6 f7 f8 f9 f10 f11 f12 f13) (fun v w => v = none ∧ ∃ (g7 g8 g9 g10 g11 g12 g13 : Nat → Int32), w = (cL cI cZ h (nI n) r f0 f1 f2 f3 f4 f5 f6 g7 g8 g9 g10 g11 g12 g13) ∧ (∀ j, ¬ j = p → tat g7 g8 g9 g10 g11 g12 g13 j = tat f7 f8 f9 f10 f11 f12 f13 j) ∧ tat g7 g8 g9 g10 g11 g12 g13 p = rise7 (f4 p) (f6 p) r (f3 p) (nI p)) := by
  refine zv_M.of cX0_rise 4 none (by decide) rfl (Nat.le_of_ble_eq_true rfl) ?_
  intro pP eE sS mM aA bB mT cD A C hr hlk hnm Q hQ
  have inX0 : ∀ w ∈ u_ws RX0 TX0 16, w ∈ wsX0_rise := by decide +kernel
  have lk32 : Cond.fieldLink RX0 32 "RiverNames$Land" "springWater" "[I" ∈ wsX0_rise := by decide +kernel
  have lk41 : Cond.fieldLink RX0 41 "RiverNames$Land" "water" "[I" ∈ wsX0_rise := by decide +kernel
  have lk44 : Cond.fieldLink RX0 44 "RiverNames$Land" "lengths" "[I" ∈ wsX0_rise := by decide +kernel
  have lk47 : Cond.fieldLink RX0 47 "RiverNames$Land" "names" "[I" ∈ wsX0_rise := by decide +kernel
  have lk50 : Cond.fieldLink RX0 50 "RiverNames$Land" "arguers" "[I" ∈ wsX0_rise := by decide +kernel
  have lk53 : Cond.fieldLink RX0 53 "RiverNames$Land" "disputed" "[Z" ∈ wsX0_rise := by decide +kernel
  have lk56 : Cond.fieldLink RX0 56 "RiverNames$Land" "winners" "[I" ∈ wsX0_rise := by decide +kernel
  have lk59 : Cond.fieldLink RX0 59 "RiverNames$Land" "strengths" "[I" ∈ wsX0_rise := by decide +kernel
  have lk15 : Cond.fieldLink RX0 15 "RiverNames$Land" "rule" "I" ∈ wsX0_rise := by decide +kernel
  have lk29 : Cond.fieldLink RX0 29 "RiverNames$Land" "springNames" "[I" ∈ wsX0_rise := by decide +kernel
  refine zv_go (pc' := 0) rfl (lv' := [(0, .ref (h 0)), (1, .int (nI p))]) rfl rfl rfl rfl ?_
  refine zv_aload_n C dX0_rise_0 1 rfl 0 rfl ?_
  refine zv_get (ci := 0) C inX0 rfl dX0_rise_1 4 rfl 0 6 rfl (by decide) lk32 rfl ?_
  refine zv_iload_n C dX0_rise_4 5 rfl 1 rfl ?_
  refine zv_iald (v := (f4 p)) C dX0_rise_5 6 rfl 5 0 p rfl rfl rfl (by omega) (by decide) rfl ?_
  refine zv_if_le C dX0_rise_6 9 13 rfl (by decide) (fun c1 => ?_) (fun c1 => ?_)
  · refine zv_iconst (v := 0) C dX0_rise_13 14 rfl (by decide) ?_
    refine zv_istore_n C dX0_rise_14 15 rfl [(2, .int 0), (0, .ref (h 0)), (1, .int (nI p))] (by decide) rfl ?_
    refine zv_aload_n C dX0_rise_15 16 rfl 1 rfl ?_
    refine zv_get (ci := 0) C inX0 rfl dX0_rise_16 19 rfl 0 9 rfl (by decide) lk41 rfl ?_
    refine zv_iload_n C dX0_rise_19 20 rfl 2 rfl ?_
    refine zv_aload_n C dX0_rise_20 21 rfl 1 rfl ?_
    refine zv_get (ci := 0) C inX0 rfl dX0_rise_21 24 rfl 0 6 rfl (by decide) lk32 rfl ?_
    refine zv_iload_n C dX0_rise_24 25 rfl 2 rfl ?_
    refine zv_iald (v := (f4 p)) C dX0_rise_25 26 rfl 5 0 p rfl rfl rfl (by omega) (by decide) rfl ?_
    refine zv_iast (x' := (f4 p)) C dX0_rise_26 27 rfl 8 0 p rfl rfl rfl (by omega) (by decide) rfl (cL cI cZ h (nI n) r f0 f1 f2 f3 f4 f5 f6 (upd f7 p (f4 p)) f8 f9 f10 f11 f12 f13) rfl ?_
    refine zv_aload_n C dX0_rise_27 28 rfl 1 rfl ?_
    refine zv_get (ci := 0) C inX0 rfl dX0_rise_28 31 rfl 0 10 rfl (by decide) lk44 rfl ?_
    refine zv_iload_n C dX0_rise_31 32 rfl 2 rfl ?_
    refine zv_iload_n C dX0_rise_32 33 rfl 0 rfl ?_
    refine zv_if_eq C dX0_rise_33 36 40 rfl (by decide) (fun _ => ?_) (fun q => absurd (by decide) q)
    refine zv_iconst (v := 0) C dX0_rise_40 41 rfl (by decide) ?_
    refine zv_iast (x' := 0) C dX0_rise_41 42 rfl 9 0 p rfl rfl rfl (by omega) (by decide) rfl (cL cI cZ h (nI n) r f0 f1 f2 f3 f4 f5 f6 (upd f7 p (f4 p)) (upd f8 p 0) f9 f10 f11 f12 f13) rfl ?_
    refine zv_aload_n C dX0_rise_42 43 rfl 1 rfl ?_
    refine zv_get (ci := 0) C inX0 rfl dX0_rise_43 46 rfl 0 11 rfl (by decide) lk47 rfl ?_
    refine zv_iload_n C dX0_rise_46 47 rfl 2 rfl ?_
    refine zv_iconst (v := (-1 : Int32)) C dX0_rise_47 48 rfl (by decide) ?_
    refine zv_iast (x' := (-1 : Int32)) C dX0_rise_48 49 rfl 10 0 p rfl rfl rfl (by omega) (by decide) rfl (cL cI cZ h (nI n) r f0 f1 f2 f3 f4 f5 f6 (upd f7 p (f4 p)) (upd f8 p 0) (upd f9 p (-1 : Int32)) f10 f11 f12 f13) rfl ?_
    refine zv_aload_n C dX0_rise_49 50 rfl 1 rfl ?_
    refine zv_get (ci := 0) C inX0 rfl dX0_rise_50 53 rfl 0 12 rfl (by decide) lk50 rfl ?_
    refine zv_iload_n C dX0_rise_53 54 rfl 2 rfl ?_
    refine zv_iconst (v := 0) C dX0_rise_54 55 rfl (by decide) ?_
    refine zv_iast (x' := 0) C dX0_rise_55 56 rfl 11 0 p rfl rfl rfl (by omega) (by decide) rfl (cL cI cZ h (nI n) r f0 f1 f2 f3 f4 f5 f6 (upd f7 p (f4 p)) (upd f8 p 0) (upd f9 p (-1 : Int32)) (upd f10 p 0) f11 f12 f13) rfl ?_
    refine zv_aload_n C dX0_rise_56 57 rfl 1 rfl ?_
    refine zv_get (ci := 0) C inX0 rfl dX0_rise_57 60 rfl 0 13 rfl (by decide) lk53 rfl ?_
    refine zv_iload_n C dX0_rise_60 61 rfl 2 rfl ?_
    refine zv_iconst (v := 0) C dX0_rise_61 62 rfl (by decide) ?_
    refine zv_zast (x' := 0) C dX0_rise_62 63 rfl 12 1 p rfl rfl rfl (by omega) (by decide) (by decide) (cL cI cZ h (nI n) r f0 f1 f2 f3 f4 f5 f6 (upd f7 p (f4 p)) (upd f8 p 0) (upd f9 p (-1 : Int32)) (upd f10 p 0) (upd f11 p 0) f12 f13) rfl ?_
    refine zv_aload_n C dX0_rise_63 64 rfl 1 rfl ?_
    refine zv_get (ci := 0) C inX0 rfl dX0_rise_64 67 rfl 0 14 rfl (by decide) lk56 rfl ?_
    refine zv_iload_n C dX0_rise_67 68 rfl 2 rfl ?_
    refine zv_iconst (v := (-1 : Int32)) C dX0_rise_68 69 rfl (by decide) ?_
    refine zv_iast (x' := (-1 : Int32)) C dX0_rise_69 70 rfl 13 0 p rfl rfl rfl (by omega) (by decide) rfl (cL cI cZ h (nI n) r f0 f1 f2 f3 f4 f5 f6 (upd f7 p (f4 p)) (upd f8 p 0) (upd f9 p (-1 : Int32)) (upd f10 p 0) (upd f11 p 0) (upd f12 p (-1 : Int32)) f13) rfl ?_
    refine zv_aload_n C dX0_rise_70 71 rfl 1 rfl ?_
    refine zv_get (ci := 0) C inX0 rfl dX0_rise_71 74 rfl 0 15 rfl (by decide) lk59 rfl ?_
    refine zv_iload_n C dX0_rise_74 75 rfl 2 rfl ?_
    refine zv_iconst (v := 0) C dX0_rise_75 76 rfl (by decide) ?_
    refine zv_iast (x' := 0) C dX0_rise_76 77 rfl 14 0 p rfl rfl rfl (by omega) (by decide) rfl (cL cI cZ h (nI n) r f0 f1 f2 f3 f4 f5 f6 (upd f7 p (f4 p)) (upd f8 p 0) (upd f9 p (-1 : Int32)) (upd f10 p 0) (upd f11 p 0) (upd f12 p (-1 : Int32)) (upd f13 p 0)) rfl ?_
    refine zv_iload_n C dX0_rise_77 78 rfl 0 rfl ?_
    refine zv_if_eq C dX0_rise_78 81 112 rfl (by decide) (fun _ => ?_) (fun q => absurd (by decide) q)
    exact zv_vret C hr hlk hQ dX0_rise_112 ⟨rfl, (upd f7 p (f4 p)), (upd f8 p 0), (upd f9 p (-1 : Int32)), (upd f10 p 0), (upd f11 p 0), (upd f12 p (-1 : Int32)), (upd f13 p 0), rfl, ⟨fun j hj => by simp [tat, upd, hj], by simp [tat, rise7, upd, c1]⟩⟩
  · refine zv_iconst (v := 1) C dX0_rise_9 10 rfl (by decide) ?_
    refine zv_goto C dX0_rise_10 14 (by decide) ?_
    refine zv_istore_n C dX0_rise_14 15 rfl [(2, .int 1), (0, .ref (h 0)), (1, .int (nI p))] (by decide) rfl ?_
    refine zv_aload_n C dX0_rise_15 16 rfl 1 rfl ?_
    refine zv_get (ci := 0) C inX0 rfl dX0_rise_16 19 rfl 0 9 rfl (by decide) lk41 rfl ?_
    refine zv_iload_n C dX0_rise_19 20 rfl 2 rfl ?_
    refine zv_aload_n C dX0_rise_20 21 rfl 1 rfl ?_
    refine zv_get (ci := 0) C inX0 rfl dX0_rise_21 24 rfl 0 6 rfl (by decide) lk32 rfl ?_
    refine zv_iload_n C dX0_rise_24 25 rfl 2 rfl ?_
    refine zv_iald (v := (f4 p)) C dX0_rise_25 26 rfl 5 0 p rfl rfl rfl (by omega) (by decide) rfl ?_
    refine zv_iast (x' := (f4 p)) C dX0_rise_26 27 rfl 8 0 p rfl rfl rfl (by omega) (by decide) rfl (cL cI cZ h (nI n) r f0 f1 f2 f3 f4 f5 f6 (upd f7 p (f4 p)) f8 f9 f10 f11 f12 f13) rfl ?_
    refine zv_aload_n C dX0_rise_27 28 rfl 1 rfl ?_
    refine zv_get (ci := 0) C inX0 rfl dX0_rise_28 31 rfl 0 10 rfl (by decide) lk44 rfl ?_
    refine zv_iload_n C dX0_rise_31 32 rfl 2 rfl ?_
    refine zv_iload_n C dX0_rise_32 33 rfl 0 rfl ?_
    refine zv_if_eq C dX0_rise_33 36 40 rfl (by decide) (fun q => absurd q (by decide)) (fun _ => ?_)
    refine zv_iconst (v := 1) C dX0_rise_36 37 rfl (by decide) ?_
    refine zv_goto C dX0_rise_37 41 (by decide) ?_
    refine zv_iast (x' := 1) C dX0_rise_41 42 rfl 9 0 p rfl rfl rfl (by omega) (by decide) rfl (cL cI cZ h (nI n) r f0 f1 f2 f3 f4 f5 f6 (upd f7 p (f4 p)) (upd f8 p 1) f9 f10 f11 f12 f13) rfl ?_
    refine zv_aload_n C dX0_rise_42 43 rfl 1 rfl ?_
    refine zv_get (ci := 0) C inX0 rfl dX0_rise_43 46 rfl 0 11 rfl (by decide) lk47 rfl ?_
    refine zv_iload_n C dX0_rise_46 47 rfl 2 rfl ?_
    refine zv_iconst (v := (-1 : Int32)) C dX0_rise_47 48 rfl (by decide) ?_
    refine zv_iast (x' := (-1 : Int32)) C dX0_rise_48 49 rfl 10 0 p rfl rfl rfl (by omega) (by decide) rfl (cL cI cZ h (nI n) r f0 f1 f2 f3 f4 f5 f6 (upd f7 p (f4 p)) (upd f8 p 1) (upd f9 p (-1 : Int32)) f10 f11 f12 f13) rfl ?_
    refine zv_aload_n C dX0_rise_49 50 rfl 1 rfl ?_
    refine zv_get (ci := 0) C inX0 rfl dX0_rise_50 53 rfl 0 12 rfl (by decide) lk50 rfl ?_
    refine zv_iload_n C dX0_rise_53 54 rfl 2 rfl ?_
    refine zv_iconst (v := 0) C dX0_rise_54 55 rfl (by decide) ?_
    refine zv_iast (x' := 0) C dX0_rise_55 56 rfl 11 0 p rfl rfl rfl (by omega) (by decide) rfl (cL cI cZ h (nI n) r f0 f1 f2 f3 f4 f5 f6 (upd f7 p (f4 p)) (upd f8 p 1) (upd f9 p (-1 : Int32)) (upd f10 p 0) f11 f12 f13) rfl ?_
    refine zv_aload_n C dX0_rise_56 57 rfl 1 rfl ?_
    refine zv_get (ci := 0) C inX0 rfl dX0_rise_57 60 rfl 0 13 rfl (by decide) lk53 rfl ?_
    refine zv_iload_n C dX0_rise_60 61 rfl 2 rfl ?_
    refine zv_iconst (v := 0) C dX0_rise_61 62 rfl (by decide) ?_
    refine zv_zast (x' := 0) C dX0_rise_62 63 rfl 12 1 p rfl rfl rfl (by omega) (by decide) (by decide) (cL cI cZ h (nI n) r f0 f1 f2 f3 f4 f5 f6 (upd f7 p (f4 p)) (upd f8 p 1) (upd f9 p (-1 : Int32)) (upd f10 p 0) (upd f11 p 0) f12 f13) rfl ?_
    refine zv_aload_n C dX0_rise_63 64 rfl 1 rfl ?_
    refine zv_get (ci := 0) C inX0 rfl dX0_rise_64 67 rfl 0 14 rfl (by decide) lk56 rfl ?_
    refine zv_iload_n C dX0_rise_67 68 rfl 2 rfl ?_
    refine zv_iconst (v := (-1 : Int32)) C dX0_rise_68 69 rfl (by decide) ?_
    refine zv_iast (x' := (-1 : Int32)) C dX0_rise_69 70 rfl 13 0 p rfl rfl rfl (by omega) (by decide) rfl (cL cI cZ h (nI n) r f0 f1 f2 f3 f4 f5 f6 (upd f7 p (f4 p)) (upd f8 p 1) (upd f9 p (-1 : Int32)) (upd f10 p 0) (upd f11 p 0) (upd f12 p (-1 : Int32)) f13) rfl ?_
    refine zv_aload_n C dX0_rise_70 71 rfl 1 rfl ?_
    refine zv_get (ci := 0) C inX0 rfl dX0_rise_71 74 rfl 0 15 rfl (by decide) lk59 rfl ?_
    refine zv_iload_n C dX0_rise_74 75 rfl 2 rfl ?_
    refine zv_iconst (v := 0) C dX0_rise_75 76 rfl (by decide) ?_
    refine zv_iast (x' := 0) C dX0_rise_76 77 rfl 14 0 p rfl rfl rfl (by omega) (by decide) rfl (cL cI cZ h (nI n) r f0 f1 f2 f3 f4 f5 f6 (upd f7 p (f4 p)) (upd f8 p 1) (upd f9 p (-1 : Int32)) (upd f10 p 0) (upd f11 p 0) (upd f12 p (-1 : Int32)) (upd f13 p 0)) rfl ?_
    refine zv_iload_n C dX0_rise_77 78 rfl 0 rfl ?_
    refine zv_if_eq C dX0_rise_78 81 112 rfl (by decide) (fun q => absurd q (by decide)) (fun _ => ?_)
    refine zv_aload_n C dX0_rise_81 82 rfl 1 rfl ?_
    refine zv_get (ci := 0) C inX0 rfl dX0_rise_82 85 rfl 0 1 rfl (by decide) lk15 rfl ?_
    refine zv_if_ne C dX0_rise_85 88 97 rfl (by decide) (fun c2 => ?_) (fun c2 => ?_)
    · refine zv_iconst (v := 0) C dX0_rise_97 98 rfl (by decide) ?_
      refine zv_istore_n C dX0_rise_98 99 rfl [(3, .int 0), (2, .int 1), (0, .ref (h 0)), (1, .int (nI p))] (by decide) rfl ?_
      refine zv_aload_n C dX0_rise_99 100 rfl 2 rfl ?_
      refine zv_iload_n C dX0_rise_100 101 rfl 3 rfl ?_
      refine zv_iload_n C dX0_rise_101 102 rfl 3 rfl ?_
      refine zv_aload_n C dX0_rise_102 103 rfl 2 rfl ?_
      refine zv_get (ci := 0) C inX0 rfl dX0_rise_103 106 rfl 0 5 rfl (by decide) lk29 rfl ?_
      refine zv_iload_n C dX0_rise_106 107 rfl 3 rfl ?_
      refine zv_iald (v := (f3 p)) C dX0_rise_107 108 rfl 4 0 p rfl rfl rfl (by omega) (by decide) rfl ?_
      refine zv_iload_n C dX0_rise_108 109 rfl 0 rfl ?_
      refine zv_callV (rest := []) (wr := []) C (k_X0_argue l D cI cZ h n r f0 f1 f2 f3 f4 f5 f6 (upd f7 p (f4 p)) (upd f8 p 1) (upd f9 p (-1 : Int32)) (upd f10 p 0) (upd f11 p 0) (upd f12 p (-1 : Int32)) (upd f13 p 0) p (nI p) (f3 p) 0 (by omega)) (cwV 4 C.1.2.2.2.2 gX0_rise_X0_argue rfl rfl rfl (by decide +kernel) ⟨Nat.le_of_ble_eq_true rfl, Nat.le_of_ble_eq_true rfl⟩) dX0_rise_109 112 rfl (ci := 0) 0 rfl rfl rfl rfl (Nat.le_of_ble_eq_true rfl) ⟨Nat.le_of_ble_eq_true rfl, Nat.le_of_ble_eq_true rfl⟩ [0, 1] rfl [0, 1, 2, 3, 4, 5, 6, 7, 8, 9, 10, 11, 12, 13, 14] rfl (by decide) [] rfl (by decide) (by decide +kernel) (fun v w hv => ?_)
      obtain ⟨rfl, u9_1, u10_1, u11_1, u12_1, u13_1, rfl, hu1⟩ := hv
      refine zv_go rfl rfl (st' := []) rfl (kc' := 0) rfl (ns' := 0) rfl ?_
      refine zv_wd (ws' := (cL cI cZ h (nI n) r f0 f1 f2 f3 f4 f5 f6 (upd f7 p (f4 p)) (upd f8 p 1) u9_1 u10_1 u11_1 u12_1 u13_1)) rfl ?_
      exact zv_vret C hr hlk hQ dX0_rise_112 ⟨rfl, (upd f7 p (f4 p)), (upd f8 p 1), u9_1, u10_1, u11_1, u12_1, u13_1, rfl, ⟨fun j hj => (hu1.1 j hj).trans (by simp [tat, upd, hj]), by
      have h2 := hu1.2
      simp only [upd_at] at h2
      simp only [tat, rise7, upd_at]
      rw [if_neg c1, if_neg c1, if_neg c2, ← h2]⟩⟩
    · refine zv_aload_n C dX0_rise_88 89 rfl 1 rfl ?_
      refine zv_get (ci := 0) C inX0 rfl dX0_rise_89 92 rfl 0 6 rfl (by decide) lk32 rfl ?_
      refine zv_iload_n C dX0_rise_92 93 rfl 2 rfl ?_
      refine zv_iald (v := (f4 p)) C dX0_rise_93 94 rfl 5 0 p rfl rfl rfl (by omega) (by decide) rfl ?_
      refine zv_goto C dX0_rise_94 98 (by decide) ?_
      refine zv_istore_n C dX0_rise_98 99 rfl [(3, .int (f4 p)), (2, .int 1), (0, .ref (h 0)), (1, .int (nI p))] (by decide) rfl ?_
      refine zv_aload_n C dX0_rise_99 100 rfl 2 rfl ?_
      refine zv_iload_n C dX0_rise_100 101 rfl 3 rfl ?_
      refine zv_iload_n C dX0_rise_101 102 rfl 3 rfl ?_
      refine zv_aload_n C dX0_rise_102 103 rfl 2 rfl ?_
      refine zv_get (ci := 0) C inX0 rfl dX0_rise_103 106 rfl 0 5 rfl (by decide) lk29 rfl ?_
      refine zv_iload_n C dX0_rise_106 107 rfl 3 rfl ?_
      refine zv_iald (v := (f3 p)) C dX0_rise_107 108 rfl 4 0 p rfl rfl rfl (by omega) (by decide) rfl ?_
      refine zv_iload_n C dX0_rise_108 109 rfl 0 rfl ?_
      refine zv_callV (rest := []) (wr := []) C (k_X0_argue l D cI cZ h n r f0 f1 f2 f3 f4 f5 f6 (upd f7 p (f4 p)) (upd f8 p 1) (upd f9 p (-1 : Int32)) (upd f10 p 0) (upd f11 p 0) (upd f12 p (-1 : Int32)) (upd f13 p 0) p (nI p) (f3 p) (f4 p) (by omega)) (cwV 4 C.1.2.2.2.2 gX0_rise_X0_argue rfl rfl rfl (by decide +kernel) ⟨Nat.le_of_ble_eq_true rfl, Nat.le_of_ble_eq_true rfl⟩) dX0_rise_109 112 rfl (ci := 0) 0 rfl rfl rfl rfl (Nat.le_of_ble_eq_true rfl) ⟨Nat.le_of_ble_eq_true rfl, Nat.le_of_ble_eq_true rfl⟩ [0, 1] rfl [0, 1, 2, 3, 4, 5, 6, 7, 8, 9, 10, 11, 12, 13, 14] rfl (by decide) [] rfl (by decide) (by decide +kernel) (fun v w hv => ?_)
      obtain ⟨rfl, u9_2, u10_2, u11_2, u12_2, u13_2, rfl, hu2⟩ := hv
      refine zv_go rfl rfl (st' := []) rfl (kc' := 0) rfl (ns' := 0) rfl ?_
      refine zv_wd (ws' := (cL cI cZ h (nI n) r f0 f1 f2 f3 f4 f5 f6 (upd f7 p (f4 p)) (upd f8 p 1) u9_2 u10_2 u11_2 u12_2 u13_2)) rfl ?_
      exact zv_vret C hr hlk hQ dX0_rise_112 ⟨rfl, (upd f7 p (f4 p)), (upd f8 p 1), u9_2, u10_2, u11_2, u12_2, u13_2, rfl, ⟨fun j hj => (hu2.1 j hj).trans (by simp [tat, upd, hj]), by
      have h2 := hu2.2
      simp only [upd_at] at h2
      simp only [tat, rise7, upd_at]
      rw [if_neg c1, if_neg c1, if_pos c2, ← h2]⟩⟩
abbrev rmX0_flowOn : Room := { frames := 1, cells := 0, slots := 0, locals := 25 }
set_option maxHeartbeats 4000000 in
set_option maxRecDepth 100000 in
theorem k_X0_flowOn (l : Launch) (D : va_G) (cI cZ : ClassId) (h : Nat → Nat) (n : Nat) (r : Int32) (f0 f1 f2 f3 f4 f5 f6 f7 f8 f9 f10 f11 f12 f13 : Nat → Int32) (p : Nat) (to : Int32) (hn : n ≤ 16) (hp : p < n) (hne : ¬ to = nI p) : zv_M l yX0_flowOn wsX0_flowOn rmX0_flowOn D vwCl (tyL cI cZ) [.ref (h 0), .int (nI p), .int to] (cL cI cZ h (nI n) r f0 f1 f2 f3 f4 f5 f6 f7 f8 f9 f10 f11 f12 f13) (fun v w => v = none ∧ ∃ (g7 g8 g9 g10 g11 g12 g13 : Nat → Int32), w = (cL cI cZ h (nI n) r f0 f1 f2 f3 f4 f5 f6 g7 g8 g9 g10 g11 g12 g13) ∧ ((isP n to = false ∧ ∀ j, tat g7 g8 g9 g10 g11 g12 g13 j = tat f7 f8 f9 f10 f11 f12 f13 j) ∨ ∃ q, q < n ∧ to = nI q ∧ (∀ j, ¬ j = q → tat g7 g8 g9 g10 g11 g12 g13 j = tat f7 f8 f9 f10 f11 f12 f13 j) ∧ tat g7 g8 g9 g10 g11 g12 g13 q = flow7 (f6 q) r (nI p) (f7 p) (f8 p) (f9 p) (tat f7 f8 f9 f10 f11 f12 f13 q))) := by
  refine zv_M.of cX0_flowOn 4 none (by decide) rfl (Nat.le_of_ble_eq_true rfl) ?_
  intro pP eE sS mM aA bB mT cD A C hr hlk hnm Q hQ
  have inX0 : ∀ w ∈ u_ws RX0 TX0 16, w ∈ wsX0_flowOn := by decide +kernel
  have lk41 : Cond.fieldLink RX0 41 "RiverNames$Land" "water" "[I" ∈ wsX0_flowOn := by decide +kernel
  have lk44 : Cond.fieldLink RX0 44 "RiverNames$Land" "lengths" "[I" ∈ wsX0_flowOn := by decide +kernel
  have lk47 : Cond.fieldLink RX0 47 "RiverNames$Land" "names" "[I" ∈ wsX0_flowOn := by decide +kernel
  have lk15 : Cond.fieldLink RX0 15 "RiverNames$Land" "rule" "I" ∈ wsX0_flowOn := by decide +kernel
  have mmaxlink : Cond.methodLink RX0 75 Lib.Math.max.name ∈ wsX0_flowOn := by decide +kernel
  have mmaxstat : Cond.static Lib.Math.max.name ∈ wsX0_flowOn := by decide +kernel
  have mmaxcode : Cond.code Lib.Math.max.name Lib.Math.max.code 2 (some .int) ∈ wsX0_flowOn := by decide +kernel
  have mini : Cond.initialized "java/lang/Math" ∈ wsX0_flowOn := by decide +kernel
  refine zv_go (pc' := 0) rfl (lv' := [(0, .ref (h 0)), (1, .int (nI p)), (2, .int to)]) rfl rfl rfl rfl ?_
  refine zv_aload_n C dX0_flowOn_0 1 rfl 0 rfl ?_
  refine zv_iload_n C dX0_flowOn_1 2 rfl 2 rfl ?_
  refine zv_callVR (rest := []) C (k_X0_isPlace l D cI cZ h n r f0 f1 f2 f3 f4 f5 f6 f7 f8 f9 f10 f11 f12 f13 to) (cwV 1 C.1.2.2.2.2 gX0_flowOn_X0_isPlace rfl rfl rfl (by decide +kernel) ⟨Nat.le_of_ble_eq_true rfl, Nat.le_of_ble_eq_true rfl⟩) dX0_flowOn_2 5 rfl (ci := 0) 0 rfl rfl rfl rfl (Nat.le_of_ble_eq_true rfl) ⟨Nat.le_of_ble_eq_true rfl, Nat.le_of_ble_eq_true rfl⟩ [0, 1] rfl [0, 1, 2, 3, 4, 5, 6, 7, 8, 9, 10, 11, 12, 13, 14] rfl (by decide) (fun v hv => ?_)
  subst hv
  refine zv_go rfl rfl (st' := [.int (zb (isP n to))]) rfl (kc' := 0) rfl (ns' := 0) rfl ?_
  refine zv_if_ne C dX0_flowOn_5 8 9 rfl (by decide) (fun c1 => ?_) (fun c1 => ?_)
  · replace c1 := zb_ne0.mp c1
    obtain ⟨q, hq, hxq⟩ := isP_true (by omega) c1
    subst hxq
    have hpq : ¬ p = q := fun z => hne (by rw [z])
    refine zv_aload_n C dX0_flowOn_9 10 rfl 0 rfl ?_
    refine zv_get (ci := 0) C inX0 rfl dX0_flowOn_10 13 rfl 0 9 rfl (by decide) lk41 rfl ?_
    refine zv_iload_n C dX0_flowOn_13 14 rfl 2 rfl ?_
    refine zv_dup2 C dX0_flowOn_14 15 rfl rfl rfl ?_
    refine zv_iald (v := (f7 q)) C dX0_flowOn_15 16 rfl 8 0 q rfl rfl rfl (by omega) (by decide) rfl ?_
    refine zv_aload_n C dX0_flowOn_16 17 rfl 0 rfl ?_
    refine zv_get (ci := 0) C inX0 rfl dX0_flowOn_17 20 rfl 0 9 rfl (by decide) lk41 rfl ?_
    refine zv_iload_n C dX0_flowOn_20 21 rfl 1 rfl ?_
    refine zv_iald (v := (f7 p)) C dX0_flowOn_21 22 rfl 8 0 p rfl rfl rfl (by omega) (by decide) rfl ?_
    refine zv_iadd (v := ((f7 q) + (f7 p))) C dX0_flowOn_22 23 rfl rfl ?_
    refine zv_iast (x' := ((f7 q) + (f7 p))) C dX0_flowOn_23 24 rfl 8 0 q rfl rfl rfl (by omega) (by decide) rfl (cL cI cZ h (nI n) r f0 f1 f2 f3 f4 f5 f6 (upd f7 q ((f7 q) + (f7 p))) f8 f9 f10 f11 f12 f13) rfl ?_
    refine zv_aload_n C dX0_flowOn_24 25 rfl 0 rfl ?_
    refine zv_get (ci := 0) C inX0 rfl dX0_flowOn_25 28 rfl 0 10 rfl (by decide) lk44 rfl ?_
    refine zv_iload_n C dX0_flowOn_28 29 rfl 1 rfl ?_
    refine zv_iald (v := (f8 p)) C dX0_flowOn_29 30 rfl 9 0 p rfl rfl rfl (by omega) (by decide) rfl ?_
    refine zv_if_le C dX0_flowOn_30 33 56 rfl (by decide) (fun c2 => ?_) (fun c2 => ?_)
    · refine zv_aload_n C dX0_flowOn_56 57 rfl 0 rfl ?_
      refine zv_get (ci := 0) C inX0 rfl dX0_flowOn_57 60 rfl 0 11 rfl (by decide) lk47 rfl ?_
      refine zv_iload_n C dX0_flowOn_60 61 rfl 1 rfl ?_
      refine zv_iald (v := (f9 p)) C dX0_flowOn_61 62 rfl 10 0 p rfl rfl rfl (by omega) (by decide) rfl ?_
      refine zv_iconst (v := (-1 : Int32)) C dX0_flowOn_62 63 rfl (by decide) ?_
      refine zv_icmp_eq C dX0_flowOn_63 66 102 rfl (by decide) (fun c3 => ?_) (fun c3 => ?_)
      · exact zv_vret C hr hlk hQ dX0_flowOn_102 ⟨rfl, (upd f7 q ((f7 q) + (f7 p))), f8, f9, f10, f11, f12, f13, rfl, Or.inr ⟨q, hq, rfl, fun j hj => by simp [tat, upd, hj], by
      simp only [tat, flow7, upd_at]
      rw [if_pos c2, if_pos c3] <;> rfl⟩⟩
      · refine zv_aload_n C dX0_flowOn_66 67 rfl 0 rfl ?_
        refine zv_get (ci := 0) C inX0 rfl dX0_flowOn_67 70 rfl 0 1 rfl (by decide) lk15 rfl ?_
        refine zv_if_ne C dX0_flowOn_70 73 82 rfl (by decide) (fun c4 => ?_) (fun c4 => ?_)
        · refine zv_aload_n C dX0_flowOn_82 83 rfl 0 rfl ?_
          refine zv_get (ci := 0) C inX0 rfl dX0_flowOn_83 86 rfl 0 10 rfl (by decide) lk44 rfl ?_
          refine zv_iload_n C dX0_flowOn_86 87 rfl 1 rfl ?_
          refine zv_iald (v := (f8 p)) C dX0_flowOn_87 88 rfl 9 0 p rfl rfl rfl (by omega) (by decide) rfl ?_
          refine zv_istore_n C dX0_flowOn_88 89 rfl [(3, .int (f8 p)), (0, .ref (h 0)), (1, .int (nI p)), (2, .int (nI q))] (by decide) rfl ?_
          refine zv_aload_n C dX0_flowOn_89 90 rfl 1 rfl ?_
          refine zv_iload_n C dX0_flowOn_90 91 rfl 3 rfl ?_
          refine zv_iload_n C dX0_flowOn_91 92 rfl 2 rfl ?_
          refine zv_aload_n C dX0_flowOn_92 93 rfl 1 rfl ?_
          refine zv_get (ci := 0) C inX0 rfl dX0_flowOn_93 96 rfl 0 11 rfl (by decide) lk47 rfl ?_
          refine zv_iload_n C dX0_flowOn_96 97 rfl 2 rfl ?_
          refine zv_iald (v := (f9 p)) C dX0_flowOn_97 98 rfl 10 0 p rfl rfl rfl (by omega) (by decide) rfl ?_
          refine zv_iload_n C dX0_flowOn_98 99 rfl 0 rfl ?_
          refine zv_callV (rest := []) (wr := []) C (k_X0_argue l D cI cZ h n r f0 f1 f2 f3 f4 f5 f6 (upd f7 q ((f7 q) + (f7 p))) f8 f9 f10 f11 f12 f13 q (nI p) (f9 p) (f8 p) (by omega)) (cwV 4 C.1.2.2.2.2 gX0_flowOn_X0_argue rfl rfl rfl (by decide +kernel) ⟨Nat.le_of_ble_eq_true rfl, Nat.le_of_ble_eq_true rfl⟩) dX0_flowOn_99 102 rfl (ci := 0) 0 rfl rfl rfl rfl (Nat.le_of_ble_eq_true rfl) ⟨Nat.le_of_ble_eq_true rfl, Nat.le_of_ble_eq_true rfl⟩ [0, 1] rfl [0, 1, 2, 3, 4, 5, 6, 7, 8, 9, 10, 11, 12, 13, 14] rfl (by decide) [] rfl (by decide) (by decide +kernel) (fun v w hv => ?_)
          obtain ⟨rfl, u9_3, u10_3, u11_3, u12_3, u13_3, rfl, hu3⟩ := hv
          refine zv_go rfl rfl (st' := []) rfl (kc' := 0) rfl (ns' := 0) rfl ?_
          refine zv_wd (ws' := (cL cI cZ h (nI n) r f0 f1 f2 f3 f4 f5 f6 (upd f7 q ((f7 q) + (f7 p))) f8 u9_3 u10_3 u11_3 u12_3 u13_3)) rfl ?_
          exact zv_vret C hr hlk hQ dX0_flowOn_102 ⟨rfl, (upd f7 q ((f7 q) + (f7 p))), f8, u9_3, u10_3, u11_3, u12_3, u13_3, rfl, Or.inr ⟨q, hq, rfl, fun j hj => (hu3.1 j hj).trans (by simp [tat, upd, hj]), by
      have h2 := hu3.2
      simp only [tat, flow7, upd_at]
      rw [if_pos c2, if_neg c3, if_neg c4, ← h2] <;> rfl⟩⟩
        · refine zv_aload_n C dX0_flowOn_73 74 rfl 0 rfl ?_
          refine zv_get (ci := 0) C inX0 rfl dX0_flowOn_74 77 rfl 0 9 rfl (by decide) lk41 rfl ?_
          refine zv_iload_n C dX0_flowOn_77 78 rfl 1 rfl ?_
          refine zv_iald (v := (f7 p)) C dX0_flowOn_78 79 rfl 8 0 p rfl rfl rfl (by omega) (by decide) (upd_ne _ _ _ hpq) ?_
          refine zv_goto C dX0_flowOn_79 88 (by decide) ?_
          refine zv_istore_n C dX0_flowOn_88 89 rfl [(3, .int (f7 p)), (0, .ref (h 0)), (1, .int (nI p)), (2, .int (nI q))] (by decide) rfl ?_
          refine zv_aload_n C dX0_flowOn_89 90 rfl 1 rfl ?_
          refine zv_iload_n C dX0_flowOn_90 91 rfl 3 rfl ?_
          refine zv_iload_n C dX0_flowOn_91 92 rfl 2 rfl ?_
          refine zv_aload_n C dX0_flowOn_92 93 rfl 1 rfl ?_
          refine zv_get (ci := 0) C inX0 rfl dX0_flowOn_93 96 rfl 0 11 rfl (by decide) lk47 rfl ?_
          refine zv_iload_n C dX0_flowOn_96 97 rfl 2 rfl ?_
          refine zv_iald (v := (f9 p)) C dX0_flowOn_97 98 rfl 10 0 p rfl rfl rfl (by omega) (by decide) rfl ?_
          refine zv_iload_n C dX0_flowOn_98 99 rfl 0 rfl ?_
          refine zv_callV (rest := []) (wr := []) C (k_X0_argue l D cI cZ h n r f0 f1 f2 f3 f4 f5 f6 (upd f7 q ((f7 q) + (f7 p))) f8 f9 f10 f11 f12 f13 q (nI p) (f9 p) (f7 p) (by omega)) (cwV 4 C.1.2.2.2.2 gX0_flowOn_X0_argue rfl rfl rfl (by decide +kernel) ⟨Nat.le_of_ble_eq_true rfl, Nat.le_of_ble_eq_true rfl⟩) dX0_flowOn_99 102 rfl (ci := 0) 0 rfl rfl rfl rfl (Nat.le_of_ble_eq_true rfl) ⟨Nat.le_of_ble_eq_true rfl, Nat.le_of_ble_eq_true rfl⟩ [0, 1] rfl [0, 1, 2, 3, 4, 5, 6, 7, 8, 9, 10, 11, 12, 13, 14] rfl (by decide) [] rfl (by decide) (by decide +kernel) (fun v w hv => ?_)
          obtain ⟨rfl, u9_4, u10_4, u11_4, u12_4, u13_4, rfl, hu4⟩ := hv
          refine zv_go rfl rfl (st' := []) rfl (kc' := 0) rfl (ns' := 0) rfl ?_
          refine zv_wd (ws' := (cL cI cZ h (nI n) r f0 f1 f2 f3 f4 f5 f6 (upd f7 q ((f7 q) + (f7 p))) f8 u9_4 u10_4 u11_4 u12_4 u13_4)) rfl ?_
          exact zv_vret C hr hlk hQ dX0_flowOn_102 ⟨rfl, (upd f7 q ((f7 q) + (f7 p))), f8, u9_4, u10_4, u11_4, u12_4, u13_4, rfl, Or.inr ⟨q, hq, rfl, fun j hj => (hu4.1 j hj).trans (by simp [tat, upd, hj]), by
      have h2 := hu4.2
      simp only [tat, flow7, upd_at]
      rw [if_pos c2, if_neg c3, if_pos c4, ← h2] <;> rfl⟩⟩
    · refine zv_aload_n C dX0_flowOn_33 34 rfl 0 rfl ?_
      refine zv_get (ci := 0) C inX0 rfl dX0_flowOn_34 37 rfl 0 10 rfl (by decide) lk44 rfl ?_
      refine zv_iload_n C dX0_flowOn_37 38 rfl 2 rfl ?_
      refine zv_aload_n C dX0_flowOn_38 39 rfl 0 rfl ?_
      refine zv_get (ci := 0) C inX0 rfl dX0_flowOn_39 42 rfl 0 10 rfl (by decide) lk44 rfl ?_
      refine zv_iload_n C dX0_flowOn_42 43 rfl 2 rfl ?_
      refine zv_iald (v := (f8 q)) C dX0_flowOn_43 44 rfl 9 0 q rfl rfl rfl (by omega) (by decide) rfl ?_
      refine zv_aload_n C dX0_flowOn_44 45 rfl 0 rfl ?_
      refine zv_get (ci := 0) C inX0 rfl dX0_flowOn_45 48 rfl 0 10 rfl (by decide) lk44 rfl ?_
      refine zv_iload_n C dX0_flowOn_48 49 rfl 1 rfl ?_
      refine zv_iald (v := (f8 p)) C dX0_flowOn_49 50 rfl 9 0 p rfl rfl rfl (by omega) (by decide) rfl ?_
      refine zv_iconst (v := 1) C dX0_flowOn_50 51 rfl (by decide) ?_
      refine zv_iadd (v := ((f8 p) + 1)) C dX0_flowOn_51 52 rfl rfl ?_
      refine zv_mmax C dX0_flowOn_52 55 rfl mmaxlink mmaxstat mini mmaxcode (Nat.le_of_ble_eq_true rfl) (Nat.le_of_ble_eq_true rfl) (Nat.le_of_ble_eq_true rfl) (Nat.le_of_ble_eq_true rfl) ?_
      refine zv_iast (x' := (if (f8 q) < ((f8 p) + 1) then ((f8 p) + 1) else (f8 q))) C dX0_flowOn_55 56 rfl 9 0 q rfl rfl rfl (by omega) (by decide) rfl (cL cI cZ h (nI n) r f0 f1 f2 f3 f4 f5 f6 (upd f7 q ((f7 q) + (f7 p))) (upd f8 q (if (f8 q) < ((f8 p) + 1) then ((f8 p) + 1) else (f8 q))) f9 f10 f11 f12 f13) rfl ?_
      refine zv_aload_n C dX0_flowOn_56 57 rfl 0 rfl ?_
      refine zv_get (ci := 0) C inX0 rfl dX0_flowOn_57 60 rfl 0 11 rfl (by decide) lk47 rfl ?_
      refine zv_iload_n C dX0_flowOn_60 61 rfl 1 rfl ?_
      refine zv_iald (v := (f9 p)) C dX0_flowOn_61 62 rfl 10 0 p rfl rfl rfl (by omega) (by decide) rfl ?_
      refine zv_iconst (v := (-1 : Int32)) C dX0_flowOn_62 63 rfl (by decide) ?_
      refine zv_icmp_eq C dX0_flowOn_63 66 102 rfl (by decide) (fun c5 => ?_) (fun c5 => ?_)
      · exact zv_vret C hr hlk hQ dX0_flowOn_102 ⟨rfl, (upd f7 q ((f7 q) + (f7 p))), (upd f8 q (if (f8 q) < ((f8 p) + 1) then ((f8 p) + 1) else (f8 q))), f9, f10, f11, f12, f13, rfl, Or.inr ⟨q, hq, rfl, fun j hj => by simp [tat, upd, hj], by
      simp only [tat, flow7, upd_at]
      rw [if_neg c2, if_pos c5] <;> rfl⟩⟩
      · refine zv_aload_n C dX0_flowOn_66 67 rfl 0 rfl ?_
        refine zv_get (ci := 0) C inX0 rfl dX0_flowOn_67 70 rfl 0 1 rfl (by decide) lk15 rfl ?_
        refine zv_if_ne C dX0_flowOn_70 73 82 rfl (by decide) (fun c6 => ?_) (fun c6 => ?_)
        · refine zv_aload_n C dX0_flowOn_82 83 rfl 0 rfl ?_
          refine zv_get (ci := 0) C inX0 rfl dX0_flowOn_83 86 rfl 0 10 rfl (by decide) lk44 rfl ?_
          refine zv_iload_n C dX0_flowOn_86 87 rfl 1 rfl ?_
          refine zv_iald (v := (f8 p)) C dX0_flowOn_87 88 rfl 9 0 p rfl rfl rfl (by omega) (by decide) (upd_ne _ _ _ hpq) ?_
          refine zv_istore_n C dX0_flowOn_88 89 rfl [(3, .int (f8 p)), (0, .ref (h 0)), (1, .int (nI p)), (2, .int (nI q))] (by decide) rfl ?_
          refine zv_aload_n C dX0_flowOn_89 90 rfl 1 rfl ?_
          refine zv_iload_n C dX0_flowOn_90 91 rfl 3 rfl ?_
          refine zv_iload_n C dX0_flowOn_91 92 rfl 2 rfl ?_
          refine zv_aload_n C dX0_flowOn_92 93 rfl 1 rfl ?_
          refine zv_get (ci := 0) C inX0 rfl dX0_flowOn_93 96 rfl 0 11 rfl (by decide) lk47 rfl ?_
          refine zv_iload_n C dX0_flowOn_96 97 rfl 2 rfl ?_
          refine zv_iald (v := (f9 p)) C dX0_flowOn_97 98 rfl 10 0 p rfl rfl rfl (by omega) (by decide) rfl ?_
          refine zv_iload_n C dX0_flowOn_98 99 rfl 0 rfl ?_
          refine zv_callV (rest := []) (wr := []) C (k_X0_argue l D cI cZ h n r f0 f1 f2 f3 f4 f5 f6 (upd f7 q ((f7 q) + (f7 p))) (upd f8 q (if (f8 q) < ((f8 p) + 1) then ((f8 p) + 1) else (f8 q))) f9 f10 f11 f12 f13 q (nI p) (f9 p) (f8 p) (by omega)) (cwV 4 C.1.2.2.2.2 gX0_flowOn_X0_argue rfl rfl rfl (by decide +kernel) ⟨Nat.le_of_ble_eq_true rfl, Nat.le_of_ble_eq_true rfl⟩) dX0_flowOn_99 102 rfl (ci := 0) 0 rfl rfl rfl rfl (Nat.le_of_ble_eq_true rfl) ⟨Nat.le_of_ble_eq_true rfl, Nat.le_of_ble_eq_true rfl⟩ [0, 1] rfl [0, 1, 2, 3, 4, 5, 6, 7, 8, 9, 10, 11, 12, 13, 14] rfl (by decide) [] rfl (by decide) (by decide +kernel) (fun v w hv => ?_)
          obtain ⟨rfl, u9_5, u10_5, u11_5, u12_5, u13_5, rfl, hu5⟩ := hv
          refine zv_go rfl rfl (st' := []) rfl (kc' := 0) rfl (ns' := 0) rfl ?_
          refine zv_wd (ws' := (cL cI cZ h (nI n) r f0 f1 f2 f3 f4 f5 f6 (upd f7 q ((f7 q) + (f7 p))) (upd f8 q (if (f8 q) < ((f8 p) + 1) then ((f8 p) + 1) else (f8 q))) u9_5 u10_5 u11_5 u12_5 u13_5)) rfl ?_
          exact zv_vret C hr hlk hQ dX0_flowOn_102 ⟨rfl, (upd f7 q ((f7 q) + (f7 p))), (upd f8 q (if (f8 q) < ((f8 p) + 1) then ((f8 p) + 1) else (f8 q))), u9_5, u10_5, u11_5, u12_5, u13_5, rfl, Or.inr ⟨q, hq, rfl, fun j hj => (hu5.1 j hj).trans (by simp [tat, upd, hj]), by
      have h2 := hu5.2
      simp only [tat, flow7, upd_at]
      rw [if_neg c2, if_neg c5, if_neg c6, ← h2] <;> rfl⟩⟩
        · refine zv_aload_n C dX0_flowOn_73 74 rfl 0 rfl ?_
          refine zv_get (ci := 0) C inX0 rfl dX0_flowOn_74 77 rfl 0 9 rfl (by decide) lk41 rfl ?_
          refine zv_iload_n C dX0_flowOn_77 78 rfl 1 rfl ?_
          refine zv_iald (v := (f7 p)) C dX0_flowOn_78 79 rfl 8 0 p rfl rfl rfl (by omega) (by decide) (upd_ne _ _ _ hpq) ?_
          refine zv_goto C dX0_flowOn_79 88 (by decide) ?_
          refine zv_istore_n C dX0_flowOn_88 89 rfl [(3, .int (f7 p)), (0, .ref (h 0)), (1, .int (nI p)), (2, .int (nI q))] (by decide) rfl ?_
          refine zv_aload_n C dX0_flowOn_89 90 rfl 1 rfl ?_
          refine zv_iload_n C dX0_flowOn_90 91 rfl 3 rfl ?_
          refine zv_iload_n C dX0_flowOn_91 92 rfl 2 rfl ?_
          refine zv_aload_n C dX0_flowOn_92 93 rfl 1 rfl ?_
          refine zv_get (ci := 0) C inX0 rfl dX0_flowOn_93 96 rfl 0 11 rfl (by decide) lk47 rfl ?_
          refine zv_iload_n C dX0_flowOn_96 97 rfl 2 rfl ?_
          refine zv_iald (v := (f9 p)) C dX0_flowOn_97 98 rfl 10 0 p rfl rfl rfl (by omega) (by decide) rfl ?_
          refine zv_iload_n C dX0_flowOn_98 99 rfl 0 rfl ?_
          refine zv_callV (rest := []) (wr := []) C (k_X0_argue l D cI cZ h n r f0 f1 f2 f3 f4 f5 f6 (upd f7 q ((f7 q) + (f7 p))) (upd f8 q (if (f8 q) < ((f8 p) + 1) then ((f8 p) + 1) else (f8 q))) f9 f10 f11 f12 f13 q (nI p) (f9 p) (f7 p) (by omega)) (cwV 4 C.1.2.2.2.2 gX0_flowOn_X0_argue rfl rfl rfl (by decide +kernel) ⟨Nat.le_of_ble_eq_true rfl, Nat.le_of_ble_eq_true rfl⟩) dX0_flowOn_99 102 rfl (ci := 0) 0 rfl rfl rfl rfl (Nat.le_of_ble_eq_true rfl) ⟨Nat.le_of_ble_eq_true rfl, Nat.le_of_ble_eq_true rfl⟩ [0, 1] rfl [0, 1, 2, 3, 4, 5, 6, 7, 8, 9, 10, 11, 12, 13, 14] rfl (by decide) [] rfl (by decide) (by decide +kernel) (fun v w hv => ?_)
          obtain ⟨rfl, u9_6, u10_6, u11_6, u12_6, u13_6, rfl, hu6⟩ := hv
          refine zv_go rfl rfl (st' := []) rfl (kc' := 0) rfl (ns' := 0) rfl ?_
          refine zv_wd (ws' := (cL cI cZ h (nI n) r f0 f1 f2 f3 f4 f5 f6 (upd f7 q ((f7 q) + (f7 p))) (upd f8 q (if (f8 q) < ((f8 p) + 1) then ((f8 p) + 1) else (f8 q))) u9_6 u10_6 u11_6 u12_6 u13_6)) rfl ?_
          exact zv_vret C hr hlk hQ dX0_flowOn_102 ⟨rfl, (upd f7 q ((f7 q) + (f7 p))), (upd f8 q (if (f8 q) < ((f8 p) + 1) then ((f8 p) + 1) else (f8 q))), u9_6, u10_6, u11_6, u12_6, u13_6, rfl, Or.inr ⟨q, hq, rfl, fun j hj => (hu6.1 j hj).trans (by simp [tat, upd, hj]), by
      have h2 := hu6.2
      simp only [tat, flow7, upd_at]
      rw [if_neg c2, if_neg c5, if_pos c6, ← h2] <;> rfl⟩⟩
  · replace c1 := zb_eq0.mp c1
    exact zv_vret C hr hlk hQ dX0_flowOn_8 ⟨rfl, f7, f8, f9, f10, f11, f12, f13, rfl, Or.inl ⟨c1, fun _ => rfl⟩⟩
