/-! ===== the land by hand: who wins, what flows ===== -/
abbrev rmX2_winner : Room := { frames := 2, cells := 17, slots := 272, locals := 80 }
set_option maxHeartbeats 4000000 in
set_option maxRecDepth 100000 in
theorem k_X2_winner (l : Launch) (D : va_G) (cI cZ cA : ClassId) {n b : Nat} {r : Int32} (y : Int32) {m0 m1 m2 m3 m4 m5 m6 m7 : Nat → Int32} (hV : LV n b r m0 m1 m2 m3 m4 m5 m6 m7) (s pa da : Nat → Nat) (p fo : Nat) (g0 g1 g2 : Nat → Int32) (hp : p < n) (hnm : ∀ q, q < n → m0 q = nI p → g2 q = -1 ∨ ∃ a, a ≤ 9 ∧ g2 q = nI a) (hpos : ∀ q, q < n → m0 q = nI p → -1 < g0 q ∧ -1 < g1 q) : zv_RX (va_AOA .int) l yX2_winner wsX2_winner rmX2_winner D vwCl (tyS cI cZ cA) [.ref (s 0), .int (nI p), .ref fo] ((fo, .inl (cA, 3, aq (fun i => fo + 1 + i))) :: (fo + 1, .inl (cI, n, .inl g0)) :: (fo + 2, .inl (cI, n, .inl g1)) :: (fo + 3, .inl (cI, n, .inl g2)) :: (s 0, .inr (2, [.int r, .int y, .ref (s 1), .ref (s 2)])) :: (s 1, .inl (cA, n, aq pa)) :: (s 2, .inl (cA, b, aq da)) :: (sR cI 6 pa (rP m0 m1 m2 m3 m4 m5) n ++ sR cI 2 da (rB m6 m7) b)) (fun v => v = some (.int (nmd m0 m1 m2 m3 m5 g0 g1 g2 r p n))) := by
  refine zv_RX.of cX2_winner 10 (some .int) (by decide) rfl (Nat.le_of_ble_eq_true rfl) ?_
  intro pP eE sS mM aA bB mT cD A C hr hlk hA hO Q hQ
  have hAq : ∀ q : Nat, sS.heap.size ≤ q → A q := C.2
  have inX2 : ∀ w ∈ u_ws RX2 TX2 4, w ∈ wsX2_winner := by decide +kernel
  have lk19 : Cond.fieldLink RX2 19 "RiverNamesLaw$Sim" "rule" "I" ∈ wsX2_winner := by decide +kernel
  have lk9 : Cond.fieldLink RX2 9 "RiverNamesLaw$Sim" "places" "[[I" ∈ wsX2_winner := by decide +kernel
  refine zv_go (pc' := 0) rfl (lv' := [(0, .ref (s 0)), (1, .int (nI p)), (2, .ref fo)]) rfl rfl rfl rfl ?_
  have hn16 : n ≤ 16 := hV.n16
  have hb16 : b ≤ 16 := hV.b16
  refine zv_iconst (v := (-1 : Int32)) C dX2_winner_0 1 rfl (by decide) ?_
  refine zv_istore_n C dX2_winner_1 2 rfl [(3, .int (-1 : Int32)), (0, .ref (s 0)), (1, .int (nI p)), (2, .ref fo)] (by decide) rfl ?_
  refine zv_iconst (v := 0) C dX2_winner_2 3 rfl (by decide) ?_
  refine zv_istore C dX2_winner_3 5 rfl [(4, .int 0), (3, .int (-1 : Int32)), (0, .ref (s 0)), (1, .int (nI p)), (2, .ref fo)] (by decide) rfl ?_
  refine zv_aload_n C dX2_winner_5 6 rfl 2 rfl ?_
  refine zv_iload_n C dX2_winner_6 7 rfl 3 rfl ?_
  refine zv_aload_n C dX2_winner_7 8 rfl 4 rfl ?_
  refine zv_iconst (v := 2) C dX2_winner_8 9 rfl (by decide) ?_
  refine zn_aald (r := fo + 3) C dX2_winner_9 10 rfl 0 2 2 rfl rfl (by decide) (by omega) (by omega) rfl ?_
  refine zn_callNV (rest := []) C zn_OB (zn_OE hO) (k_X2_arguers l D cI cZ cA y hV s pa da p (fo + 3) g2 hp) (cwV 2 C.1.2.2.2.2 gX2_winner_X2_arguers rfl rfl rfl (by decide +kernel) ⟨Nat.le_of_ble_eq_true rfl, Nat.le_of_ble_eq_true rfl⟩) dX2_winner_10 13 rfl (ci := 2) rfl 1 rfl rfl rfl (Nat.le_of_ble_eq_true rfl) ⟨(Nat.le_of_ble_eq_true rfl), (Nat.le_of_ble_eq_true rfl)⟩ [0, 1, 2] rfl (List.Sublist.cons _ (List.Sublist.cons _ (List.Sublist.cons _ (List.Sublist.refl _)))) (fun _ _ => trivial) (fun v w1 hv hw1 => ?_)
  obtain ⟨am, c, e, o, rfl, rfl, hAO⟩ := hv
  refine zv_wd (ws' := ((am, .inl (cI, c, .inl e)) :: (fo, .inl (cA, 3, aq (fun i => fo + 1 + i))) :: (fo + 1, .inl (cI, n, .inl g0)) :: (fo + 2, .inl (cI, n, .inl g1)) :: (fo + 3, .inl (cI, n, .inl g2)) :: (s 0, .inr (2, [.int r, .int y, .ref (s 1), .ref (s 2)])) :: (s 1, .inl (cA, n, aq pa)) :: (s 2, .inl (cA, b, aq da)) :: (sR cI 6 pa (rP m0 m1 m2 m3 m4 m5) n ++ sR cI 2 da (rB m6 m7) b))) rfl ?_
  refine zv_go rfl rfl (st' := [.ref am]) rfl (kc' := 17) rfl (ns' := 272) rfl ?_
  have hc16 := hAO.c_le
  have LP : ∀ (mu_LP : Nat), ∀ (k : Nat) (best most : Int32), (WI m2 g0 g1 g2 m3 r p (arB m0 m1 m3 m5 g2 p) o k best most) → (k ≤ c) → c - k < mu_LP → zv_V pP l eE rmX2_winner sS mM aA bB mT cD Q 10 D vwCl A (fun _ => True) (tyS cI cZ cA) ((am, .inl (cI, c, .inl e)) :: (fo, .inl (cA, 3, aq (fun i => fo + 1 + i))) :: (fo + 1, .inl (cI, n, .inl g0)) :: (fo + 2, .inl (cI, n, .inl g1)) :: (fo + 3, .inl (cI, n, .inl g2)) :: (s 0, .inr (2, [.int r, .int y, .ref (s 1), .ref (s 2)])) :: (s 1, .inl (cA, n, aq pa)) :: (s 2, .inl (cA, b, aq da)) :: (sR cI 6 pa (rP m0 m1 m2 m3 m4 m5) n ++ sR cI 2 da (rB m6 m7) b)) 17 272 23 [(0, .ref (s 0)), (1, .int (nI p)), (2, .ref fo), (3, .int best), (4, .int most), (5, .ref am), (6, .int (nI c)), (7, .int (nI k))] [] := by
    intro mu_LP
    induction mu_LP with
    | zero => intro k best most hW hk hmu_LP; exact absurd hmu_LP (Nat.not_lt_zero _)
    | succ mu_LP ih_LP =>
      intro k best most hW hk hmu_LP
      refine zv_iload C dX2_winner_23 25 rfl 7 rfl ?_
      refine zv_iload C dX2_winner_25 27 rfl 6 rfl ?_
      refine zv_icmp_ge C dX2_winner_27 30 116 rfl (by decide) (fun ck => ?_) (fun ck => ?_)
      ·
        have e1 : k = c := by have := zn_le (by omega) (by omega) ck; omega
        subst e1
        have hl := WI.last hV hp hAO hnm hpos hW
        refine zv_iload_n C dX2_winner_116 117 rfl 3 rfl ?_
        refine zv_if_ge C dX2_winner_117 120 124 rfl (by decide) (fun cb => ?_) (fun cb => ?_)
        ·
          obtain ⟨i, hi, rfl, ei⟩ := hl.2 (Int32.not_lt.mpr cb)
          refine zv_aload_n C dX2_winner_124 125 rfl 0 rfl ?_
          refine zv_iload_n C dX2_winner_125 126 rfl 1 rfl ?_
          refine zv_iload_n C dX2_winner_126 127 rfl 3 rfl ?_
          refine zv_aload_n C dX2_winner_127 128 rfl 2 rfl ?_
          refine zv_iconst (v := 2) C dX2_winner_128 129 rfl (by decide) ?_
          refine zn_aald (r := fo + 3) C dX2_winner_129 130 rfl 1 2 2 rfl rfl (by decide) (by omega) (by omega) rfl ?_
          refine zn_callRV (rest := []) C zn_TB zn_TE (zn_ofR (k_X2_called l D cI cZ cA y hV s pa da p i (fo + 3) g2 hp hi)) (cwV 3 C.1.2.2.2.2 gX2_winner_X2_called rfl rfl rfl (by decide +kernel) ⟨Nat.le_of_ble_eq_true rfl, Nat.le_of_ble_eq_true rfl⟩) dX2_winner_130 133 rfl (ci := 2) rfl 1 rfl rfl rfl (Nat.le_of_ble_eq_true rfl) ⟨(Nat.le_of_ble_eq_true rfl), (Nat.le_of_ble_eq_true rfl)⟩ [0, 1, 2] rfl (List.Sublist.cons _ (List.Sublist.cons _ (List.Sublist.cons _ (List.Sublist.cons _ (List.Sublist.refl _))))) (fun v hv => ?_)
          subst hv
          refine zv_go rfl rfl (st' := [.int (nmf m2 g2 p i)]) rfl (kc' := 17) rfl (ns' := 272) rfl ?_
          exact zv_iretR C hr hlk hA hQ dX2_winner_133 (by rw [ei])
        ·
          refine zv_iconst (v := (-1 : Int32)) C dX2_winner_120 121 rfl (by decide) ?_
          refine zv_goto C dX2_winner_121 133 (by decide) ?_
          exact zv_iretR C hr hlk hA hQ dX2_winner_133 (by rw [hl.1 (Int32.not_le.mp cb)])
      ·
        have hk2 : k < c := zn_le' (by omega) (by omega) ck
        obtain ⟨ek, hok, hbk⟩ := hAO.2.1 k hk2
        refine zv_aload C dX2_winner_30 32 rfl 5 rfl ?_
        refine zv_iload C dX2_winner_32 34 rfl 7 rfl ?_
        refine zv_iald (v := (nI (o k))) C dX2_winner_34 35 rfl 0 0 k rfl rfl rfl (by omega) (by omega) ek ?_
        refine zv_istore C dX2_winner_35 37 rfl [(8, .int (nI (o k))), (0, .ref (s 0)), (1, .int (nI p)), (2, .ref fo), (3, .int best), (4, .int most), (5, .ref am), (6, .int (nI c)), (7, .int (nI k))] (by decide) rfl ?_
        refine zv_iload C dX2_winner_37 39 rfl 0 rfl ?_
        refine zv_iload_n C dX2_winner_39 40 rfl 2 rfl ?_
        refine zv_icmp_ne C dX2_winner_40 43 65 rfl (by decide) (fun cp => ?_) (fun cp => ?_)
        ·
          have hne : ¬ o k = p := fun z => cp (by rw [z])
          refine zv_aload_n C dX2_winner_65 66 rfl 1 rfl ?_
          refine zv_get (ci := 2) C inX2 rfl dX2_winner_66 69 rfl 5 0 rfl (by decide) lk19 rfl ?_
          refine zv_if_ne C dX2_winner_69 72 81 rfl (by decide) (fun cr => ?_) (fun cr => ?_)
          ·
            have hst : stf m3 g0 g1 r p (o k) = g1 (o k) := (by unfold stf wor; rw [if_neg hne, if_neg cr])
            refine zv_aload_n C dX2_winner_81 82 rfl 3 rfl ?_
            refine zv_iconst (v := 1) C dX2_winner_82 83 rfl (by decide) ?_
            refine zn_aald (r := fo + 2) C dX2_winner_83 84 rfl 1 2 1 rfl rfl (by decide) (by omega) (by omega) rfl ?_
            refine zv_iload C dX2_winner_84 86 rfl 0 rfl ?_
            refine zv_iald (v := (g1 (o k))) C dX2_winner_86 87 rfl 3 0 (o k) rfl rfl rfl (by omega) (by omega) rfl ?_
            refine zv_go rfl rfl (st' := [.int (stf m3 g0 g1 r p (o k))]) (by rw [hst]) rfl rfl ?_
            refine zv_istore C dX2_winner_87 89 rfl [(9, .int (stf m3 g0 g1 r p (o k))), (8, .int (nI (o k))), (0, .ref (s 0)), (1, .int (nI p)), (2, .ref fo), (3, .int best), (4, .int most), (5, .ref am), (6, .int (nI c)), (7, .int (nI k))] (by decide) rfl ?_
            refine zv_iload_n C dX2_winner_89 90 rfl 5 rfl ?_
            refine zv_if_lt C dX2_winner_90 93 103 rfl (by decide) (fun cb => ?_) (fun cb => ?_)
            ·
              refine zv_iload C dX2_winner_103 105 rfl 1 rfl ?_
              refine zv_istore_n C dX2_winner_105 106 rfl [(3, .int (nI (o k))), (9, .int (stf m3 g0 g1 r p (o k))), (8, .int (nI (o k))), (0, .ref (s 0)), (1, .int (nI p)), (2, .ref fo), (4, .int most), (5, .ref am), (6, .int (nI c)), (7, .int (nI k))] (by decide) rfl ?_
              refine zv_iload C dX2_winner_106 108 rfl 1 rfl ?_
              refine zv_istore C dX2_winner_108 110 rfl [(4, .int (stf m3 g0 g1 r p (o k))), (3, .int (nI (o k))), (9, .int (stf m3 g0 g1 r p (o k))), (8, .int (nI (o k))), (0, .ref (s 0)), (1, .int (nI p)), (2, .ref fo), (5, .ref am), (6, .int (nI c)), (7, .int (nI k))] (by decide) rfl ?_
              refine zv_iinc (v := (nI (k + 1))) C dX2_winner_110 113 rfl [(7, .int (nI (k + 1))), (4, .int (stf m3 g0 g1 r p (o k))), (3, .int (nI (o k))), (9, .int (stf m3 g0 g1 r p (o k))), (8, .int (nI (o k))), (0, .ref (s 0)), (1, .int (nI p)), (2, .ref fo), (5, .ref am), (6, .int (nI c))] 9 rfl (nI_1 k) (by decide) rfl ?_
              refine zv_goto C dX2_winner_113 23 (by decide) ?_
              refine zv_sub [5, 6, 7, 2, 1, 8, 9, 0] (lv' := [(0, .ref (s 0)), (1, .int (nI p)), (2, .ref fo), (3, .int (nI (o k))), (4, .int (stf m3 g0 g1 r p (o k))), (5, .ref am), (6, .int (nI c)), (7, .int (nI (k + 1)))]) rfl ?_
              exact ih_LP (k + 1) _ _ (hW.up hAO hn16 hk2 (Or.inl cb)) (by omega) (by omega)
            ·
              refine zv_iload C dX2_winner_93 95 rfl 0 rfl ?_
              refine zv_iload C dX2_winner_95 97 rfl 6 rfl ?_
              refine zv_icmp_gt C dX2_winner_97 100 103 rfl (by decide) (fun cg => ?_) (fun cg => ?_)
              ·
                refine zv_iload C dX2_winner_103 105 rfl 1 rfl ?_
                refine zv_istore_n C dX2_winner_105 106 rfl [(3, .int (nI (o k))), (9, .int (stf m3 g0 g1 r p (o k))), (8, .int (nI (o k))), (0, .ref (s 0)), (1, .int (nI p)), (2, .ref fo), (4, .int most), (5, .ref am), (6, .int (nI c)), (7, .int (nI k))] (by decide) rfl ?_
                refine zv_iload C dX2_winner_106 108 rfl 1 rfl ?_
                refine zv_istore C dX2_winner_108 110 rfl [(4, .int (stf m3 g0 g1 r p (o k))), (3, .int (nI (o k))), (9, .int (stf m3 g0 g1 r p (o k))), (8, .int (nI (o k))), (0, .ref (s 0)), (1, .int (nI p)), (2, .ref fo), (5, .ref am), (6, .int (nI c)), (7, .int (nI k))] (by decide) rfl ?_
                refine zv_iinc (v := (nI (k + 1))) C dX2_winner_110 113 rfl [(7, .int (nI (k + 1))), (4, .int (stf m3 g0 g1 r p (o k))), (3, .int (nI (o k))), (9, .int (stf m3 g0 g1 r p (o k))), (8, .int (nI (o k))), (0, .ref (s 0)), (1, .int (nI p)), (2, .ref fo), (5, .ref am), (6, .int (nI c))] 9 rfl (nI_1 k) (by decide) rfl ?_
                refine zv_goto C dX2_winner_113 23 (by decide) ?_
                refine zv_sub [5, 6, 7, 2, 1, 8, 9, 0] (lv' := [(0, .ref (s 0)), (1, .int (nI p)), (2, .ref fo), (3, .int (nI (o k))), (4, .int (stf m3 g0 g1 r p (o k))), (5, .ref am), (6, .int (nI c)), (7, .int (nI (k + 1)))]) rfl ?_
                exact ih_LP (k + 1) _ _ (hW.up hAO hn16 hk2 (Or.inr cg)) (by omega) (by omega)
              ·
                refine zv_goto C dX2_winner_100 110 (by decide) ?_
                refine zv_iinc (v := (nI (k + 1))) C dX2_winner_110 113 rfl [(7, .int (nI (k + 1))), (9, .int (stf m3 g0 g1 r p (o k))), (8, .int (nI (o k))), (0, .ref (s 0)), (1, .int (nI p)), (2, .ref fo), (3, .int best), (4, .int most), (5, .ref am), (6, .int (nI c))] 9 rfl (nI_1 k) (by decide) rfl ?_
                refine zv_goto C dX2_winner_113 23 (by decide) ?_
                refine zv_sub [3, 4, 5, 6, 7, 8, 9, 0] (lv' := [(0, .ref (s 0)), (1, .int (nI p)), (2, .ref fo), (3, .int best), (4, .int most), (5, .ref am), (6, .int (nI c)), (7, .int (nI (k + 1)))]) rfl ?_
                exact ih_LP (k + 1) _ _ (hW.stay hAO hn16 hk2 cb cg) (by omega) (by omega)
          ·
            have hst : stf m3 g0 g1 r p (o k) = g0 (o k) := (by unfold stf wor; rw [if_neg hne, if_pos cr])
            refine zv_aload_n C dX2_winner_72 73 rfl 3 rfl ?_
            refine zv_iconst (v := 0) C dX2_winner_73 74 rfl (by decide) ?_
            refine zn_aald (r := fo + 1) C dX2_winner_74 75 rfl 1 2 0 rfl rfl (by decide) (by omega) (by omega) rfl ?_
            refine zv_iload C dX2_winner_75 77 rfl 0 rfl ?_
            refine zv_iald (v := (g0 (o k))) C dX2_winner_77 78 rfl 2 0 (o k) rfl rfl rfl (by omega) (by omega) rfl ?_
            refine zv_goto C dX2_winner_78 87 (by decide) ?_
            refine zv_go rfl rfl (st' := [.int (stf m3 g0 g1 r p (o k))]) (by rw [hst]) rfl rfl ?_
            refine zv_istore C dX2_winner_87 89 rfl [(9, .int (stf m3 g0 g1 r p (o k))), (8, .int (nI (o k))), (0, .ref (s 0)), (1, .int (nI p)), (2, .ref fo), (3, .int best), (4, .int most), (5, .ref am), (6, .int (nI c)), (7, .int (nI k))] (by decide) rfl ?_
            refine zv_iload_n C dX2_winner_89 90 rfl 5 rfl ?_
            refine zv_if_lt C dX2_winner_90 93 103 rfl (by decide) (fun cb => ?_) (fun cb => ?_)
            ·
              refine zv_iload C dX2_winner_103 105 rfl 1 rfl ?_
              refine zv_istore_n C dX2_winner_105 106 rfl [(3, .int (nI (o k))), (9, .int (stf m3 g0 g1 r p (o k))), (8, .int (nI (o k))), (0, .ref (s 0)), (1, .int (nI p)), (2, .ref fo), (4, .int most), (5, .ref am), (6, .int (nI c)), (7, .int (nI k))] (by decide) rfl ?_
              refine zv_iload C dX2_winner_106 108 rfl 1 rfl ?_
              refine zv_istore C dX2_winner_108 110 rfl [(4, .int (stf m3 g0 g1 r p (o k))), (3, .int (nI (o k))), (9, .int (stf m3 g0 g1 r p (o k))), (8, .int (nI (o k))), (0, .ref (s 0)), (1, .int (nI p)), (2, .ref fo), (5, .ref am), (6, .int (nI c)), (7, .int (nI k))] (by decide) rfl ?_
              refine zv_iinc (v := (nI (k + 1))) C dX2_winner_110 113 rfl [(7, .int (nI (k + 1))), (4, .int (stf m3 g0 g1 r p (o k))), (3, .int (nI (o k))), (9, .int (stf m3 g0 g1 r p (o k))), (8, .int (nI (o k))), (0, .ref (s 0)), (1, .int (nI p)), (2, .ref fo), (5, .ref am), (6, .int (nI c))] 9 rfl (nI_1 k) (by decide) rfl ?_
              refine zv_goto C dX2_winner_113 23 (by decide) ?_
              refine zv_sub [5, 6, 7, 2, 1, 8, 9, 0] (lv' := [(0, .ref (s 0)), (1, .int (nI p)), (2, .ref fo), (3, .int (nI (o k))), (4, .int (stf m3 g0 g1 r p (o k))), (5, .ref am), (6, .int (nI c)), (7, .int (nI (k + 1)))]) rfl ?_
              exact ih_LP (k + 1) _ _ (hW.up hAO hn16 hk2 (Or.inl cb)) (by omega) (by omega)
            ·
              refine zv_iload C dX2_winner_93 95 rfl 0 rfl ?_
              refine zv_iload C dX2_winner_95 97 rfl 6 rfl ?_
              refine zv_icmp_gt C dX2_winner_97 100 103 rfl (by decide) (fun cg => ?_) (fun cg => ?_)
              ·
                refine zv_iload C dX2_winner_103 105 rfl 1 rfl ?_
                refine zv_istore_n C dX2_winner_105 106 rfl [(3, .int (nI (o k))), (9, .int (stf m3 g0 g1 r p (o k))), (8, .int (nI (o k))), (0, .ref (s 0)), (1, .int (nI p)), (2, .ref fo), (4, .int most), (5, .ref am), (6, .int (nI c)), (7, .int (nI k))] (by decide) rfl ?_
                refine zv_iload C dX2_winner_106 108 rfl 1 rfl ?_
                refine zv_istore C dX2_winner_108 110 rfl [(4, .int (stf m3 g0 g1 r p (o k))), (3, .int (nI (o k))), (9, .int (stf m3 g0 g1 r p (o k))), (8, .int (nI (o k))), (0, .ref (s 0)), (1, .int (nI p)), (2, .ref fo), (5, .ref am), (6, .int (nI c)), (7, .int (nI k))] (by decide) rfl ?_
                refine zv_iinc (v := (nI (k + 1))) C dX2_winner_110 113 rfl [(7, .int (nI (k + 1))), (4, .int (stf m3 g0 g1 r p (o k))), (3, .int (nI (o k))), (9, .int (stf m3 g0 g1 r p (o k))), (8, .int (nI (o k))), (0, .ref (s 0)), (1, .int (nI p)), (2, .ref fo), (5, .ref am), (6, .int (nI c))] 9 rfl (nI_1 k) (by decide) rfl ?_
                refine zv_goto C dX2_winner_113 23 (by decide) ?_
                refine zv_sub [5, 6, 7, 2, 1, 8, 9, 0] (lv' := [(0, .ref (s 0)), (1, .int (nI p)), (2, .ref fo), (3, .int (nI (o k))), (4, .int (stf m3 g0 g1 r p (o k))), (5, .ref am), (6, .int (nI c)), (7, .int (nI (k + 1)))]) rfl ?_
                exact ih_LP (k + 1) _ _ (hW.up hAO hn16 hk2 (Or.inr cg)) (by omega) (by omega)
              ·
                refine zv_goto C dX2_winner_100 110 (by decide) ?_
                refine zv_iinc (v := (nI (k + 1))) C dX2_winner_110 113 rfl [(7, .int (nI (k + 1))), (9, .int (stf m3 g0 g1 r p (o k))), (8, .int (nI (o k))), (0, .ref (s 0)), (1, .int (nI p)), (2, .ref fo), (3, .int best), (4, .int most), (5, .ref am), (6, .int (nI c))] 9 rfl (nI_1 k) (by decide) rfl ?_
                refine zv_goto C dX2_winner_113 23 (by decide) ?_
                refine zv_sub [3, 4, 5, 6, 7, 8, 9, 0] (lv' := [(0, .ref (s 0)), (1, .int (nI p)), (2, .ref fo), (3, .int best), (4, .int most), (5, .ref am), (6, .int (nI c)), (7, .int (nI (k + 1)))]) rfl ?_
                exact ih_LP (k + 1) _ _ (hW.stay hAO hn16 hk2 cb cg) (by omega) (by omega)
        ·
          have heq : o k = p := zn_eq (by omega) (by omega) cp
          refine zv_aload_n C dX2_winner_43 44 rfl 1 rfl ?_
          refine zv_get (ci := 2) C inX2 rfl dX2_winner_44 47 rfl 5 0 rfl (by decide) lk19 rfl ?_
          refine zv_if_ne C dX2_winner_47 50 61 rfl (by decide) (fun cr => ?_) (fun cr => ?_)
          ·
            have hst : stf m3 g0 g1 r p (o k) = 0 := (by unfold stf; rw [if_pos heq, if_neg cr])
            refine zv_iconst (v := 0) C dX2_winner_61 62 rfl (by decide) ?_
            refine zv_goto C dX2_winner_62 87 (by decide) ?_
            refine zv_go rfl rfl (st' := [.int (stf m3 g0 g1 r p (o k))]) (by rw [hst]) rfl rfl ?_
            refine zv_istore C dX2_winner_87 89 rfl [(9, .int (stf m3 g0 g1 r p (o k))), (8, .int (nI (o k))), (0, .ref (s 0)), (1, .int (nI p)), (2, .ref fo), (3, .int best), (4, .int most), (5, .ref am), (6, .int (nI c)), (7, .int (nI k))] (by decide) rfl ?_
            refine zv_iload_n C dX2_winner_89 90 rfl 5 rfl ?_
            refine zv_if_lt C dX2_winner_90 93 103 rfl (by decide) (fun cb => ?_) (fun cb => ?_)
            ·
              refine zv_iload C dX2_winner_103 105 rfl 1 rfl ?_
              refine zv_istore_n C dX2_winner_105 106 rfl [(3, .int (nI (o k))), (9, .int (stf m3 g0 g1 r p (o k))), (8, .int (nI (o k))), (0, .ref (s 0)), (1, .int (nI p)), (2, .ref fo), (4, .int most), (5, .ref am), (6, .int (nI c)), (7, .int (nI k))] (by decide) rfl ?_
              refine zv_iload C dX2_winner_106 108 rfl 1 rfl ?_
              refine zv_istore C dX2_winner_108 110 rfl [(4, .int (stf m3 g0 g1 r p (o k))), (3, .int (nI (o k))), (9, .int (stf m3 g0 g1 r p (o k))), (8, .int (nI (o k))), (0, .ref (s 0)), (1, .int (nI p)), (2, .ref fo), (5, .ref am), (6, .int (nI c)), (7, .int (nI k))] (by decide) rfl ?_
              refine zv_iinc (v := (nI (k + 1))) C dX2_winner_110 113 rfl [(7, .int (nI (k + 1))), (4, .int (stf m3 g0 g1 r p (o k))), (3, .int (nI (o k))), (9, .int (stf m3 g0 g1 r p (o k))), (8, .int (nI (o k))), (0, .ref (s 0)), (1, .int (nI p)), (2, .ref fo), (5, .ref am), (6, .int (nI c))] 9 rfl (nI_1 k) (by decide) rfl ?_
              refine zv_goto C dX2_winner_113 23 (by decide) ?_
              refine zv_sub [5, 6, 7, 2, 1, 8, 9, 0] (lv' := [(0, .ref (s 0)), (1, .int (nI p)), (2, .ref fo), (3, .int (nI (o k))), (4, .int (stf m3 g0 g1 r p (o k))), (5, .ref am), (6, .int (nI c)), (7, .int (nI (k + 1)))]) rfl ?_
              exact ih_LP (k + 1) _ _ (hW.up hAO hn16 hk2 (Or.inl cb)) (by omega) (by omega)
            ·
              refine zv_iload C dX2_winner_93 95 rfl 0 rfl ?_
              refine zv_iload C dX2_winner_95 97 rfl 6 rfl ?_
              refine zv_icmp_gt C dX2_winner_97 100 103 rfl (by decide) (fun cg => ?_) (fun cg => ?_)
              ·
                refine zv_iload C dX2_winner_103 105 rfl 1 rfl ?_
                refine zv_istore_n C dX2_winner_105 106 rfl [(3, .int (nI (o k))), (9, .int (stf m3 g0 g1 r p (o k))), (8, .int (nI (o k))), (0, .ref (s 0)), (1, .int (nI p)), (2, .ref fo), (4, .int most), (5, .ref am), (6, .int (nI c)), (7, .int (nI k))] (by decide) rfl ?_
                refine zv_iload C dX2_winner_106 108 rfl 1 rfl ?_
                refine zv_istore C dX2_winner_108 110 rfl [(4, .int (stf m3 g0 g1 r p (o k))), (3, .int (nI (o k))), (9, .int (stf m3 g0 g1 r p (o k))), (8, .int (nI (o k))), (0, .ref (s 0)), (1, .int (nI p)), (2, .ref fo), (5, .ref am), (6, .int (nI c)), (7, .int (nI k))] (by decide) rfl ?_
                refine zv_iinc (v := (nI (k + 1))) C dX2_winner_110 113 rfl [(7, .int (nI (k + 1))), (4, .int (stf m3 g0 g1 r p (o k))), (3, .int (nI (o k))), (9, .int (stf m3 g0 g1 r p (o k))), (8, .int (nI (o k))), (0, .ref (s 0)), (1, .int (nI p)), (2, .ref fo), (5, .ref am), (6, .int (nI c))] 9 rfl (nI_1 k) (by decide) rfl ?_
                refine zv_goto C dX2_winner_113 23 (by decide) ?_
                refine zv_sub [5, 6, 7, 2, 1, 8, 9, 0] (lv' := [(0, .ref (s 0)), (1, .int (nI p)), (2, .ref fo), (3, .int (nI (o k))), (4, .int (stf m3 g0 g1 r p (o k))), (5, .ref am), (6, .int (nI c)), (7, .int (nI (k + 1)))]) rfl ?_
                exact ih_LP (k + 1) _ _ (hW.up hAO hn16 hk2 (Or.inr cg)) (by omega) (by omega)
              ·
                refine zv_goto C dX2_winner_100 110 (by decide) ?_
                refine zv_iinc (v := (nI (k + 1))) C dX2_winner_110 113 rfl [(7, .int (nI (k + 1))), (9, .int (stf m3 g0 g1 r p (o k))), (8, .int (nI (o k))), (0, .ref (s 0)), (1, .int (nI p)), (2, .ref fo), (3, .int best), (4, .int most), (5, .ref am), (6, .int (nI c))] 9 rfl (nI_1 k) (by decide) rfl ?_
                refine zv_goto C dX2_winner_113 23 (by decide) ?_
                refine zv_sub [3, 4, 5, 6, 7, 8, 9, 0] (lv' := [(0, .ref (s 0)), (1, .int (nI p)), (2, .ref fo), (3, .int best), (4, .int most), (5, .ref am), (6, .int (nI c)), (7, .int (nI (k + 1)))]) rfl ?_
                exact ih_LP (k + 1) _ _ (hW.stay hAO hn16 hk2 cb cg) (by omega) (by omega)
          ·
            have hst : stf m3 g0 g1 r p (o k) = m3 p := (by unfold stf; rw [if_pos heq, if_pos cr])
            refine zv_aload_n C dX2_winner_50 51 rfl 1 rfl ?_
            refine zv_get (ci := 2) C inX2 rfl dX2_winner_51 54 rfl 5 2 rfl (by decide) lk9 rfl ?_
            refine zv_iload_n C dX2_winner_54 55 rfl 2 rfl ?_
            refine zn_aald (r := pa p) C dX2_winner_55 56 rfl 6 2 p rfl rfl rfl (by omega) (by omega) rfl ?_
            refine zv_iconst (v := 3) C dX2_winner_56 57 rfl (by decide) ?_
            refine zv_iald (v := (m3 p)) C dX2_winner_57 58 rfl (p + 8) 0 3 (zr_p0 (by omega)) rfl (by decide) (by omega) (by omega) rfl ?_
            refine zv_goto C dX2_winner_58 87 (by decide) ?_
            refine zv_go rfl rfl (st' := [.int (stf m3 g0 g1 r p (o k))]) (by rw [hst]) rfl rfl ?_
            refine zv_istore C dX2_winner_87 89 rfl [(9, .int (stf m3 g0 g1 r p (o k))), (8, .int (nI (o k))), (0, .ref (s 0)), (1, .int (nI p)), (2, .ref fo), (3, .int best), (4, .int most), (5, .ref am), (6, .int (nI c)), (7, .int (nI k))] (by decide) rfl ?_
            refine zv_iload_n C dX2_winner_89 90 rfl 5 rfl ?_
            refine zv_if_lt C dX2_winner_90 93 103 rfl (by decide) (fun cb => ?_) (fun cb => ?_)
            ·
              refine zv_iload C dX2_winner_103 105 rfl 1 rfl ?_
              refine zv_istore_n C dX2_winner_105 106 rfl [(3, .int (nI (o k))), (9, .int (stf m3 g0 g1 r p (o k))), (8, .int (nI (o k))), (0, .ref (s 0)), (1, .int (nI p)), (2, .ref fo), (4, .int most), (5, .ref am), (6, .int (nI c)), (7, .int (nI k))] (by decide) rfl ?_
              refine zv_iload C dX2_winner_106 108 rfl 1 rfl ?_
              refine zv_istore C dX2_winner_108 110 rfl [(4, .int (stf m3 g0 g1 r p (o k))), (3, .int (nI (o k))), (9, .int (stf m3 g0 g1 r p (o k))), (8, .int (nI (o k))), (0, .ref (s 0)), (1, .int (nI p)), (2, .ref fo), (5, .ref am), (6, .int (nI c)), (7, .int (nI k))] (by decide) rfl ?_
              refine zv_iinc (v := (nI (k + 1))) C dX2_winner_110 113 rfl [(7, .int (nI (k + 1))), (4, .int (stf m3 g0 g1 r p (o k))), (3, .int (nI (o k))), (9, .int (stf m3 g0 g1 r p (o k))), (8, .int (nI (o k))), (0, .ref (s 0)), (1, .int (nI p)), (2, .ref fo), (5, .ref am), (6, .int (nI c))] 9 rfl (nI_1 k) (by decide) rfl ?_
              refine zv_goto C dX2_winner_113 23 (by decide) ?_
              refine zv_sub [5, 6, 7, 2, 1, 8, 9, 0] (lv' := [(0, .ref (s 0)), (1, .int (nI p)), (2, .ref fo), (3, .int (nI (o k))), (4, .int (stf m3 g0 g1 r p (o k))), (5, .ref am), (6, .int (nI c)), (7, .int (nI (k + 1)))]) rfl ?_
              exact ih_LP (k + 1) _ _ (hW.up hAO hn16 hk2 (Or.inl cb)) (by omega) (by omega)
            ·
              refine zv_iload C dX2_winner_93 95 rfl 0 rfl ?_
              refine zv_iload C dX2_winner_95 97 rfl 6 rfl ?_
              refine zv_icmp_gt C dX2_winner_97 100 103 rfl (by decide) (fun cg => ?_) (fun cg => ?_)
              ·
                refine zv_iload C dX2_winner_103 105 rfl 1 rfl ?_
                refine zv_istore_n C dX2_winner_105 106 rfl [(3, .int (nI (o k))), (9, .int (stf m3 g0 g1 r p (o k))), (8, .int (nI (o k))), (0, .ref (s 0)), (1, .int (nI p)), (2, .ref fo), (4, .int most), (5, .ref am), (6, .int (nI c)), (7, .int (nI k))] (by decide) rfl ?_
                refine zv_iload C dX2_winner_106 108 rfl 1 rfl ?_
                refine zv_istore C dX2_winner_108 110 rfl [(4, .int (stf m3 g0 g1 r p (o k))), (3, .int (nI (o k))), (9, .int (stf m3 g0 g1 r p (o k))), (8, .int (nI (o k))), (0, .ref (s 0)), (1, .int (nI p)), (2, .ref fo), (5, .ref am), (6, .int (nI c)), (7, .int (nI k))] (by decide) rfl ?_
                refine zv_iinc (v := (nI (k + 1))) C dX2_winner_110 113 rfl [(7, .int (nI (k + 1))), (4, .int (stf m3 g0 g1 r p (o k))), (3, .int (nI (o k))), (9, .int (stf m3 g0 g1 r p (o k))), (8, .int (nI (o k))), (0, .ref (s 0)), (1, .int (nI p)), (2, .ref fo), (5, .ref am), (6, .int (nI c))] 9 rfl (nI_1 k) (by decide) rfl ?_
                refine zv_goto C dX2_winner_113 23 (by decide) ?_
                refine zv_sub [5, 6, 7, 2, 1, 8, 9, 0] (lv' := [(0, .ref (s 0)), (1, .int (nI p)), (2, .ref fo), (3, .int (nI (o k))), (4, .int (stf m3 g0 g1 r p (o k))), (5, .ref am), (6, .int (nI c)), (7, .int (nI (k + 1)))]) rfl ?_
                exact ih_LP (k + 1) _ _ (hW.up hAO hn16 hk2 (Or.inr cg)) (by omega) (by omega)
              ·
                refine zv_goto C dX2_winner_100 110 (by decide) ?_
                refine zv_iinc (v := (nI (k + 1))) C dX2_winner_110 113 rfl [(7, .int (nI (k + 1))), (9, .int (stf m3 g0 g1 r p (o k))), (8, .int (nI (o k))), (0, .ref (s 0)), (1, .int (nI p)), (2, .ref fo), (3, .int best), (4, .int most), (5, .ref am), (6, .int (nI c))] 9 rfl (nI_1 k) (by decide) rfl ?_
                refine zv_goto C dX2_winner_113 23 (by decide) ?_
                refine zv_sub [3, 4, 5, 6, 7, 8, 9, 0] (lv' := [(0, .ref (s 0)), (1, .int (nI p)), (2, .ref fo), (3, .int best), (4, .int most), (5, .ref am), (6, .int (nI c)), (7, .int (nI (k + 1)))]) rfl ?_
                exact ih_LP (k + 1) _ _ (hW.stay hAO hn16 hk2 cb cg) (by omega) (by omega)
  refine zv_astore C dX2_winner_13 15 rfl [(5, .ref am), (4, .int 0), (3, .int (-1 : Int32)), (0, .ref (s 0)), (1, .int (nI p)), (2, .ref fo)] (by decide) rfl ?_
  refine zv_aload C dX2_winner_15 17 rfl 0 rfl ?_
  refine zv_alen (v := (nI c)) C dX2_winner_17 18 rfl 0 0 rfl rfl rfl ?_
  refine zv_istore C dX2_winner_18 20 rfl [(6, .int (nI c)), (5, .ref am), (4, .int 0), (3, .int (-1 : Int32)), (0, .ref (s 0)), (1, .int (nI p)), (2, .ref fo)] (by decide) rfl ?_
  refine zv_iconst (v := 0) C dX2_winner_20 21 rfl (by decide) ?_
  refine zv_istore C dX2_winner_21 23 rfl [(7, .int 0), (6, .int (nI c)), (5, .ref am), (4, .int 0), (3, .int (-1 : Int32)), (0, .ref (s 0)), (1, .int (nI p)), (2, .ref fo)] (by decide) rfl ?_
  refine zv_go rfl (lv' := [(7, .int (nI 0)), (6, .int (nI c)), (5, .ref am), (4, .int 0), (3, .int (-1 : Int32)), (0, .ref (s 0)), (1, .int (nI p)), (2, .ref fo)]) rfl rfl rfl rfl ?_
  refine zv_sub [5, 6, 7, 4, 3, 2, 1, 0] (lv' := [(0, .ref (s 0)), (1, .int (nI p)), (2, .ref fo), (3, .int (-1 : Int32)), (4, .int 0), (5, .ref am), (6, .int (nI c)), (7, .int (nI 0))]) rfl ?_
  exact LP (c + 1) 0 (-1) 0 (Or.inl ⟨rfl, rfl, rfl⟩) (by omega) (by omega)
/-- what is told so far: of the places in T, as it is reckoned -/
def FT (n : Nat) (m0 s0 s1 s2 : Nat → Int32) (T : Nat → Bool) (g0 g1 g2 : Nat → Int32) : Prop := ∀ q, q < n → (T q = true → g0 q = s0 q ∧ g1 q = s1 q ∧ g2 q = s2 q) ∧ (T q = false → g1 q = 0)
theorem FT.tell {n : Nat} {m0 s0 s1 s2 : Nat → Int32} {T : Nat → Bool} {g0 g1 g2 e0 e1 e2 : Nat → Int32} {p : Nat} (h : FT n m0 s0 s1 s2 T g0 g1 g2) (ho : ∀ q, ¬ q = p → e0 q = g0 q ∧ e1 q = g1 q ∧ e2 q = g2 q) (h0 : e0 p = s0 p) (h1 : e1 p = s1 p) (h2 : e2 p = s2 p) : FT n m0 s0 s1 s2 (fun q => decide (q = p) || T q) e0 e1 e2 := by
  intro q hq
  by_cases e : q = p
  · subst e; simp [h0, h1, h2]
  · obtain ⟨a, b, c⟩ := ho q e
    simp only [e, decide_false, Bool.false_or]
    rw [a, b, c]
    exact h q hq
/-- far places first: those at least as deep as n - k are told -/
def FD (n : Nat) (d : Nat → Nat) (T : Nat → Bool) (k j : Nat) : Prop := ∀ q, q < n → (n ≤ d q + k ∨ (n ≤ d q + k + 1 ∧ q < j)) → T q = true
theorem FD.next {n : Nat} {d : Nat → Nat} {T : Nat → Bool} {k : Nat} (h : FD n d T k n) : FD n d T (k + 1) 0 := fun q hq hz => h q hq (by omega)
theorem FD.step {n : Nat} {d : Nat → Nat} {T T' : Nat → Bool} {k j : Nat} (h : FD n d T k j) (hT : ∀ q, T q = true → T' q = true) (hj : T' j = true) : FD n d T' k (j + 1) := fun q hq hz => by
  by_cases e : q = j
  · subst e; exact hj
  · exact hT q (h q hq (by omega))
/-- a place all of whose leaders are told -/
def RD (n : Nat) (m0 : Nat → Int32) (T : Nat → Bool) (p j : Nat) : Bool := !anb (fun q => decide (m0 q = nI p) && !T q) j
theorem RD.iff {n : Nat} {m0 : Nat → Int32} {T : Nat → Bool} {p j : Nat} : RD n m0 T p j = true ↔ ∀ q, q < j → m0 q = nI p → T q = true := by
  unfold RD
  rw [Bool.not_eq_true', ← Bool.not_eq_true, anb_iff]
  constructor
  · intro h q hq e
    cases z : T q with
    | true => rfl
    | false => exact absurd ⟨q, hq, by simp [e, z]⟩ h
  · rintro h ⟨q, hq, e⟩
    simp only [Bool.and_eq_true, decide_eq_true_eq, Bool.not_eq_true'] at e
    rw [h q hq e.1] at e
    exact absurd e.2 (by decide)
theorem fl_len {g gq : Int32} {a c : Nat} (hg : g = nI a) (hq : gq = nI c) (ha : a ≤ 100) (hc : c ≤ 100) (h : ¬ gq < g) : (if ¬ gq ≤ 0 then (if g < gq + 1 then gq + 1 else g) else g) = if 0 < gq then gq + 1 else 0 := by
  subst hg; subst hq
  by_cases z : c = 0
  · subst z
    have e : a = 0 := by
      have := zn_lt' (b := a) (a := 0) (by omega) (by omega) h
      omega
    subst e; decide
  · have h1 : ¬ nI c ≤ 0 := fun y => z ((nI_le0 (by omega)).mp y)
    have h2 : (0 : Int32) < nI c := Int32.not_le.mp h1
    have h3 : nI a < nI c + 1 := by
      have := zn_lt' (by omega) (by omega) h
      rw [nI_1]
      exact nI_lt (by omega) (by omega)
    rw [if_pos h1, if_pos h3, if_pos h2]
theorem fl_len2 {g gq : Int32} {a c : Nat} (hg : g = nI a) (hq : gq = nI c) (ha : a ≤ 100) (hc : c ≤ 100) (h : gq < g) : (if ¬ gq ≤ 0 then (if g < gq + 1 then gq + 1 else g) else g) = g := by
  subst hg; subst hq
  have := zn_lt (by omega) (by omega) h
  by_cases z : nI c ≤ 0
  · rw [if_neg (fun y => y z)]
  · rw [if_pos z, if_neg]
    rw [nI_1]
    exact nI_nlt (by omega) (by omega)
