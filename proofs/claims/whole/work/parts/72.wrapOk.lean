def bitL (x : Int32) : Int64 := if x = 0 then 0 else 1
theorem bitL_b (b : Bool) : bitL (zb b) = if b = true then 1 else 0 := by cases b <;> rfl
abbrev tyJ (cI cZ cJ : ClassId) : List (ClassId × FieldType) := [(cI, .int), (cZ, .boolean), (cJ, .long)]
abbrev rmL_addPlace : Room := { frames := 5, cells := 0, slots := 0, locals := 111 }
set_option maxHeartbeats 4000000 in
set_option maxRecDepth 100000 in
theorem k_L_addPlace_ok (l : Launch) (D : va_G) (cI cZ cJ : ClassId) (q h k : Nat → Nat) (b : Nat) (y : Int32) (n : Nat) (r : Int32) (f0 f1 f2 f3 f4 f5 f6 f7 f8 f9 f10 f11 f12 f13 : Nat → Int32) (n1 : Nat) (r1 : Int32) (g0 g1 g2 g3 g4 g5 g6 g7 g8 g9 g10 g11 g12 g13 : Nat → Int32) (bp bn : Nat → Int32) (o : Nat) (u : Nat → Int64) (d : Nat → Nat) (hn : n < 16) (hD : Dep (n + 1) (upd f0 n (-1)) f1 d) : zv_M l yL_addPlace wsL_addPlace rmL_addPlace D vwCl (tyJ cI cZ cJ) [.ref (q 0), .ref o] ((cR cI cZ q h k (nI b) y (nI n) r f0 f1 f2 f3 f4 f5 f6 f7 f8 f9 f10 f11 f12 f13 (nI n1) r1 g0 g1 g2 g3 g4 g5 g6 g7 g8 g9 g10 g11 g12 g13 bp bn) ++ [(o, .inl (cJ, 1, .inr (.inl u)))]) (fun v w => ∃ (v7 : Nat → Int32) (v8 : Nat → Int32) (v9 : Nat → Int32) (v10 : Nat → Int32) (v11 : Nat → Int32) (v12 : Nat → Int32) (v13 : Nat → Int32) (uo : Nat → Int64), v = some (.int 0) ∧ w = ((cR cI cZ q h k (nI b) y (nI (n + 1)) r (upd f0 n (-1)) f1 f2 f3 f4 f5 f6 v7 v8 v9 v10 v11 v12 v13 (nI n1) r1 g0 g1 g2 g3 g4 g5 g6 g7 g8 g9 g10 g11 g12 g13 bp bn) ++ [(o, .inl (cJ, 1, .inr (.inl uo)))]) ∧ (uo 0 = Int32.toInt64 (nI n)) ∧ (Stl (n + 1) (upd f0 n (-1)) f3 f4 f6 r v7 v8 v9 v10 v11 v12 v13)) := by
  refine zw_M.of cL_addPlace 3 (some .int) [(0, 8, 11, 13)] (by decide) rfl (Nat.le_of_ble_eq_true rfl) ?_
  intro pP eE sS mM aA bB mT cD A C hr hlk Q hQ
  refine zv_go (pc' := 0) rfl (lv' := [(0, .ref (q 0)), (1, .ref o)]) rfl rfl rfl rfl ?_
  refine zv_aload_n C dL_addPlace_0 1 rfl 1 rfl ?_
  refine zv_iconst (v := 0) C dL_addPlace_1 2 rfl (by decide) ?_
  refine zv_aload_n C dL_addPlace_2 3 rfl 0 rfl ?_
  refine zv_callV (rest := [.int 0, .ref o]) (wr := [(o, .inl (cJ, 1, .inr (.inl u)))]) C (k_X1_addPlace l D cI cZ q h k b y n r f0 f1 f2 f3 f4 f5 f6 f7 f8 f9 f10 f11 f12 f13 n1 r1 g0 g1 g2 g3 g4 g5 g6 g7 g8 g9 g10 g11 g12 g13 bp bn d hn hD) (cwV 0 C.1.2.2.2.2 gL_addPlace_X1_addPlace rfl rfl rfl (by decide +kernel) ⟨Nat.le_of_ble_eq_true rfl, Nat.le_of_ble_eq_true rfl⟩) dL_addPlace_3 6 rfl (ci := 1) 0 rfl rfl rfl rfl (Nat.le_of_ble_eq_true rfl) ⟨Nat.le_of_ble_eq_true rfl, Nat.le_of_ble_eq_true rfl⟩ [0, 1] rfl [0, 1, 2, 3, 4, 5, 6, 7, 8, 9, 10, 11, 12, 13, 14, 15, 16, 17, 18, 19, 20, 21, 22, 23, 24, 25, 26, 27, 28, 29, 30, 31, 32] rfl (by decide) [33] rfl (by decide) (by decide +kernel) (fun v w hv => ?_)
  obtain ⟨w7, w8, w9, w10, w11, w12, w13, rfl, rfl, hwS⟩ := hv
  refine zv_go rfl rfl (st' := [.int (nI n), .int 0, .ref o]) rfl (kc' := 0) rfl (ns' := 0) rfl ?_
  refine zv_perm [1, 2, 3, 4, 5, 6, 7, 8, 9, 10, 11, 12, 13, 14, 15, 16, 17, 18, 19, 20, 21, 22, 23, 24, 25, 26, 27, 28, 29, 30, 31, 32, 33, 0] (ws' := ((cR cI cZ q h k (nI b) y (nI (n + 1)) r (upd f0 n (-1)) f1 f2 f3 f4 f5 f6 w7 w8 w9 w10 w11 w12 w13 (nI n1) r1 g0 g1 g2 g3 g4 g5 g6 g7 g8 g9 g10 g11 g12 g13 bp bn) ++ [(o, .inl (cJ, 1, .inr (.inl u)))])) (by decide) rfl ?_
  refine zv_i2l C dL_addPlace_6 7 rfl ?_
  refine zv_last C dL_addPlace_7 8 rfl 33 2 0 rfl rfl (by decide) (by decide) (by decide) ((cR cI cZ q h k (nI b) y (nI (n + 1)) r (upd f0 n (-1)) f1 f2 f3 f4 f5 f6 w7 w8 w9 w10 w11 w12 w13 (nI n1) r1 g0 g1 g2 g3 g4 g5 g6 g7 g8 g9 g10 g11 g12 g13 bp bn) ++ [(o, .inl (cJ, 1, .inr (.inl (vp_updL u 0 (Int32.toInt64 (nI n))))))]) rfl ?_
  refine zv_goto C dL_addPlace_8 14 (by decide) ?_
  refine zv_iconst (v := 0) C dL_addPlace_14 15 rfl (by decide) ?_
  exact zv_iret C hr hlk hQ dL_addPlace_15 ⟨w7, w8, w9, w10, w11, w12, w13, (vp_updL u 0 (Int32.toInt64 (nI n))), rfl, rfl, rfl, hwS⟩
abbrev rmL_addSpring : Room := { frames := 5, cells := 0, slots := 0, locals := 117 }
set_option maxHeartbeats 4000000 in
set_option maxRecDepth 100000 in
theorem k_L_addSpring_ok (l : Launch) (D : va_G) (cI cZ cJ : ClassId) (q h k : Nat → Nat) (b : Nat) (y : Int32) (n : Nat) (r : Int32) (f0 f1 f2 f3 f4 f5 f6 f7 f8 f9 f10 f11 f12 f13 : Nat → Int32) (n1 : Nat) (r1 : Int32) (g0 g1 g2 g3 g4 g5 g6 g7 g8 g9 g10 g11 g12 g13 : Nat → Int32) (bp bn : Nat → Int32) (o : Nat) (u : Nat → Int64) (nm wa sw : Int32) (d : Nat → Nat) (hn : n < 16) (hD : Dep (n + 1) (upd f0 n (-1)) f1 d) (h1 : isI nm 0 9 = true) (h2 : isI wa 0 99 = true) (h3 : isI sw (-9) 9 = true) : zv_M l yL_addSpring wsL_addSpring rmL_addSpring D vwCl (tyJ cI cZ cJ) [.ref (q 0), .int nm, .int wa, .int sw, .ref o] ((cR cI cZ q h k (nI b) y (nI n) r f0 f1 f2 f3 f4 f5 f6 f7 f8 f9 f10 f11 f12 f13 (nI n1) r1 g0 g1 g2 g3 g4 g5 g6 g7 g8 g9 g10 g11 g12 g13 bp bn) ++ [(o, .inl (cJ, 1, .inr (.inl u)))]) (fun v w => ∃ (v7 : Nat → Int32) (v8 : Nat → Int32) (v9 : Nat → Int32) (v10 : Nat → Int32) (v11 : Nat → Int32) (v12 : Nat → Int32) (v13 : Nat → Int32) (uo : Nat → Int64), v = some (.int 0) ∧ w = ((cR cI cZ q h k (nI b) y (nI (n + 1)) r (upd f0 n (-1)) f1 (upd f2 n 1) (upd f3 n nm) (upd f4 n wa) (upd f5 n sw) f6 v7 v8 v9 v10 v11 v12 v13 (nI n1) r1 g0 g1 g2 g3 g4 g5 g6 g7 g8 g9 g10 g11 g12 g13 bp bn) ++ [(o, .inl (cJ, 1, .inr (.inl uo)))]) ∧ (uo 0 = Int32.toInt64 (nI n)) ∧ (Stl (n + 1) (upd f0 n (-1)) (upd f3 n nm) (upd f4 n wa) f6 r v7 v8 v9 v10 v11 v12 v13)) := by
  refine zw_M.of cL_addSpring 6 (some .int) [(0, 12, 15, 19), (0, 12, 19, 21), (0, 12, 23, 13)] (by decide) rfl (Nat.le_of_ble_eq_true rfl) ?_
  intro pP eE sS mM aA bB mT cD A C hr hlk Q hQ
  refine zv_go (pc' := 0) rfl (lv' := [(0, .ref (q 0)), (1, .int nm), (2, .int wa), (3, .int sw), (4, .ref o)]) rfl rfl rfl rfl ?_
  refine zv_aload C dL_addSpring_0 2 rfl 4 rfl ?_
  refine zv_iconst (v := 0) C dL_addSpring_2 3 rfl (by decide) ?_
  refine zv_aload_n C dL_addSpring_3 4 rfl 0 rfl ?_
  refine zv_iload_n C dL_addSpring_4 5 rfl 1 rfl ?_
  refine zv_iload_n C dL_addSpring_5 6 rfl 2 rfl ?_
  refine zv_iload_n C dL_addSpring_6 7 rfl 3 rfl ?_
  refine zv_callV (rest := [.int 0, .ref o]) (wr := [(o, .inl (cJ, 1, .inr (.inl u)))]) C (k_X1_addSpring l D cI cZ q h k b y n r f0 f1 f2 f3 f4 f5 f6 f7 f8 f9 f10 f11 f12 f13 n1 r1 g0 g1 g2 g3 g4 g5 g6 g7 g8 g9 g10 g11 g12 g13 bp bn nm wa sw d hn hD h1 h2 h3) (cwV 3 C.1.2.2.2.2 gL_addSpring_X1_addSpring rfl rfl rfl (by decide +kernel) ⟨Nat.le_of_ble_eq_true rfl, Nat.le_of_ble_eq_true rfl⟩) dL_addSpring_7 10 rfl (ci := 1) 0 rfl rfl rfl rfl (Nat.le_of_ble_eq_true rfl) ⟨Nat.le_of_ble_eq_true rfl, Nat.le_of_ble_eq_true rfl⟩ [0, 1] rfl [0, 1, 2, 3, 4, 5, 6, 7, 8, 9, 10, 11, 12, 13, 14, 15, 16, 17, 18, 19, 20, 21, 22, 23, 24, 25, 26, 27, 28, 29, 30, 31, 32] rfl (by decide) [33] rfl (by decide) (by decide +kernel) (fun v w hv => ?_)
  obtain ⟨w7, w8, w9, w10, w11, w12, w13, rfl, rfl, hwS⟩ := hv
  refine zv_go rfl rfl (st' := [.int (nI n), .int 0, .ref o]) rfl (kc' := 0) rfl (ns' := 0) rfl ?_
  refine zv_perm [1, 2, 3, 4, 5, 6, 7, 8, 9, 10, 11, 12, 13, 14, 15, 16, 17, 18, 19, 20, 21, 22, 23, 24, 25, 26, 27, 28, 29, 30, 31, 32, 33, 0] (ws' := ((cR cI cZ q h k (nI b) y (nI (n + 1)) r (upd f0 n (-1)) f1 (upd f2 n 1) (upd f3 n nm) (upd f4 n wa) (upd f5 n sw) f6 w7 w8 w9 w10 w11 w12 w13 (nI n1) r1 g0 g1 g2 g3 g4 g5 g6 g7 g8 g9 g10 g11 g12 g13 bp bn) ++ [(o, .inl (cJ, 1, .inr (.inl u)))])) (by decide) rfl ?_
  refine zv_i2l C dL_addSpring_10 11 rfl ?_
  refine zv_last C dL_addSpring_11 12 rfl 33 2 0 rfl rfl (by decide) (by decide) (by decide) ((cR cI cZ q h k (nI b) y (nI (n + 1)) r (upd f0 n (-1)) f1 (upd f2 n 1) (upd f3 n nm) (upd f4 n wa) (upd f5 n sw) f6 w7 w8 w9 w10 w11 w12 w13 (nI n1) r1 g0 g1 g2 g3 g4 g5 g6 g7 g8 g9 g10 g11 g12 g13 bp bn) ++ [(o, .inl (cJ, 1, .inr (.inl (vp_updL u 0 (Int32.toInt64 (nI n))))))]) rfl ?_
  refine zv_goto C dL_addSpring_12 27 (by decide) ?_
  refine zv_iconst (v := 0) C dL_addSpring_27 28 rfl (by decide) ?_
  exact zv_iret C hr hlk hQ dL_addSpring_28 ⟨w7, w8, w9, w10, w11, w12, w13, (vp_updL u 0 (Int32.toInt64 (nI n))), rfl, rfl, rfl, hwS⟩
abbrev rmL_lead : Room := { frames := 5, cells := 0, slots := 0, locals := 116 }
set_option maxHeartbeats 4000000 in
set_option maxRecDepth 100000 in
theorem k_L_lead_ok (l : Launch) (D : va_G) (cI cZ cJ : ClassId) (q h k : Nat → Nat) (b : Nat) (y : Int32) (n : Nat) (r : Int32) (f0 f1 f2 f3 f4 f5 f6 f7 f8 f9 f10 f11 f12 f13 : Nat → Int32) (n1 : Nat) (r1 : Int32) (g0 g1 g2 g3 g4 g5 g6 g7 g8 g9 g10 g11 g12 g13 : Nat → Int32) (bp bn : Nat → Int32) (o : Nat) (u : Nat → Int64) (p z : Nat) (d1 : Nat → Nat) (hn : n ≤ 16) (hp : p < n) (ho : z < n) (hw : Vw n f0) (hne : ¬ p = z) (hfl : fl f0 (nI p) 16 (f0 z) = false) (hw1 : Vw n (upd f0 p (nI z))) (hDx : ∀ e1 : Nat → Int32, (∀ i, i < n → e1 i = nI (cs (upd f0 p (nI z)) 16 ((upd f0 p (nI z)) i))) → Dep n (upd f0 p (nI z)) e1 d1) : zv_M l yL_lead wsL_lead rmL_lead D vwCl (tyJ cI cZ cJ) [.ref (q 0), .int (nI p), .int (nI z), .ref o] ((cR cI cZ q h k (nI b) y (nI n) r f0 f1 f2 f3 f4 f5 f6 f7 f8 f9 f10 f11 f12 f13 (nI n1) r1 g0 g1 g2 g3 g4 g5 g6 g7 g8 g9 g10 g11 g12 g13 bp bn) ++ [(o, .inl (cJ, 1, .inr (.inl u)))]) (fun v w => ∃ (v1 : Nat → Int32) (v7 : Nat → Int32) (v8 : Nat → Int32) (v9 : Nat → Int32) (v10 : Nat → Int32) (v11 : Nat → Int32) (v12 : Nat → Int32) (v13 : Nat → Int32) (uo : Nat → Int64), v = some (.int 0) ∧ w = ((cR cI cZ q h k (nI b) y (nI n) r (upd f0 p (nI z)) v1 f2 f3 f4 f5 f6 v7 v8 v9 v10 v11 v12 v13 (nI n1) r1 g0 g1 g2 g3 g4 g5 g6 g7 g8 g9 g10 g11 g12 g13 bp bn) ++ [(o, .inl (cJ, 1, .inr (.inl uo)))]) ∧ (uo 0 = Int32.toInt64 (f0 p)) ∧ (∀ i, i < n → v1 i = nI (cs (upd f0 p (nI z)) 16 ((upd f0 p (nI z)) i))) ∧ (∀ i, n ≤ i → v1 i = f1 i) ∧ (Stl n (upd f0 p (nI z)) f3 f4 f6 r v7 v8 v9 v10 v11 v12 v13)) := by
  refine zw_M.of cL_lead 5 (some .int) [(0, 10, 13, 19), (0, 10, 17, 13)] (by decide) rfl (Nat.le_of_ble_eq_true rfl) ?_
  intro pP eE sS mM aA bB mT cD A C hr hlk Q hQ
  refine zv_go (pc' := 0) rfl (lv' := [(0, .ref (q 0)), (1, .int (nI p)), (2, .int (nI z)), (3, .ref o)]) rfl rfl rfl rfl ?_
  refine zv_aload_n C dL_lead_0 1 rfl 3 rfl ?_
  refine zv_iconst (v := 0) C dL_lead_1 2 rfl (by decide) ?_
  refine zv_aload_n C dL_lead_2 3 rfl 0 rfl ?_
  refine zv_iload_n C dL_lead_3 4 rfl 1 rfl ?_
  refine zv_iload_n C dL_lead_4 5 rfl 2 rfl ?_
  refine zv_callV (rest := [.int 0, .ref o]) (wr := [(o, .inl (cJ, 1, .inr (.inl u)))]) C (k_X1_lead l D cI cZ q h k b y n r f0 f1 f2 f3 f4 f5 f6 f7 f8 f9 f10 f11 f12 f13 n1 r1 g0 g1 g2 g3 g4 g5 g6 g7 g8 g9 g10 g11 g12 g13 bp bn p z d1 hn hp ho hw hne hfl hw1 hDx) (cwV 2 C.1.2.2.2.2 gL_lead_X1_lead rfl rfl rfl (by decide +kernel) ⟨Nat.le_of_ble_eq_true rfl, Nat.le_of_ble_eq_true rfl⟩) dL_lead_5 8 rfl (ci := 1) 0 rfl rfl rfl rfl (Nat.le_of_ble_eq_true rfl) ⟨Nat.le_of_ble_eq_true rfl, Nat.le_of_ble_eq_true rfl⟩ [0, 1] rfl [0, 1, 2, 3, 4, 5, 6, 7, 8, 9, 10, 11, 12, 13, 14, 15, 16, 17, 18, 19, 20, 21, 22, 23, 24, 25, 26, 27, 28, 29, 30, 31, 32] rfl (by decide) [33] rfl (by decide) (by decide +kernel) (fun v w hv => ?_)
  obtain ⟨w1, w7, w8, w9, w10, w11, w12, w13, rfl, rfl, hwa, hwb, hwS⟩ := hv
  refine zv_go rfl rfl (st' := [.int (f0 p), .int 0, .ref o]) rfl (kc' := 0) rfl (ns' := 0) rfl ?_
  refine zv_perm [1, 2, 3, 4, 5, 6, 7, 8, 9, 10, 11, 12, 13, 14, 15, 16, 17, 18, 19, 20, 21, 22, 23, 24, 25, 26, 27, 28, 29, 30, 31, 32, 33, 0] (ws' := ((cR cI cZ q h k (nI b) y (nI n) r (upd f0 p (nI z)) w1 f2 f3 f4 f5 f6 w7 w8 w9 w10 w11 w12 w13 (nI n1) r1 g0 g1 g2 g3 g4 g5 g6 g7 g8 g9 g10 g11 g12 g13 bp bn) ++ [(o, .inl (cJ, 1, .inr (.inl u)))])) (by decide) rfl ?_
  refine zv_i2l C dL_lead_8 9 rfl ?_
  refine zv_last C dL_lead_9 10 rfl 33 2 0 rfl rfl (by decide) (by decide) (by decide) ((cR cI cZ q h k (nI b) y (nI n) r (upd f0 p (nI z)) w1 f2 f3 f4 f5 f6 w7 w8 w9 w10 w11 w12 w13 (nI n1) r1 g0 g1 g2 g3 g4 g5 g6 g7 g8 g9 g10 g11 g12 g13 bp bn) ++ [(o, .inl (cJ, 1, .inr (.inl (vp_updL u 0 (Int32.toInt64 (f0 p))))))]) rfl ?_
  refine zv_goto C dL_lead_10 21 (by decide) ?_
  refine zv_iconst (v := 0) C dL_lead_21 22 rfl (by decide) ?_
  exact zv_iret C hr hlk hQ dL_lead_22 ⟨w1, w7, w8, w9, w10, w11, w12, w13, (vp_updL u 0 (Int32.toInt64 (f0 p))), rfl, rfl, rfl, hwa, hwb, hwS⟩
abbrev rmL_turnDelta : Room := { frames := 5, cells := 0, slots := 0, locals := 112 }
set_option maxHeartbeats 4000000 in
set_option maxRecDepth 100000 in
theorem k_L_turnDelta_ok (l : Launch) (D : va_G) (cI cZ cJ : ClassId) (q h k : Nat → Nat) (b : Nat) (y : Int32) (n : Nat) (r : Int32) (f0 f1 f2 f3 f4 f5 f6 f7 f8 f9 f10 f11 f12 f13 : Nat → Int32) (n1 : Nat) (r1 : Int32) (g0 g1 g2 g3 g4 g5 g6 g7 g8 g9 g10 g11 g12 g13 : Nat → Int32) (bp bn : Nat → Int32) (o : Nat) (u : Nat → Int64) (p : Nat) (d : Nat → Nat) (hn : n ≤ 16) (hD : Dep n f0 f1 d) (hp : p < n) : zv_M l yL_turnDelta wsL_turnDelta rmL_turnDelta D vwCl (tyJ cI cZ cJ) [.ref (q 0), .int (nI p), .ref o] ((cR cI cZ q h k (nI b) y (nI n) r f0 f1 f2 f3 f4 f5 f6 f7 f8 f9 f10 f11 f12 f13 (nI n1) r1 g0 g1 g2 g3 g4 g5 g6 g7 g8 g9 g10 g11 g12 g13 bp bn) ++ [(o, .inl (cJ, 1, .inr (.inl u)))]) (fun v w => ∃ (v7 : Nat → Int32) (v8 : Nat → Int32) (v9 : Nat → Int32) (v10 : Nat → Int32) (v11 : Nat → Int32) (v12 : Nat → Int32) (v13 : Nat → Int32) (uo : Nat → Int64), v = some (.int 0) ∧ w = ((cR cI cZ q h k (nI b) y (nI n) r f0 f1 f2 f3 f4 f5 (upd f6 p (tg (f6 p))) v7 v8 v9 v10 v11 v12 v13 (nI n1) r1 g0 g1 g2 g3 g4 g5 g6 g7 g8 g9 g10 g11 g12 g13 bp bn) ++ [(o, .inl (cJ, 1, .inr (.inl uo)))]) ∧ (uo 0 = bitL (tg (f6 p))) ∧ (Stl n f0 f3 f4 (upd f6 p (tg (f6 p))) r v7 v8 v9 v10 v11 v12 v13)) := by
  refine zw_M.of cL_turnDelta 4 (some .int) [(0, 16, 19, 19)] (by decide) rfl (Nat.le_of_ble_eq_true rfl) ?_
  intro pP eE sS mM aA bB mT cD A C hr hlk Q hQ
  refine zv_go (pc' := 0) rfl (lv' := [(0, .ref (q 0)), (1, .int (nI p)), (2, .ref o)]) rfl rfl rfl rfl ?_
  refine zv_aload_n C dL_turnDelta_0 1 rfl 2 rfl ?_
  refine zv_iconst (v := 0) C dL_turnDelta_1 2 rfl (by decide) ?_
  refine zv_aload_n C dL_turnDelta_2 3 rfl 0 rfl ?_
  refine zv_iload_n C dL_turnDelta_3 4 rfl 1 rfl ?_
  refine zv_callV (rest := [.int 0, .ref o]) (wr := [(o, .inl (cJ, 1, .inr (.inl u)))]) C (k_X1_turnDelta l D cI cZ q h k b y n r f0 f1 f2 f3 f4 f5 f6 f7 f8 f9 f10 f11 f12 f13 n1 r1 g0 g1 g2 g3 g4 g5 g6 g7 g8 g9 g10 g11 g12 g13 bp bn p d hn hD hp) (cwV 1 C.1.2.2.2.2 gL_turnDelta_X1_turnDelta rfl rfl rfl (by decide +kernel) ⟨Nat.le_of_ble_eq_true rfl, Nat.le_of_ble_eq_true rfl⟩) dL_turnDelta_4 7 rfl (ci := 1) 0 rfl rfl rfl rfl (Nat.le_of_ble_eq_true rfl) ⟨Nat.le_of_ble_eq_true rfl, Nat.le_of_ble_eq_true rfl⟩ [0, 1] rfl [0, 1, 2, 3, 4, 5, 6, 7, 8, 9, 10, 11, 12, 13, 14, 15, 16, 17, 18, 19, 20, 21, 22, 23, 24, 25, 26, 27, 28, 29, 30, 31, 32] rfl (by decide) [33] rfl (by decide) (by decide +kernel) (fun v w hv => ?_)
  obtain ⟨w7, w8, w9, w10, w11, w12, w13, rfl, rfl, hwS⟩ := hv
  refine zv_go rfl rfl (st' := [.int (tg (f6 p)), .int 0, .ref o]) rfl (kc' := 0) rfl (ns' := 0) rfl ?_
  refine zv_perm [1, 2, 3, 4, 5, 6, 7, 8, 9, 10, 11, 12, 13, 14, 15, 16, 17, 18, 19, 20, 21, 22, 23, 24, 25, 26, 27, 28, 29, 30, 31, 32, 33, 0] (ws' := ((cR cI cZ q h k (nI b) y (nI n) r f0 f1 f2 f3 f4 f5 (upd f6 p (tg (f6 p))) w7 w8 w9 w10 w11 w12 w13 (nI n1) r1 g0 g1 g2 g3 g4 g5 g6 g7 g8 g9 g10 g11 g12 g13 bp bn) ++ [(o, .inl (cJ, 1, .inr (.inl u)))])) (by decide) rfl ?_
  refine zv_if_eq C dL_turnDelta_7 10 14 rfl (by decide) (fun c1 => ?_) (fun c1 => ?_)
  · refine zv_lconst (v := 0) C dL_turnDelta_14 15 rfl rfl ?_
    refine zv_last C dL_turnDelta_15 16 rfl 33 2 0 rfl rfl (by decide) (by decide) (by decide) ((cR cI cZ q h k (nI b) y (nI n) r f0 f1 f2 f3 f4 f5 (upd f6 p (tg (f6 p))) w7 w8 w9 w10 w11 w12 w13 (nI n1) r1 g0 g1 g2 g3 g4 g5 g6 g7 g8 g9 g10 g11 g12 g13 bp bn) ++ [(o, .inl (cJ, 1, .inr (.inl (vp_updL u 0 0))))]) rfl ?_
    refine zv_goto C dL_turnDelta_16 22 (by decide) ?_
    refine zv_iconst (v := 0) C dL_turnDelta_22 23 rfl (by decide) ?_
    exact zv_iret C hr hlk hQ dL_turnDelta_23 ⟨w7, w8, w9, w10, w11, w12, w13, (vp_updL u 0 0), rfl, rfl, (by simp [vp_updL, bitL, c1]), hwS⟩
  · refine zv_lconst (v := 1) C dL_turnDelta_10 11 rfl rfl ?_
    refine zv_goto C dL_turnDelta_11 15 (by decide) ?_
    refine zv_last C dL_turnDelta_15 16 rfl 33 2 0 rfl rfl (by decide) (by decide) (by decide) ((cR cI cZ q h k (nI b) y (nI n) r f0 f1 f2 f3 f4 f5 (upd f6 p (tg (f6 p))) w7 w8 w9 w10 w11 w12 w13 (nI n1) r1 g0 g1 g2 g3 g4 g5 g6 g7 g8 g9 g10 g11 g12 g13 bp bn) ++ [(o, .inl (cJ, 1, .inr (.inl (vp_updL u 0 1))))]) rfl ?_
    refine zv_goto C dL_turnDelta_16 22 (by decide) ?_
    refine zv_iconst (v := 0) C dL_turnDelta_22 23 rfl (by decide) ?_
    exact zv_iret C hr hlk hQ dL_turnDelta_23 ⟨w7, w8, w9, w10, w11, w12, w13, (vp_updL u 0 1), rfl, rfl, (by simp [vp_updL, bitL, c1]), hwS⟩
abbrev rmL_setRule : Room := { frames := 5, cells := 0, slots := 0, locals := 113 }
set_option maxHeartbeats 4000000 in
set_option maxRecDepth 100000 in
theorem k_L_setRule_ok (l : Launch) (D : va_G) (cI cZ cJ : ClassId) (q h k : Nat → Nat) (b : Nat) (y : Int32) (n : Nat) (r : Int32) (f0 f1 f2 f3 f4 f5 f6 f7 f8 f9 f10 f11 f12 f13 : Nat → Int32) (n1 : Nat) (r1 : Int32) (g0 g1 g2 g3 g4 g5 g6 g7 g8 g9 g10 g11 g12 g13 : Nat → Int32) (bp bn : Nat → Int32) (o : Nat) (u : Nat → Int64) (ru : Int32) (d : Nat → Nat) (hn : n ≤ 16) (hD : Dep n f0 f1 d) (h1 : isI ru 0 1 = true) : zv_M l yL_setRule wsL_setRule rmL_setRule D vwCl (tyJ cI cZ cJ) [.ref (q 0), .int ru, .ref o] ((cR cI cZ q h k (nI b) y (nI n) r f0 f1 f2 f3 f4 f5 f6 f7 f8 f9 f10 f11 f12 f13 (nI n1) r1 g0 g1 g2 g3 g4 g5 g6 g7 g8 g9 g10 g11 g12 g13 bp bn) ++ [(o, .inl (cJ, 1, .inr (.inl u)))]) (fun v w => ∃ (v7 : Nat → Int32) (v8 : Nat → Int32) (v9 : Nat → Int32) (v10 : Nat → Int32) (v11 : Nat → Int32) (v12 : Nat → Int32) (v13 : Nat → Int32) (uo : Nat → Int64), v = some (.int 0) ∧ w = ((cR cI cZ q h k (nI b) y (nI n) ru f0 f1 f2 f3 f4 f5 f6 v7 v8 v9 v10 v11 v12 v13 (nI n1) r1 g0 g1 g2 g3 g4 g5 g6 g7 g8 g9 g10 g11 g12 g13 bp bn) ++ [(o, .inl (cJ, 1, .inr (.inl uo)))]) ∧ (uo 0 = Int32.toInt64 r) ∧ (Stl n f0 f3 f4 f6 ru v7 v8 v9 v10 v11 v12 v13)) := by
  refine zw_M.of cL_setRule 4 (some .int) [(0, 9, 12, 21)] (by decide) rfl (Nat.le_of_ble_eq_true rfl) ?_
  intro pP eE sS mM aA bB mT cD A C hr hlk Q hQ
  refine zv_go (pc' := 0) rfl (lv' := [(0, .ref (q 0)), (1, .int ru), (2, .ref o)]) rfl rfl rfl rfl ?_
  refine zv_aload_n C dL_setRule_0 1 rfl 2 rfl ?_
  refine zv_iconst (v := 0) C dL_setRule_1 2 rfl (by decide) ?_
  refine zv_aload_n C dL_setRule_2 3 rfl 0 rfl ?_
  refine zv_iload_n C dL_setRule_3 4 rfl 1 rfl ?_
  refine zv_callV (rest := [.int 0, .ref o]) (wr := [(o, .inl (cJ, 1, .inr (.inl u)))]) C (k_X1_setRule l D cI cZ q h k b y n r f0 f1 f2 f3 f4 f5 f6 f7 f8 f9 f10 f11 f12 f13 n1 r1 g0 g1 g2 g3 g4 g5 g6 g7 g8 g9 g10 g11 g12 g13 bp bn ru d hn hD h1) (cwV 1 C.1.2.2.2.2 gL_setRule_X1_setRule rfl rfl rfl (by decide +kernel) ⟨Nat.le_of_ble_eq_true rfl, Nat.le_of_ble_eq_true rfl⟩) dL_setRule_4 7 rfl (ci := 1) 0 rfl rfl rfl rfl (Nat.le_of_ble_eq_true rfl) ⟨Nat.le_of_ble_eq_true rfl, Nat.le_of_ble_eq_true rfl⟩ [0, 1] rfl [0, 1, 2, 3, 4, 5, 6, 7, 8, 9, 10, 11, 12, 13, 14, 15, 16, 17, 18, 19, 20, 21, 22, 23, 24, 25, 26, 27, 28, 29, 30, 31, 32] rfl (by decide) [33] rfl (by decide) (by decide +kernel) (fun v w hv => ?_)
  obtain ⟨w7, w8, w9, w10, w11, w12, w13, rfl, rfl, hwS⟩ := hv
  refine zv_go rfl rfl (st' := [.int r, .int 0, .ref o]) rfl (kc' := 0) rfl (ns' := 0) rfl ?_
  refine zv_perm [1, 2, 3, 4, 5, 6, 7, 8, 9, 10, 11, 12, 13, 14, 15, 16, 17, 18, 19, 20, 21, 22, 23, 24, 25, 26, 27, 28, 29, 30, 31, 32, 33, 0] (ws' := ((cR cI cZ q h k (nI b) y (nI n) ru f0 f1 f2 f3 f4 f5 f6 w7 w8 w9 w10 w11 w12 w13 (nI n1) r1 g0 g1 g2 g3 g4 g5 g6 g7 g8 g9 g10 g11 g12 g13 bp bn) ++ [(o, .inl (cJ, 1, .inr (.inl u)))])) (by decide) rfl ?_
  refine zv_i2l C dL_setRule_7 8 rfl ?_
  refine zv_last C dL_setRule_8 9 rfl 33 2 0 rfl rfl (by decide) (by decide) (by decide) ((cR cI cZ q h k (nI b) y (nI n) ru f0 f1 f2 f3 f4 f5 f6 w7 w8 w9 w10 w11 w12 w13 (nI n1) r1 g0 g1 g2 g3 g4 g5 g6 g7 g8 g9 g10 g11 g12 g13 bp bn) ++ [(o, .inl (cJ, 1, .inr (.inl (vp_updL u 0 (Int32.toInt64 r)))))]) rfl ?_
  refine zv_goto C dL_setRule_9 15 (by decide) ?_
  refine zv_iconst (v := 0) C dL_setRule_15 16 rfl (by decide) ?_
  exact zv_iret C hr hlk hQ dL_setRule_16 ⟨w7, w8, w9, w10, w11, w12, w13, (vp_updL u 0 (Int32.toInt64 r)), rfl, rfl, rfl, hwS⟩
abbrev rmL_build : Room := { frames := 3, cells := 0, slots := 0, locals := 64 }
set_option maxHeartbeats 4000000 in
set_option maxRecDepth 100000 in
theorem k_L_build_ok (l : Launch) (D : va_G) (cI cZ cJ : ClassId) (q h k : Nat → Nat) (b : Nat) (y : Int32) (n : Nat) (r : Int32) (f0 f1 f2 f3 f4 f5 f6 f7 f8 f9 f10 f11 f12 f13 : Nat → Int32) (n1 : Nat) (r1 : Int32) (g0 g1 g2 g3 g4 g5 g6 g7 g8 g9 g10 g11 g12 g13 : Nat → Int32) (bp bn : Nat → Int32) (o : Nat) (u : Nat → Int64) (p : Nat) (hn : n ≤ 16) (hp : p < n) (hb : b < 16) : zv_M l yL_build wsL_build rmL_build D vwCl (tyJ cI cZ cJ) [.ref (q 0), .int (nI p), .ref o] ((cR cI cZ q h k (nI b) y (nI n) r f0 f1 f2 f3 f4 f5 f6 f7 f8 f9 f10 f11 f12 f13 (nI n1) r1 g0 g1 g2 g3 g4 g5 g6 g7 g8 g9 g10 g11 g12 g13 bp bn) ++ [(o, .inl (cJ, 1, .inr (.inl u)))]) (fun v w => ∃ (uo : Nat → Int64), v = some (.int 0) ∧ w = ((cR cI cZ q h k (nI (b + 1)) y (nI n) r f0 f1 f2 f3 f4 f5 f6 f7 f8 f9 f10 f11 f12 f13 (nI n1) r1 g0 g1 g2 g3 g4 g5 g6 g7 g8 g9 g10 g11 g12 g13 (upd bp b (nI p)) (upd bn b (f9 p))) ++ [(o, .inl (cJ, 1, .inr (.inl uo)))]) ∧ (uo 0 = Int32.toInt64 (nI b))) := by
  refine zw_M.of cL_build 4 (some .int) [(0, 9, 12, 19), (0, 9, 15, 13)] (by decide) rfl (Nat.le_of_ble_eq_true rfl) ?_
  intro pP eE sS mM aA bB mT cD A C hr hlk Q hQ
  refine zv_go (pc' := 0) rfl (lv' := [(0, .ref (q 0)), (1, .int (nI p)), (2, .ref o)]) rfl rfl rfl rfl ?_
  refine zv_aload_n C dL_build_0 1 rfl 2 rfl ?_
  refine zv_iconst (v := 0) C dL_build_1 2 rfl (by decide) ?_
  refine zv_aload_n C dL_build_2 3 rfl 0 rfl ?_
  refine zv_iload_n C dL_build_3 4 rfl 1 rfl ?_
  refine zv_callV (rest := [.int 0, .ref o]) (wr := [(o, .inl (cJ, 1, .inr (.inl u)))]) C (k_X1_build l D cI cZ q h k b y n r f0 f1 f2 f3 f4 f5 f6 f7 f8 f9 f10 f11 f12 f13 n1 r1 g0 g1 g2 g3 g4 g5 g6 g7 g8 g9 g10 g11 g12 g13 bp bn p hn hp hb) (cwV 1 C.1.2.2.2.2 gL_build_X1_build rfl rfl rfl (by decide +kernel) ⟨Nat.le_of_ble_eq_true rfl, Nat.le_of_ble_eq_true rfl⟩) dL_build_4 7 rfl (ci := 1) 0 rfl rfl rfl rfl (Nat.le_of_ble_eq_true rfl) ⟨Nat.le_of_ble_eq_true rfl, Nat.le_of_ble_eq_true rfl⟩ [0, 1] rfl [0, 1, 2, 3, 4, 5, 6, 7, 8, 9, 10, 11, 12, 13, 14, 15, 16, 17, 18, 19, 20, 21, 22, 23, 24, 25, 26, 27, 28, 29, 30, 31, 32] rfl (by decide) [33] rfl (by decide) (by decide +kernel) (fun v w hv => ?_)
  obtain ⟨rfl, rfl⟩ := hv
  refine zv_go rfl rfl (st' := [.int (nI b), .int 0, .ref o]) rfl (kc' := 0) rfl (ns' := 0) rfl ?_
  refine zv_perm [1, 2, 3, 4, 5, 6, 7, 8, 9, 10, 11, 12, 13, 14, 15, 16, 17, 18, 19, 20, 21, 22, 23, 24, 25, 26, 27, 28, 29, 30, 31, 32, 33, 0] (ws' := ((cR cI cZ q h k (nI (b + 1)) y (nI n) r f0 f1 f2 f3 f4 f5 f6 f7 f8 f9 f10 f11 f12 f13 (nI n1) r1 g0 g1 g2 g3 g4 g5 g6 g7 g8 g9 g10 g11 g12 g13 (upd bp b (nI p)) (upd bn b (f9 p))) ++ [(o, .inl (cJ, 1, .inr (.inl u)))])) (by decide) rfl ?_
  refine zv_i2l C dL_build_7 8 rfl ?_
  refine zv_last C dL_build_8 9 rfl 33 2 0 rfl rfl (by decide) (by decide) (by decide) ((cR cI cZ q h k (nI (b + 1)) y (nI n) r f0 f1 f2 f3 f4 f5 f6 f7 f8 f9 f10 f11 f12 f13 (nI n1) r1 g0 g1 g2 g3 g4 g5 g6 g7 g8 g9 g10 g11 g12 g13 (upd bp b (nI p)) (upd bn b (f9 p))) ++ [(o, .inl (cJ, 1, .inr (.inl (vp_updL u 0 (Int32.toInt64 (nI b))))))]) rfl ?_
  refine zv_goto C dL_build_9 18 (by decide) ?_
  refine zv_iconst (v := 0) C dL_build_18 19 rfl (by decide) ?_
  exact zv_iret C hr hlk hQ dL_build_19 ⟨(vp_updL u 0 (Int32.toInt64 (nI b))), rfl, rfl, rfl⟩
abbrev rmL_pass : Room := { frames := 5, cells := 0, slots := 0, locals := 114 }
set_option maxHeartbeats 4000000 in
set_option maxRecDepth 100000 in
theorem k_L_pass_ok (l : Launch) (D : va_G) (cI cZ cJ : ClassId) (q h k : Nat → Nat) (b : Nat) (y : Int32) (n : Nat) (r : Int32) (f0 f1 f2 f3 f4 f5 f6 f7 f8 f9 f10 f11 f12 f13 : Nat → Int32) (n1 : Nat) (r1 : Int32) (g0 g1 g2 g3 g4 g5 g6 g7 g8 g9 g10 g11 g12 g13 : Nat → Int32) (bp bn : Nat → Int32) (o : Nat) (u : Nat → Int64) (z : Nat) (hz1 : 1 ≤ z) (hz2 : z ≤ 50) (d : Nat → Nat) (hn : n ≤ 16) (hD : Dep n f0 f1 d) (hb : b ≤ 16) (hB : Brg n b bp) : zv_M l yL_pass wsL_pass rmL_pass D vwCl (tyJ cI cZ cJ) [.ref (q 0), .int (nI z), .ref o] ((cR cI cZ q h k (nI b) y (nI n) r f0 f1 f2 f3 f4 f5 f6 f7 f8 f9 f10 f11 f12 f13 (nI n1) r1 g0 g1 g2 g3 g4 g5 g6 g7 g8 g9 g10 g11 g12 g13 bp bn) ++ [(o, .inl (cJ, 1, .inr (.inl u)))]) (fun v w => ∃ (v4 : Nat → Int32) (v7 : Nat → Int32) (v8 : Nat → Int32) (v9 : Nat → Int32) (v10 : Nat → Int32) (v11 : Nat → Int32) (v12 : Nat → Int32) (v13 : Nat → Int32) (uo : Nat → Int64), v = some (.int 0) ∧ w = ((cR cI cZ q h k (nI b) (y + nI z) (nI n) r f0 f1 f2 f3 v4 f5 f6 v7 v8 v9 v10 v11 v12 v13 (nI n1) r1 g0 g1 g2 g3 g4 g5 g6 g7 g8 g9 g10 g11 g12 g13 bp bn) ++ [(o, .inl (cJ, 1, .inr (.inl uo)))]) ∧ (uo 0 = Int32.toInt64 (nI (inN bp bn v9 b))) ∧ (∀ i, i < n → v4 i = clamp (f4 i + nI z * f5 i)) ∧ (∀ i, n ≤ i → v4 i = f4 i) ∧ (Stl n f0 f3 v4 f6 r v7 v8 v9 v10 v11 v12 v13)) := by
  refine zw_M.of cL_pass 4 (some .int) [(0, 9, 12, 21)] (by decide) rfl (Nat.le_of_ble_eq_true rfl) ?_
  intro pP eE sS mM aA bB mT cD A C hr hlk Q hQ
  refine zv_go (pc' := 0) rfl (lv' := [(0, .ref (q 0)), (1, .int (nI z)), (2, .ref o)]) rfl rfl rfl rfl ?_
  refine zv_aload_n C dL_pass_0 1 rfl 2 rfl ?_
  refine zv_iconst (v := 0) C dL_pass_1 2 rfl (by decide) ?_
  refine zv_aload_n C dL_pass_2 3 rfl 0 rfl ?_
  refine zv_iload_n C dL_pass_3 4 rfl 1 rfl ?_
  refine zv_callV (rest := [.int 0, .ref o]) (wr := [(o, .inl (cJ, 1, .inr (.inl u)))]) C (k_X1_pass l D cI cZ q h k b y n r f0 f1 f2 f3 f4 f5 f6 f7 f8 f9 f10 f11 f12 f13 n1 r1 g0 g1 g2 g3 g4 g5 g6 g7 g8 g9 g10 g11 g12 g13 bp bn z hz1 hz2 d hn hD hb hB) (cwV 1 C.1.2.2.2.2 gL_pass_X1_pass rfl rfl rfl (by decide +kernel) ⟨Nat.le_of_ble_eq_true rfl, Nat.le_of_ble_eq_true rfl⟩) dL_pass_4 7 rfl (ci := 1) 0 rfl rfl rfl rfl (Nat.le_of_ble_eq_true rfl) ⟨Nat.le_of_ble_eq_true rfl, Nat.le_of_ble_eq_true rfl⟩ [0, 1] rfl [0, 1, 2, 3, 4, 5, 6, 7, 8, 9, 10, 11, 12, 13, 14, 15, 16, 17, 18, 19, 20, 21, 22, 23, 24, 25, 26, 27, 28, 29, 30, 31, 32] rfl (by decide) [33] rfl (by decide) (by decide +kernel) (fun v w hv => ?_)
  obtain ⟨w4, w7, w8, w9, w10, w11, w12, w13, rfl, rfl, hwa, hwb, hwS⟩ := hv
  refine zv_go rfl rfl (st' := [.int (nI (inN bp bn w9 b)), .int 0, .ref o]) rfl (kc' := 0) rfl (ns' := 0) rfl ?_
  refine zv_perm [1, 2, 3, 4, 5, 6, 7, 8, 9, 10, 11, 12, 13, 14, 15, 16, 17, 18, 19, 20, 21, 22, 23, 24, 25, 26, 27, 28, 29, 30, 31, 32, 33, 0] (ws' := ((cR cI cZ q h k (nI b) (y + nI z) (nI n) r f0 f1 f2 f3 w4 f5 f6 w7 w8 w9 w10 w11 w12 w13 (nI n1) r1 g0 g1 g2 g3 g4 g5 g6 g7 g8 g9 g10 g11 g12 g13 bp bn) ++ [(o, .inl (cJ, 1, .inr (.inl u)))])) (by decide) rfl ?_
  refine zv_i2l C dL_pass_7 8 rfl ?_
  refine zv_last C dL_pass_8 9 rfl 33 2 0 rfl rfl (by decide) (by decide) (by decide) ((cR cI cZ q h k (nI b) (y + nI z) (nI n) r f0 f1 f2 f3 w4 f5 f6 w7 w8 w9 w10 w11 w12 w13 (nI n1) r1 g0 g1 g2 g3 g4 g5 g6 g7 g8 g9 g10 g11 g12 g13 bp bn) ++ [(o, .inl (cJ, 1, .inr (.inl (vp_updL u 0 (Int32.toInt64 (nI (inN bp bn w9 b)))))))]) rfl ?_
  refine zv_goto C dL_pass_9 15 (by decide) ?_
  refine zv_iconst (v := 0) C dL_pass_15 16 rfl (by decide) ?_
  exact zv_iret C hr hlk hQ dL_pass_16 ⟨w4, w7, w8, w9, w10, w11, w12, w13, (vp_updL u 0 (Int32.toInt64 (nI (inN bp bn w9 b)))), rfl, rfl, rfl, hwa, hwb, hwS⟩
abbrev rmL_leadsTo : Room := { frames := 3, cells := 0, slots := 0, locals := 63 }
set_option maxHeartbeats 4000000 in
set_option maxRecDepth 100000 in
theorem k_L_leadsTo_ok (l : Launch) (D : va_G) (cI cZ cJ : ClassId) (q h k : Nat → Nat) (b : Nat) (y : Int32) (n : Nat) (r : Int32) (f0 f1 f2 f3 f4 f5 f6 f7 f8 f9 f10 f11 f12 f13 : Nat → Int32) (n1 : Nat) (r1 : Int32) (g0 g1 g2 g3 g4 g5 g6 g7 g8 g9 g10 g11 g12 g13 : Nat → Int32) (bp bn : Nat → Int32) (o : Nat) (u : Nat → Int64) (p : Nat) (hn : n ≤ 16) (hp : p < n) : zv_M l yL_leadsTo wsL_leadsTo rmL_leadsTo D vwCl (tyJ cI cZ cJ) [.ref (q 0), .int (nI p), .ref o] ((cR cI cZ q h k (nI b) y (nI n) r f0 f1 f2 f3 f4 f5 f6 f7 f8 f9 f10 f11 f12 f13 (nI n1) r1 g0 g1 g2 g3 g4 g5 g6 g7 g8 g9 g10 g11 g12 g13 bp bn) ++ [(o, .inl (cJ, 1, .inr (.inl u)))]) (fun v w => ∃ (uo : Nat → Int64), v = some (.int 0) ∧ w = ((cR cI cZ q h k (nI b) y (nI n) r f0 f1 f2 f3 f4 f5 f6 f7 f8 f9 f10 f11 f12 f13 (nI n1) r1 g0 g1 g2 g3 g4 g5 g6 g7 g8 g9 g10 g11 g12 g13 bp bn) ++ [(o, .inl (cJ, 1, .inr (.inl uo)))]) ∧ (uo 0 = Int32.toInt64 (f0 p))) := by
  refine zw_M.of cL_leadsTo 4 (some .int) [(0, 9, 12, 19)] (by decide) rfl (Nat.le_of_ble_eq_true rfl) ?_
  intro pP eE sS mM aA bB mT cD A C hr hlk Q hQ
  refine zv_go (pc' := 0) rfl (lv' := [(0, .ref (q 0)), (1, .int (nI p)), (2, .ref o)]) rfl rfl rfl rfl ?_
  refine zv_aload_n C dL_leadsTo_0 1 rfl 2 rfl ?_
  refine zv_iconst (v := 0) C dL_leadsTo_1 2 rfl (by decide) ?_
  refine zv_aload_n C dL_leadsTo_2 3 rfl 0 rfl ?_
  refine zv_iload_n C dL_leadsTo_3 4 rfl 1 rfl ?_
  refine zv_callVR (rest := [.int 0, .ref o]) C (k_X1_leadsTo l D cI cZ q h k b y n r f0 f1 f2 f3 f4 f5 f6 f7 f8 f9 f10 f11 f12 f13 n1 r1 g0 g1 g2 g3 g4 g5 g6 g7 g8 g9 g10 g11 g12 g13 bp bn p hn hp) (cwV 1 C.1.2.2.2.2 gL_leadsTo_X1_leadsTo rfl rfl rfl (by decide +kernel) ⟨Nat.le_of_ble_eq_true rfl, Nat.le_of_ble_eq_true rfl⟩) dL_leadsTo_4 7 rfl (ci := 1) 0 rfl rfl rfl rfl (Nat.le_of_ble_eq_true rfl) ⟨Nat.le_of_ble_eq_true rfl, Nat.le_of_ble_eq_true rfl⟩ [0, 1] rfl [0, 1, 2, 3, 4, 5, 6, 7, 8, 9, 10, 11, 12, 13, 14, 15, 16, 17, 18, 19, 20, 21, 22, 23, 24, 25, 26, 27, 28, 29, 30, 31, 32] rfl (by decide) (fun v hv => ?_)
  subst hv
  refine zv_go rfl rfl (st' := [.int (f0 p), .int 0, .ref o]) rfl (kc' := 0) rfl (ns' := 0) rfl ?_
  refine zv_i2l C dL_leadsTo_7 8 rfl ?_
  refine zv_last C dL_leadsTo_8 9 rfl 33 2 0 rfl rfl (by decide) (by decide) (by decide) ((cR cI cZ q h k (nI b) y (nI n) r f0 f1 f2 f3 f4 f5 f6 f7 f8 f9 f10 f11 f12 f13 (nI n1) r1 g0 g1 g2 g3 g4 g5 g6 g7 g8 g9 g10 g11 g12 g13 bp bn) ++ [(o, .inl (cJ, 1, .inr (.inl (vp_updL u 0 (Int32.toInt64 (f0 p))))))]) rfl ?_
  refine zv_goto C dL_leadsTo_9 15 (by decide) ?_
  refine zv_iconst (v := 0) C dL_leadsTo_15 16 rfl (by decide) ?_
  exact zv_iret C hr hlk hQ dL_leadsTo_16 ⟨(vp_updL u 0 (Int32.toInt64 (f0 p))), rfl, rfl, rfl⟩
abbrev rmL_hasSpring : Room := { frames := 3, cells := 0, slots := 0, locals := 63 }
set_option maxHeartbeats 4000000 in
set_option maxRecDepth 100000 in
theorem k_L_hasSpring_ok (l : Launch) (D : va_G) (cI cZ cJ : ClassId) (q h k : Nat → Nat) (b : Nat) (y : Int32) (n : Nat) (r : Int32) (f0 f1 f2 f3 f4 f5 f6 f7 f8 f9 f10 f11 f12 f13 : Nat → Int32) (n1 : Nat) (r1 : Int32) (g0 g1 g2 g3 g4 g5 g6 g7 g8 g9 g10 g11 g12 g13 : Nat → Int32) (bp bn : Nat → Int32) (o : Nat) (u : Nat → Int64) (p : Nat) (hn : n ≤ 16) (hp : p < n) (hz : zo (f2 p)) : zv_M l yL_hasSpring wsL_hasSpring rmL_hasSpring D vwCl (tyJ cI cZ cJ) [.ref (q 0), .int (nI p), .ref o] ((cR cI cZ q h k (nI b) y (nI n) r f0 f1 f2 f3 f4 f5 f6 f7 f8 f9 f10 f11 f12 f13 (nI n1) r1 g0 g1 g2 g3 g4 g5 g6 g7 g8 g9 g10 g11 g12 g13 bp bn) ++ [(o, .inl (cJ, 1, .inr (.inl u)))]) (fun v w => ∃ (uo : Nat → Int64), v = some (.int 0) ∧ w = ((cR cI cZ q h k (nI b) y (nI n) r f0 f1 f2 f3 f4 f5 f6 f7 f8 f9 f10 f11 f12 f13 (nI n1) r1 g0 g1 g2 g3 g4 g5 g6 g7 g8 g9 g10 g11 g12 g13 bp bn) ++ [(o, .inl (cJ, 1, .inr (.inl uo)))]) ∧ (uo 0 = bitL (f2 p))) := by
  refine zw_M.of cL_hasSpring 4 (some .int) [(0, 16, 19, 19)] (by decide) rfl (Nat.le_of_ble_eq_true rfl) ?_
  intro pP eE sS mM aA bB mT cD A C hr hlk Q hQ
  refine zv_go (pc' := 0) rfl (lv' := [(0, .ref (q 0)), (1, .int (nI p)), (2, .ref o)]) rfl rfl rfl rfl ?_
  refine zv_aload_n C dL_hasSpring_0 1 rfl 2 rfl ?_
  refine zv_iconst (v := 0) C dL_hasSpring_1 2 rfl (by decide) ?_
  refine zv_aload_n C dL_hasSpring_2 3 rfl 0 rfl ?_
  refine zv_iload_n C dL_hasSpring_3 4 rfl 1 rfl ?_
  refine zv_callVR (rest := [.int 0, .ref o]) C (k_X1_hasSpring l D cI cZ q h k b y n r f0 f1 f2 f3 f4 f5 f6 f7 f8 f9 f10 f11 f12 f13 n1 r1 g0 g1 g2 g3 g4 g5 g6 g7 g8 g9 g10 g11 g12 g13 bp bn p hn hp hz) (cwV 1 C.1.2.2.2.2 gL_hasSpring_X1_hasSpring rfl rfl rfl (by decide +kernel) ⟨Nat.le_of_ble_eq_true rfl, Nat.le_of_ble_eq_true rfl⟩) dL_hasSpring_4 7 rfl (ci := 1) 0 rfl rfl rfl rfl (Nat.le_of_ble_eq_true rfl) ⟨Nat.le_of_ble_eq_true rfl, Nat.le_of_ble_eq_true rfl⟩ [0, 1] rfl [0, 1, 2, 3, 4, 5, 6, 7, 8, 9, 10, 11, 12, 13, 14, 15, 16, 17, 18, 19, 20, 21, 22, 23, 24, 25, 26, 27, 28, 29, 30, 31, 32] rfl (by decide) (fun v hv => ?_)
  subst hv
  refine zv_go rfl rfl (st' := [.int (f2 p), .int 0, .ref o]) rfl (kc' := 0) rfl (ns' := 0) rfl ?_
  refine zv_if_eq C dL_hasSpring_7 10 14 rfl (by decide) (fun c1 => ?_) (fun c1 => ?_)
  · refine zv_lconst (v := 0) C dL_hasSpring_14 15 rfl rfl ?_
    refine zv_last C dL_hasSpring_15 16 rfl 33 2 0 rfl rfl (by decide) (by decide) (by decide) ((cR cI cZ q h k (nI b) y (nI n) r f0 f1 f2 f3 f4 f5 f6 f7 f8 f9 f10 f11 f12 f13 (nI n1) r1 g0 g1 g2 g3 g4 g5 g6 g7 g8 g9 g10 g11 g12 g13 bp bn) ++ [(o, .inl (cJ, 1, .inr (.inl (vp_updL u 0 0))))]) rfl ?_
    refine zv_goto C dL_hasSpring_16 22 (by decide) ?_
    refine zv_iconst (v := 0) C dL_hasSpring_22 23 rfl (by decide) ?_
    exact zv_iret C hr hlk hQ dL_hasSpring_23 ⟨(vp_updL u 0 0), rfl, rfl, (by simp [vp_updL, bitL, c1])⟩
  · refine zv_lconst (v := 1) C dL_hasSpring_10 11 rfl rfl ?_
    refine zv_goto C dL_hasSpring_11 15 (by decide) ?_
    refine zv_last C dL_hasSpring_15 16 rfl 33 2 0 rfl rfl (by decide) (by decide) (by decide) ((cR cI cZ q h k (nI b) y (nI n) r f0 f1 f2 f3 f4 f5 f6 f7 f8 f9 f10 f11 f12 f13 (nI n1) r1 g0 g1 g2 g3 g4 g5 g6 g7 g8 g9 g10 g11 g12 g13 bp bn) ++ [(o, .inl (cJ, 1, .inr (.inl (vp_updL u 0 1))))]) rfl ?_
    refine zv_goto C dL_hasSpring_16 22 (by decide) ?_
    refine zv_iconst (v := 0) C dL_hasSpring_22 23 rfl (by decide) ?_
    exact zv_iret C hr hlk hQ dL_hasSpring_23 ⟨(vp_updL u 0 1), rfl, rfl, (by simp [vp_updL, bitL, c1])⟩
abbrev rmL_springOf : Room := { frames := 3, cells := 0, slots := 0, locals := 63 }
set_option maxHeartbeats 4000000 in
set_option maxRecDepth 100000 in
theorem k_L_springOf_ok (l : Launch) (D : va_G) (cI cZ cJ : ClassId) (q h k : Nat → Nat) (b : Nat) (y : Int32) (n : Nat) (r : Int32) (f0 f1 f2 f3 f4 f5 f6 f7 f8 f9 f10 f11 f12 f13 : Nat → Int32) (n1 : Nat) (r1 : Int32) (g0 g1 g2 g3 g4 g5 g6 g7 g8 g9 g10 g11 g12 g13 : Nat → Int32) (bp bn : Nat → Int32) (o : Nat) (u : Nat → Int64) (p : Nat) (hn : n ≤ 16) (hp : p < n) : zv_M l yL_springOf wsL_springOf rmL_springOf D vwCl (tyJ cI cZ cJ) [.ref (q 0), .int (nI p), .ref o] ((cR cI cZ q h k (nI b) y (nI n) r f0 f1 f2 f3 f4 f5 f6 f7 f8 f9 f10 f11 f12 f13 (nI n1) r1 g0 g1 g2 g3 g4 g5 g6 g7 g8 g9 g10 g11 g12 g13 bp bn) ++ [(o, .inl (cJ, 1, .inr (.inl u)))]) (fun v w => ∃ (uo : Nat → Int64), v = some (.int 0) ∧ w = ((cR cI cZ q h k (nI b) y (nI n) r f0 f1 f2 f3 f4 f5 f6 f7 f8 f9 f10 f11 f12 f13 (nI n1) r1 g0 g1 g2 g3 g4 g5 g6 g7 g8 g9 g10 g11 g12 g13 bp bn) ++ [(o, .inl (cJ, 1, .inr (.inl uo)))]) ∧ (uo 0 = Int32.toInt64 (f4 p))) := by
  refine zw_M.of cL_springOf 4 (some .int) [(0, 9, 12, 19)] (by decide) rfl (Nat.le_of_ble_eq_true rfl) ?_
  intro pP eE sS mM aA bB mT cD A C hr hlk Q hQ
  refine zv_go (pc' := 0) rfl (lv' := [(0, .ref (q 0)), (1, .int (nI p)), (2, .ref o)]) rfl rfl rfl rfl ?_
  refine zv_aload_n C dL_springOf_0 1 rfl 2 rfl ?_
  refine zv_iconst (v := 0) C dL_springOf_1 2 rfl (by decide) ?_
  refine zv_aload_n C dL_springOf_2 3 rfl 0 rfl ?_
  refine zv_iload_n C dL_springOf_3 4 rfl 1 rfl ?_
  refine zv_callVR (rest := [.int 0, .ref o]) C (k_X1_springOf l D cI cZ q h k b y n r f0 f1 f2 f3 f4 f5 f6 f7 f8 f9 f10 f11 f12 f13 n1 r1 g0 g1 g2 g3 g4 g5 g6 g7 g8 g9 g10 g11 g12 g13 bp bn p hn hp) (cwV 1 C.1.2.2.2.2 gL_springOf_X1_springOf rfl rfl rfl (by decide +kernel) ⟨Nat.le_of_ble_eq_true rfl, Nat.le_of_ble_eq_true rfl⟩) dL_springOf_4 7 rfl (ci := 1) 0 rfl rfl rfl rfl (Nat.le_of_ble_eq_true rfl) ⟨Nat.le_of_ble_eq_true rfl, Nat.le_of_ble_eq_true rfl⟩ [0, 1] rfl [0, 1, 2, 3, 4, 5, 6, 7, 8, 9, 10, 11, 12, 13, 14, 15, 16, 17, 18, 19, 20, 21, 22, 23, 24, 25, 26, 27, 28, 29, 30, 31, 32] rfl (by decide) (fun v hv => ?_)
  subst hv
  refine zv_go rfl rfl (st' := [.int (f4 p), .int 0, .ref o]) rfl (kc' := 0) rfl (ns' := 0) rfl ?_
  refine zv_i2l C dL_springOf_7 8 rfl ?_
  refine zv_last C dL_springOf_8 9 rfl 33 2 0 rfl rfl (by decide) (by decide) (by decide) ((cR cI cZ q h k (nI b) y (nI n) r f0 f1 f2 f3 f4 f5 f6 f7 f8 f9 f10 f11 f12 f13 (nI n1) r1 g0 g1 g2 g3 g4 g5 g6 g7 g8 g9 g10 g11 g12 g13 bp bn) ++ [(o, .inl (cJ, 1, .inr (.inl (vp_updL u 0 (Int32.toInt64 (f4 p))))))]) rfl ?_
  refine zv_goto C dL_springOf_9 15 (by decide) ?_
  refine zv_iconst (v := 0) C dL_springOf_15 16 rfl (by decide) ?_
  exact zv_iret C hr hlk hQ dL_springOf_16 ⟨(vp_updL u 0 (Int32.toInt64 (f4 p))), rfl, rfl, rfl⟩
abbrev rmL_waterAt : Room := { frames := 3, cells := 0, slots := 0, locals := 63 }
set_option maxHeartbeats 4000000 in
set_option maxRecDepth 100000 in
theorem k_L_waterAt_ok (l : Launch) (D : va_G) (cI cZ cJ : ClassId) (q h k : Nat → Nat) (b : Nat) (y : Int32) (n : Nat) (r : Int32) (f0 f1 f2 f3 f4 f5 f6 f7 f8 f9 f10 f11 f12 f13 : Nat → Int32) (n1 : Nat) (r1 : Int32) (g0 g1 g2 g3 g4 g5 g6 g7 g8 g9 g10 g11 g12 g13 : Nat → Int32) (bp bn : Nat → Int32) (o : Nat) (u : Nat → Int64) (p : Nat) (hn : n ≤ 16) (hp : p < n) : zv_M l yL_waterAt wsL_waterAt rmL_waterAt D vwCl (tyJ cI cZ cJ) [.ref (q 0), .int (nI p), .ref o] ((cR cI cZ q h k (nI b) y (nI n) r f0 f1 f2 f3 f4 f5 f6 f7 f8 f9 f10 f11 f12 f13 (nI n1) r1 g0 g1 g2 g3 g4 g5 g6 g7 g8 g9 g10 g11 g12 g13 bp bn) ++ [(o, .inl (cJ, 1, .inr (.inl u)))]) (fun v w => ∃ (uo : Nat → Int64), v = some (.int 0) ∧ w = ((cR cI cZ q h k (nI b) y (nI n) r f0 f1 f2 f3 f4 f5 f6 f7 f8 f9 f10 f11 f12 f13 (nI n1) r1 g0 g1 g2 g3 g4 g5 g6 g7 g8 g9 g10 g11 g12 g13 bp bn) ++ [(o, .inl (cJ, 1, .inr (.inl uo)))]) ∧ (uo 0 = Int32.toInt64 (f7 p))) := by
  refine zw_M.of cL_waterAt 4 (some .int) [(0, 9, 12, 19)] (by decide) rfl (Nat.le_of_ble_eq_true rfl) ?_
  intro pP eE sS mM aA bB mT cD A C hr hlk Q hQ
  refine zv_go (pc' := 0) rfl (lv' := [(0, .ref (q 0)), (1, .int (nI p)), (2, .ref o)]) rfl rfl rfl rfl ?_
  refine zv_aload_n C dL_waterAt_0 1 rfl 2 rfl ?_
  refine zv_iconst (v := 0) C dL_waterAt_1 2 rfl (by decide) ?_
  refine zv_aload_n C dL_waterAt_2 3 rfl 0 rfl ?_
  refine zv_iload_n C dL_waterAt_3 4 rfl 1 rfl ?_
  refine zv_callVR (rest := [.int 0, .ref o]) C (k_X1_waterAt l D cI cZ q h k b y n r f0 f1 f2 f3 f4 f5 f6 f7 f8 f9 f10 f11 f12 f13 n1 r1 g0 g1 g2 g3 g4 g5 g6 g7 g8 g9 g10 g11 g12 g13 bp bn p hn hp) (cwV 1 C.1.2.2.2.2 gL_waterAt_X1_waterAt rfl rfl rfl (by decide +kernel) ⟨Nat.le_of_ble_eq_true rfl, Nat.le_of_ble_eq_true rfl⟩) dL_waterAt_4 7 rfl (ci := 1) 0 rfl rfl rfl rfl (Nat.le_of_ble_eq_true rfl) ⟨Nat.le_of_ble_eq_true rfl, Nat.le_of_ble_eq_true rfl⟩ [0, 1] rfl [0, 1, 2, 3, 4, 5, 6, 7, 8, 9, 10, 11, 12, 13, 14, 15, 16, 17, 18, 19, 20, 21, 22, 23, 24, 25, 26, 27, 28, 29, 30, 31, 32] rfl (by decide) (fun v hv => ?_)
  subst hv
  refine zv_go rfl rfl (st' := [.int (f7 p), .int 0, .ref o]) rfl (kc' := 0) rfl (ns' := 0) rfl ?_
  refine zv_i2l C dL_waterAt_7 8 rfl ?_
  refine zv_last C dL_waterAt_8 9 rfl 33 2 0 rfl rfl (by decide) (by decide) (by decide) ((cR cI cZ q h k (nI b) y (nI n) r f0 f1 f2 f3 f4 f5 f6 f7 f8 f9 f10 f11 f12 f13 (nI n1) r1 g0 g1 g2 g3 g4 g5 g6 g7 g8 g9 g10 g11 g12 g13 bp bn) ++ [(o, .inl (cJ, 1, .inr (.inl (vp_updL u 0 (Int32.toInt64 (f7 p))))))]) rfl ?_
  refine zv_goto C dL_waterAt_9 15 (by decide) ?_
  refine zv_iconst (v := 0) C dL_waterAt_15 16 rfl (by decide) ?_
  exact zv_iret C hr hlk hQ dL_waterAt_16 ⟨(vp_updL u 0 (Int32.toInt64 (f7 p))), rfl, rfl, rfl⟩
abbrev rmL_lengthAt : Room := { frames := 3, cells := 0, slots := 0, locals := 63 }
set_option maxHeartbeats 4000000 in
set_option maxRecDepth 100000 in
theorem k_L_lengthAt_ok (l : Launch) (D : va_G) (cI cZ cJ : ClassId) (q h k : Nat → Nat) (b : Nat) (y : Int32) (n : Nat) (r : Int32) (f0 f1 f2 f3 f4 f5 f6 f7 f8 f9 f10 f11 f12 f13 : Nat → Int32) (n1 : Nat) (r1 : Int32) (g0 g1 g2 g3 g4 g5 g6 g7 g8 g9 g10 g11 g12 g13 : Nat → Int32) (bp bn : Nat → Int32) (o : Nat) (u : Nat → Int64) (p : Nat) (hn : n ≤ 16) (hp : p < n) : zv_M l yL_lengthAt wsL_lengthAt rmL_lengthAt D vwCl (tyJ cI cZ cJ) [.ref (q 0), .int (nI p), .ref o] ((cR cI cZ q h k (nI b) y (nI n) r f0 f1 f2 f3 f4 f5 f6 f7 f8 f9 f10 f11 f12 f13 (nI n1) r1 g0 g1 g2 g3 g4 g5 g6 g7 g8 g9 g10 g11 g12 g13 bp bn) ++ [(o, .inl (cJ, 1, .inr (.inl u)))]) (fun v w => ∃ (uo : Nat → Int64), v = some (.int 0) ∧ w = ((cR cI cZ q h k (nI b) y (nI n) r f0 f1 f2 f3 f4 f5 f6 f7 f8 f9 f10 f11 f12 f13 (nI n1) r1 g0 g1 g2 g3 g4 g5 g6 g7 g8 g9 g10 g11 g12 g13 bp bn) ++ [(o, .inl (cJ, 1, .inr (.inl uo)))]) ∧ (uo 0 = Int32.toInt64 (f8 p))) := by
  refine zw_M.of cL_lengthAt 4 (some .int) [(0, 9, 12, 19)] (by decide) rfl (Nat.le_of_ble_eq_true rfl) ?_
  intro pP eE sS mM aA bB mT cD A C hr hlk Q hQ
  refine zv_go (pc' := 0) rfl (lv' := [(0, .ref (q 0)), (1, .int (nI p)), (2, .ref o)]) rfl rfl rfl rfl ?_
  refine zv_aload_n C dL_lengthAt_0 1 rfl 2 rfl ?_
  refine zv_iconst (v := 0) C dL_lengthAt_1 2 rfl (by decide) ?_
  refine zv_aload_n C dL_lengthAt_2 3 rfl 0 rfl ?_
  refine zv_iload_n C dL_lengthAt_3 4 rfl 1 rfl ?_
  refine zv_callVR (rest := [.int 0, .ref o]) C (k_X1_lengthAt l D cI cZ q h k b y n r f0 f1 f2 f3 f4 f5 f6 f7 f8 f9 f10 f11 f12 f13 n1 r1 g0 g1 g2 g3 g4 g5 g6 g7 g8 g9 g10 g11 g12 g13 bp bn p hn hp) (cwV 1 C.1.2.2.2.2 gL_lengthAt_X1_lengthAt rfl rfl rfl (by decide +kernel) ⟨Nat.le_of_ble_eq_true rfl, Nat.le_of_ble_eq_true rfl⟩) dL_lengthAt_4 7 rfl (ci := 1) 0 rfl rfl rfl rfl (Nat.le_of_ble_eq_true rfl) ⟨Nat.le_of_ble_eq_true rfl, Nat.le_of_ble_eq_true rfl⟩ [0, 1] rfl [0, 1, 2, 3, 4, 5, 6, 7, 8, 9, 10, 11, 12, 13, 14, 15, 16, 17, 18, 19, 20, 21, 22, 23, 24, 25, 26, 27, 28, 29, 30, 31, 32] rfl (by decide) (fun v hv => ?_)
  subst hv
  refine zv_go rfl rfl (st' := [.int (f8 p), .int 0, .ref o]) rfl (kc' := 0) rfl (ns' := 0) rfl ?_
  refine zv_i2l C dL_lengthAt_7 8 rfl ?_
  refine zv_last C dL_lengthAt_8 9 rfl 33 2 0 rfl rfl (by decide) (by decide) (by decide) ((cR cI cZ q h k (nI b) y (nI n) r f0 f1 f2 f3 f4 f5 f6 f7 f8 f9 f10 f11 f12 f13 (nI n1) r1 g0 g1 g2 g3 g4 g5 g6 g7 g8 g9 g10 g11 g12 g13 bp bn) ++ [(o, .inl (cJ, 1, .inr (.inl (vp_updL u 0 (Int32.toInt64 (f8 p))))))]) rfl ?_
  refine zv_goto C dL_lengthAt_9 15 (by decide) ?_
  refine zv_iconst (v := 0) C dL_lengthAt_15 16 rfl (by decide) ?_
  exact zv_iret C hr hlk hQ dL_lengthAt_16 ⟨(vp_updL u 0 (Int32.toInt64 (f8 p))), rfl, rfl, rfl⟩
abbrev rmL_mouthOf : Room := { frames := 3, cells := 0, slots := 0, locals := 65 }
set_option maxHeartbeats 4000000 in
set_option maxRecDepth 100000 in
theorem k_L_mouthOf_ok (l : Launch) (D : va_G) (cI cZ cJ : ClassId) (q h k : Nat → Nat) (b : Nat) (y : Int32) (n : Nat) (r : Int32) (f0 f1 f2 f3 f4 f5 f6 f7 f8 f9 f10 f11 f12 f13 : Nat → Int32) (n1 : Nat) (r1 : Int32) (g0 g1 g2 g3 g4 g5 g6 g7 g8 g9 g10 g11 g12 g13 : Nat → Int32) (bp bn : Nat → Int32) (o : Nat) (u : Nat → Int64) (p : Nat) (hn : n ≤ 16) (hp : p < n) (hw : Vw n f0) : zv_M l yL_mouthOf wsL_mouthOf rmL_mouthOf D vwCl (tyJ cI cZ cJ) [.ref (q 0), .int (nI p), .ref o] ((cR cI cZ q h k (nI b) y (nI n) r f0 f1 f2 f3 f4 f5 f6 f7 f8 f9 f10 f11 f12 f13 (nI n1) r1 g0 g1 g2 g3 g4 g5 g6 g7 g8 g9 g10 g11 g12 g13 bp bn) ++ [(o, .inl (cJ, 1, .inr (.inl u)))]) (fun v w => ∃ (uo : Nat → Int64), v = some (.int 0) ∧ w = ((cR cI cZ q h k (nI b) y (nI n) r f0 f1 f2 f3 f4 f5 f6 f7 f8 f9 f10 f11 f12 f13 (nI n1) r1 g0 g1 g2 g3 g4 g5 g6 g7 g8 g9 g10 g11 g12 g13 bp bn) ++ [(o, .inl (cJ, 1, .inr (.inl uo)))]) ∧ (uo 0 = Int32.toInt64 (nI (mo f0 16 p)))) := by
  refine zw_M.of cL_mouthOf 4 (some .int) [(0, 9, 12, 19)] (by decide) rfl (Nat.le_of_ble_eq_true rfl) ?_
  intro pP eE sS mM aA bB mT cD A C hr hlk Q hQ
  refine zv_go (pc' := 0) rfl (lv' := [(0, .ref (q 0)), (1, .int (nI p)), (2, .ref o)]) rfl rfl rfl rfl ?_
  refine zv_aload_n C dL_mouthOf_0 1 rfl 2 rfl ?_
  refine zv_iconst (v := 0) C dL_mouthOf_1 2 rfl (by decide) ?_
  refine zv_aload_n C dL_mouthOf_2 3 rfl 0 rfl ?_
  refine zv_iload_n C dL_mouthOf_3 4 rfl 1 rfl ?_
  refine zv_callVR (rest := [.int 0, .ref o]) C (k_X1_mouthOf l D cI cZ q h k b y n r f0 f1 f2 f3 f4 f5 f6 f7 f8 f9 f10 f11 f12 f13 n1 r1 g0 g1 g2 g3 g4 g5 g6 g7 g8 g9 g10 g11 g12 g13 bp bn p hn hp hw) (cwV 1 C.1.2.2.2.2 gL_mouthOf_X1_mouthOf rfl rfl rfl (by decide +kernel) ⟨Nat.le_of_ble_eq_true rfl, Nat.le_of_ble_eq_true rfl⟩) dL_mouthOf_4 7 rfl (ci := 1) 0 rfl rfl rfl rfl (Nat.le_of_ble_eq_true rfl) ⟨Nat.le_of_ble_eq_true rfl, Nat.le_of_ble_eq_true rfl⟩ [0, 1] rfl [0, 1, 2, 3, 4, 5, 6, 7, 8, 9, 10, 11, 12, 13, 14, 15, 16, 17, 18, 19, 20, 21, 22, 23, 24, 25, 26, 27, 28, 29, 30, 31, 32] rfl (by decide) (fun v hv => ?_)
  subst hv
  refine zv_go rfl rfl (st' := [.int (nI (mo f0 16 p)), .int 0, .ref o]) rfl (kc' := 0) rfl (ns' := 0) rfl ?_
  refine zv_i2l C dL_mouthOf_7 8 rfl ?_
  refine zv_last C dL_mouthOf_8 9 rfl 33 2 0 rfl rfl (by decide) (by decide) (by decide) ((cR cI cZ q h k (nI b) y (nI n) r f0 f1 f2 f3 f4 f5 f6 f7 f8 f9 f10 f11 f12 f13 (nI n1) r1 g0 g1 g2 g3 g4 g5 g6 g7 g8 g9 g10 g11 g12 g13 bp bn) ++ [(o, .inl (cJ, 1, .inr (.inl (vp_updL u 0 (Int32.toInt64 (nI (mo f0 16 p)))))))]) rfl ?_
  refine zv_goto C dL_mouthOf_9 15 (by decide) ?_
  refine zv_iconst (v := 0) C dL_mouthOf_15 16 rfl (by decide) ?_
  exact zv_iret C hr hlk hQ dL_mouthOf_16 ⟨(vp_updL u 0 (Int32.toInt64 (nI (mo f0 16 p)))), rfl, rfl, rfl⟩
abbrev rmL_isAbove : Room := { frames := 3, cells := 0, slots := 0, locals := 67 }
set_option maxHeartbeats 4000000 in
set_option maxRecDepth 100000 in
theorem k_L_isAbove_ok (l : Launch) (D : va_G) (cI cZ cJ : ClassId) (q h k : Nat → Nat) (b : Nat) (y : Int32) (n : Nat) (r : Int32) (f0 f1 f2 f3 f4 f5 f6 f7 f8 f9 f10 f11 f12 f13 : Nat → Int32) (n1 : Nat) (r1 : Int32) (g0 g1 g2 g3 g4 g5 g6 g7 g8 g9 g10 g11 g12 g13 : Nat → Int32) (bp bn : Nat → Int32) (o : Nat) (u : Nat → Int64) (p z : Nat) (hn : n ≤ 16) (hp : p < n) (ho : z < n) (hw : Vw n f0) : zv_M l yL_isAbove wsL_isAbove rmL_isAbove D vwCl (tyJ cI cZ cJ) [.ref (q 0), .int (nI p), .int (nI z), .ref o] ((cR cI cZ q h k (nI b) y (nI n) r f0 f1 f2 f3 f4 f5 f6 f7 f8 f9 f10 f11 f12 f13 (nI n1) r1 g0 g1 g2 g3 g4 g5 g6 g7 g8 g9 g10 g11 g12 g13 bp bn) ++ [(o, .inl (cJ, 1, .inr (.inl u)))]) (fun v w => ∃ (uo : Nat → Int64), v = some (.int 0) ∧ w = ((cR cI cZ q h k (nI b) y (nI n) r f0 f1 f2 f3 f4 f5 f6 f7 f8 f9 f10 f11 f12 f13 (nI n1) r1 g0 g1 g2 g3 g4 g5 g6 g7 g8 g9 g10 g11 g12 g13 bp bn) ++ [(o, .inl (cJ, 1, .inr (.inl uo)))]) ∧ (uo 0 = bitL (zb (fl f0 (nI z) 16 (f0 p))))) := by
  refine zw_M.of cL_isAbove 5 (some .int) [(0, 17, 20, 19)] (by decide) rfl (Nat.le_of_ble_eq_true rfl) ?_
  intro pP eE sS mM aA bB mT cD A C hr hlk Q hQ
  refine zv_go (pc' := 0) rfl (lv' := [(0, .ref (q 0)), (1, .int (nI p)), (2, .int (nI z)), (3, .ref o)]) rfl rfl rfl rfl ?_
  refine zv_aload_n C dL_isAbove_0 1 rfl 3 rfl ?_
  refine zv_iconst (v := 0) C dL_isAbove_1 2 rfl (by decide) ?_
  refine zv_aload_n C dL_isAbove_2 3 rfl 0 rfl ?_
  refine zv_iload_n C dL_isAbove_3 4 rfl 1 rfl ?_
  refine zv_iload_n C dL_isAbove_4 5 rfl 2 rfl ?_
  refine zv_callVR (rest := [.int 0, .ref o]) C (k_X1_isAbove l D cI cZ q h k b y n r f0 f1 f2 f3 f4 f5 f6 f7 f8 f9 f10 f11 f12 f13 n1 r1 g0 g1 g2 g3 g4 g5 g6 g7 g8 g9 g10 g11 g12 g13 bp bn p z hn hp ho hw) (cwV 2 C.1.2.2.2.2 gL_isAbove_X1_isAbove rfl rfl rfl (by decide +kernel) ⟨Nat.le_of_ble_eq_true rfl, Nat.le_of_ble_eq_true rfl⟩) dL_isAbove_5 8 rfl (ci := 1) 0 rfl rfl rfl rfl (Nat.le_of_ble_eq_true rfl) ⟨Nat.le_of_ble_eq_true rfl, Nat.le_of_ble_eq_true rfl⟩ [0, 1] rfl [0, 1, 2, 3, 4, 5, 6, 7, 8, 9, 10, 11, 12, 13, 14, 15, 16, 17, 18, 19, 20, 21, 22, 23, 24, 25, 26, 27, 28, 29, 30, 31, 32] rfl (by decide) (fun v hv => ?_)
  subst hv
  refine zv_go rfl rfl (st' := [.int (zb (fl f0 (nI z) 16 (f0 p))), .int 0, .ref o]) rfl (kc' := 0) rfl (ns' := 0) rfl ?_
  refine zv_if_eq C dL_isAbove_8 11 15 rfl (by decide) (fun c1 => ?_) (fun c1 => ?_)
  · replace c1 := zb_eq0.mp c1
    refine zv_lconst (v := 0) C dL_isAbove_15 16 rfl rfl ?_
    refine zv_last C dL_isAbove_16 17 rfl 33 2 0 rfl rfl (by decide) (by decide) (by decide) ((cR cI cZ q h k (nI b) y (nI n) r f0 f1 f2 f3 f4 f5 f6 f7 f8 f9 f10 f11 f12 f13 (nI n1) r1 g0 g1 g2 g3 g4 g5 g6 g7 g8 g9 g10 g11 g12 g13 bp bn) ++ [(o, .inl (cJ, 1, .inr (.inl (vp_updL u 0 0))))]) rfl ?_
    refine zv_goto C dL_isAbove_17 24 (by decide) ?_
    refine zv_iconst (v := 0) C dL_isAbove_24 25 rfl (by decide) ?_
    exact zv_iret C hr hlk hQ dL_isAbove_25 ⟨(vp_updL u 0 0), rfl, rfl, (by rw [bitL_b, c1]; rfl)⟩
  · replace c1 := zb_ne0.mp c1
    refine zv_lconst (v := 1) C dL_isAbove_11 12 rfl rfl ?_
    refine zv_goto C dL_isAbove_12 16 (by decide) ?_
    refine zv_last C dL_isAbove_16 17 rfl 33 2 0 rfl rfl (by decide) (by decide) (by decide) ((cR cI cZ q h k (nI b) y (nI n) r f0 f1 f2 f3 f4 f5 f6 f7 f8 f9 f10 f11 f12 f13 (nI n1) r1 g0 g1 g2 g3 g4 g5 g6 g7 g8 g9 g10 g11 g12 g13 bp bn) ++ [(o, .inl (cJ, 1, .inr (.inl (vp_updL u 0 1))))]) rfl ?_
    refine zv_goto C dL_isAbove_17 24 (by decide) ?_
    refine zv_iconst (v := 0) C dL_isAbove_24 25 rfl (by decide) ?_
    exact zv_iret C hr hlk hQ dL_isAbove_25 ⟨(vp_updL u 0 1), rfl, rfl, (by rw [bitL_b, c1]; rfl)⟩
abbrev rmL_placesAbove : Room := { frames := 3, cells := 0, slots := 0, locals := 68 }
set_option maxHeartbeats 4000000 in
set_option maxRecDepth 100000 in
theorem k_L_placesAbove_ok (l : Launch) (D : va_G) (cI cZ cJ : ClassId) (q h k : Nat → Nat) (b : Nat) (y : Int32) (n : Nat) (r : Int32) (f0 f1 f2 f3 f4 f5 f6 f7 f8 f9 f10 f11 f12 f13 : Nat → Int32) (n1 : Nat) (r1 : Int32) (g0 g1 g2 g3 g4 g5 g6 g7 g8 g9 g10 g11 g12 g13 : Nat → Int32) (bp bn : Nat → Int32) (o : Nat) (u : Nat → Int64) (p : Nat) (hn : n ≤ 16) (hp : p < n) (hw : Vw n f0) : zv_M l yL_placesAbove wsL_placesAbove rmL_placesAbove D vwCl (tyJ cI cZ cJ) [.ref (q 0), .int (nI p), .ref o] ((cR cI cZ q h k (nI b) y (nI n) r f0 f1 f2 f3 f4 f5 f6 f7 f8 f9 f10 f11 f12 f13 (nI n1) r1 g0 g1 g2 g3 g4 g5 g6 g7 g8 g9 g10 g11 g12 g13 bp bn) ++ [(o, .inl (cJ, 1, .inr (.inl u)))]) (fun v w => ∃ (uo : Nat → Int64), v = some (.int 0) ∧ w = ((cR cI cZ q h k (nI b) y (nI n) r f0 f1 f2 f3 f4 f5 f6 f7 f8 f9 f10 f11 f12 f13 (nI n1) r1 g0 g1 g2 g3 g4 g5 g6 g7 g8 g9 g10 g11 g12 g13 bp bn) ++ [(o, .inl (cJ, 1, .inr (.inl uo)))]) ∧ (uo 0 = Int32.toInt64 (nI (ao n f0 p)))) := by
  refine zw_M.of cL_placesAbove 4 (some .int) [(0, 9, 12, 19)] (by decide) rfl (Nat.le_of_ble_eq_true rfl) ?_
  intro pP eE sS mM aA bB mT cD A C hr hlk Q hQ
  refine zv_go (pc' := 0) rfl (lv' := [(0, .ref (q 0)), (1, .int (nI p)), (2, .ref o)]) rfl rfl rfl rfl ?_
  refine zv_aload_n C dL_placesAbove_0 1 rfl 2 rfl ?_
  refine zv_iconst (v := 0) C dL_placesAbove_1 2 rfl (by decide) ?_
  refine zv_aload_n C dL_placesAbove_2 3 rfl 0 rfl ?_
  refine zv_iload_n C dL_placesAbove_3 4 rfl 1 rfl ?_
  refine zv_callVR (rest := [.int 0, .ref o]) C (k_X1_placesAbove l D cI cZ q h k b y n r f0 f1 f2 f3 f4 f5 f6 f7 f8 f9 f10 f11 f12 f13 n1 r1 g0 g1 g2 g3 g4 g5 g6 g7 g8 g9 g10 g11 g12 g13 bp bn p hn hp hw) (cwV 1 C.1.2.2.2.2 gL_placesAbove_X1_placesAbove rfl rfl rfl (by decide +kernel) ⟨Nat.le_of_ble_eq_true rfl, Nat.le_of_ble_eq_true rfl⟩) dL_placesAbove_4 7 rfl (ci := 1) 0 rfl rfl rfl rfl (Nat.le_of_ble_eq_true rfl) ⟨Nat.le_of_ble_eq_true rfl, Nat.le_of_ble_eq_true rfl⟩ [0, 1] rfl [0, 1, 2, 3, 4, 5, 6, 7, 8, 9, 10, 11, 12, 13, 14, 15, 16, 17, 18, 19, 20, 21, 22, 23, 24, 25, 26, 27, 28, 29, 30, 31, 32] rfl (by decide) (fun v hv => ?_)
  subst hv
  refine zv_go rfl rfl (st' := [.int (nI (ao n f0 p)), .int 0, .ref o]) rfl (kc' := 0) rfl (ns' := 0) rfl ?_
  refine zv_i2l C dL_placesAbove_7 8 rfl ?_
  refine zv_last C dL_placesAbove_8 9 rfl 33 2 0 rfl rfl (by decide) (by decide) (by decide) ((cR cI cZ q h k (nI b) y (nI n) r f0 f1 f2 f3 f4 f5 f6 f7 f8 f9 f10 f11 f12 f13 (nI n1) r1 g0 g1 g2 g3 g4 g5 g6 g7 g8 g9 g10 g11 g12 g13 bp bn) ++ [(o, .inl (cJ, 1, .inr (.inl (vp_updL u 0 (Int32.toInt64 (nI (ao n f0 p)))))))]) rfl ?_
  refine zv_goto C dL_placesAbove_9 15 (by decide) ?_
  refine zv_iconst (v := 0) C dL_placesAbove_15 16 rfl (by decide) ?_
  exact zv_iret C hr hlk hQ dL_placesAbove_16 ⟨(vp_updL u 0 (Int32.toInt64 (nI (ao n f0 p)))), rfl, rfl, rfl⟩
abbrev rmL_meeting : Room := { frames := 4, cells := 0, slots := 0, locals := 91 }
set_option maxHeartbeats 4000000 in
set_option maxRecDepth 100000 in
theorem k_L_meeting_ok (l : Launch) (D : va_G) (cI cZ cJ : ClassId) (q h k : Nat → Nat) (b : Nat) (y : Int32) (n : Nat) (r : Int32) (f0 f1 f2 f3 f4 f5 f6 f7 f8 f9 f10 f11 f12 f13 : Nat → Int32) (n1 : Nat) (r1 : Int32) (g0 g1 g2 g3 g4 g5 g6 g7 g8 g9 g10 g11 g12 g13 : Nat → Int32) (bp bn : Nat → Int32) (o : Nat) (u : Nat → Int64) (p z : Nat) (hn : n ≤ 16) (hp : p < n) (ho : z < n) (hw : Vw n f0) : zv_M l yL_meeting wsL_meeting rmL_meeting D vwCl (tyJ cI cZ cJ) [.ref (q 0), .int (nI p), .int (nI z), .ref o] ((cR cI cZ q h k (nI b) y (nI n) r f0 f1 f2 f3 f4 f5 f6 f7 f8 f9 f10 f11 f12 f13 (nI n1) r1 g0 g1 g2 g3 g4 g5 g6 g7 g8 g9 g10 g11 g12 g13 bp bn) ++ [(o, .inl (cJ, 1, .inr (.inl u)))]) (fun v w => ∃ (uo : Nat → Int64), v = some (.int 0) ∧ w = ((cR cI cZ q h k (nI b) y (nI n) r f0 f1 f2 f3 f4 f5 f6 f7 f8 f9 f10 f11 f12 f13 (nI n1) r1 g0 g1 g2 g3 g4 g5 g6 g7 g8 g9 g10 g11 g12 g13 bp bn) ++ [(o, .inl (cJ, 1, .inr (.inl uo)))]) ∧ (uo 0 = Int32.toInt64 (fc f0 z 16 (nI p)))) := by
  refine zw_M.of cL_meeting 5 (some .int) [(0, 10, 13, 19)] (by decide) rfl (Nat.le_of_ble_eq_true rfl) ?_
  intro pP eE sS mM aA bB mT cD A C hr hlk Q hQ
  refine zv_go (pc' := 0) rfl (lv' := [(0, .ref (q 0)), (1, .int (nI p)), (2, .int (nI z)), (3, .ref o)]) rfl rfl rfl rfl ?_
  refine zv_aload_n C dL_meeting_0 1 rfl 3 rfl ?_
  refine zv_iconst (v := 0) C dL_meeting_1 2 rfl (by decide) ?_
  refine zv_aload_n C dL_meeting_2 3 rfl 0 rfl ?_
  refine zv_iload_n C dL_meeting_3 4 rfl 1 rfl ?_
  refine zv_iload_n C dL_meeting_4 5 rfl 2 rfl ?_
  refine zv_callVR (rest := [.int 0, .ref o]) C (k_X1_meeting l D cI cZ q h k b y n r f0 f1 f2 f3 f4 f5 f6 f7 f8 f9 f10 f11 f12 f13 n1 r1 g0 g1 g2 g3 g4 g5 g6 g7 g8 g9 g10 g11 g12 g13 bp bn p z hn hp ho hw) (cwV 2 C.1.2.2.2.2 gL_meeting_X1_meeting rfl rfl rfl (by decide +kernel) ⟨Nat.le_of_ble_eq_true rfl, Nat.le_of_ble_eq_true rfl⟩) dL_meeting_5 8 rfl (ci := 1) 0 rfl rfl rfl rfl (Nat.le_of_ble_eq_true rfl) ⟨Nat.le_of_ble_eq_true rfl, Nat.le_of_ble_eq_true rfl⟩ [0, 1] rfl [0, 1, 2, 3, 4, 5, 6, 7, 8, 9, 10, 11, 12, 13, 14, 15, 16, 17, 18, 19, 20, 21, 22, 23, 24, 25, 26, 27, 28, 29, 30, 31, 32] rfl (by decide) (fun v hv => ?_)
  subst hv
  refine zv_go rfl rfl (st' := [.int (fc f0 z 16 (nI p)), .int 0, .ref o]) rfl (kc' := 0) rfl (ns' := 0) rfl ?_
  refine zv_i2l C dL_meeting_8 9 rfl ?_
  refine zv_last C dL_meeting_9 10 rfl 33 2 0 rfl rfl (by decide) (by decide) (by decide) ((cR cI cZ q h k (nI b) y (nI n) r f0 f1 f2 f3 f4 f5 f6 f7 f8 f9 f10 f11 f12 f13 (nI n1) r1 g0 g1 g2 g3 g4 g5 g6 g7 g8 g9 g10 g11 g12 g13 bp bn) ++ [(o, .inl (cJ, 1, .inr (.inl (vp_updL u 0 (Int32.toInt64 (fc f0 z 16 (nI p)))))))]) rfl ?_
  refine zv_goto C dL_meeting_10 17 (by decide) ?_
  refine zv_iconst (v := 0) C dL_meeting_17 18 rfl (by decide) ?_
  exact zv_iret C hr hlk hQ dL_meeting_18 ⟨(vp_updL u 0 (Int32.toInt64 (fc f0 z 16 (nI p)))), rfl, rfl, rfl⟩
abbrev rmL_nameAt : Room := { frames := 3, cells := 0, slots := 0, locals := 63 }
set_option maxHeartbeats 4000000 in
set_option maxRecDepth 100000 in
theorem k_L_nameAt_ok (l : Launch) (D : va_G) (cI cZ cJ : ClassId) (q h k : Nat → Nat) (b : Nat) (y : Int32) (n : Nat) (r : Int32) (f0 f1 f2 f3 f4 f5 f6 f7 f8 f9 f10 f11 f12 f13 : Nat → Int32) (n1 : Nat) (r1 : Int32) (g0 g1 g2 g3 g4 g5 g6 g7 g8 g9 g10 g11 g12 g13 : Nat → Int32) (bp bn : Nat → Int32) (o : Nat) (u : Nat → Int64) (p : Nat) (hn : n ≤ 16) (hp : p < n) : zv_M l yL_nameAt wsL_nameAt rmL_nameAt D vwCl (tyJ cI cZ cJ) [.ref (q 0), .int (nI p), .ref o] ((cR cI cZ q h k (nI b) y (nI n) r f0 f1 f2 f3 f4 f5 f6 f7 f8 f9 f10 f11 f12 f13 (nI n1) r1 g0 g1 g2 g3 g4 g5 g6 g7 g8 g9 g10 g11 g12 g13 bp bn) ++ [(o, .inl (cJ, 1, .inr (.inl u)))]) (fun v w => ∃ (uo : Nat → Int64), v = some (.int 0) ∧ w = ((cR cI cZ q h k (nI b) y (nI n) r f0 f1 f2 f3 f4 f5 f6 f7 f8 f9 f10 f11 f12 f13 (nI n1) r1 g0 g1 g2 g3 g4 g5 g6 g7 g8 g9 g10 g11 g12 g13 bp bn) ++ [(o, .inl (cJ, 1, .inr (.inl uo)))]) ∧ (uo 0 = Int32.toInt64 (f9 p))) := by
  refine zw_M.of cL_nameAt 4 (some .int) [(0, 9, 12, 19)] (by decide) rfl (Nat.le_of_ble_eq_true rfl) ?_
  intro pP eE sS mM aA bB mT cD A C hr hlk Q hQ
  refine zv_go (pc' := 0) rfl (lv' := [(0, .ref (q 0)), (1, .int (nI p)), (2, .ref o)]) rfl rfl rfl rfl ?_
  refine zv_aload_n C dL_nameAt_0 1 rfl 2 rfl ?_
  refine zv_iconst (v := 0) C dL_nameAt_1 2 rfl (by decide) ?_
  refine zv_aload_n C dL_nameAt_2 3 rfl 0 rfl ?_
  refine zv_iload_n C dL_nameAt_3 4 rfl 1 rfl ?_
  refine zv_callVR (rest := [.int 0, .ref o]) C (k_X1_nameAt l D cI cZ q h k b y n r f0 f1 f2 f3 f4 f5 f6 f7 f8 f9 f10 f11 f12 f13 n1 r1 g0 g1 g2 g3 g4 g5 g6 g7 g8 g9 g10 g11 g12 g13 bp bn p hn hp) (cwV 1 C.1.2.2.2.2 gL_nameAt_X1_nameAt rfl rfl rfl (by decide +kernel) ⟨Nat.le_of_ble_eq_true rfl, Nat.le_of_ble_eq_true rfl⟩) dL_nameAt_4 7 rfl (ci := 1) 0 rfl rfl rfl rfl (Nat.le_of_ble_eq_true rfl) ⟨Nat.le_of_ble_eq_true rfl, Nat.le_of_ble_eq_true rfl⟩ [0, 1] rfl [0, 1, 2, 3, 4, 5, 6, 7, 8, 9, 10, 11, 12, 13, 14, 15, 16, 17, 18, 19, 20, 21, 22, 23, 24, 25, 26, 27, 28, 29, 30, 31, 32] rfl (by decide) (fun v hv => ?_)
  subst hv
  refine zv_go rfl rfl (st' := [.int (f9 p), .int 0, .ref o]) rfl (kc' := 0) rfl (ns' := 0) rfl ?_
  refine zv_i2l C dL_nameAt_7 8 rfl ?_
  refine zv_last C dL_nameAt_8 9 rfl 33 2 0 rfl rfl (by decide) (by decide) (by decide) ((cR cI cZ q h k (nI b) y (nI n) r f0 f1 f2 f3 f4 f5 f6 f7 f8 f9 f10 f11 f12 f13 (nI n1) r1 g0 g1 g2 g3 g4 g5 g6 g7 g8 g9 g10 g11 g12 g13 bp bn) ++ [(o, .inl (cJ, 1, .inr (.inl (vp_updL u 0 (Int32.toInt64 (f9 p))))))]) rfl ?_
  refine zv_goto C dL_nameAt_9 15 (by decide) ?_
  refine zv_iconst (v := 0) C dL_nameAt_15 16 rfl (by decide) ?_
  exact zv_iret C hr hlk hQ dL_nameAt_16 ⟨(vp_updL u 0 (Int32.toInt64 (f9 p))), rfl, rfl, rfl⟩
abbrev rmL_arguing : Room := { frames := 3, cells := 0, slots := 0, locals := 63 }
set_option maxHeartbeats 4000000 in
set_option maxRecDepth 100000 in
theorem k_L_arguing_ok (l : Launch) (D : va_G) (cI cZ cJ : ClassId) (q h k : Nat → Nat) (b : Nat) (y : Int32) (n : Nat) (r : Int32) (f0 f1 f2 f3 f4 f5 f6 f7 f8 f9 f10 f11 f12 f13 : Nat → Int32) (n1 : Nat) (r1 : Int32) (g0 g1 g2 g3 g4 g5 g6 g7 g8 g9 g10 g11 g12 g13 : Nat → Int32) (bp bn : Nat → Int32) (o : Nat) (u : Nat → Int64) (p : Nat) (hn : n ≤ 16) (hp : p < n) : zv_M l yL_arguing wsL_arguing rmL_arguing D vwCl (tyJ cI cZ cJ) [.ref (q 0), .int (nI p), .ref o] ((cR cI cZ q h k (nI b) y (nI n) r f0 f1 f2 f3 f4 f5 f6 f7 f8 f9 f10 f11 f12 f13 (nI n1) r1 g0 g1 g2 g3 g4 g5 g6 g7 g8 g9 g10 g11 g12 g13 bp bn) ++ [(o, .inl (cJ, 1, .inr (.inl u)))]) (fun v w => ∃ (uo : Nat → Int64), v = some (.int 0) ∧ w = ((cR cI cZ q h k (nI b) y (nI n) r f0 f1 f2 f3 f4 f5 f6 f7 f8 f9 f10 f11 f12 f13 (nI n1) r1 g0 g1 g2 g3 g4 g5 g6 g7 g8 g9 g10 g11 g12 g13 bp bn) ++ [(o, .inl (cJ, 1, .inr (.inl uo)))]) ∧ (uo 0 = Int32.toInt64 (f10 p))) := by
  refine zw_M.of cL_arguing 4 (some .int) [(0, 9, 12, 19)] (by decide) rfl (Nat.le_of_ble_eq_true rfl) ?_
  intro pP eE sS mM aA bB mT cD A C hr hlk Q hQ
  refine zv_go (pc' := 0) rfl (lv' := [(0, .ref (q 0)), (1, .int (nI p)), (2, .ref o)]) rfl rfl rfl rfl ?_
  refine zv_aload_n C dL_arguing_0 1 rfl 2 rfl ?_
  refine zv_iconst (v := 0) C dL_arguing_1 2 rfl (by decide) ?_
  refine zv_aload_n C dL_arguing_2 3 rfl 0 rfl ?_
  refine zv_iload_n C dL_arguing_3 4 rfl 1 rfl ?_
  refine zv_callVR (rest := [.int 0, .ref o]) C (k_X1_arguing l D cI cZ q h k b y n r f0 f1 f2 f3 f4 f5 f6 f7 f8 f9 f10 f11 f12 f13 n1 r1 g0 g1 g2 g3 g4 g5 g6 g7 g8 g9 g10 g11 g12 g13 bp bn p hn hp) (cwV 1 C.1.2.2.2.2 gL_arguing_X1_arguing rfl rfl rfl (by decide +kernel) ⟨Nat.le_of_ble_eq_true rfl, Nat.le_of_ble_eq_true rfl⟩) dL_arguing_4 7 rfl (ci := 1) 0 rfl rfl rfl rfl (Nat.le_of_ble_eq_true rfl) ⟨Nat.le_of_ble_eq_true rfl, Nat.le_of_ble_eq_true rfl⟩ [0, 1] rfl [0, 1, 2, 3, 4, 5, 6, 7, 8, 9, 10, 11, 12, 13, 14, 15, 16, 17, 18, 19, 20, 21, 22, 23, 24, 25, 26, 27, 28, 29, 30, 31, 32] rfl (by decide) (fun v hv => ?_)
  subst hv
  refine zv_go rfl rfl (st' := [.int (f10 p), .int 0, .ref o]) rfl (kc' := 0) rfl (ns' := 0) rfl ?_
  refine zv_i2l C dL_arguing_7 8 rfl ?_
  refine zv_last C dL_arguing_8 9 rfl 33 2 0 rfl rfl (by decide) (by decide) (by decide) ((cR cI cZ q h k (nI b) y (nI n) r f0 f1 f2 f3 f4 f5 f6 f7 f8 f9 f10 f11 f12 f13 (nI n1) r1 g0 g1 g2 g3 g4 g5 g6 g7 g8 g9 g10 g11 g12 g13 bp bn) ++ [(o, .inl (cJ, 1, .inr (.inl (vp_updL u 0 (Int32.toInt64 (f10 p))))))]) rfl ?_
  refine zv_goto C dL_arguing_9 15 (by decide) ?_
  refine zv_iconst (v := 0) C dL_arguing_15 16 rfl (by decide) ?_
  exact zv_iret C hr hlk hQ dL_arguing_16 ⟨(vp_updL u 0 (Int32.toInt64 (f10 p))), rfl, rfl, rfl⟩
abbrev rmL_isArgued : Room := { frames := 3, cells := 0, slots := 0, locals := 63 }
set_option maxHeartbeats 4000000 in
set_option maxRecDepth 100000 in
theorem k_L_isArgued_ok (l : Launch) (D : va_G) (cI cZ cJ : ClassId) (q h k : Nat → Nat) (b : Nat) (y : Int32) (n : Nat) (r : Int32) (f0 f1 f2 f3 f4 f5 f6 f7 f8 f9 f10 f11 f12 f13 : Nat → Int32) (n1 : Nat) (r1 : Int32) (g0 g1 g2 g3 g4 g5 g6 g7 g8 g9 g10 g11 g12 g13 : Nat → Int32) (bp bn : Nat → Int32) (o : Nat) (u : Nat → Int64) (p : Nat) (hn : n ≤ 16) (hp : p < n) (hz : zo (f11 p)) : zv_M l yL_isArgued wsL_isArgued rmL_isArgued D vwCl (tyJ cI cZ cJ) [.ref (q 0), .int (nI p), .ref o] ((cR cI cZ q h k (nI b) y (nI n) r f0 f1 f2 f3 f4 f5 f6 f7 f8 f9 f10 f11 f12 f13 (nI n1) r1 g0 g1 g2 g3 g4 g5 g6 g7 g8 g9 g10 g11 g12 g13 bp bn) ++ [(o, .inl (cJ, 1, .inr (.inl u)))]) (fun v w => ∃ (uo : Nat → Int64), v = some (.int 0) ∧ w = ((cR cI cZ q h k (nI b) y (nI n) r f0 f1 f2 f3 f4 f5 f6 f7 f8 f9 f10 f11 f12 f13 (nI n1) r1 g0 g1 g2 g3 g4 g5 g6 g7 g8 g9 g10 g11 g12 g13 bp bn) ++ [(o, .inl (cJ, 1, .inr (.inl uo)))]) ∧ (uo 0 = bitL (f11 p))) := by
  refine zw_M.of cL_isArgued 4 (some .int) [(0, 16, 19, 19)] (by decide) rfl (Nat.le_of_ble_eq_true rfl) ?_
  intro pP eE sS mM aA bB mT cD A C hr hlk Q hQ
  refine zv_go (pc' := 0) rfl (lv' := [(0, .ref (q 0)), (1, .int (nI p)), (2, .ref o)]) rfl rfl rfl rfl ?_
  refine zv_aload_n C dL_isArgued_0 1 rfl 2 rfl ?_
  refine zv_iconst (v := 0) C dL_isArgued_1 2 rfl (by decide) ?_
  refine zv_aload_n C dL_isArgued_2 3 rfl 0 rfl ?_
  refine zv_iload_n C dL_isArgued_3 4 rfl 1 rfl ?_
  refine zv_callVR (rest := [.int 0, .ref o]) C (k_X1_isArgued l D cI cZ q h k b y n r f0 f1 f2 f3 f4 f5 f6 f7 f8 f9 f10 f11 f12 f13 n1 r1 g0 g1 g2 g3 g4 g5 g6 g7 g8 g9 g10 g11 g12 g13 bp bn p hn hp hz) (cwV 1 C.1.2.2.2.2 gL_isArgued_X1_isArgued rfl rfl rfl (by decide +kernel) ⟨Nat.le_of_ble_eq_true rfl, Nat.le_of_ble_eq_true rfl⟩) dL_isArgued_4 7 rfl (ci := 1) 0 rfl rfl rfl rfl (Nat.le_of_ble_eq_true rfl) ⟨Nat.le_of_ble_eq_true rfl, Nat.le_of_ble_eq_true rfl⟩ [0, 1] rfl [0, 1, 2, 3, 4, 5, 6, 7, 8, 9, 10, 11, 12, 13, 14, 15, 16, 17, 18, 19, 20, 21, 22, 23, 24, 25, 26, 27, 28, 29, 30, 31, 32] rfl (by decide) (fun v hv => ?_)
  subst hv
  refine zv_go rfl rfl (st' := [.int (f11 p), .int 0, .ref o]) rfl (kc' := 0) rfl (ns' := 0) rfl ?_
  refine zv_if_eq C dL_isArgued_7 10 14 rfl (by decide) (fun c1 => ?_) (fun c1 => ?_)
  · refine zv_lconst (v := 0) C dL_isArgued_14 15 rfl rfl ?_
    refine zv_last C dL_isArgued_15 16 rfl 33 2 0 rfl rfl (by decide) (by decide) (by decide) ((cR cI cZ q h k (nI b) y (nI n) r f0 f1 f2 f3 f4 f5 f6 f7 f8 f9 f10 f11 f12 f13 (nI n1) r1 g0 g1 g2 g3 g4 g5 g6 g7 g8 g9 g10 g11 g12 g13 bp bn) ++ [(o, .inl (cJ, 1, .inr (.inl (vp_updL u 0 0))))]) rfl ?_
    refine zv_goto C dL_isArgued_16 22 (by decide) ?_
    refine zv_iconst (v := 0) C dL_isArgued_22 23 rfl (by decide) ?_
    exact zv_iret C hr hlk hQ dL_isArgued_23 ⟨(vp_updL u 0 0), rfl, rfl, (by simp [vp_updL, bitL, c1])⟩
  · refine zv_lconst (v := 1) C dL_isArgued_10 11 rfl rfl ?_
    refine zv_goto C dL_isArgued_11 15 (by decide) ?_
    refine zv_last C dL_isArgued_15 16 rfl 33 2 0 rfl rfl (by decide) (by decide) (by decide) ((cR cI cZ q h k (nI b) y (nI n) r f0 f1 f2 f3 f4 f5 f6 f7 f8 f9 f10 f11 f12 f13 (nI n1) r1 g0 g1 g2 g3 g4 g5 g6 g7 g8 g9 g10 g11 g12 g13 bp bn) ++ [(o, .inl (cJ, 1, .inr (.inl (vp_updL u 0 1))))]) rfl ?_
    refine zv_goto C dL_isArgued_16 22 (by decide) ?_
    refine zv_iconst (v := 0) C dL_isArgued_22 23 rfl (by decide) ?_
    exact zv_iret C hr hlk hQ dL_isArgued_23 ⟨(vp_updL u 0 1), rfl, rfl, (by simp [vp_updL, bitL, c1])⟩
abbrev rmL_placesNamed : Room := { frames := 3, cells := 0, slots := 0, locals := 63 }
set_option maxHeartbeats 4000000 in
set_option maxRecDepth 100000 in
theorem k_L_placesNamed_ok (l : Launch) (D : va_G) (cI cZ cJ : ClassId) (q h k : Nat → Nat) (b : Nat) (y : Int32) (n : Nat) (r : Int32) (f0 f1 f2 f3 f4 f5 f6 f7 f8 f9 f10 f11 f12 f13 : Nat → Int32) (n1 : Nat) (r1 : Int32) (g0 g1 g2 g3 g4 g5 g6 g7 g8 g9 g10 g11 g12 g13 : Nat → Int32) (bp bn : Nat → Int32) (o : Nat) (u : Nat → Int64) (x : Int32) (hn : n ≤ 16) (h1 : isI x 0 9 = true) : zv_M l yL_placesNamed wsL_placesNamed rmL_placesNamed D vwCl (tyJ cI cZ cJ) [.ref (q 0), .int x, .ref o] ((cR cI cZ q h k (nI b) y (nI n) r f0 f1 f2 f3 f4 f5 f6 f7 f8 f9 f10 f11 f12 f13 (nI n1) r1 g0 g1 g2 g3 g4 g5 g6 g7 g8 g9 g10 g11 g12 g13 bp bn) ++ [(o, .inl (cJ, 1, .inr (.inl u)))]) (fun v w => ∃ (uo : Nat → Int64), v = some (.int 0) ∧ w = ((cR cI cZ q h k (nI b) y (nI n) r f0 f1 f2 f3 f4 f5 f6 f7 f8 f9 f10 f11 f12 f13 (nI n1) r1 g0 g1 g2 g3 g4 g5 g6 g7 g8 g9 g10 g11 g12 g13 bp bn) ++ [(o, .inl (cJ, 1, .inr (.inl uo)))]) ∧ (uo 0 = Int32.toInt64 (nI (cnt f9 x n)))) := by
  refine zw_M.of cL_placesNamed 4 (some .int) [(0, 9, 12, 19)] (by decide) rfl (Nat.le_of_ble_eq_true rfl) ?_
  intro pP eE sS mM aA bB mT cD A C hr hlk Q hQ
  refine zv_go (pc' := 0) rfl (lv' := [(0, .ref (q 0)), (1, .int x), (2, .ref o)]) rfl rfl rfl rfl ?_
  refine zv_aload_n C dL_placesNamed_0 1 rfl 2 rfl ?_
  refine zv_iconst (v := 0) C dL_placesNamed_1 2 rfl (by decide) ?_
  refine zv_aload_n C dL_placesNamed_2 3 rfl 0 rfl ?_
  refine zv_iload_n C dL_placesNamed_3 4 rfl 1 rfl ?_
  refine zv_callVR (rest := [.int 0, .ref o]) C (k_X1_placesNamed l D cI cZ q h k b y n r f0 f1 f2 f3 f4 f5 f6 f7 f8 f9 f10 f11 f12 f13 n1 r1 g0 g1 g2 g3 g4 g5 g6 g7 g8 g9 g10 g11 g12 g13 bp bn x hn h1) (cwV 1 C.1.2.2.2.2 gL_placesNamed_X1_placesNamed rfl rfl rfl (by decide +kernel) ⟨Nat.le_of_ble_eq_true rfl, Nat.le_of_ble_eq_true rfl⟩) dL_placesNamed_4 7 rfl (ci := 1) 0 rfl rfl rfl rfl (Nat.le_of_ble_eq_true rfl) ⟨Nat.le_of_ble_eq_true rfl, Nat.le_of_ble_eq_true rfl⟩ [0, 1] rfl [0, 1, 2, 3, 4, 5, 6, 7, 8, 9, 10, 11, 12, 13, 14, 15, 16, 17, 18, 19, 20, 21, 22, 23, 24, 25, 26, 27, 28, 29, 30, 31, 32] rfl (by decide) (fun v hv => ?_)
  subst hv
  refine zv_go rfl rfl (st' := [.int (nI (cnt f9 x n)), .int 0, .ref o]) rfl (kc' := 0) rfl (ns' := 0) rfl ?_
  refine zv_i2l C dL_placesNamed_7 8 rfl ?_
  refine zv_last C dL_placesNamed_8 9 rfl 33 2 0 rfl rfl (by decide) (by decide) (by decide) ((cR cI cZ q h k (nI b) y (nI n) r f0 f1 f2 f3 f4 f5 f6 f7 f8 f9 f10 f11 f12 f13 (nI n1) r1 g0 g1 g2 g3 g4 g5 g6 g7 g8 g9 g10 g11 g12 g13 bp bn) ++ [(o, .inl (cJ, 1, .inr (.inl (vp_updL u 0 (Int32.toInt64 (nI (cnt f9 x n)))))))]) rfl ?_
  refine zv_goto C dL_placesNamed_9 15 (by decide) ?_
  refine zv_iconst (v := 0) C dL_placesNamed_15 16 rfl (by decide) ?_
  exact zv_iret C hr hlk hQ dL_placesNamed_16 ⟨(vp_updL u 0 (Int32.toInt64 (nI (cnt f9 x n)))), rfl, rfl, rfl⟩
abbrev rmL_placeOf : Room := { frames := 2, cells := 0, slots := 0, locals := 42 }
set_option maxHeartbeats 4000000 in
set_option maxRecDepth 100000 in
theorem k_L_placeOf_ok (l : Launch) (D : va_G) (cI cZ cJ : ClassId) (q h k : Nat → Nat) (b : Nat) (y : Int32) (n : Nat) (r : Int32) (f0 f1 f2 f3 f4 f5 f6 f7 f8 f9 f10 f11 f12 f13 : Nat → Int32) (n1 : Nat) (r1 : Int32) (g0 g1 g2 g3 g4 g5 g6 g7 g8 g9 g10 g11 g12 g13 : Nat → Int32) (bp bn : Nat → Int32) (o : Nat) (u : Nat → Int64) (p : Nat) (hb : b ≤ 16) (hp : p < b) : zv_M l yL_placeOf wsL_placeOf rmL_placeOf D vwCl (tyJ cI cZ cJ) [.ref (q 0), .int (nI p), .ref o] ((cR cI cZ q h k (nI b) y (nI n) r f0 f1 f2 f3 f4 f5 f6 f7 f8 f9 f10 f11 f12 f13 (nI n1) r1 g0 g1 g2 g3 g4 g5 g6 g7 g8 g9 g10 g11 g12 g13 bp bn) ++ [(o, .inl (cJ, 1, .inr (.inl u)))]) (fun v w => ∃ (uo : Nat → Int64), v = some (.int 0) ∧ w = ((cR cI cZ q h k (nI b) y (nI n) r f0 f1 f2 f3 f4 f5 f6 f7 f8 f9 f10 f11 f12 f13 (nI n1) r1 g0 g1 g2 g3 g4 g5 g6 g7 g8 g9 g10 g11 g12 g13 bp bn) ++ [(o, .inl (cJ, 1, .inr (.inl uo)))]) ∧ (uo 0 = Int32.toInt64 (bp p))) := by
  refine zw_M.of cL_placeOf 4 (some .int) [(0, 9, 12, 19)] (by decide) rfl (Nat.le_of_ble_eq_true rfl) ?_
  intro pP eE sS mM aA bB mT cD A C hr hlk Q hQ
  refine zv_go (pc' := 0) rfl (lv' := [(0, .ref (q 0)), (1, .int (nI p)), (2, .ref o)]) rfl rfl rfl rfl ?_
  refine zv_aload_n C dL_placeOf_0 1 rfl 2 rfl ?_
  refine zv_iconst (v := 0) C dL_placeOf_1 2 rfl (by decide) ?_
  refine zv_aload_n C dL_placeOf_2 3 rfl 0 rfl ?_
  refine zv_iload_n C dL_placeOf_3 4 rfl 1 rfl ?_
  refine zv_callVR (rest := [.int 0, .ref o]) C (k_X1_placeOf l D cI cZ q h k b y n r f0 f1 f2 f3 f4 f5 f6 f7 f8 f9 f10 f11 f12 f13 n1 r1 g0 g1 g2 g3 g4 g5 g6 g7 g8 g9 g10 g11 g12 g13 bp bn p hb hp) (cwV 1 C.1.2.2.2.2 gL_placeOf_X1_placeOf rfl rfl rfl (by decide +kernel) ⟨Nat.le_of_ble_eq_true rfl, Nat.le_of_ble_eq_true rfl⟩) dL_placeOf_4 7 rfl (ci := 1) 0 rfl rfl rfl rfl (Nat.le_of_ble_eq_true rfl) ⟨Nat.le_of_ble_eq_true rfl, Nat.le_of_ble_eq_true rfl⟩ [0, 1] rfl [0, 1, 2, 3, 4, 5, 6, 7, 8, 9, 10, 11, 12, 13, 14, 15, 16, 17, 18, 19, 20, 21, 22, 23, 24, 25, 26, 27, 28, 29, 30, 31, 32] rfl (by decide) (fun v hv => ?_)
  subst hv
  refine zv_go rfl rfl (st' := [.int (bp p), .int 0, .ref o]) rfl (kc' := 0) rfl (ns' := 0) rfl ?_
  refine zv_i2l C dL_placeOf_7 8 rfl ?_
  refine zv_last C dL_placeOf_8 9 rfl 33 2 0 rfl rfl (by decide) (by decide) (by decide) ((cR cI cZ q h k (nI b) y (nI n) r f0 f1 f2 f3 f4 f5 f6 f7 f8 f9 f10 f11 f12 f13 (nI n1) r1 g0 g1 g2 g3 g4 g5 g6 g7 g8 g9 g10 g11 g12 g13 bp bn) ++ [(o, .inl (cJ, 1, .inr (.inl (vp_updL u 0 (Int32.toInt64 (bp p))))))]) rfl ?_
  refine zv_goto C dL_placeOf_9 15 (by decide) ?_
  refine zv_iconst (v := 0) C dL_placeOf_15 16 rfl (by decide) ?_
  exact zv_iret C hr hlk hQ dL_placeOf_16 ⟨(vp_updL u 0 (Int32.toInt64 (bp p))), rfl, rfl, rfl⟩
abbrev rmL_keeps : Room := { frames := 2, cells := 0, slots := 0, locals := 42 }
set_option maxHeartbeats 4000000 in
set_option maxRecDepth 100000 in
theorem k_L_keeps_ok (l : Launch) (D : va_G) (cI cZ cJ : ClassId) (q h k : Nat → Nat) (b : Nat) (y : Int32) (n : Nat) (r : Int32) (f0 f1 f2 f3 f4 f5 f6 f7 f8 f9 f10 f11 f12 f13 : Nat → Int32) (n1 : Nat) (r1 : Int32) (g0 g1 g2 g3 g4 g5 g6 g7 g8 g9 g10 g11 g12 g13 : Nat → Int32) (bp bn : Nat → Int32) (o : Nat) (u : Nat → Int64) (p : Nat) (hb : b ≤ 16) (hp : p < b) : zv_M l yL_keeps wsL_keeps rmL_keeps D vwCl (tyJ cI cZ cJ) [.ref (q 0), .int (nI p), .ref o] ((cR cI cZ q h k (nI b) y (nI n) r f0 f1 f2 f3 f4 f5 f6 f7 f8 f9 f10 f11 f12 f13 (nI n1) r1 g0 g1 g2 g3 g4 g5 g6 g7 g8 g9 g10 g11 g12 g13 bp bn) ++ [(o, .inl (cJ, 1, .inr (.inl u)))]) (fun v w => ∃ (uo : Nat → Int64), v = some (.int 0) ∧ w = ((cR cI cZ q h k (nI b) y (nI n) r f0 f1 f2 f3 f4 f5 f6 f7 f8 f9 f10 f11 f12 f13 (nI n1) r1 g0 g1 g2 g3 g4 g5 g6 g7 g8 g9 g10 g11 g12 g13 bp bn) ++ [(o, .inl (cJ, 1, .inr (.inl uo)))]) ∧ (uo 0 = Int32.toInt64 (bn p))) := by
  refine zw_M.of cL_keeps 4 (some .int) [(0, 9, 12, 19)] (by decide) rfl (Nat.le_of_ble_eq_true rfl) ?_
  intro pP eE sS mM aA bB mT cD A C hr hlk Q hQ
  refine zv_go (pc' := 0) rfl (lv' := [(0, .ref (q 0)), (1, .int (nI p)), (2, .ref o)]) rfl rfl rfl rfl ?_
  refine zv_aload_n C dL_keeps_0 1 rfl 2 rfl ?_
  refine zv_iconst (v := 0) C dL_keeps_1 2 rfl (by decide) ?_
  refine zv_aload_n C dL_keeps_2 3 rfl 0 rfl ?_
  refine zv_iload_n C dL_keeps_3 4 rfl 1 rfl ?_
  refine zv_callVR (rest := [.int 0, .ref o]) C (k_X1_keeps l D cI cZ q h k b y n r f0 f1 f2 f3 f4 f5 f6 f7 f8 f9 f10 f11 f12 f13 n1 r1 g0 g1 g2 g3 g4 g5 g6 g7 g8 g9 g10 g11 g12 g13 bp bn p hb hp) (cwV 1 C.1.2.2.2.2 gL_keeps_X1_keeps rfl rfl rfl (by decide +kernel) ⟨Nat.le_of_ble_eq_true rfl, Nat.le_of_ble_eq_true rfl⟩) dL_keeps_4 7 rfl (ci := 1) 0 rfl rfl rfl rfl (Nat.le_of_ble_eq_true rfl) ⟨Nat.le_of_ble_eq_true rfl, Nat.le_of_ble_eq_true rfl⟩ [0, 1] rfl [0, 1, 2, 3, 4, 5, 6, 7, 8, 9, 10, 11, 12, 13, 14, 15, 16, 17, 18, 19, 20, 21, 22, 23, 24, 25, 26, 27, 28, 29, 30, 31, 32] rfl (by decide) (fun v hv => ?_)
  subst hv
  refine zv_go rfl rfl (st' := [.int (bn p), .int 0, .ref o]) rfl (kc' := 0) rfl (ns' := 0) rfl ?_
  refine zv_i2l C dL_keeps_7 8 rfl ?_
  refine zv_last C dL_keeps_8 9 rfl 33 2 0 rfl rfl (by decide) (by decide) (by decide) ((cR cI cZ q h k (nI b) y (nI n) r f0 f1 f2 f3 f4 f5 f6 f7 f8 f9 f10 f11 f12 f13 (nI n1) r1 g0 g1 g2 g3 g4 g5 g6 g7 g8 g9 g10 g11 g12 g13 bp bn) ++ [(o, .inl (cJ, 1, .inr (.inl (vp_updL u 0 (Int32.toInt64 (bn p))))))]) rfl ?_
  refine zv_goto C dL_keeps_9 15 (by decide) ?_
  refine zv_iconst (v := 0) C dL_keeps_15 16 rfl (by decide) ?_
  exact zv_iret C hr hlk hQ dL_keeps_16 ⟨(vp_updL u 0 (Int32.toInt64 (bn p))), rfl, rfl, rfl⟩
abbrev rmL_isInsulted : Room := { frames := 3, cells := 0, slots := 0, locals := 64 }
set_option maxHeartbeats 4000000 in
set_option maxRecDepth 100000 in
theorem k_L_isInsulted_ok (l : Launch) (D : va_G) (cI cZ cJ : ClassId) (q h k : Nat → Nat) (b : Nat) (y : Int32) (n : Nat) (r : Int32) (f0 f1 f2 f3 f4 f5 f6 f7 f8 f9 f10 f11 f12 f13 : Nat → Int32) (n1 : Nat) (r1 : Int32) (g0 g1 g2 g3 g4 g5 g6 g7 g8 g9 g10 g11 g12 g13 : Nat → Int32) (bp bn : Nat → Int32) (o : Nat) (u : Nat → Int64) (p : Nat) (hn : n ≤ 16) (hb : b ≤ 16) (hB : Brg n b bp) (hp : p < b) : zv_M l yL_isInsulted wsL_isInsulted rmL_isInsulted D vwCl (tyJ cI cZ cJ) [.ref (q 0), .int (nI p), .ref o] ((cR cI cZ q h k (nI b) y (nI n) r f0 f1 f2 f3 f4 f5 f6 f7 f8 f9 f10 f11 f12 f13 (nI n1) r1 g0 g1 g2 g3 g4 g5 g6 g7 g8 g9 g10 g11 g12 g13 bp bn) ++ [(o, .inl (cJ, 1, .inr (.inl u)))]) (fun v w => ∃ (uo : Nat → Int64), v = some (.int 0) ∧ w = ((cR cI cZ q h k (nI b) y (nI n) r f0 f1 f2 f3 f4 f5 f6 f7 f8 f9 f10 f11 f12 f13 (nI n1) r1 g0 g1 g2 g3 g4 g5 g6 g7 g8 g9 g10 g11 g12 g13 bp bn) ++ [(o, .inl (cJ, 1, .inr (.inl uo)))]) ∧ (uo 0 = bitL (zb (insd (bn p) (f9 (bp p).toNatClampNeg))))) := by
  refine zw_M.of cL_isInsulted 4 (some .int) [(0, 16, 19, 19)] (by decide) rfl (Nat.le_of_ble_eq_true rfl) ?_
  intro pP eE sS mM aA bB mT cD A C hr hlk Q hQ
  refine zv_go (pc' := 0) rfl (lv' := [(0, .ref (q 0)), (1, .int (nI p)), (2, .ref o)]) rfl rfl rfl rfl ?_
  refine zv_aload_n C dL_isInsulted_0 1 rfl 2 rfl ?_
  refine zv_iconst (v := 0) C dL_isInsulted_1 2 rfl (by decide) ?_
  refine zv_aload_n C dL_isInsulted_2 3 rfl 0 rfl ?_
  refine zv_iload_n C dL_isInsulted_3 4 rfl 1 rfl ?_
  refine zv_callVR (rest := [.int 0, .ref o]) C (k_X1_isInsulted l D cI cZ q h k b y n r f0 f1 f2 f3 f4 f5 f6 f7 f8 f9 f10 f11 f12 f13 n1 r1 g0 g1 g2 g3 g4 g5 g6 g7 g8 g9 g10 g11 g12 g13 bp bn p hn hb hB hp) (cwV 1 C.1.2.2.2.2 gL_isInsulted_X1_isInsulted rfl rfl rfl (by decide +kernel) ⟨Nat.le_of_ble_eq_true rfl, Nat.le_of_ble_eq_true rfl⟩) dL_isInsulted_4 7 rfl (ci := 1) 0 rfl rfl rfl rfl (Nat.le_of_ble_eq_true rfl) ⟨Nat.le_of_ble_eq_true rfl, Nat.le_of_ble_eq_true rfl⟩ [0, 1] rfl [0, 1, 2, 3, 4, 5, 6, 7, 8, 9, 10, 11, 12, 13, 14, 15, 16, 17, 18, 19, 20, 21, 22, 23, 24, 25, 26, 27, 28, 29, 30, 31, 32] rfl (by decide) (fun v hv => ?_)
  subst hv
  refine zv_go rfl rfl (st' := [.int (zb (insd (bn p) (f9 (bp p).toNatClampNeg))), .int 0, .ref o]) rfl (kc' := 0) rfl (ns' := 0) rfl ?_
  refine zv_if_eq C dL_isInsulted_7 10 14 rfl (by decide) (fun c1 => ?_) (fun c1 => ?_)
  · replace c1 := zb_eq0.mp c1
    refine zv_lconst (v := 0) C dL_isInsulted_14 15 rfl rfl ?_
    refine zv_last C dL_isInsulted_15 16 rfl 33 2 0 rfl rfl (by decide) (by decide) (by decide) ((cR cI cZ q h k (nI b) y (nI n) r f0 f1 f2 f3 f4 f5 f6 f7 f8 f9 f10 f11 f12 f13 (nI n1) r1 g0 g1 g2 g3 g4 g5 g6 g7 g8 g9 g10 g11 g12 g13 bp bn) ++ [(o, .inl (cJ, 1, .inr (.inl (vp_updL u 0 0))))]) rfl ?_
    refine zv_goto C dL_isInsulted_16 22 (by decide) ?_
    refine zv_iconst (v := 0) C dL_isInsulted_22 23 rfl (by decide) ?_
    exact zv_iret C hr hlk hQ dL_isInsulted_23 ⟨(vp_updL u 0 0), rfl, rfl, (by rw [bitL_b, c1]; rfl)⟩
  · replace c1 := zb_ne0.mp c1
    refine zv_lconst (v := 1) C dL_isInsulted_10 11 rfl rfl ?_
    refine zv_goto C dL_isInsulted_11 15 (by decide) ?_
    refine zv_last C dL_isInsulted_15 16 rfl 33 2 0 rfl rfl (by decide) (by decide) (by decide) ((cR cI cZ q h k (nI b) y (nI n) r f0 f1 f2 f3 f4 f5 f6 f7 f8 f9 f10 f11 f12 f13 (nI n1) r1 g0 g1 g2 g3 g4 g5 g6 g7 g8 g9 g10 g11 g12 g13 bp bn) ++ [(o, .inl (cJ, 1, .inr (.inl (vp_updL u 0 1))))]) rfl ?_
    refine zv_goto C dL_isInsulted_16 22 (by decide) ?_
    refine zv_iconst (v := 0) C dL_isInsulted_22 23 rfl (by decide) ?_
    exact zv_iret C hr hlk hQ dL_isInsulted_23 ⟨(vp_updL u 0 1), rfl, rfl, (by rw [bitL_b, c1]; rfl)⟩
abbrev rmL_insultsAt : Room := { frames := 3, cells := 0, slots := 0, locals := 66 }
set_option maxHeartbeats 4000000 in
set_option maxRecDepth 100000 in
theorem k_L_insultsAt_ok (l : Launch) (D : va_G) (cI cZ cJ : ClassId) (q h k : Nat → Nat) (b : Nat) (y : Int32) (n : Nat) (r : Int32) (f0 f1 f2 f3 f4 f5 f6 f7 f8 f9 f10 f11 f12 f13 : Nat → Int32) (n1 : Nat) (r1 : Int32) (g0 g1 g2 g3 g4 g5 g6 g7 g8 g9 g10 g11 g12 g13 : Nat → Int32) (bp bn : Nat → Int32) (o : Nat) (u : Nat → Int64) (p : Nat) (hn : n ≤ 16) (hb : b ≤ 16) (hB : Brg n b bp) (hp : p < n) : zv_M l yL_insultsAt wsL_insultsAt rmL_insultsAt D vwCl (tyJ cI cZ cJ) [.ref (q 0), .int (nI p), .ref o] ((cR cI cZ q h k (nI b) y (nI n) r f0 f1 f2 f3 f4 f5 f6 f7 f8 f9 f10 f11 f12 f13 (nI n1) r1 g0 g1 g2 g3 g4 g5 g6 g7 g8 g9 g10 g11 g12 g13 bp bn) ++ [(o, .inl (cJ, 1, .inr (.inl u)))]) (fun v w => ∃ (uo : Nat → Int64), v = some (.int 0) ∧ w = ((cR cI cZ q h k (nI b) y (nI n) r f0 f1 f2 f3 f4 f5 f6 f7 f8 f9 f10 f11 f12 f13 (nI n1) r1 g0 g1 g2 g3 g4 g5 g6 g7 g8 g9 g10 g11 g12 g13 bp bn) ++ [(o, .inl (cJ, 1, .inr (.inl uo)))]) ∧ (uo 0 = Int32.toInt64 (nI (inP bp bn f9 p b)))) := by
  refine zw_M.of cL_insultsAt 4 (some .int) [(0, 9, 12, 19)] (by decide) rfl (Nat.le_of_ble_eq_true rfl) ?_
  intro pP eE sS mM aA bB mT cD A C hr hlk Q hQ
  refine zv_go (pc' := 0) rfl (lv' := [(0, .ref (q 0)), (1, .int (nI p)), (2, .ref o)]) rfl rfl rfl rfl ?_
  refine zv_aload_n C dL_insultsAt_0 1 rfl 2 rfl ?_
  refine zv_iconst (v := 0) C dL_insultsAt_1 2 rfl (by decide) ?_
  refine zv_aload_n C dL_insultsAt_2 3 rfl 0 rfl ?_
  refine zv_iload_n C dL_insultsAt_3 4 rfl 1 rfl ?_
  refine zv_callVR (rest := [.int 0, .ref o]) C (k_X1_insultsAt l D cI cZ q h k b y n r f0 f1 f2 f3 f4 f5 f6 f7 f8 f9 f10 f11 f12 f13 n1 r1 g0 g1 g2 g3 g4 g5 g6 g7 g8 g9 g10 g11 g12 g13 bp bn p hn hb hB hp) (cwV 1 C.1.2.2.2.2 gL_insultsAt_X1_insultsAt rfl rfl rfl (by decide +kernel) ⟨Nat.le_of_ble_eq_true rfl, Nat.le_of_ble_eq_true rfl⟩) dL_insultsAt_4 7 rfl (ci := 1) 0 rfl rfl rfl rfl (Nat.le_of_ble_eq_true rfl) ⟨Nat.le_of_ble_eq_true rfl, Nat.le_of_ble_eq_true rfl⟩ [0, 1] rfl [0, 1, 2, 3, 4, 5, 6, 7, 8, 9, 10, 11, 12, 13, 14, 15, 16, 17, 18, 19, 20, 21, 22, 23, 24, 25, 26, 27, 28, 29, 30, 31, 32] rfl (by decide) (fun v hv => ?_)
  subst hv
  refine zv_go rfl rfl (st' := [.int (nI (inP bp bn f9 p b)), .int 0, .ref o]) rfl (kc' := 0) rfl (ns' := 0) rfl ?_
  refine zv_i2l C dL_insultsAt_7 8 rfl ?_
  refine zv_last C dL_insultsAt_8 9 rfl 33 2 0 rfl rfl (by decide) (by decide) (by decide) ((cR cI cZ q h k (nI b) y (nI n) r f0 f1 f2 f3 f4 f5 f6 f7 f8 f9 f10 f11 f12 f13 (nI n1) r1 g0 g1 g2 g3 g4 g5 g6 g7 g8 g9 g10 g11 g12 g13 bp bn) ++ [(o, .inl (cJ, 1, .inr (.inl (vp_updL u 0 (Int32.toInt64 (nI (inP bp bn f9 p b)))))))]) rfl ?_
  refine zv_goto C dL_insultsAt_9 15 (by decide) ?_
  refine zv_iconst (v := 0) C dL_insultsAt_15 16 rfl (by decide) ?_
  exact zv_iret C hr hlk hQ dL_insultsAt_16 ⟨(vp_updL u 0 (Int32.toInt64 (nI (inP bp bn f9 p b)))), rfl, rfl, rfl⟩
abbrev rmL_nameIn : Room := { frames := 5, cells := 0, slots := 0, locals := 115 }
set_option maxHeartbeats 4000000 in
set_option maxRecDepth 100000 in
theorem k_L_nameIn_ok (l : Launch) (D : va_G) (cI cZ cJ : ClassId) (q h k : Nat → Nat) (b : Nat) (y : Int32) (n : Nat) (r : Int32) (f0 f1 f2 f3 f4 f5 f6 f7 f8 f9 f10 f11 f12 f13 : Nat → Int32) (n1 : Nat) (r1 : Int32) (g0 g1 g2 g3 g4 g5 g6 g7 g8 g9 g10 g11 g12 g13 : Nat → Int32) (bp bn : Nat → Int32) (o : Nat) (u : Nat → Int64) (p z : Nat) (hz1 : 1 ≤ z) (hz5 : z ≤ 50) (d : Nat → Nat) (hn : n ≤ 16) (hD : Dep n f0 f1 d) (hW : Wat n f2 f4) (hS : Stl n f0 f3 f4 f6 r f7 f8 f9 f10 f11 f12 f13) (hz2 : ∀ i, zo (f2 i)) (hz6 : ∀ i, zo (f6 i)) (hSw : Swl n f2 f5) (hp : p < n) : zv_M l yL_nameIn wsL_nameIn rmL_nameIn D vwCl (tyJ cI cZ cJ) [.ref (q 0), .int (nI p), .int (nI z), .ref o] ((cR cI cZ q h k (nI b) y (nI n) r f0 f1 f2 f3 f4 f5 f6 f7 f8 f9 f10 f11 f12 f13 (nI n1) r1 g0 g1 g2 g3 g4 g5 g6 g7 g8 g9 g10 g11 g12 g13 bp bn) ++ [(o, .inl (cJ, 1, .inr (.inl u)))]) (fun v w => ∃ (tn : Nat) (tr : Int32) (tg_ : Nat → Nat → Int32) (uo : Nat → Int64), v = some (.int 0) ∧ w = ((cR cI cZ q h k (nI b) y (nI n) r f0 f1 f2 f3 f4 f5 f6 f7 f8 f9 f10 f11 f12 f13 (nI tn) tr (tg_ 0) (tg_ 1) (tg_ 2) (tg_ 3) (tg_ 4) (tg_ 5) (tg_ 6) (tg_ 7) (tg_ 8) (tg_ 9) (tg_ 10) (tg_ 11) (tg_ 12) (tg_ 13) bp bn) ++ [(o, .inl (cJ, 1, .inr (.inl uo)))]) ∧ (uo 0 = Int32.toInt64 ((nmS n f0 f2 f3 (swN f2 f4 f5 z) f6 r) p))) := by
  refine zw_M.of cL_nameIn 5 (some .int) [(0, 10, 13, 19), (0, 10, 17, 21)] (by decide) rfl (Nat.le_of_ble_eq_true rfl) ?_
  intro pP eE sS mM aA bB mT cD A C hr hlk Q hQ
  refine zv_go (pc' := 0) rfl (lv' := [(0, .ref (q 0)), (1, .int (nI p)), (2, .int (nI z)), (3, .ref o)]) rfl rfl rfl rfl ?_
  refine zv_aload_n C dL_nameIn_0 1 rfl 3 rfl ?_
  refine zv_iconst (v := 0) C dL_nameIn_1 2 rfl (by decide) ?_
  refine zv_aload_n C dL_nameIn_2 3 rfl 0 rfl ?_
  refine zv_iload_n C dL_nameIn_3 4 rfl 1 rfl ?_
  refine zv_iload_n C dL_nameIn_4 5 rfl 2 rfl ?_
  refine zv_callV (rest := [.int 0, .ref o]) (wr := [(o, .inl (cJ, 1, .inr (.inl u)))]) C (k_X1_nameIn l D cI cZ q h k b y n r f0 f1 f2 f3 f4 f5 f6 f7 f8 f9 f10 f11 f12 f13 n1 r1 g0 g1 g2 g3 g4 g5 g6 g7 g8 g9 g10 g11 g12 g13 bp bn p z hz1 hz5 d hn hD hW hS hz2 hz6 hSw hp) (cwV 2 C.1.2.2.2.2 gL_nameIn_X1_nameIn rfl rfl rfl (by decide +kernel) ⟨Nat.le_of_ble_eq_true rfl, Nat.le_of_ble_eq_true rfl⟩) dL_nameIn_5 8 rfl (ci := 1) 0 rfl rfl rfl rfl (Nat.le_of_ble_eq_true rfl) ⟨Nat.le_of_ble_eq_true rfl, Nat.le_of_ble_eq_true rfl⟩ [0, 1] rfl [0, 1, 2, 3, 4, 5, 6, 7, 8, 9, 10, 11, 12, 13, 14, 15, 16, 17, 18, 19, 20, 21, 22, 23, 24, 25, 26, 27, 28, 29, 30, 31, 32] rfl (by decide) [33] rfl (by decide) (by decide +kernel) (fun v w hv => ?_)
  obtain ⟨wtn, wtr, wtg, rfl, rfl⟩ := hv
  refine zv_go rfl rfl (st' := [.int ((nmS n f0 f2 f3 (swN f2 f4 f5 z) f6 r) p), .int 0, .ref o]) rfl (kc' := 0) rfl (ns' := 0) rfl ?_
  refine zv_perm [1, 2, 3, 4, 5, 6, 7, 8, 9, 10, 11, 12, 13, 14, 15, 16, 17, 18, 19, 20, 21, 22, 23, 24, 25, 26, 27, 28, 29, 30, 31, 32, 33, 0] (ws' := ((cR cI cZ q h k (nI b) y (nI n) r f0 f1 f2 f3 f4 f5 f6 f7 f8 f9 f10 f11 f12 f13 (nI wtn) wtr (wtg 0) (wtg 1) (wtg 2) (wtg 3) (wtg 4) (wtg 5) (wtg 6) (wtg 7) (wtg 8) (wtg 9) (wtg 10) (wtg 11) (wtg 12) (wtg 13) bp bn) ++ [(o, .inl (cJ, 1, .inr (.inl u)))])) (by decide) rfl ?_
  refine zv_i2l C dL_nameIn_8 9 rfl ?_
  refine zv_last C dL_nameIn_9 10 rfl 33 2 0 rfl rfl (by decide) (by decide) (by decide) ((cR cI cZ q h k (nI b) y (nI n) r f0 f1 f2 f3 f4 f5 f6 f7 f8 f9 f10 f11 f12 f13 (nI wtn) wtr (wtg 0) (wtg 1) (wtg 2) (wtg 3) (wtg 4) (wtg 5) (wtg 6) (wtg 7) (wtg 8) (wtg 9) (wtg 10) (wtg 11) (wtg 12) (wtg 13) bp bn) ++ [(o, .inl (cJ, 1, .inr (.inl (vp_updL u 0 (Int32.toInt64 ((nmS n f0 f2 f3 (swN f2 f4 f5 z) f6 r) p))))))]) rfl ?_
  refine zv_goto C dL_nameIn_10 21 (by decide) ?_
  refine zv_iconst (v := 0) C dL_nameIn_21 22 rfl (by decide) ?_
  exact zv_iret C hr hlk hQ dL_nameIn_22 ⟨wtn, wtr, wtg, (vp_updL u 0 (Int32.toInt64 ((nmS n f0 f2 f3 (swN f2 f4 f5 z) f6 r) p))), rfl, rfl, rfl⟩
abbrev rmL_yearsUntilRenamed : Room := { frames := 5, cells := 0, slots := 0, locals := 115 }
set_option maxHeartbeats 4000000 in
set_option maxRecDepth 100000 in
theorem k_L_yearsUntilRenamed_ok (l : Launch) (D : va_G) (cI cZ cJ : ClassId) (q h k : Nat → Nat) (b : Nat) (y : Int32) (n : Nat) (r : Int32) (f0 f1 f2 f3 f4 f5 f6 f7 f8 f9 f10 f11 f12 f13 : Nat → Int32) (n1 : Nat) (r1 : Int32) (g0 g1 g2 g3 g4 g5 g6 g7 g8 g9 g10 g11 g12 g13 : Nat → Int32) (bp bn : Nat → Int32) (o : Nat) (u : Nat → Int64) (p : Nat) (d : Nat → Nat) (hn : n ≤ 16) (hD : Dep n f0 f1 d) (hW : Wat n f2 f4) (hS : Stl n f0 f3 f4 f6 r f7 f8 f9 f10 f11 f12 f13) (hz2 : ∀ i, zo (f2 i)) (hz6 : ∀ i, zo (f6 i)) (hSw : Swl n f2 f5) (hp : p < n) : zv_M l yL_yearsUntilRenamed wsL_yearsUntilRenamed rmL_yearsUntilRenamed D vwCl (tyJ cI cZ cJ) [.ref (q 0), .int (nI p), .ref o] ((cR cI cZ q h k (nI b) y (nI n) r f0 f1 f2 f3 f4 f5 f6 f7 f8 f9 f10 f11 f12 f13 (nI n1) r1 g0 g1 g2 g3 g4 g5 g6 g7 g8 g9 g10 g11 g12 g13 bp bn) ++ [(o, .inl (cJ, 1, .inr (.inl u)))]) (fun v w => ∃ (tn : Nat) (tr : Int32) (tg_ : Nat → Nat → Int32) (uo : Nat → Int64), v = some (.int 0) ∧ w = ((cR cI cZ q h k (nI b) y (nI n) r f0 f1 f2 f3 f4 f5 f6 f7 f8 f9 f10 f11 f12 f13 (nI tn) tr (tg_ 0) (tg_ 1) (tg_ 2) (tg_ 3) (tg_ 4) (tg_ 5) (tg_ 6) (tg_ 7) (tg_ 8) (tg_ 9) (tg_ 10) (tg_ 11) (tg_ 12) (tg_ 13) bp bn) ++ [(o, .inl (cJ, 1, .inr (.inl uo)))]) ∧ (uo 0 = Int32.toInt64 (utl (anY n f0 f2 f3 f4 f5 f6 r p) 50))) := by
  refine zw_M.of cL_yearsUntilRenamed 4 (some .int) [(0, 9, 12, 19)] (by decide) rfl (Nat.le_of_ble_eq_true rfl) ?_
  intro pP eE sS mM aA bB mT cD A C hr hlk Q hQ
  refine zv_go (pc' := 0) rfl (lv' := [(0, .ref (q 0)), (1, .int (nI p)), (2, .ref o)]) rfl rfl rfl rfl ?_
  refine zv_aload_n C dL_yearsUntilRenamed_0 1 rfl 2 rfl ?_
  refine zv_iconst (v := 0) C dL_yearsUntilRenamed_1 2 rfl (by decide) ?_
  refine zv_aload_n C dL_yearsUntilRenamed_2 3 rfl 0 rfl ?_
  refine zv_iload_n C dL_yearsUntilRenamed_3 4 rfl 1 rfl ?_
  refine zv_callV (rest := [.int 0, .ref o]) (wr := [(o, .inl (cJ, 1, .inr (.inl u)))]) C (k_X1_yearsUntilRenamed l D cI cZ q h k b y n r f0 f1 f2 f3 f4 f5 f6 f7 f8 f9 f10 f11 f12 f13 n1 r1 g0 g1 g2 g3 g4 g5 g6 g7 g8 g9 g10 g11 g12 g13 bp bn p d hn hD hW hS hz2 hz6 hSw hp) (cwV 1 C.1.2.2.2.2 gL_yearsUntilRenamed_X1_yearsUntilRenamed rfl rfl rfl (by decide +kernel) ⟨Nat.le_of_ble_eq_true rfl, Nat.le_of_ble_eq_true rfl⟩) dL_yearsUntilRenamed_4 7 rfl (ci := 1) 0 rfl rfl rfl rfl (Nat.le_of_ble_eq_true rfl) ⟨Nat.le_of_ble_eq_true rfl, Nat.le_of_ble_eq_true rfl⟩ [0, 1] rfl [0, 1, 2, 3, 4, 5, 6, 7, 8, 9, 10, 11, 12, 13, 14, 15, 16, 17, 18, 19, 20, 21, 22, 23, 24, 25, 26, 27, 28, 29, 30, 31, 32] rfl (by decide) [33] rfl (by decide) (by decide +kernel) (fun v w hv => ?_)
  obtain ⟨wtn, wtr, wtg, rfl, rfl⟩ := hv
  refine zv_go rfl rfl (st' := [.int (utl (anY n f0 f2 f3 f4 f5 f6 r p) 50), .int 0, .ref o]) rfl (kc' := 0) rfl (ns' := 0) rfl ?_
  refine zv_perm [1, 2, 3, 4, 5, 6, 7, 8, 9, 10, 11, 12, 13, 14, 15, 16, 17, 18, 19, 20, 21, 22, 23, 24, 25, 26, 27, 28, 29, 30, 31, 32, 33, 0] (ws' := ((cR cI cZ q h k (nI b) y (nI n) r f0 f1 f2 f3 f4 f5 f6 f7 f8 f9 f10 f11 f12 f13 (nI wtn) wtr (wtg 0) (wtg 1) (wtg 2) (wtg 3) (wtg 4) (wtg 5) (wtg 6) (wtg 7) (wtg 8) (wtg 9) (wtg 10) (wtg 11) (wtg 12) (wtg 13) bp bn) ++ [(o, .inl (cJ, 1, .inr (.inl u)))])) (by decide) rfl ?_
  refine zv_i2l C dL_yearsUntilRenamed_7 8 rfl ?_
  refine zv_last C dL_yearsUntilRenamed_8 9 rfl 33 2 0 rfl rfl (by decide) (by decide) (by decide) ((cR cI cZ q h k (nI b) y (nI n) r f0 f1 f2 f3 f4 f5 f6 f7 f8 f9 f10 f11 f12 f13 (nI wtn) wtr (wtg 0) (wtg 1) (wtg 2) (wtg 3) (wtg 4) (wtg 5) (wtg 6) (wtg 7) (wtg 8) (wtg 9) (wtg 10) (wtg 11) (wtg 12) (wtg 13) bp bn) ++ [(o, .inl (cJ, 1, .inr (.inl (vp_updL u 0 (Int32.toInt64 (utl (anY n f0 f2 f3 f4 f5 f6 r p) 50))))))]) rfl ?_
  refine zv_goto C dL_yearsUntilRenamed_9 15 (by decide) ?_
  refine zv_iconst (v := 0) C dL_yearsUntilRenamed_15 16 rfl (by decide) ?_
  exact zv_iret C hr hlk hQ dL_yearsUntilRenamed_16 ⟨wtn, wtr, wtg, (vp_updL u 0 (Int32.toInt64 (utl (anY n f0 f2 f3 f4 f5 f6 r p) 50))), rfl, rfl, rfl⟩
abbrev rmL_renamedByDelta : Room := { frames := 5, cells := 0, slots := 0, locals := 112 }
set_option maxHeartbeats 4000000 in
set_option maxRecDepth 100000 in
theorem k_L_renamedByDelta_ok (l : Launch) (D : va_G) (cI cZ cJ : ClassId) (q h k : Nat → Nat) (b : Nat) (y : Int32) (n : Nat) (r : Int32) (f0 f1 f2 f3 f4 f5 f6 f7 f8 f9 f10 f11 f12 f13 : Nat → Int32) (n1 : Nat) (r1 : Int32) (g0 g1 g2 g3 g4 g5 g6 g7 g8 g9 g10 g11 g12 g13 : Nat → Int32) (bp bn : Nat → Int32) (o : Nat) (u : Nat → Int64) (p : Nat) (d : Nat → Nat) (hn : n ≤ 16) (hD : Dep n f0 f1 d) (hW : Wat n f2 f4) (hS : Stl n f0 f3 f4 f6 r f7 f8 f9 f10 f11 f12 f13) (hz2 : ∀ i, zo (f2 i)) (hz6 : ∀ i, zo (f6 i)) (hp : p < n) : zv_M l yL_renamedByDelta wsL_renamedByDelta rmL_renamedByDelta D vwCl (tyJ cI cZ cJ) [.ref (q 0), .int (nI p), .ref o] ((cR cI cZ q h k (nI b) y (nI n) r f0 f1 f2 f3 f4 f5 f6 f7 f8 f9 f10 f11 f12 f13 (nI n1) r1 g0 g1 g2 g3 g4 g5 g6 g7 g8 g9 g10 g11 g12 g13 bp bn) ++ [(o, .inl (cJ, 1, .inr (.inl u)))]) (fun v w => ∃ (tn : Nat) (tr : Int32) (tg_ : Nat → Nat → Int32) (uo : Nat → Int64), v = some (.int 0) ∧ w = ((cR cI cZ q h k (nI b) y (nI n) r f0 f1 f2 f3 f4 f5 f6 f7 f8 f9 f10 f11 f12 f13 (nI tn) tr (tg_ 0) (tg_ 1) (tg_ 2) (tg_ 3) (tg_ 4) (tg_ 5) (tg_ 6) (tg_ 7) (tg_ 8) (tg_ 9) (tg_ 10) (tg_ 11) (tg_ 12) (tg_ 13) bp bn) ++ [(o, .inl (cJ, 1, .inr (.inl uo)))]) ∧ (uo 0 = Int32.toInt64 (nI (cne (nmS n f0 f2 f3 f4 (upd f6 p (tg (f6 p))) r) (nmS n f0 f2 f3 f4 f6 r) n)))) := by
  refine zw_M.of cL_renamedByDelta 4 (some .int) [(0, 9, 12, 19)] (by decide) rfl (Nat.le_of_ble_eq_true rfl) ?_
  intro pP eE sS mM aA bB mT cD A C hr hlk Q hQ
  refine zv_go (pc' := 0) rfl (lv' := [(0, .ref (q 0)), (1, .int (nI p)), (2, .ref o)]) rfl rfl rfl rfl ?_
  refine zv_aload_n C dL_renamedByDelta_0 1 rfl 2 rfl ?_
  refine zv_iconst (v := 0) C dL_renamedByDelta_1 2 rfl (by decide) ?_
  refine zv_aload_n C dL_renamedByDelta_2 3 rfl 0 rfl ?_
  refine zv_iload_n C dL_renamedByDelta_3 4 rfl 1 rfl ?_
  refine zv_callV (rest := [.int 0, .ref o]) (wr := [(o, .inl (cJ, 1, .inr (.inl u)))]) C (k_X1_renamedByDelta l D cI cZ q h k b y n r f0 f1 f2 f3 f4 f5 f6 f7 f8 f9 f10 f11 f12 f13 n1 r1 g0 g1 g2 g3 g4 g5 g6 g7 g8 g9 g10 g11 g12 g13 bp bn p d hn hD hW hS hz2 hz6 hp) (cwV 1 C.1.2.2.2.2 gL_renamedByDelta_X1_renamedByDelta rfl rfl rfl (by decide +kernel) ⟨Nat.le_of_ble_eq_true rfl, Nat.le_of_ble_eq_true rfl⟩) dL_renamedByDelta_4 7 rfl (ci := 1) 0 rfl rfl rfl rfl (Nat.le_of_ble_eq_true rfl) ⟨Nat.le_of_ble_eq_true rfl, Nat.le_of_ble_eq_true rfl⟩ [0, 1] rfl [0, 1, 2, 3, 4, 5, 6, 7, 8, 9, 10, 11, 12, 13, 14, 15, 16, 17, 18, 19, 20, 21, 22, 23, 24, 25, 26, 27, 28, 29, 30, 31, 32] rfl (by decide) [33] rfl (by decide) (by decide +kernel) (fun v w hv => ?_)
  obtain ⟨wtn, wtr, wtg, rfl, rfl⟩ := hv
  refine zv_go rfl rfl (st' := [.int (nI (cne (nmS n f0 f2 f3 f4 (upd f6 p (tg (f6 p))) r) (nmS n f0 f2 f3 f4 f6 r) n)), .int 0, .ref o]) rfl (kc' := 0) rfl (ns' := 0) rfl ?_
  refine zv_perm [1, 2, 3, 4, 5, 6, 7, 8, 9, 10, 11, 12, 13, 14, 15, 16, 17, 18, 19, 20, 21, 22, 23, 24, 25, 26, 27, 28, 29, 30, 31, 32, 33, 0] (ws' := ((cR cI cZ q h k (nI b) y (nI n) r f0 f1 f2 f3 f4 f5 f6 f7 f8 f9 f10 f11 f12 f13 (nI wtn) wtr (wtg 0) (wtg 1) (wtg 2) (wtg 3) (wtg 4) (wtg 5) (wtg 6) (wtg 7) (wtg 8) (wtg 9) (wtg 10) (wtg 11) (wtg 12) (wtg 13) bp bn) ++ [(o, .inl (cJ, 1, .inr (.inl u)))])) (by decide) rfl ?_
  refine zv_i2l C dL_renamedByDelta_7 8 rfl ?_
  refine zv_last C dL_renamedByDelta_8 9 rfl 33 2 0 rfl rfl (by decide) (by decide) (by decide) ((cR cI cZ q h k (nI b) y (nI n) r f0 f1 f2 f3 f4 f5 f6 f7 f8 f9 f10 f11 f12 f13 (nI wtn) wtr (wtg 0) (wtg 1) (wtg 2) (wtg 3) (wtg 4) (wtg 5) (wtg 6) (wtg 7) (wtg 8) (wtg 9) (wtg 10) (wtg 11) (wtg 12) (wtg 13) bp bn) ++ [(o, .inl (cJ, 1, .inr (.inl (vp_updL u 0 (Int32.toInt64 (nI (cne (nmS n f0 f2 f3 f4 (upd f6 p (tg (f6 p))) r) (nmS n f0 f2 f3 f4 f6 r) n)))))))]) rfl ?_
  refine zv_goto C dL_renamedByDelta_9 15 (by decide) ?_
  refine zv_iconst (v := 0) C dL_renamedByDelta_15 16 rfl (by decide) ?_
  exact zv_iret C hr hlk hQ dL_renamedByDelta_16 ⟨wtn, wtr, wtg, (vp_updL u 0 (Int32.toInt64 (nI (cne (nmS n f0 f2 f3 f4 (upd f6 p (tg (f6 p))) r) (nmS n f0 f2 f3 f4 f6 r) n)))), rfl, rfl, rfl⟩
