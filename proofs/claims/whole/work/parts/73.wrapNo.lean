abbrev rkL_addPlace : Room := { frames := 8, cells := 1, slots := 6, locals := 130 }
set_option maxHeartbeats 4000000 in
set_option maxRecDepth 100000 in
theorem k_L_addPlace_t (l : Launch) (D : va_G) (cI cZ cJ : ClassId) (q h k : Nat → Nat) (b : Nat) (y : Int32) (n : Nat) (r : Int32) (f0 f1 f2 f3 f4 f5 f6 f7 f8 f9 f10 f11 f12 f13 : Nat → Int32) (n1 : Nat) (r1 : Int32) (g0 g1 g2 g3 g4 g5 g6 g7 g8 g9 g10 g11 g12 g13 : Nat → Int32) (bp bn : Nat → Int32) (o : Nat) (u : Nat → Int64) (hn : n = 16) (hl : l.stackTraces = false) : zv_RE l yL_addPlace wsL_addPlace rkL_addPlace D vwCl (tyJ cI cZ cJ) [.ref (q 0), .ref o] ((cR cI cZ q h k (nI b) y (nI n) r f0 f1 f2 f3 f4 f5 f6 f7 f8 f9 f10 f11 f12 f13 (nI n1) r1 g0 g1 g2 g3 g4 g5 g6 g7 g8 g9 g10 g11 g12 g13 bp bn) ++ [(o, .inl (cJ, 1, .inr (.inl u)))]) (fun v => v = some (.int 1)) := by
  refine zw_RE.of cL_addPlace 3 (some .int) [(0, 8, 11, 13)] (by decide) rfl (Nat.le_of_ble_eq_true rfl) ?_
  intro pP eE sS mM aA bB mT cD A C htab hr hlk hA hE Q hQ
  refine zv_go (pc' := 0) rfl (lv' := [(0, .ref (q 0)), (1, .ref o)]) rfl rfl rfl rfl ?_
  refine zv_aload_n C dL_addPlace_0 1 rfl 1 rfl ?_
  refine zv_iconst (v := 0) C dL_addPlace_1 2 rfl (by decide) ?_
  refine zv_aload_n C dL_addPlace_2 3 rfl 0 rfl ?_
  refine zv_tV (rest := [.int 0, .ref o]) C hA hE (k_X1_addPlace_t l D cI cZ q h k b y n r f0 f1 f2 f3 f4 f5 f6 f7 f8 f9 f10 f11 f12 f13 n1 r1 g0 g1 g2 g3 g4 g5 g6 g7 g8 g9 g10 g11 g12 g13 bp bn hn hl) (cwV 0 C.1.2.2.2.2 gL_addPlace_X1_addPlace rfl rfl rfl (by decide +kernel) ⟨Nat.le_of_ble_eq_true rfl, Nat.le_of_ble_eq_true rfl⟩) dL_addPlace_3 (ci := 1) 0 rfl rfl rfl rfl (Nat.le_of_ble_eq_true rfl) ⟨Nat.le_of_ble_eq_true rfl, Nat.le_of_ble_eq_true rfl⟩ [0, 1] rfl [0, 1, 2, 3, 4, 5, 6, 7, 8, 9, 10, 11, 12, 13, 14, 15, 16, 17, 18, 19, 20, 21, 22, 23, 24, 25, 26, 27, 28, 29, 30, 31, 32] rfl (by decide) (zx_catch C hE (by decide) [] ⟨0, 8, 11, 13⟩ [] (htab.trans rfl) (fun _ h => absurd h List.not_mem_nil) (by decide) (by decide) (by decide +kernel) 11 rfl (fun qx => ?_))
  refine zv_astore_n C dL_addPlace_11 12 rfl [(2, .ref qx), (0, .ref (q 0)), (1, .ref o)] (by decide) rfl ?_
  refine zv_iconst (v := 1) C dL_addPlace_12 13 rfl (by decide) ?_
  exact zv_iretR C hr hlk hA hQ dL_addPlace_13 rfl
abbrev rkL_addSpring : Room := { frames := 8, cells := 1, slots := 6, locals := 133 }
set_option maxHeartbeats 4000000 in
set_option maxRecDepth 100000 in
theorem k_L_addSpring_t1 (l : Launch) (D : va_G) (cI cZ cJ : ClassId) (q h k : Nat → Nat) (b : Nat) (y : Int32) (n : Nat) (r : Int32) (f0 f1 f2 f3 f4 f5 f6 f7 f8 f9 f10 f11 f12 f13 : Nat → Int32) (n1 : Nat) (r1 : Int32) (g0 g1 g2 g3 g4 g5 g6 g7 g8 g9 g10 g11 g12 g13 : Nat → Int32) (bp bn : Nat → Int32) (o : Nat) (u : Nat → Int64) (nm wa sw : Int32) (h1 : isI nm 0 9 = false) (hl : l.stackTraces = false) : zv_RE l yL_addSpring wsL_addSpring rkL_addSpring D vwCl (tyJ cI cZ cJ) [.ref (q 0), .int nm, .int wa, .int sw, .ref o] ((cR cI cZ q h k (nI b) y (nI n) r f0 f1 f2 f3 f4 f5 f6 f7 f8 f9 f10 f11 f12 f13 (nI n1) r1 g0 g1 g2 g3 g4 g5 g6 g7 g8 g9 g10 g11 g12 g13 bp bn) ++ [(o, .inl (cJ, 1, .inr (.inl u)))]) (fun v => v = some (.int 1)) := by
  refine zw_RE.of cL_addSpring 6 (some .int) [(0, 12, 15, 19), (0, 12, 19, 21), (0, 12, 23, 13)] (by decide) rfl (Nat.le_of_ble_eq_true rfl) ?_
  intro pP eE sS mM aA bB mT cD A C htab hr hlk hA hE Q hQ
  refine zv_go (pc' := 0) rfl (lv' := [(0, .ref (q 0)), (1, .int nm), (2, .int wa), (3, .int sw), (4, .ref o)]) rfl rfl rfl rfl ?_
  refine zv_aload C dL_addSpring_0 2 rfl 4 rfl ?_
  refine zv_iconst (v := 0) C dL_addSpring_2 3 rfl (by decide) ?_
  refine zv_aload_n C dL_addSpring_3 4 rfl 0 rfl ?_
  refine zv_iload_n C dL_addSpring_4 5 rfl 1 rfl ?_
  refine zv_iload_n C dL_addSpring_5 6 rfl 2 rfl ?_
  refine zv_iload_n C dL_addSpring_6 7 rfl 3 rfl ?_
  refine zv_tV (rest := [.int 0, .ref o]) C hA hE (k_X1_addSpring_t1 l D cI cZ q h k b y n r f0 f1 f2 f3 f4 f5 f6 f7 f8 f9 f10 f11 f12 f13 n1 r1 g0 g1 g2 g3 g4 g5 g6 g7 g8 g9 g10 g11 g12 g13 bp bn nm wa sw h1 hl) (cwV 3 C.1.2.2.2.2 gL_addSpring_X1_addSpring rfl rfl rfl (by decide +kernel) ⟨Nat.le_of_ble_eq_true rfl, Nat.le_of_ble_eq_true rfl⟩) dL_addSpring_7 (ci := 1) 0 rfl rfl rfl rfl (Nat.le_of_ble_eq_true rfl) ⟨Nat.le_of_ble_eq_true rfl, Nat.le_of_ble_eq_true rfl⟩ [0, 1] rfl [0, 1, 2, 3, 4, 5, 6, 7, 8, 9, 10, 11, 12, 13, 14, 15, 16, 17, 18, 19, 20, 21, 22, 23, 24, 25, 26, 27, 28, 29, 30, 31, 32] rfl (by decide) (zx_catch C hE (by decide) [] ⟨0, 12, 15, 19⟩ [⟨0, 12, 19, 21⟩, ⟨0, 12, 23, 13⟩] (htab.trans rfl) (fun _ h => absurd h List.not_mem_nil) (by decide) (by decide) (by decide +kernel) 15 rfl (fun qx => ?_))
  refine zv_astore C dL_addSpring_15 17 rfl [(5, .ref qx), (0, .ref (q 0)), (1, .int nm), (2, .int wa), (3, .int sw), (4, .ref o)] (by decide) rfl ?_
  refine zv_iconst (v := 1) C dL_addSpring_17 18 rfl (by decide) ?_
  exact zv_iretR C hr hlk hA hQ dL_addSpring_18 rfl
set_option maxHeartbeats 4000000 in
set_option maxRecDepth 100000 in
theorem k_L_addSpring_t2 (l : Launch) (D : va_G) (cI cZ cJ : ClassId) (q h k : Nat → Nat) (b : Nat) (y : Int32) (n : Nat) (r : Int32) (f0 f1 f2 f3 f4 f5 f6 f7 f8 f9 f10 f11 f12 f13 : Nat → Int32) (n1 : Nat) (r1 : Int32) (g0 g1 g2 g3 g4 g5 g6 g7 g8 g9 g10 g11 g12 g13 : Nat → Int32) (bp bn : Nat → Int32) (o : Nat) (u : Nat → Int64) (nm wa sw : Int32) (h1 : isI nm 0 9 = true) (h2 : isI wa 0 99 = false) (hl : l.stackTraces = false) : zv_RE l yL_addSpring wsL_addSpring rkL_addSpring D vwCl (tyJ cI cZ cJ) [.ref (q 0), .int nm, .int wa, .int sw, .ref o] ((cR cI cZ q h k (nI b) y (nI n) r f0 f1 f2 f3 f4 f5 f6 f7 f8 f9 f10 f11 f12 f13 (nI n1) r1 g0 g1 g2 g3 g4 g5 g6 g7 g8 g9 g10 g11 g12 g13 bp bn) ++ [(o, .inl (cJ, 1, .inr (.inl u)))]) (fun v => v = some (.int 2)) := by
  refine zw_RE.of cL_addSpring 6 (some .int) [(0, 12, 15, 19), (0, 12, 19, 21), (0, 12, 23, 13)] (by decide) rfl (Nat.le_of_ble_eq_true rfl) ?_
  intro pP eE sS mM aA bB mT cD A C htab hr hlk hA hE Q hQ
  refine zv_go (pc' := 0) rfl (lv' := [(0, .ref (q 0)), (1, .int nm), (2, .int wa), (3, .int sw), (4, .ref o)]) rfl rfl rfl rfl ?_
  refine zv_aload C dL_addSpring_0 2 rfl 4 rfl ?_
  refine zv_iconst (v := 0) C dL_addSpring_2 3 rfl (by decide) ?_
  refine zv_aload_n C dL_addSpring_3 4 rfl 0 rfl ?_
  refine zv_iload_n C dL_addSpring_4 5 rfl 1 rfl ?_
  refine zv_iload_n C dL_addSpring_5 6 rfl 2 rfl ?_
  refine zv_iload_n C dL_addSpring_6 7 rfl 3 rfl ?_
  refine zv_tV (rest := [.int 0, .ref o]) C hA hE (k_X1_addSpring_t2 l D cI cZ q h k b y n r f0 f1 f2 f3 f4 f5 f6 f7 f8 f9 f10 f11 f12 f13 n1 r1 g0 g1 g2 g3 g4 g5 g6 g7 g8 g9 g10 g11 g12 g13 bp bn nm wa sw h1 h2 hl) (cwV 3 C.1.2.2.2.2 gL_addSpring_X1_addSpring rfl rfl rfl (by decide +kernel) ⟨Nat.le_of_ble_eq_true rfl, Nat.le_of_ble_eq_true rfl⟩) dL_addSpring_7 (ci := 1) 0 rfl rfl rfl rfl (Nat.le_of_ble_eq_true rfl) ⟨Nat.le_of_ble_eq_true rfl, Nat.le_of_ble_eq_true rfl⟩ [0, 1] rfl [0, 1, 2, 3, 4, 5, 6, 7, 8, 9, 10, 11, 12, 13, 14, 15, 16, 17, 18, 19, 20, 21, 22, 23, 24, 25, 26, 27, 28, 29, 30, 31, 32] rfl (by decide) (zx_catch C hE (by decide) [⟨0, 12, 15, 19⟩] ⟨0, 12, 19, 21⟩ [⟨0, 12, 23, 13⟩] (htab.trans rfl) (List.forall_mem_cons.mpr ⟨Or.inr ⟨by decide, "java/lang/IndexOutOfBoundsException", by decide +kernel, by decide⟩, (fun _ h => absurd h List.not_mem_nil)⟩) (by decide) (by decide) (by decide +kernel) 19 rfl (fun qx => ?_))
  refine zv_astore C dL_addSpring_19 21 rfl [(5, .ref qx), (0, .ref (q 0)), (1, .int nm), (2, .int wa), (3, .int sw), (4, .ref o)] (by decide) rfl ?_
  refine zv_iconst (v := 2) C dL_addSpring_21 22 rfl (by decide) ?_
  exact zv_iretR C hr hlk hA hQ dL_addSpring_22 rfl
set_option maxHeartbeats 4000000 in
set_option maxRecDepth 100000 in
theorem k_L_addSpring_t3 (l : Launch) (D : va_G) (cI cZ cJ : ClassId) (q h k : Nat → Nat) (b : Nat) (y : Int32) (n : Nat) (r : Int32) (f0 f1 f2 f3 f4 f5 f6 f7 f8 f9 f10 f11 f12 f13 : Nat → Int32) (n1 : Nat) (r1 : Int32) (g0 g1 g2 g3 g4 g5 g6 g7 g8 g9 g10 g11 g12 g13 : Nat → Int32) (bp bn : Nat → Int32) (o : Nat) (u : Nat → Int64) (nm wa sw : Int32) (h1 : isI nm 0 9 = true) (h2 : isI wa 0 99 = true) (h3 : isI sw (-9) 9 = false) (hl : l.stackTraces = false) : zv_RE l yL_addSpring wsL_addSpring rkL_addSpring D vwCl (tyJ cI cZ cJ) [.ref (q 0), .int nm, .int wa, .int sw, .ref o] ((cR cI cZ q h k (nI b) y (nI n) r f0 f1 f2 f3 f4 f5 f6 f7 f8 f9 f10 f11 f12 f13 (nI n1) r1 g0 g1 g2 g3 g4 g5 g6 g7 g8 g9 g10 g11 g12 g13 bp bn) ++ [(o, .inl (cJ, 1, .inr (.inl u)))]) (fun v => v = some (.int 2)) := by
  refine zw_RE.of cL_addSpring 6 (some .int) [(0, 12, 15, 19), (0, 12, 19, 21), (0, 12, 23, 13)] (by decide) rfl (Nat.le_of_ble_eq_true rfl) ?_
  intro pP eE sS mM aA bB mT cD A C htab hr hlk hA hE Q hQ
  refine zv_go (pc' := 0) rfl (lv' := [(0, .ref (q 0)), (1, .int nm), (2, .int wa), (3, .int sw), (4, .ref o)]) rfl rfl rfl rfl ?_
  refine zv_aload C dL_addSpring_0 2 rfl 4 rfl ?_
  refine zv_iconst (v := 0) C dL_addSpring_2 3 rfl (by decide) ?_
  refine zv_aload_n C dL_addSpring_3 4 rfl 0 rfl ?_
  refine zv_iload_n C dL_addSpring_4 5 rfl 1 rfl ?_
  refine zv_iload_n C dL_addSpring_5 6 rfl 2 rfl ?_
  refine zv_iload_n C dL_addSpring_6 7 rfl 3 rfl ?_
  refine zv_tV (rest := [.int 0, .ref o]) C hA hE (k_X1_addSpring_t3 l D cI cZ q h k b y n r f0 f1 f2 f3 f4 f5 f6 f7 f8 f9 f10 f11 f12 f13 n1 r1 g0 g1 g2 g3 g4 g5 g6 g7 g8 g9 g10 g11 g12 g13 bp bn nm wa sw h1 h2 h3 hl) (cwV 3 C.1.2.2.2.2 gL_addSpring_X1_addSpring rfl rfl rfl (by decide +kernel) ⟨Nat.le_of_ble_eq_true rfl, Nat.le_of_ble_eq_true rfl⟩) dL_addSpring_7 (ci := 1) 0 rfl rfl rfl rfl (Nat.le_of_ble_eq_true rfl) ⟨Nat.le_of_ble_eq_true rfl, Nat.le_of_ble_eq_true rfl⟩ [0, 1] rfl [0, 1, 2, 3, 4, 5, 6, 7, 8, 9, 10, 11, 12, 13, 14, 15, 16, 17, 18, 19, 20, 21, 22, 23, 24, 25, 26, 27, 28, 29, 30, 31, 32] rfl (by decide) (zx_catch C hE (by decide) [⟨0, 12, 15, 19⟩] ⟨0, 12, 19, 21⟩ [⟨0, 12, 23, 13⟩] (htab.trans rfl) (List.forall_mem_cons.mpr ⟨Or.inr ⟨by decide, "java/lang/IndexOutOfBoundsException", by decide +kernel, by decide⟩, (fun _ h => absurd h List.not_mem_nil)⟩) (by decide) (by decide) (by decide +kernel) 19 rfl (fun qx => ?_))
  refine zv_astore C dL_addSpring_19 21 rfl [(5, .ref qx), (0, .ref (q 0)), (1, .int nm), (2, .int wa), (3, .int sw), (4, .ref o)] (by decide) rfl ?_
  refine zv_iconst (v := 2) C dL_addSpring_21 22 rfl (by decide) ?_
  exact zv_iretR C hr hlk hA hQ dL_addSpring_22 rfl
set_option maxHeartbeats 4000000 in
set_option maxRecDepth 100000 in
theorem k_L_addSpring_t4 (l : Launch) (D : va_G) (cI cZ cJ : ClassId) (q h k : Nat → Nat) (b : Nat) (y : Int32) (n : Nat) (r : Int32) (f0 f1 f2 f3 f4 f5 f6 f7 f8 f9 f10 f11 f12 f13 : Nat → Int32) (n1 : Nat) (r1 : Int32) (g0 g1 g2 g3 g4 g5 g6 g7 g8 g9 g10 g11 g12 g13 : Nat → Int32) (bp bn : Nat → Int32) (o : Nat) (u : Nat → Int64) (nm wa sw : Int32) (h1 : isI nm 0 9 = true) (h2 : isI wa 0 99 = true) (h3 : isI sw (-9) 9 = true) (hn : n = 16) (hl : l.stackTraces = false) : zv_RE l yL_addSpring wsL_addSpring rkL_addSpring D vwCl (tyJ cI cZ cJ) [.ref (q 0), .int nm, .int wa, .int sw, .ref o] ((cR cI cZ q h k (nI b) y (nI n) r f0 f1 f2 f3 f4 f5 f6 f7 f8 f9 f10 f11 f12 f13 (nI n1) r1 g0 g1 g2 g3 g4 g5 g6 g7 g8 g9 g10 g11 g12 g13 bp bn) ++ [(o, .inl (cJ, 1, .inr (.inl u)))]) (fun v => v = some (.int 3)) := by
  refine zw_RE.of cL_addSpring 6 (some .int) [(0, 12, 15, 19), (0, 12, 19, 21), (0, 12, 23, 13)] (by decide) rfl (Nat.le_of_ble_eq_true rfl) ?_
  intro pP eE sS mM aA bB mT cD A C htab hr hlk hA hE Q hQ
  refine zv_go (pc' := 0) rfl (lv' := [(0, .ref (q 0)), (1, .int nm), (2, .int wa), (3, .int sw), (4, .ref o)]) rfl rfl rfl rfl ?_
  refine zv_aload C dL_addSpring_0 2 rfl 4 rfl ?_
  refine zv_iconst (v := 0) C dL_addSpring_2 3 rfl (by decide) ?_
  refine zv_aload_n C dL_addSpring_3 4 rfl 0 rfl ?_
  refine zv_iload_n C dL_addSpring_4 5 rfl 1 rfl ?_
  refine zv_iload_n C dL_addSpring_5 6 rfl 2 rfl ?_
  refine zv_iload_n C dL_addSpring_6 7 rfl 3 rfl ?_
  refine zv_tV (rest := [.int 0, .ref o]) C hA hE (k_X1_addSpring_t4 l D cI cZ q h k b y n r f0 f1 f2 f3 f4 f5 f6 f7 f8 f9 f10 f11 f12 f13 n1 r1 g0 g1 g2 g3 g4 g5 g6 g7 g8 g9 g10 g11 g12 g13 bp bn nm wa sw h1 h2 h3 hn hl) (cwV 3 C.1.2.2.2.2 gL_addSpring_X1_addSpring rfl rfl rfl (by decide +kernel) ⟨Nat.le_of_ble_eq_true rfl, Nat.le_of_ble_eq_true rfl⟩) dL_addSpring_7 (ci := 1) 0 rfl rfl rfl rfl (Nat.le_of_ble_eq_true rfl) ⟨Nat.le_of_ble_eq_true rfl, Nat.le_of_ble_eq_true rfl⟩ [0, 1] rfl [0, 1, 2, 3, 4, 5, 6, 7, 8, 9, 10, 11, 12, 13, 14, 15, 16, 17, 18, 19, 20, 21, 22, 23, 24, 25, 26, 27, 28, 29, 30, 31, 32] rfl (by decide) (zx_catch C hE (by decide) [⟨0, 12, 15, 19⟩, ⟨0, 12, 19, 21⟩] ⟨0, 12, 23, 13⟩ [] (htab.trans rfl) (List.forall_mem_cons.mpr ⟨Or.inr ⟨by decide, "java/lang/IndexOutOfBoundsException", by decide +kernel, by decide⟩, (List.forall_mem_cons.mpr ⟨Or.inr ⟨by decide, "java/lang/IllegalArgumentException", by decide +kernel, by decide⟩, (fun _ h => absurd h List.not_mem_nil)⟩)⟩) (by decide) (by decide) (by decide +kernel) 23 rfl (fun qx => ?_))
  refine zv_astore C dL_addSpring_23 25 rfl [(5, .ref qx), (0, .ref (q 0)), (1, .int nm), (2, .int wa), (3, .int sw), (4, .ref o)] (by decide) rfl ?_
  refine zv_iconst (v := 3) C dL_addSpring_25 26 rfl (by decide) ?_
  exact zv_iretR C hr hlk hA hQ dL_addSpring_26 rfl
abbrev rkL_lead : Room := { frames := 8, cells := 1, slots := 6, locals := 134 }
set_option maxHeartbeats 4000000 in
set_option maxRecDepth 100000 in
theorem k_L_lead_t1 (l : Launch) (D : va_G) (cI cZ cJ : ClassId) (q h k : Nat → Nat) (b : Nat) (y : Int32) (n : Nat) (r : Int32) (f0 f1 f2 f3 f4 f5 f6 f7 f8 f9 f10 f11 f12 f13 : Nat → Int32) (n1 : Nat) (r1 : Int32) (g0 g1 g2 g3 g4 g5 g6 g7 g8 g9 g10 g11 g12 g13 : Nat → Int32) (bp bn : Nat → Int32) (o : Nat) (u : Nat → Int64) (i j : Int32) (hn : n ≤ 16) (hf : isP n i = false) (hl : l.stackTraces = false) : zv_RE l yL_lead wsL_lead rkL_lead D vwCl (tyJ cI cZ cJ) [.ref (q 0), .int i, .int j, .ref o] ((cR cI cZ q h k (nI b) y (nI n) r f0 f1 f2 f3 f4 f5 f6 f7 f8 f9 f10 f11 f12 f13 (nI n1) r1 g0 g1 g2 g3 g4 g5 g6 g7 g8 g9 g10 g11 g12 g13 bp bn) ++ [(o, .inl (cJ, 1, .inr (.inl u)))]) (fun v => v = some (.int 1)) := by
  refine zw_RE.of cL_lead 5 (some .int) [(0, 10, 13, 19), (0, 10, 17, 13)] (by decide) rfl (Nat.le_of_ble_eq_true rfl) ?_
  intro pP eE sS mM aA bB mT cD A C htab hr hlk hA hE Q hQ
  refine zv_go (pc' := 0) rfl (lv' := [(0, .ref (q 0)), (1, .int i), (2, .int j), (3, .ref o)]) rfl rfl rfl rfl ?_
  refine zv_aload_n C dL_lead_0 1 rfl 3 rfl ?_
  refine zv_iconst (v := 0) C dL_lead_1 2 rfl (by decide) ?_
  refine zv_aload_n C dL_lead_2 3 rfl 0 rfl ?_
  refine zv_iload_n C dL_lead_3 4 rfl 1 rfl ?_
  refine zv_iload_n C dL_lead_4 5 rfl 2 rfl ?_
  refine zv_tV (rest := [.int 0, .ref o]) C hA hE (k_X1_lead_t1 l D cI cZ q h k b y n r f0 f1 f2 f3 f4 f5 f6 f7 f8 f9 f10 f11 f12 f13 n1 r1 g0 g1 g2 g3 g4 g5 g6 g7 g8 g9 g10 g11 g12 g13 bp bn i j hn hf hl) (cwV 2 C.1.2.2.2.2 gL_lead_X1_lead rfl rfl rfl (by decide +kernel) ⟨Nat.le_of_ble_eq_true rfl, Nat.le_of_ble_eq_true rfl⟩) dL_lead_5 (ci := 1) 0 rfl rfl rfl rfl (Nat.le_of_ble_eq_true rfl) ⟨Nat.le_of_ble_eq_true rfl, Nat.le_of_ble_eq_true rfl⟩ [0, 1] rfl [0, 1, 2, 3, 4, 5, 6, 7, 8, 9, 10, 11, 12, 13, 14, 15, 16, 17, 18, 19, 20, 21, 22, 23, 24, 25, 26, 27, 28, 29, 30, 31, 32] rfl (by decide) (zx_catch C hE (by decide) [] ⟨0, 10, 13, 19⟩ [⟨0, 10, 17, 13⟩] (htab.trans rfl) (fun _ h => absurd h List.not_mem_nil) (by decide) (by decide) (by decide +kernel) 13 rfl (fun qx => ?_))
  refine zv_astore C dL_lead_13 15 rfl [(4, .ref qx), (0, .ref (q 0)), (1, .int i), (2, .int j), (3, .ref o)] (by decide) rfl ?_
  refine zv_iconst (v := 1) C dL_lead_15 16 rfl (by decide) ?_
  exact zv_iretR C hr hlk hA hQ dL_lead_16 rfl
set_option maxHeartbeats 4000000 in
set_option maxRecDepth 100000 in
theorem k_L_lead_t2 (l : Launch) (D : va_G) (cI cZ cJ : ClassId) (q h k : Nat → Nat) (b : Nat) (y : Int32) (n : Nat) (r : Int32) (f0 f1 f2 f3 f4 f5 f6 f7 f8 f9 f10 f11 f12 f13 : Nat → Int32) (n1 : Nat) (r1 : Int32) (g0 g1 g2 g3 g4 g5 g6 g7 g8 g9 g10 g11 g12 g13 : Nat → Int32) (bp bn : Nat → Int32) (o : Nat) (u : Nat → Int64) (p : Nat) (i : Int32) (hn : n ≤ 16) (hp : p < n) (hf : isP n i = false) (hl : l.stackTraces = false) : zv_RE l yL_lead wsL_lead rkL_lead D vwCl (tyJ cI cZ cJ) [.ref (q 0), .int (nI p), .int i, .ref o] ((cR cI cZ q h k (nI b) y (nI n) r f0 f1 f2 f3 f4 f5 f6 f7 f8 f9 f10 f11 f12 f13 (nI n1) r1 g0 g1 g2 g3 g4 g5 g6 g7 g8 g9 g10 g11 g12 g13 bp bn) ++ [(o, .inl (cJ, 1, .inr (.inl u)))]) (fun v => v = some (.int 1)) := by
  refine zw_RE.of cL_lead 5 (some .int) [(0, 10, 13, 19), (0, 10, 17, 13)] (by decide) rfl (Nat.le_of_ble_eq_true rfl) ?_
  intro pP eE sS mM aA bB mT cD A C htab hr hlk hA hE Q hQ
  refine zv_go (pc' := 0) rfl (lv' := [(0, .ref (q 0)), (1, .int (nI p)), (2, .int i), (3, .ref o)]) rfl rfl rfl rfl ?_
  refine zv_aload_n C dL_lead_0 1 rfl 3 rfl ?_
  refine zv_iconst (v := 0) C dL_lead_1 2 rfl (by decide) ?_
  refine zv_aload_n C dL_lead_2 3 rfl 0 rfl ?_
  refine zv_iload_n C dL_lead_3 4 rfl 1 rfl ?_
  refine zv_iload_n C dL_lead_4 5 rfl 2 rfl ?_
  refine zv_tV (rest := [.int 0, .ref o]) C hA hE (k_X1_lead_t2 l D cI cZ q h k b y n r f0 f1 f2 f3 f4 f5 f6 f7 f8 f9 f10 f11 f12 f13 n1 r1 g0 g1 g2 g3 g4 g5 g6 g7 g8 g9 g10 g11 g12 g13 bp bn p i hn hp hf hl) (cwV 2 C.1.2.2.2.2 gL_lead_X1_lead rfl rfl rfl (by decide +kernel) ⟨Nat.le_of_ble_eq_true rfl, Nat.le_of_ble_eq_true rfl⟩) dL_lead_5 (ci := 1) 0 rfl rfl rfl rfl (Nat.le_of_ble_eq_true rfl) ⟨Nat.le_of_ble_eq_true rfl, Nat.le_of_ble_eq_true rfl⟩ [0, 1] rfl [0, 1, 2, 3, 4, 5, 6, 7, 8, 9, 10, 11, 12, 13, 14, 15, 16, 17, 18, 19, 20, 21, 22, 23, 24, 25, 26, 27, 28, 29, 30, 31, 32] rfl (by decide) (zx_catch C hE (by decide) [] ⟨0, 10, 13, 19⟩ [⟨0, 10, 17, 13⟩] (htab.trans rfl) (fun _ h => absurd h List.not_mem_nil) (by decide) (by decide) (by decide +kernel) 13 rfl (fun qx => ?_))
  refine zv_astore C dL_lead_13 15 rfl [(4, .ref qx), (0, .ref (q 0)), (1, .int (nI p)), (2, .int i), (3, .ref o)] (by decide) rfl ?_
  refine zv_iconst (v := 1) C dL_lead_15 16 rfl (by decide) ?_
  exact zv_iretR C hr hlk hA hQ dL_lead_16 rfl
abbrev rkL_isAbove : Room := { frames := 8, cells := 1, slots := 6, locals := 133 }
set_option maxHeartbeats 4000000 in
set_option maxRecDepth 100000 in
theorem k_L_isAbove_t1 (l : Launch) (D : va_G) (cI cZ cJ : ClassId) (q h k : Nat → Nat) (b : Nat) (y : Int32) (n : Nat) (r : Int32) (f0 f1 f2 f3 f4 f5 f6 f7 f8 f9 f10 f11 f12 f13 : Nat → Int32) (n1 : Nat) (r1 : Int32) (g0 g1 g2 g3 g4 g5 g6 g7 g8 g9 g10 g11 g12 g13 : Nat → Int32) (bp bn : Nat → Int32) (o : Nat) (u : Nat → Int64) (i j : Int32) (hn : n ≤ 16) (hf : isP n i = false) (hl : l.stackTraces = false) : zv_RE l yL_isAbove wsL_isAbove rkL_isAbove D vwCl (tyJ cI cZ cJ) [.ref (q 0), .int i, .int j, .ref o] ((cR cI cZ q h k (nI b) y (nI n) r f0 f1 f2 f3 f4 f5 f6 f7 f8 f9 f10 f11 f12 f13 (nI n1) r1 g0 g1 g2 g3 g4 g5 g6 g7 g8 g9 g10 g11 g12 g13 bp bn) ++ [(o, .inl (cJ, 1, .inr (.inl u)))]) (fun v => v = some (.int 1)) := by
  refine zw_RE.of cL_isAbove 5 (some .int) [(0, 17, 20, 19)] (by decide) rfl (Nat.le_of_ble_eq_true rfl) ?_
  intro pP eE sS mM aA bB mT cD A C htab hr hlk hA hE Q hQ
  refine zv_go (pc' := 0) rfl (lv' := [(0, .ref (q 0)), (1, .int i), (2, .int j), (3, .ref o)]) rfl rfl rfl rfl ?_
  refine zv_aload_n C dL_isAbove_0 1 rfl 3 rfl ?_
  refine zv_iconst (v := 0) C dL_isAbove_1 2 rfl (by decide) ?_
  refine zv_aload_n C dL_isAbove_2 3 rfl 0 rfl ?_
  refine zv_iload_n C dL_isAbove_3 4 rfl 1 rfl ?_
  refine zv_iload_n C dL_isAbove_4 5 rfl 2 rfl ?_
  refine zv_tV (rest := [.int 0, .ref o]) C hA hE (k_X1_isAbove_t1 l D cI cZ q h k b y n r f0 f1 f2 f3 f4 f5 f6 f7 f8 f9 f10 f11 f12 f13 n1 r1 g0 g1 g2 g3 g4 g5 g6 g7 g8 g9 g10 g11 g12 g13 bp bn i j hn hf hl) (cwV 2 C.1.2.2.2.2 gL_isAbove_X1_isAbove rfl rfl rfl (by decide +kernel) ⟨Nat.le_of_ble_eq_true rfl, Nat.le_of_ble_eq_true rfl⟩) dL_isAbove_5 (ci := 1) 0 rfl rfl rfl rfl (Nat.le_of_ble_eq_true rfl) ⟨Nat.le_of_ble_eq_true rfl, Nat.le_of_ble_eq_true rfl⟩ [0, 1] rfl [0, 1, 2, 3, 4, 5, 6, 7, 8, 9, 10, 11, 12, 13, 14, 15, 16, 17, 18, 19, 20, 21, 22, 23, 24, 25, 26, 27, 28, 29, 30, 31, 32] rfl (by decide) (zx_catch C hE (by decide) [] ⟨0, 17, 20, 19⟩ [] (htab.trans rfl) (fun _ h => absurd h List.not_mem_nil) (by decide) (by decide) (by decide +kernel) 20 rfl (fun qx => ?_))
  refine zv_astore C dL_isAbove_20 22 rfl [(4, .ref qx), (0, .ref (q 0)), (1, .int i), (2, .int j), (3, .ref o)] (by decide) rfl ?_
  refine zv_iconst (v := 1) C dL_isAbove_22 23 rfl (by decide) ?_
  exact zv_iretR C hr hlk hA hQ dL_isAbove_23 rfl
set_option maxHeartbeats 4000000 in
set_option maxRecDepth 100000 in
theorem k_L_isAbove_t2 (l : Launch) (D : va_G) (cI cZ cJ : ClassId) (q h k : Nat → Nat) (b : Nat) (y : Int32) (n : Nat) (r : Int32) (f0 f1 f2 f3 f4 f5 f6 f7 f8 f9 f10 f11 f12 f13 : Nat → Int32) (n1 : Nat) (r1 : Int32) (g0 g1 g2 g3 g4 g5 g6 g7 g8 g9 g10 g11 g12 g13 : Nat → Int32) (bp bn : Nat → Int32) (o : Nat) (u : Nat → Int64) (p : Nat) (i : Int32) (hn : n ≤ 16) (hp : p < n) (hf : isP n i = false) (hl : l.stackTraces = false) : zv_RE l yL_isAbove wsL_isAbove rkL_isAbove D vwCl (tyJ cI cZ cJ) [.ref (q 0), .int (nI p), .int i, .ref o] ((cR cI cZ q h k (nI b) y (nI n) r f0 f1 f2 f3 f4 f5 f6 f7 f8 f9 f10 f11 f12 f13 (nI n1) r1 g0 g1 g2 g3 g4 g5 g6 g7 g8 g9 g10 g11 g12 g13 bp bn) ++ [(o, .inl (cJ, 1, .inr (.inl u)))]) (fun v => v = some (.int 1)) := by
  refine zw_RE.of cL_isAbove 5 (some .int) [(0, 17, 20, 19)] (by decide) rfl (Nat.le_of_ble_eq_true rfl) ?_
  intro pP eE sS mM aA bB mT cD A C htab hr hlk hA hE Q hQ
  refine zv_go (pc' := 0) rfl (lv' := [(0, .ref (q 0)), (1, .int (nI p)), (2, .int i), (3, .ref o)]) rfl rfl rfl rfl ?_
  refine zv_aload_n C dL_isAbove_0 1 rfl 3 rfl ?_
  refine zv_iconst (v := 0) C dL_isAbove_1 2 rfl (by decide) ?_
  refine zv_aload_n C dL_isAbove_2 3 rfl 0 rfl ?_
  refine zv_iload_n C dL_isAbove_3 4 rfl 1 rfl ?_
  refine zv_iload_n C dL_isAbove_4 5 rfl 2 rfl ?_
  refine zv_tV (rest := [.int 0, .ref o]) C hA hE (k_X1_isAbove_t2 l D cI cZ q h k b y n r f0 f1 f2 f3 f4 f5 f6 f7 f8 f9 f10 f11 f12 f13 n1 r1 g0 g1 g2 g3 g4 g5 g6 g7 g8 g9 g10 g11 g12 g13 bp bn p i hn hp hf hl) (cwV 2 C.1.2.2.2.2 gL_isAbove_X1_isAbove rfl rfl rfl (by decide +kernel) ⟨Nat.le_of_ble_eq_true rfl, Nat.le_of_ble_eq_true rfl⟩) dL_isAbove_5 (ci := 1) 0 rfl rfl rfl rfl (Nat.le_of_ble_eq_true rfl) ⟨Nat.le_of_ble_eq_true rfl, Nat.le_of_ble_eq_true rfl⟩ [0, 1] rfl [0, 1, 2, 3, 4, 5, 6, 7, 8, 9, 10, 11, 12, 13, 14, 15, 16, 17, 18, 19, 20, 21, 22, 23, 24, 25, 26, 27, 28, 29, 30, 31, 32] rfl (by decide) (zx_catch C hE (by decide) [] ⟨0, 17, 20, 19⟩ [] (htab.trans rfl) (fun _ h => absurd h List.not_mem_nil) (by decide) (by decide) (by decide +kernel) 20 rfl (fun qx => ?_))
  refine zv_astore C dL_isAbove_20 22 rfl [(4, .ref qx), (0, .ref (q 0)), (1, .int (nI p)), (2, .int i), (3, .ref o)] (by decide) rfl ?_
  refine zv_iconst (v := 1) C dL_isAbove_22 23 rfl (by decide) ?_
  exact zv_iretR C hr hlk hA hQ dL_isAbove_23 rfl
abbrev rkL_meeting : Room := { frames := 8, cells := 1, slots := 6, locals := 133 }
set_option maxHeartbeats 4000000 in
set_option maxRecDepth 100000 in
theorem k_L_meeting_t1 (l : Launch) (D : va_G) (cI cZ cJ : ClassId) (q h k : Nat → Nat) (b : Nat) (y : Int32) (n : Nat) (r : Int32) (f0 f1 f2 f3 f4 f5 f6 f7 f8 f9 f10 f11 f12 f13 : Nat → Int32) (n1 : Nat) (r1 : Int32) (g0 g1 g2 g3 g4 g5 g6 g7 g8 g9 g10 g11 g12 g13 : Nat → Int32) (bp bn : Nat → Int32) (o : Nat) (u : Nat → Int64) (i j : Int32) (hn : n ≤ 16) (hf : isP n i = false) (hl : l.stackTraces = false) : zv_RE l yL_meeting wsL_meeting rkL_meeting D vwCl (tyJ cI cZ cJ) [.ref (q 0), .int i, .int j, .ref o] ((cR cI cZ q h k (nI b) y (nI n) r f0 f1 f2 f3 f4 f5 f6 f7 f8 f9 f10 f11 f12 f13 (nI n1) r1 g0 g1 g2 g3 g4 g5 g6 g7 g8 g9 g10 g11 g12 g13 bp bn) ++ [(o, .inl (cJ, 1, .inr (.inl u)))]) (fun v => v = some (.int 1)) := by
  refine zw_RE.of cL_meeting 5 (some .int) [(0, 10, 13, 19)] (by decide) rfl (Nat.le_of_ble_eq_true rfl) ?_
  intro pP eE sS mM aA bB mT cD A C htab hr hlk hA hE Q hQ
  refine zv_go (pc' := 0) rfl (lv' := [(0, .ref (q 0)), (1, .int i), (2, .int j), (3, .ref o)]) rfl rfl rfl rfl ?_
  refine zv_aload_n C dL_meeting_0 1 rfl 3 rfl ?_
  refine zv_iconst (v := 0) C dL_meeting_1 2 rfl (by decide) ?_
  refine zv_aload_n C dL_meeting_2 3 rfl 0 rfl ?_
  refine zv_iload_n C dL_meeting_3 4 rfl 1 rfl ?_
  refine zv_iload_n C dL_meeting_4 5 rfl 2 rfl ?_
  refine zv_tV (rest := [.int 0, .ref o]) C hA hE (k_X1_meeting_t1 l D cI cZ q h k b y n r f0 f1 f2 f3 f4 f5 f6 f7 f8 f9 f10 f11 f12 f13 n1 r1 g0 g1 g2 g3 g4 g5 g6 g7 g8 g9 g10 g11 g12 g13 bp bn i j hn hf hl) (cwV 2 C.1.2.2.2.2 gL_meeting_X1_meeting rfl rfl rfl (by decide +kernel) ⟨Nat.le_of_ble_eq_true rfl, Nat.le_of_ble_eq_true rfl⟩) dL_meeting_5 (ci := 1) 0 rfl rfl rfl rfl (Nat.le_of_ble_eq_true rfl) ⟨Nat.le_of_ble_eq_true rfl, Nat.le_of_ble_eq_true rfl⟩ [0, 1] rfl [0, 1, 2, 3, 4, 5, 6, 7, 8, 9, 10, 11, 12, 13, 14, 15, 16, 17, 18, 19, 20, 21, 22, 23, 24, 25, 26, 27, 28, 29, 30, 31, 32] rfl (by decide) (zx_catch C hE (by decide) [] ⟨0, 10, 13, 19⟩ [] (htab.trans rfl) (fun _ h => absurd h List.not_mem_nil) (by decide) (by decide) (by decide +kernel) 13 rfl (fun qx => ?_))
  refine zv_astore C dL_meeting_13 15 rfl [(4, .ref qx), (0, .ref (q 0)), (1, .int i), (2, .int j), (3, .ref o)] (by decide) rfl ?_
  refine zv_iconst (v := 1) C dL_meeting_15 16 rfl (by decide) ?_
  exact zv_iretR C hr hlk hA hQ dL_meeting_16 rfl
set_option maxHeartbeats 4000000 in
set_option maxRecDepth 100000 in
theorem k_L_meeting_t2 (l : Launch) (D : va_G) (cI cZ cJ : ClassId) (q h k : Nat → Nat) (b : Nat) (y : Int32) (n : Nat) (r : Int32) (f0 f1 f2 f3 f4 f5 f6 f7 f8 f9 f10 f11 f12 f13 : Nat → Int32) (n1 : Nat) (r1 : Int32) (g0 g1 g2 g3 g4 g5 g6 g7 g8 g9 g10 g11 g12 g13 : Nat → Int32) (bp bn : Nat → Int32) (o : Nat) (u : Nat → Int64) (p : Nat) (i : Int32) (hn : n ≤ 16) (hp : p < n) (hf : isP n i = false) (hl : l.stackTraces = false) : zv_RE l yL_meeting wsL_meeting rkL_meeting D vwCl (tyJ cI cZ cJ) [.ref (q 0), .int (nI p), .int i, .ref o] ((cR cI cZ q h k (nI b) y (nI n) r f0 f1 f2 f3 f4 f5 f6 f7 f8 f9 f10 f11 f12 f13 (nI n1) r1 g0 g1 g2 g3 g4 g5 g6 g7 g8 g9 g10 g11 g12 g13 bp bn) ++ [(o, .inl (cJ, 1, .inr (.inl u)))]) (fun v => v = some (.int 1)) := by
  refine zw_RE.of cL_meeting 5 (some .int) [(0, 10, 13, 19)] (by decide) rfl (Nat.le_of_ble_eq_true rfl) ?_
  intro pP eE sS mM aA bB mT cD A C htab hr hlk hA hE Q hQ
  refine zv_go (pc' := 0) rfl (lv' := [(0, .ref (q 0)), (1, .int (nI p)), (2, .int i), (3, .ref o)]) rfl rfl rfl rfl ?_
  refine zv_aload_n C dL_meeting_0 1 rfl 3 rfl ?_
  refine zv_iconst (v := 0) C dL_meeting_1 2 rfl (by decide) ?_
  refine zv_aload_n C dL_meeting_2 3 rfl 0 rfl ?_
  refine zv_iload_n C dL_meeting_3 4 rfl 1 rfl ?_
  refine zv_iload_n C dL_meeting_4 5 rfl 2 rfl ?_
  refine zv_tV (rest := [.int 0, .ref o]) C hA hE (k_X1_meeting_t2 l D cI cZ q h k b y n r f0 f1 f2 f3 f4 f5 f6 f7 f8 f9 f10 f11 f12 f13 n1 r1 g0 g1 g2 g3 g4 g5 g6 g7 g8 g9 g10 g11 g12 g13 bp bn p i hn hp hf hl) (cwV 2 C.1.2.2.2.2 gL_meeting_X1_meeting rfl rfl rfl (by decide +kernel) ⟨Nat.le_of_ble_eq_true rfl, Nat.le_of_ble_eq_true rfl⟩) dL_meeting_5 (ci := 1) 0 rfl rfl rfl rfl (Nat.le_of_ble_eq_true rfl) ⟨Nat.le_of_ble_eq_true rfl, Nat.le_of_ble_eq_true rfl⟩ [0, 1] rfl [0, 1, 2, 3, 4, 5, 6, 7, 8, 9, 10, 11, 12, 13, 14, 15, 16, 17, 18, 19, 20, 21, 22, 23, 24, 25, 26, 27, 28, 29, 30, 31, 32] rfl (by decide) (zx_catch C hE (by decide) [] ⟨0, 10, 13, 19⟩ [] (htab.trans rfl) (fun _ h => absurd h List.not_mem_nil) (by decide) (by decide) (by decide +kernel) 13 rfl (fun qx => ?_))
  refine zv_astore C dL_meeting_13 15 rfl [(4, .ref qx), (0, .ref (q 0)), (1, .int (nI p)), (2, .int i), (3, .ref o)] (by decide) rfl ?_
  refine zv_iconst (v := 1) C dL_meeting_15 16 rfl (by decide) ?_
  exact zv_iretR C hr hlk hA hQ dL_meeting_16 rfl
set_option maxHeartbeats 4000000 in
set_option maxRecDepth 100000 in
theorem k_L_lead_t3 (l : Launch) (D : va_G) (cI cZ cJ : ClassId) (q h k : Nat → Nat) (b : Nat) (y : Int32) (n : Nat) (r : Int32) (f0 f1 f2 f3 f4 f5 f6 f7 f8 f9 f10 f11 f12 f13 : Nat → Int32) (n1 : Nat) (r1 : Int32) (g0 g1 g2 g3 g4 g5 g6 g7 g8 g9 g10 g11 g12 g13 : Nat → Int32) (bp bn : Nat → Int32) (o : Nat) (u : Nat → Int64) (p z : Nat) (hn : n ≤ 16) (hp : p < n) (ho : z < n) (he : p = z) (hl : l.stackTraces = false) : zv_RE l yL_lead wsL_lead rkL_lead D vwCl (tyJ cI cZ cJ) [.ref (q 0), .int (nI p), .int (nI z), .ref o] ((cR cI cZ q h k (nI b) y (nI n) r f0 f1 f2 f3 f4 f5 f6 f7 f8 f9 f10 f11 f12 f13 (nI n1) r1 g0 g1 g2 g3 g4 g5 g6 g7 g8 g9 g10 g11 g12 g13 bp bn) ++ [(o, .inl (cJ, 1, .inr (.inl u)))]) (fun v => v = some (.int 2)) := by
  refine zw_RE.of cL_lead 5 (some .int) [(0, 10, 13, 19), (0, 10, 17, 13)] (by decide) rfl (Nat.le_of_ble_eq_true rfl) ?_
  intro pP eE sS mM aA bB mT cD A C htab hr hlk hA hE Q hQ
  refine zv_go (pc' := 0) rfl (lv' := [(0, .ref (q 0)), (1, .int (nI p)), (2, .int (nI z)), (3, .ref o)]) rfl rfl rfl rfl ?_
  refine zv_aload_n C dL_lead_0 1 rfl 3 rfl ?_
  refine zv_iconst (v := 0) C dL_lead_1 2 rfl (by decide) ?_
  refine zv_aload_n C dL_lead_2 3 rfl 0 rfl ?_
  refine zv_iload_n C dL_lead_3 4 rfl 1 rfl ?_
  refine zv_iload_n C dL_lead_4 5 rfl 2 rfl ?_
  refine zv_tV (rest := [.int 0, .ref o]) C hA hE (k_X1_lead_t3 l D cI cZ q h k b y n r f0 f1 f2 f3 f4 f5 f6 f7 f8 f9 f10 f11 f12 f13 n1 r1 g0 g1 g2 g3 g4 g5 g6 g7 g8 g9 g10 g11 g12 g13 bp bn p z hn hp ho he hl) (cwV 2 C.1.2.2.2.2 gL_lead_X1_lead rfl rfl rfl (by decide +kernel) ⟨Nat.le_of_ble_eq_true rfl, Nat.le_of_ble_eq_true rfl⟩) dL_lead_5 (ci := 1) 0 rfl rfl rfl rfl (Nat.le_of_ble_eq_true rfl) ⟨Nat.le_of_ble_eq_true rfl, Nat.le_of_ble_eq_true rfl⟩ [0, 1] rfl [0, 1, 2, 3, 4, 5, 6, 7, 8, 9, 10, 11, 12, 13, 14, 15, 16, 17, 18, 19, 20, 21, 22, 23, 24, 25, 26, 27, 28, 29, 30, 31, 32] rfl (by decide) (zx_catch C hE (by decide) [⟨0, 10, 13, 19⟩] ⟨0, 10, 17, 13⟩ [] (htab.trans rfl) (List.forall_mem_cons.mpr ⟨Or.inr ⟨by decide, "java/lang/IndexOutOfBoundsException", by decide +kernel, by decide⟩, (fun _ h => absurd h List.not_mem_nil)⟩) (by decide) (by decide) (by decide +kernel) 17 rfl (fun qx => ?_))
  refine zv_astore C dL_lead_17 19 rfl [(4, .ref qx), (0, .ref (q 0)), (1, .int (nI p)), (2, .int (nI z)), (3, .ref o)] (by decide) rfl ?_
  refine zv_iconst (v := 2) C dL_lead_19 20 rfl (by decide) ?_
  exact zv_iretR C hr hlk hA hQ dL_lead_20 rfl
set_option maxHeartbeats 4000000 in
set_option maxRecDepth 100000 in
theorem k_L_lead_t4 (l : Launch) (D : va_G) (cI cZ cJ : ClassId) (q h k : Nat → Nat) (b : Nat) (y : Int32) (n : Nat) (r : Int32) (f0 f1 f2 f3 f4 f5 f6 f7 f8 f9 f10 f11 f12 f13 : Nat → Int32) (n1 : Nat) (r1 : Int32) (g0 g1 g2 g3 g4 g5 g6 g7 g8 g9 g10 g11 g12 g13 : Nat → Int32) (bp bn : Nat → Int32) (o : Nat) (u : Nat → Int64) (p z : Nat) (hn : n ≤ 16) (hp : p < n) (ho : z < n) (hw : Vw n f0) (hne : ¬ p = z) (hfl : fl f0 (nI p) 16 (f0 z) = true) (hl : l.stackTraces = false) : zv_RE l yL_lead wsL_lead rkL_lead D vwCl (tyJ cI cZ cJ) [.ref (q 0), .int (nI p), .int (nI z), .ref o] ((cR cI cZ q h k (nI b) y (nI n) r f0 f1 f2 f3 f4 f5 f6 f7 f8 f9 f10 f11 f12 f13 (nI n1) r1 g0 g1 g2 g3 g4 g5 g6 g7 g8 g9 g10 g11 g12 g13 bp bn) ++ [(o, .inl (cJ, 1, .inr (.inl u)))]) (fun v => v = some (.int 2)) := by
  refine zw_RE.of cL_lead 5 (some .int) [(0, 10, 13, 19), (0, 10, 17, 13)] (by decide) rfl (Nat.le_of_ble_eq_true rfl) ?_
  intro pP eE sS mM aA bB mT cD A C htab hr hlk hA hE Q hQ
  refine zv_go (pc' := 0) rfl (lv' := [(0, .ref (q 0)), (1, .int (nI p)), (2, .int (nI z)), (3, .ref o)]) rfl rfl rfl rfl ?_
  refine zv_aload_n C dL_lead_0 1 rfl 3 rfl ?_
  refine zv_iconst (v := 0) C dL_lead_1 2 rfl (by decide) ?_
  refine zv_aload_n C dL_lead_2 3 rfl 0 rfl ?_
  refine zv_iload_n C dL_lead_3 4 rfl 1 rfl ?_
  refine zv_iload_n C dL_lead_4 5 rfl 2 rfl ?_
  refine zv_tV (rest := [.int 0, .ref o]) C hA hE (k_X1_lead_t4 l D cI cZ q h k b y n r f0 f1 f2 f3 f4 f5 f6 f7 f8 f9 f10 f11 f12 f13 n1 r1 g0 g1 g2 g3 g4 g5 g6 g7 g8 g9 g10 g11 g12 g13 bp bn p z hn hp ho hw hne hfl hl) (cwV 2 C.1.2.2.2.2 gL_lead_X1_lead rfl rfl rfl (by decide +kernel) ⟨Nat.le_of_ble_eq_true rfl, Nat.le_of_ble_eq_true rfl⟩) dL_lead_5 (ci := 1) 0 rfl rfl rfl rfl (Nat.le_of_ble_eq_true rfl) ⟨Nat.le_of_ble_eq_true rfl, Nat.le_of_ble_eq_true rfl⟩ [0, 1] rfl [0, 1, 2, 3, 4, 5, 6, 7, 8, 9, 10, 11, 12, 13, 14, 15, 16, 17, 18, 19, 20, 21, 22, 23, 24, 25, 26, 27, 28, 29, 30, 31, 32] rfl (by decide) (zx_catch C hE (by decide) [⟨0, 10, 13, 19⟩] ⟨0, 10, 17, 13⟩ [] (htab.trans rfl) (List.forall_mem_cons.mpr ⟨Or.inr ⟨by decide, "java/lang/IndexOutOfBoundsException", by decide +kernel, by decide⟩, (fun _ h => absurd h List.not_mem_nil)⟩) (by decide) (by decide) (by decide +kernel) 17 rfl (fun qx => ?_))
  refine zv_astore C dL_lead_17 19 rfl [(4, .ref qx), (0, .ref (q 0)), (1, .int (nI p)), (2, .int (nI z)), (3, .ref o)] (by decide) rfl ?_
  refine zv_iconst (v := 2) C dL_lead_19 20 rfl (by decide) ?_
  exact zv_iretR C hr hlk hA hQ dL_lead_20 rfl
abbrev rkL_setRule : Room := { frames := 7, cells := 1, slots := 6, locals := 113 }
set_option maxHeartbeats 4000000 in
set_option maxRecDepth 100000 in
theorem k_L_setRule_t (l : Launch) (D : va_G) (cI cZ cJ : ClassId) (q h k : Nat → Nat) (b : Nat) (y : Int32) (n : Nat) (r : Int32) (f0 f1 f2 f3 f4 f5 f6 f7 f8 f9 f10 f11 f12 f13 : Nat → Int32) (n1 : Nat) (r1 : Int32) (g0 g1 g2 g3 g4 g5 g6 g7 g8 g9 g10 g11 g12 g13 : Nat → Int32) (bp bn : Nat → Int32) (o : Nat) (u : Nat → Int64) (i : Int32) (h1 : isI i 0 1 = false) (hl : l.stackTraces = false) : zv_RE l yL_setRule wsL_setRule rkL_setRule D vwCl (tyJ cI cZ cJ) [.ref (q 0), .int i, .ref o] ((cR cI cZ q h k (nI b) y (nI n) r f0 f1 f2 f3 f4 f5 f6 f7 f8 f9 f10 f11 f12 f13 (nI n1) r1 g0 g1 g2 g3 g4 g5 g6 g7 g8 g9 g10 g11 g12 g13 bp bn) ++ [(o, .inl (cJ, 1, .inr (.inl u)))]) (fun v => v = some (.int 1)) := by
  refine zw_RE.of cL_setRule 4 (some .int) [(0, 9, 12, 21)] (by decide) rfl (Nat.le_of_ble_eq_true rfl) ?_
  intro pP eE sS mM aA bB mT cD A C htab hr hlk hA hE Q hQ
  refine zv_go (pc' := 0) rfl (lv' := [(0, .ref (q 0)), (1, .int i), (2, .ref o)]) rfl rfl rfl rfl ?_
  refine zv_aload_n C dL_setRule_0 1 rfl 2 rfl ?_
  refine zv_iconst (v := 0) C dL_setRule_1 2 rfl (by decide) ?_
  refine zv_aload_n C dL_setRule_2 3 rfl 0 rfl ?_
  refine zv_iload_n C dL_setRule_3 4 rfl 1 rfl ?_
  refine zv_tV (rest := [.int 0, .ref o]) C hA hE (k_X1_setRule_t l D cI cZ q h k b y n r f0 f1 f2 f3 f4 f5 f6 f7 f8 f9 f10 f11 f12 f13 n1 r1 g0 g1 g2 g3 g4 g5 g6 g7 g8 g9 g10 g11 g12 g13 bp bn i h1 hl) (cwV 1 C.1.2.2.2.2 gL_setRule_X1_setRule rfl rfl rfl (by decide +kernel) ⟨Nat.le_of_ble_eq_true rfl, Nat.le_of_ble_eq_true rfl⟩) dL_setRule_4 (ci := 1) 0 rfl rfl rfl rfl (Nat.le_of_ble_eq_true rfl) ⟨Nat.le_of_ble_eq_true rfl, Nat.le_of_ble_eq_true rfl⟩ [0, 1] rfl [0, 1, 2, 3, 4, 5, 6, 7, 8, 9, 10, 11, 12, 13, 14, 15, 16, 17, 18, 19, 20, 21, 22, 23, 24, 25, 26, 27, 28, 29, 30, 31, 32] rfl (by decide) (zx_catch C hE (by decide) [] ⟨0, 9, 12, 21⟩ [] (htab.trans rfl) (fun _ h => absurd h List.not_mem_nil) (by decide) (by decide) (by decide +kernel) 12 rfl (fun qx => ?_))
  refine zv_astore_n C dL_setRule_12 13 rfl [(3, .ref qx), (0, .ref (q 0)), (1, .int i), (2, .ref o)] (by decide) rfl ?_
  refine zv_iconst (v := 1) C dL_setRule_13 14 rfl (by decide) ?_
  exact zv_iretR C hr hlk hA hQ dL_setRule_14 rfl
abbrev rkL_pass : Room := { frames := 8, cells := 1, slots := 6, locals := 131 }
set_option maxHeartbeats 4000000 in
set_option maxRecDepth 100000 in
theorem k_L_pass_t (l : Launch) (D : va_G) (cI cZ cJ : ClassId) (q h k : Nat → Nat) (b : Nat) (y : Int32) (n : Nat) (r : Int32) (f0 f1 f2 f3 f4 f5 f6 f7 f8 f9 f10 f11 f12 f13 : Nat → Int32) (n1 : Nat) (r1 : Int32) (g0 g1 g2 g3 g4 g5 g6 g7 g8 g9 g10 g11 g12 g13 : Nat → Int32) (bp bn : Nat → Int32) (o : Nat) (u : Nat → Int64) (i : Int32) (h1 : isI i 1 50 = false) (hl : l.stackTraces = false) : zv_RE l yL_pass wsL_pass rkL_pass D vwCl (tyJ cI cZ cJ) [.ref (q 0), .int i, .ref o] ((cR cI cZ q h k (nI b) y (nI n) r f0 f1 f2 f3 f4 f5 f6 f7 f8 f9 f10 f11 f12 f13 (nI n1) r1 g0 g1 g2 g3 g4 g5 g6 g7 g8 g9 g10 g11 g12 g13 bp bn) ++ [(o, .inl (cJ, 1, .inr (.inl u)))]) (fun v => v = some (.int 1)) := by
  refine zw_RE.of cL_pass 4 (some .int) [(0, 9, 12, 21)] (by decide) rfl (Nat.le_of_ble_eq_true rfl) ?_
  intro pP eE sS mM aA bB mT cD A C htab hr hlk hA hE Q hQ
  refine zv_go (pc' := 0) rfl (lv' := [(0, .ref (q 0)), (1, .int i), (2, .ref o)]) rfl rfl rfl rfl ?_
  refine zv_aload_n C dL_pass_0 1 rfl 2 rfl ?_
  refine zv_iconst (v := 0) C dL_pass_1 2 rfl (by decide) ?_
  refine zv_aload_n C dL_pass_2 3 rfl 0 rfl ?_
  refine zv_iload_n C dL_pass_3 4 rfl 1 rfl ?_
  refine zv_tV (rest := [.int 0, .ref o]) C hA hE (k_X1_pass_t l D cI cZ q h k b y n r f0 f1 f2 f3 f4 f5 f6 f7 f8 f9 f10 f11 f12 f13 n1 r1 g0 g1 g2 g3 g4 g5 g6 g7 g8 g9 g10 g11 g12 g13 bp bn i h1 hl) (cwV 1 C.1.2.2.2.2 gL_pass_X1_pass rfl rfl rfl (by decide +kernel) ⟨Nat.le_of_ble_eq_true rfl, Nat.le_of_ble_eq_true rfl⟩) dL_pass_4 (ci := 1) 0 rfl rfl rfl rfl (Nat.le_of_ble_eq_true rfl) ⟨Nat.le_of_ble_eq_true rfl, Nat.le_of_ble_eq_true rfl⟩ [0, 1] rfl [0, 1, 2, 3, 4, 5, 6, 7, 8, 9, 10, 11, 12, 13, 14, 15, 16, 17, 18, 19, 20, 21, 22, 23, 24, 25, 26, 27, 28, 29, 30, 31, 32] rfl (by decide) (zx_catch C hE (by decide) [] ⟨0, 9, 12, 21⟩ [] (htab.trans rfl) (fun _ h => absurd h List.not_mem_nil) (by decide) (by decide) (by decide +kernel) 12 rfl (fun qx => ?_))
  refine zv_astore_n C dL_pass_12 13 rfl [(3, .ref qx), (0, .ref (q 0)), (1, .int i), (2, .ref o)] (by decide) rfl ?_
  refine zv_iconst (v := 1) C dL_pass_13 14 rfl (by decide) ?_
  exact zv_iretR C hr hlk hA hQ dL_pass_14 rfl
abbrev rkL_placesNamed : Room := { frames := 8, cells := 1, slots := 6, locals := 131 }
set_option maxHeartbeats 4000000 in
set_option maxRecDepth 100000 in
theorem k_L_placesNamed_t (l : Launch) (D : va_G) (cI cZ cJ : ClassId) (q h k : Nat → Nat) (b : Nat) (y : Int32) (n : Nat) (r : Int32) (f0 f1 f2 f3 f4 f5 f6 f7 f8 f9 f10 f11 f12 f13 : Nat → Int32) (n1 : Nat) (r1 : Int32) (g0 g1 g2 g3 g4 g5 g6 g7 g8 g9 g10 g11 g12 g13 : Nat → Int32) (bp bn : Nat → Int32) (o : Nat) (u : Nat → Int64) (i : Int32) (h1 : isI i 0 9 = false) (hl : l.stackTraces = false) : zv_RE l yL_placesNamed wsL_placesNamed rkL_placesNamed D vwCl (tyJ cI cZ cJ) [.ref (q 0), .int i, .ref o] ((cR cI cZ q h k (nI b) y (nI n) r f0 f1 f2 f3 f4 f5 f6 f7 f8 f9 f10 f11 f12 f13 (nI n1) r1 g0 g1 g2 g3 g4 g5 g6 g7 g8 g9 g10 g11 g12 g13 bp bn) ++ [(o, .inl (cJ, 1, .inr (.inl u)))]) (fun v => v = some (.int 1)) := by
  refine zw_RE.of cL_placesNamed 4 (some .int) [(0, 9, 12, 19)] (by decide) rfl (Nat.le_of_ble_eq_true rfl) ?_
  intro pP eE sS mM aA bB mT cD A C htab hr hlk hA hE Q hQ
  refine zv_go (pc' := 0) rfl (lv' := [(0, .ref (q 0)), (1, .int i), (2, .ref o)]) rfl rfl rfl rfl ?_
  refine zv_aload_n C dL_placesNamed_0 1 rfl 2 rfl ?_
  refine zv_iconst (v := 0) C dL_placesNamed_1 2 rfl (by decide) ?_
  refine zv_aload_n C dL_placesNamed_2 3 rfl 0 rfl ?_
  refine zv_iload_n C dL_placesNamed_3 4 rfl 1 rfl ?_
  refine zv_tV (rest := [.int 0, .ref o]) C hA hE (k_X1_placesNamed_t l D cI cZ q h k b y n r f0 f1 f2 f3 f4 f5 f6 f7 f8 f9 f10 f11 f12 f13 n1 r1 g0 g1 g2 g3 g4 g5 g6 g7 g8 g9 g10 g11 g12 g13 bp bn i h1 hl) (cwV 1 C.1.2.2.2.2 gL_placesNamed_X1_placesNamed rfl rfl rfl (by decide +kernel) ⟨Nat.le_of_ble_eq_true rfl, Nat.le_of_ble_eq_true rfl⟩) dL_placesNamed_4 (ci := 1) 0 rfl rfl rfl rfl (Nat.le_of_ble_eq_true rfl) ⟨Nat.le_of_ble_eq_true rfl, Nat.le_of_ble_eq_true rfl⟩ [0, 1] rfl [0, 1, 2, 3, 4, 5, 6, 7, 8, 9, 10, 11, 12, 13, 14, 15, 16, 17, 18, 19, 20, 21, 22, 23, 24, 25, 26, 27, 28, 29, 30, 31, 32] rfl (by decide) (zx_catch C hE (by decide) [] ⟨0, 9, 12, 19⟩ [] (htab.trans rfl) (fun _ h => absurd h List.not_mem_nil) (by decide) (by decide) (by decide +kernel) 12 rfl (fun qx => ?_))
  refine zv_astore_n C dL_placesNamed_12 13 rfl [(3, .ref qx), (0, .ref (q 0)), (1, .int i), (2, .ref o)] (by decide) rfl ?_
  refine zv_iconst (v := 1) C dL_placesNamed_13 14 rfl (by decide) ?_
  exact zv_iretR C hr hlk hA hQ dL_placesNamed_14 rfl
abbrev rkL_turnDelta : Room := { frames := 8, cells := 1, slots := 6, locals := 132 }
set_option maxHeartbeats 4000000 in
set_option maxRecDepth 100000 in
theorem k_L_turnDelta_t (l : Launch) (D : va_G) (cI cZ cJ : ClassId) (q h k : Nat → Nat) (b : Nat) (y : Int32) (n : Nat) (r : Int32) (f0 f1 f2 f3 f4 f5 f6 f7 f8 f9 f10 f11 f12 f13 : Nat → Int32) (n1 : Nat) (r1 : Int32) (g0 g1 g2 g3 g4 g5 g6 g7 g8 g9 g10 g11 g12 g13 : Nat → Int32) (bp bn : Nat → Int32) (o : Nat) (u : Nat → Int64) (i : Int32) (hn : n ≤ 16) (hf : isP n i = false) (hl : l.stackTraces = false) : zv_RE l yL_turnDelta wsL_turnDelta rkL_turnDelta D vwCl (tyJ cI cZ cJ) [.ref (q 0), .int i, .ref o] ((cR cI cZ q h k (nI b) y (nI n) r f0 f1 f2 f3 f4 f5 f6 f7 f8 f9 f10 f11 f12 f13 (nI n1) r1 g0 g1 g2 g3 g4 g5 g6 g7 g8 g9 g10 g11 g12 g13 bp bn) ++ [(o, .inl (cJ, 1, .inr (.inl u)))]) (fun v => v = some (.int 1)) := by
  refine zw_RE.of cL_turnDelta 4 (some .int) [(0, 16, 19, 19)] (by decide) rfl (Nat.le_of_ble_eq_true rfl) ?_
  intro pP eE sS mM aA bB mT cD A C htab hr hlk hA hE Q hQ
  refine zv_go (pc' := 0) rfl (lv' := [(0, .ref (q 0)), (1, .int i), (2, .ref o)]) rfl rfl rfl rfl ?_
  refine zv_aload_n C dL_turnDelta_0 1 rfl 2 rfl ?_
  refine zv_iconst (v := 0) C dL_turnDelta_1 2 rfl (by decide) ?_
  refine zv_aload_n C dL_turnDelta_2 3 rfl 0 rfl ?_
  refine zv_iload_n C dL_turnDelta_3 4 rfl 1 rfl ?_
  refine zv_tV (rest := [.int 0, .ref o]) C hA hE (k_X1_turnDelta_t l D cI cZ q h k b y n r f0 f1 f2 f3 f4 f5 f6 f7 f8 f9 f10 f11 f12 f13 n1 r1 g0 g1 g2 g3 g4 g5 g6 g7 g8 g9 g10 g11 g12 g13 bp bn i hn hf hl) (cwV 1 C.1.2.2.2.2 gL_turnDelta_X1_turnDelta rfl rfl rfl (by decide +kernel) ⟨Nat.le_of_ble_eq_true rfl, Nat.le_of_ble_eq_true rfl⟩) dL_turnDelta_4 (ci := 1) 0 rfl rfl rfl rfl (Nat.le_of_ble_eq_true rfl) ⟨Nat.le_of_ble_eq_true rfl, Nat.le_of_ble_eq_true rfl⟩ [0, 1] rfl [0, 1, 2, 3, 4, 5, 6, 7, 8, 9, 10, 11, 12, 13, 14, 15, 16, 17, 18, 19, 20, 21, 22, 23, 24, 25, 26, 27, 28, 29, 30, 31, 32] rfl (by decide) (zx_catch C hE (by decide) [] ⟨0, 16, 19, 19⟩ [] (htab.trans rfl) (fun _ h => absurd h List.not_mem_nil) (by decide) (by decide) (by decide +kernel) 19 rfl (fun qx => ?_))
  refine zv_astore_n C dL_turnDelta_19 20 rfl [(3, .ref qx), (0, .ref (q 0)), (1, .int i), (2, .ref o)] (by decide) rfl ?_
  refine zv_iconst (v := 1) C dL_turnDelta_20 21 rfl (by decide) ?_
  exact zv_iretR C hr hlk hA hQ dL_turnDelta_21 rfl
abbrev rkL_build : Room := { frames := 8, cells := 1, slots := 6, locals := 133 }
set_option maxHeartbeats 4000000 in
set_option maxRecDepth 100000 in
theorem k_L_build_t (l : Launch) (D : va_G) (cI cZ cJ : ClassId) (q h k : Nat → Nat) (b : Nat) (y : Int32) (n : Nat) (r : Int32) (f0 f1 f2 f3 f4 f5 f6 f7 f8 f9 f10 f11 f12 f13 : Nat → Int32) (n1 : Nat) (r1 : Int32) (g0 g1 g2 g3 g4 g5 g6 g7 g8 g9 g10 g11 g12 g13 : Nat → Int32) (bp bn : Nat → Int32) (o : Nat) (u : Nat → Int64) (i : Int32) (hn : n ≤ 16) (hf : isP n i = false) (hl : l.stackTraces = false) : zv_RE l yL_build wsL_build rkL_build D vwCl (tyJ cI cZ cJ) [.ref (q 0), .int i, .ref o] ((cR cI cZ q h k (nI b) y (nI n) r f0 f1 f2 f3 f4 f5 f6 f7 f8 f9 f10 f11 f12 f13 (nI n1) r1 g0 g1 g2 g3 g4 g5 g6 g7 g8 g9 g10 g11 g12 g13 bp bn) ++ [(o, .inl (cJ, 1, .inr (.inl u)))]) (fun v => v = some (.int 1)) := by
  refine zw_RE.of cL_build 4 (some .int) [(0, 9, 12, 19), (0, 9, 15, 13)] (by decide) rfl (Nat.le_of_ble_eq_true rfl) ?_
  intro pP eE sS mM aA bB mT cD A C htab hr hlk hA hE Q hQ
  refine zv_go (pc' := 0) rfl (lv' := [(0, .ref (q 0)), (1, .int i), (2, .ref o)]) rfl rfl rfl rfl ?_
  refine zv_aload_n C dL_build_0 1 rfl 2 rfl ?_
  refine zv_iconst (v := 0) C dL_build_1 2 rfl (by decide) ?_
  refine zv_aload_n C dL_build_2 3 rfl 0 rfl ?_
  refine zv_iload_n C dL_build_3 4 rfl 1 rfl ?_
  refine zv_tV (rest := [.int 0, .ref o]) C hA hE (k_X1_build_t l D cI cZ q h k b y n r f0 f1 f2 f3 f4 f5 f6 f7 f8 f9 f10 f11 f12 f13 n1 r1 g0 g1 g2 g3 g4 g5 g6 g7 g8 g9 g10 g11 g12 g13 bp bn i hn hf hl) (cwV 1 C.1.2.2.2.2 gL_build_X1_build rfl rfl rfl (by decide +kernel) ⟨Nat.le_of_ble_eq_true rfl, Nat.le_of_ble_eq_true rfl⟩) dL_build_4 (ci := 1) 0 rfl rfl rfl rfl (Nat.le_of_ble_eq_true rfl) ⟨Nat.le_of_ble_eq_true rfl, Nat.le_of_ble_eq_true rfl⟩ [0, 1] rfl [0, 1, 2, 3, 4, 5, 6, 7, 8, 9, 10, 11, 12, 13, 14, 15, 16, 17, 18, 19, 20, 21, 22, 23, 24, 25, 26, 27, 28, 29, 30, 31, 32] rfl (by decide) (zx_catch C hE (by decide) [] ⟨0, 9, 12, 19⟩ [⟨0, 9, 15, 13⟩] (htab.trans rfl) (fun _ h => absurd h List.not_mem_nil) (by decide) (by decide) (by decide +kernel) 12 rfl (fun qx => ?_))
  refine zv_astore_n C dL_build_12 13 rfl [(3, .ref qx), (0, .ref (q 0)), (1, .int i), (2, .ref o)] (by decide) rfl ?_
  refine zv_iconst (v := 1) C dL_build_13 14 rfl (by decide) ?_
  exact zv_iretR C hr hlk hA hQ dL_build_14 rfl
abbrev rkL_leadsTo : Room := { frames := 8, cells := 1, slots := 6, locals := 132 }
set_option maxHeartbeats 4000000 in
set_option maxRecDepth 100000 in
theorem k_L_leadsTo_t (l : Launch) (D : va_G) (cI cZ cJ : ClassId) (q h k : Nat → Nat) (b : Nat) (y : Int32) (n : Nat) (r : Int32) (f0 f1 f2 f3 f4 f5 f6 f7 f8 f9 f10 f11 f12 f13 : Nat → Int32) (n1 : Nat) (r1 : Int32) (g0 g1 g2 g3 g4 g5 g6 g7 g8 g9 g10 g11 g12 g13 : Nat → Int32) (bp bn : Nat → Int32) (o : Nat) (u : Nat → Int64) (i : Int32) (hn : n ≤ 16) (hf : isP n i = false) (hl : l.stackTraces = false) : zv_RE l yL_leadsTo wsL_leadsTo rkL_leadsTo D vwCl (tyJ cI cZ cJ) [.ref (q 0), .int i, .ref o] ((cR cI cZ q h k (nI b) y (nI n) r f0 f1 f2 f3 f4 f5 f6 f7 f8 f9 f10 f11 f12 f13 (nI n1) r1 g0 g1 g2 g3 g4 g5 g6 g7 g8 g9 g10 g11 g12 g13 bp bn) ++ [(o, .inl (cJ, 1, .inr (.inl u)))]) (fun v => v = some (.int 1)) := by
  refine zw_RE.of cL_leadsTo 4 (some .int) [(0, 9, 12, 19)] (by decide) rfl (Nat.le_of_ble_eq_true rfl) ?_
  intro pP eE sS mM aA bB mT cD A C htab hr hlk hA hE Q hQ
  refine zv_go (pc' := 0) rfl (lv' := [(0, .ref (q 0)), (1, .int i), (2, .ref o)]) rfl rfl rfl rfl ?_
  refine zv_aload_n C dL_leadsTo_0 1 rfl 2 rfl ?_
  refine zv_iconst (v := 0) C dL_leadsTo_1 2 rfl (by decide) ?_
  refine zv_aload_n C dL_leadsTo_2 3 rfl 0 rfl ?_
  refine zv_iload_n C dL_leadsTo_3 4 rfl 1 rfl ?_
  refine zv_tV (rest := [.int 0, .ref o]) C hA hE (k_X1_leadsTo_t l D cI cZ q h k b y n r f0 f1 f2 f3 f4 f5 f6 f7 f8 f9 f10 f11 f12 f13 n1 r1 g0 g1 g2 g3 g4 g5 g6 g7 g8 g9 g10 g11 g12 g13 bp bn i hn hf hl) (cwV 1 C.1.2.2.2.2 gL_leadsTo_X1_leadsTo rfl rfl rfl (by decide +kernel) ⟨Nat.le_of_ble_eq_true rfl, Nat.le_of_ble_eq_true rfl⟩) dL_leadsTo_4 (ci := 1) 0 rfl rfl rfl rfl (Nat.le_of_ble_eq_true rfl) ⟨Nat.le_of_ble_eq_true rfl, Nat.le_of_ble_eq_true rfl⟩ [0, 1] rfl [0, 1, 2, 3, 4, 5, 6, 7, 8, 9, 10, 11, 12, 13, 14, 15, 16, 17, 18, 19, 20, 21, 22, 23, 24, 25, 26, 27, 28, 29, 30, 31, 32] rfl (by decide) (zx_catch C hE (by decide) [] ⟨0, 9, 12, 19⟩ [] (htab.trans rfl) (fun _ h => absurd h List.not_mem_nil) (by decide) (by decide) (by decide +kernel) 12 rfl (fun qx => ?_))
  refine zv_astore_n C dL_leadsTo_12 13 rfl [(3, .ref qx), (0, .ref (q 0)), (1, .int i), (2, .ref o)] (by decide) rfl ?_
  refine zv_iconst (v := 1) C dL_leadsTo_13 14 rfl (by decide) ?_
  exact zv_iretR C hr hlk hA hQ dL_leadsTo_14 rfl
abbrev rkL_hasSpring : Room := { frames := 8, cells := 1, slots := 6, locals := 132 }
set_option maxHeartbeats 4000000 in
set_option maxRecDepth 100000 in
theorem k_L_hasSpring_t (l : Launch) (D : va_G) (cI cZ cJ : ClassId) (q h k : Nat → Nat) (b : Nat) (y : Int32) (n : Nat) (r : Int32) (f0 f1 f2 f3 f4 f5 f6 f7 f8 f9 f10 f11 f12 f13 : Nat → Int32) (n1 : Nat) (r1 : Int32) (g0 g1 g2 g3 g4 g5 g6 g7 g8 g9 g10 g11 g12 g13 : Nat → Int32) (bp bn : Nat → Int32) (o : Nat) (u : Nat → Int64) (i : Int32) (hn : n ≤ 16) (hf : isP n i = false) (hl : l.stackTraces = false) : zv_RE l yL_hasSpring wsL_hasSpring rkL_hasSpring D vwCl (tyJ cI cZ cJ) [.ref (q 0), .int i, .ref o] ((cR cI cZ q h k (nI b) y (nI n) r f0 f1 f2 f3 f4 f5 f6 f7 f8 f9 f10 f11 f12 f13 (nI n1) r1 g0 g1 g2 g3 g4 g5 g6 g7 g8 g9 g10 g11 g12 g13 bp bn) ++ [(o, .inl (cJ, 1, .inr (.inl u)))]) (fun v => v = some (.int 1)) := by
  refine zw_RE.of cL_hasSpring 4 (some .int) [(0, 16, 19, 19)] (by decide) rfl (Nat.le_of_ble_eq_true rfl) ?_
  intro pP eE sS mM aA bB mT cD A C htab hr hlk hA hE Q hQ
  refine zv_go (pc' := 0) rfl (lv' := [(0, .ref (q 0)), (1, .int i), (2, .ref o)]) rfl rfl rfl rfl ?_
  refine zv_aload_n C dL_hasSpring_0 1 rfl 2 rfl ?_
  refine zv_iconst (v := 0) C dL_hasSpring_1 2 rfl (by decide) ?_
  refine zv_aload_n C dL_hasSpring_2 3 rfl 0 rfl ?_
  refine zv_iload_n C dL_hasSpring_3 4 rfl 1 rfl ?_
  refine zv_tV (rest := [.int 0, .ref o]) C hA hE (k_X1_hasSpring_t l D cI cZ q h k b y n r f0 f1 f2 f3 f4 f5 f6 f7 f8 f9 f10 f11 f12 f13 n1 r1 g0 g1 g2 g3 g4 g5 g6 g7 g8 g9 g10 g11 g12 g13 bp bn i hn hf hl) (cwV 1 C.1.2.2.2.2 gL_hasSpring_X1_hasSpring rfl rfl rfl (by decide +kernel) ⟨Nat.le_of_ble_eq_true rfl, Nat.le_of_ble_eq_true rfl⟩) dL_hasSpring_4 (ci := 1) 0 rfl rfl rfl rfl (Nat.le_of_ble_eq_true rfl) ⟨Nat.le_of_ble_eq_true rfl, Nat.le_of_ble_eq_true rfl⟩ [0, 1] rfl [0, 1, 2, 3, 4, 5, 6, 7, 8, 9, 10, 11, 12, 13, 14, 15, 16, 17, 18, 19, 20, 21, 22, 23, 24, 25, 26, 27, 28, 29, 30, 31, 32] rfl (by decide) (zx_catch C hE (by decide) [] ⟨0, 16, 19, 19⟩ [] (htab.trans rfl) (fun _ h => absurd h List.not_mem_nil) (by decide) (by decide) (by decide +kernel) 19 rfl (fun qx => ?_))
  refine zv_astore_n C dL_hasSpring_19 20 rfl [(3, .ref qx), (0, .ref (q 0)), (1, .int i), (2, .ref o)] (by decide) rfl ?_
  refine zv_iconst (v := 1) C dL_hasSpring_20 21 rfl (by decide) ?_
  exact zv_iretR C hr hlk hA hQ dL_hasSpring_21 rfl
abbrev rkL_springOf : Room := { frames := 8, cells := 1, slots := 6, locals := 132 }
set_option maxHeartbeats 4000000 in
set_option maxRecDepth 100000 in
theorem k_L_springOf_t (l : Launch) (D : va_G) (cI cZ cJ : ClassId) (q h k : Nat → Nat) (b : Nat) (y : Int32) (n : Nat) (r : Int32) (f0 f1 f2 f3 f4 f5 f6 f7 f8 f9 f10 f11 f12 f13 : Nat → Int32) (n1 : Nat) (r1 : Int32) (g0 g1 g2 g3 g4 g5 g6 g7 g8 g9 g10 g11 g12 g13 : Nat → Int32) (bp bn : Nat → Int32) (o : Nat) (u : Nat → Int64) (i : Int32) (hn : n ≤ 16) (hf : isP n i = false) (hl : l.stackTraces = false) : zv_RE l yL_springOf wsL_springOf rkL_springOf D vwCl (tyJ cI cZ cJ) [.ref (q 0), .int i, .ref o] ((cR cI cZ q h k (nI b) y (nI n) r f0 f1 f2 f3 f4 f5 f6 f7 f8 f9 f10 f11 f12 f13 (nI n1) r1 g0 g1 g2 g3 g4 g5 g6 g7 g8 g9 g10 g11 g12 g13 bp bn) ++ [(o, .inl (cJ, 1, .inr (.inl u)))]) (fun v => v = some (.int 1)) := by
  refine zw_RE.of cL_springOf 4 (some .int) [(0, 9, 12, 19)] (by decide) rfl (Nat.le_of_ble_eq_true rfl) ?_
  intro pP eE sS mM aA bB mT cD A C htab hr hlk hA hE Q hQ
  refine zv_go (pc' := 0) rfl (lv' := [(0, .ref (q 0)), (1, .int i), (2, .ref o)]) rfl rfl rfl rfl ?_
  refine zv_aload_n C dL_springOf_0 1 rfl 2 rfl ?_
  refine zv_iconst (v := 0) C dL_springOf_1 2 rfl (by decide) ?_
  refine zv_aload_n C dL_springOf_2 3 rfl 0 rfl ?_
  refine zv_iload_n C dL_springOf_3 4 rfl 1 rfl ?_
  refine zv_tV (rest := [.int 0, .ref o]) C hA hE (k_X1_springOf_t l D cI cZ q h k b y n r f0 f1 f2 f3 f4 f5 f6 f7 f8 f9 f10 f11 f12 f13 n1 r1 g0 g1 g2 g3 g4 g5 g6 g7 g8 g9 g10 g11 g12 g13 bp bn i hn hf hl) (cwV 1 C.1.2.2.2.2 gL_springOf_X1_springOf rfl rfl rfl (by decide +kernel) ⟨Nat.le_of_ble_eq_true rfl, Nat.le_of_ble_eq_true rfl⟩) dL_springOf_4 (ci := 1) 0 rfl rfl rfl rfl (Nat.le_of_ble_eq_true rfl) ⟨Nat.le_of_ble_eq_true rfl, Nat.le_of_ble_eq_true rfl⟩ [0, 1] rfl [0, 1, 2, 3, 4, 5, 6, 7, 8, 9, 10, 11, 12, 13, 14, 15, 16, 17, 18, 19, 20, 21, 22, 23, 24, 25, 26, 27, 28, 29, 30, 31, 32] rfl (by decide) (zx_catch C hE (by decide) [] ⟨0, 9, 12, 19⟩ [] (htab.trans rfl) (fun _ h => absurd h List.not_mem_nil) (by decide) (by decide) (by decide +kernel) 12 rfl (fun qx => ?_))
  refine zv_astore_n C dL_springOf_12 13 rfl [(3, .ref qx), (0, .ref (q 0)), (1, .int i), (2, .ref o)] (by decide) rfl ?_
  refine zv_iconst (v := 1) C dL_springOf_13 14 rfl (by decide) ?_
  exact zv_iretR C hr hlk hA hQ dL_springOf_14 rfl
abbrev rkL_waterAt : Room := { frames := 8, cells := 1, slots := 6, locals := 132 }
set_option maxHeartbeats 4000000 in
set_option maxRecDepth 100000 in
theorem k_L_waterAt_t (l : Launch) (D : va_G) (cI cZ cJ : ClassId) (q h k : Nat → Nat) (b : Nat) (y : Int32) (n : Nat) (r : Int32) (f0 f1 f2 f3 f4 f5 f6 f7 f8 f9 f10 f11 f12 f13 : Nat → Int32) (n1 : Nat) (r1 : Int32) (g0 g1 g2 g3 g4 g5 g6 g7 g8 g9 g10 g11 g12 g13 : Nat → Int32) (bp bn : Nat → Int32) (o : Nat) (u : Nat → Int64) (i : Int32) (hn : n ≤ 16) (hf : isP n i = false) (hl : l.stackTraces = false) : zv_RE l yL_waterAt wsL_waterAt rkL_waterAt D vwCl (tyJ cI cZ cJ) [.ref (q 0), .int i, .ref o] ((cR cI cZ q h k (nI b) y (nI n) r f0 f1 f2 f3 f4 f5 f6 f7 f8 f9 f10 f11 f12 f13 (nI n1) r1 g0 g1 g2 g3 g4 g5 g6 g7 g8 g9 g10 g11 g12 g13 bp bn) ++ [(o, .inl (cJ, 1, .inr (.inl u)))]) (fun v => v = some (.int 1)) := by
  refine zw_RE.of cL_waterAt 4 (some .int) [(0, 9, 12, 19)] (by decide) rfl (Nat.le_of_ble_eq_true rfl) ?_
  intro pP eE sS mM aA bB mT cD A C htab hr hlk hA hE Q hQ
  refine zv_go (pc' := 0) rfl (lv' := [(0, .ref (q 0)), (1, .int i), (2, .ref o)]) rfl rfl rfl rfl ?_
  refine zv_aload_n C dL_waterAt_0 1 rfl 2 rfl ?_
  refine zv_iconst (v := 0) C dL_waterAt_1 2 rfl (by decide) ?_
  refine zv_aload_n C dL_waterAt_2 3 rfl 0 rfl ?_
  refine zv_iload_n C dL_waterAt_3 4 rfl 1 rfl ?_
  refine zv_tV (rest := [.int 0, .ref o]) C hA hE (k_X1_waterAt_t l D cI cZ q h k b y n r f0 f1 f2 f3 f4 f5 f6 f7 f8 f9 f10 f11 f12 f13 n1 r1 g0 g1 g2 g3 g4 g5 g6 g7 g8 g9 g10 g11 g12 g13 bp bn i hn hf hl) (cwV 1 C.1.2.2.2.2 gL_waterAt_X1_waterAt rfl rfl rfl (by decide +kernel) ⟨Nat.le_of_ble_eq_true rfl, Nat.le_of_ble_eq_true rfl⟩) dL_waterAt_4 (ci := 1) 0 rfl rfl rfl rfl (Nat.le_of_ble_eq_true rfl) ⟨Nat.le_of_ble_eq_true rfl, Nat.le_of_ble_eq_true rfl⟩ [0, 1] rfl [0, 1, 2, 3, 4, 5, 6, 7, 8, 9, 10, 11, 12, 13, 14, 15, 16, 17, 18, 19, 20, 21, 22, 23, 24, 25, 26, 27, 28, 29, 30, 31, 32] rfl (by decide) (zx_catch C hE (by decide) [] ⟨0, 9, 12, 19⟩ [] (htab.trans rfl) (fun _ h => absurd h List.not_mem_nil) (by decide) (by decide) (by decide +kernel) 12 rfl (fun qx => ?_))
  refine zv_astore_n C dL_waterAt_12 13 rfl [(3, .ref qx), (0, .ref (q 0)), (1, .int i), (2, .ref o)] (by decide) rfl ?_
  refine zv_iconst (v := 1) C dL_waterAt_13 14 rfl (by decide) ?_
  exact zv_iretR C hr hlk hA hQ dL_waterAt_14 rfl
abbrev rkL_lengthAt : Room := { frames := 8, cells := 1, slots := 6, locals := 132 }
set_option maxHeartbeats 4000000 in
set_option maxRecDepth 100000 in
theorem k_L_lengthAt_t (l : Launch) (D : va_G) (cI cZ cJ : ClassId) (q h k : Nat → Nat) (b : Nat) (y : Int32) (n : Nat) (r : Int32) (f0 f1 f2 f3 f4 f5 f6 f7 f8 f9 f10 f11 f12 f13 : Nat → Int32) (n1 : Nat) (r1 : Int32) (g0 g1 g2 g3 g4 g5 g6 g7 g8 g9 g10 g11 g12 g13 : Nat → Int32) (bp bn : Nat → Int32) (o : Nat) (u : Nat → Int64) (i : Int32) (hn : n ≤ 16) (hf : isP n i = false) (hl : l.stackTraces = false) : zv_RE l yL_lengthAt wsL_lengthAt rkL_lengthAt D vwCl (tyJ cI cZ cJ) [.ref (q 0), .int i, .ref o] ((cR cI cZ q h k (nI b) y (nI n) r f0 f1 f2 f3 f4 f5 f6 f7 f8 f9 f10 f11 f12 f13 (nI n1) r1 g0 g1 g2 g3 g4 g5 g6 g7 g8 g9 g10 g11 g12 g13 bp bn) ++ [(o, .inl (cJ, 1, .inr (.inl u)))]) (fun v => v = some (.int 1)) := by
  refine zw_RE.of cL_lengthAt 4 (some .int) [(0, 9, 12, 19)] (by decide) rfl (Nat.le_of_ble_eq_true rfl) ?_
  intro pP eE sS mM aA bB mT cD A C htab hr hlk hA hE Q hQ
  refine zv_go (pc' := 0) rfl (lv' := [(0, .ref (q 0)), (1, .int i), (2, .ref o)]) rfl rfl rfl rfl ?_
  refine zv_aload_n C dL_lengthAt_0 1 rfl 2 rfl ?_
  refine zv_iconst (v := 0) C dL_lengthAt_1 2 rfl (by decide) ?_
  refine zv_aload_n C dL_lengthAt_2 3 rfl 0 rfl ?_
  refine zv_iload_n C dL_lengthAt_3 4 rfl 1 rfl ?_
  refine zv_tV (rest := [.int 0, .ref o]) C hA hE (k_X1_lengthAt_t l D cI cZ q h k b y n r f0 f1 f2 f3 f4 f5 f6 f7 f8 f9 f10 f11 f12 f13 n1 r1 g0 g1 g2 g3 g4 g5 g6 g7 g8 g9 g10 g11 g12 g13 bp bn i hn hf hl) (cwV 1 C.1.2.2.2.2 gL_lengthAt_X1_lengthAt rfl rfl rfl (by decide +kernel) ⟨Nat.le_of_ble_eq_true rfl, Nat.le_of_ble_eq_true rfl⟩) dL_lengthAt_4 (ci := 1) 0 rfl rfl rfl rfl (Nat.le_of_ble_eq_true rfl) ⟨Nat.le_of_ble_eq_true rfl, Nat.le_of_ble_eq_true rfl⟩ [0, 1] rfl [0, 1, 2, 3, 4, 5, 6, 7, 8, 9, 10, 11, 12, 13, 14, 15, 16, 17, 18, 19, 20, 21, 22, 23, 24, 25, 26, 27, 28, 29, 30, 31, 32] rfl (by decide) (zx_catch C hE (by decide) [] ⟨0, 9, 12, 19⟩ [] (htab.trans rfl) (fun _ h => absurd h List.not_mem_nil) (by decide) (by decide) (by decide +kernel) 12 rfl (fun qx => ?_))
  refine zv_astore_n C dL_lengthAt_12 13 rfl [(3, .ref qx), (0, .ref (q 0)), (1, .int i), (2, .ref o)] (by decide) rfl ?_
  refine zv_iconst (v := 1) C dL_lengthAt_13 14 rfl (by decide) ?_
  exact zv_iretR C hr hlk hA hQ dL_lengthAt_14 rfl
abbrev rkL_mouthOf : Room := { frames := 8, cells := 1, slots := 6, locals := 132 }
set_option maxHeartbeats 4000000 in
set_option maxRecDepth 100000 in
theorem k_L_mouthOf_t (l : Launch) (D : va_G) (cI cZ cJ : ClassId) (q h k : Nat → Nat) (b : Nat) (y : Int32) (n : Nat) (r : Int32) (f0 f1 f2 f3 f4 f5 f6 f7 f8 f9 f10 f11 f12 f13 : Nat → Int32) (n1 : Nat) (r1 : Int32) (g0 g1 g2 g3 g4 g5 g6 g7 g8 g9 g10 g11 g12 g13 : Nat → Int32) (bp bn : Nat → Int32) (o : Nat) (u : Nat → Int64) (i : Int32) (hn : n ≤ 16) (hf : isP n i = false) (hl : l.stackTraces = false) : zv_RE l yL_mouthOf wsL_mouthOf rkL_mouthOf D vwCl (tyJ cI cZ cJ) [.ref (q 0), .int i, .ref o] ((cR cI cZ q h k (nI b) y (nI n) r f0 f1 f2 f3 f4 f5 f6 f7 f8 f9 f10 f11 f12 f13 (nI n1) r1 g0 g1 g2 g3 g4 g5 g6 g7 g8 g9 g10 g11 g12 g13 bp bn) ++ [(o, .inl (cJ, 1, .inr (.inl u)))]) (fun v => v = some (.int 1)) := by
  refine zw_RE.of cL_mouthOf 4 (some .int) [(0, 9, 12, 19)] (by decide) rfl (Nat.le_of_ble_eq_true rfl) ?_
  intro pP eE sS mM aA bB mT cD A C htab hr hlk hA hE Q hQ
  refine zv_go (pc' := 0) rfl (lv' := [(0, .ref (q 0)), (1, .int i), (2, .ref o)]) rfl rfl rfl rfl ?_
  refine zv_aload_n C dL_mouthOf_0 1 rfl 2 rfl ?_
  refine zv_iconst (v := 0) C dL_mouthOf_1 2 rfl (by decide) ?_
  refine zv_aload_n C dL_mouthOf_2 3 rfl 0 rfl ?_
  refine zv_iload_n C dL_mouthOf_3 4 rfl 1 rfl ?_
  refine zv_tV (rest := [.int 0, .ref o]) C hA hE (k_X1_mouthOf_t l D cI cZ q h k b y n r f0 f1 f2 f3 f4 f5 f6 f7 f8 f9 f10 f11 f12 f13 n1 r1 g0 g1 g2 g3 g4 g5 g6 g7 g8 g9 g10 g11 g12 g13 bp bn i hn hf hl) (cwV 1 C.1.2.2.2.2 gL_mouthOf_X1_mouthOf rfl rfl rfl (by decide +kernel) ⟨Nat.le_of_ble_eq_true rfl, Nat.le_of_ble_eq_true rfl⟩) dL_mouthOf_4 (ci := 1) 0 rfl rfl rfl rfl (Nat.le_of_ble_eq_true rfl) ⟨Nat.le_of_ble_eq_true rfl, Nat.le_of_ble_eq_true rfl⟩ [0, 1] rfl [0, 1, 2, 3, 4, 5, 6, 7, 8, 9, 10, 11, 12, 13, 14, 15, 16, 17, 18, 19, 20, 21, 22, 23, 24, 25, 26, 27, 28, 29, 30, 31, 32] rfl (by decide) (zx_catch C hE (by decide) [] ⟨0, 9, 12, 19⟩ [] (htab.trans rfl) (fun _ h => absurd h List.not_mem_nil) (by decide) (by decide) (by decide +kernel) 12 rfl (fun qx => ?_))
  refine zv_astore_n C dL_mouthOf_12 13 rfl [(3, .ref qx), (0, .ref (q 0)), (1, .int i), (2, .ref o)] (by decide) rfl ?_
  refine zv_iconst (v := 1) C dL_mouthOf_13 14 rfl (by decide) ?_
  exact zv_iretR C hr hlk hA hQ dL_mouthOf_14 rfl
abbrev rkL_placesAbove : Room := { frames := 8, cells := 1, slots := 6, locals := 134 }
set_option maxHeartbeats 4000000 in
set_option maxRecDepth 100000 in
theorem k_L_placesAbove_t (l : Launch) (D : va_G) (cI cZ cJ : ClassId) (q h k : Nat → Nat) (b : Nat) (y : Int32) (n : Nat) (r : Int32) (f0 f1 f2 f3 f4 f5 f6 f7 f8 f9 f10 f11 f12 f13 : Nat → Int32) (n1 : Nat) (r1 : Int32) (g0 g1 g2 g3 g4 g5 g6 g7 g8 g9 g10 g11 g12 g13 : Nat → Int32) (bp bn : Nat → Int32) (o : Nat) (u : Nat → Int64) (i : Int32) (hn : n ≤ 16) (hf : isP n i = false) (hl : l.stackTraces = false) : zv_RE l yL_placesAbove wsL_placesAbove rkL_placesAbove D vwCl (tyJ cI cZ cJ) [.ref (q 0), .int i, .ref o] ((cR cI cZ q h k (nI b) y (nI n) r f0 f1 f2 f3 f4 f5 f6 f7 f8 f9 f10 f11 f12 f13 (nI n1) r1 g0 g1 g2 g3 g4 g5 g6 g7 g8 g9 g10 g11 g12 g13 bp bn) ++ [(o, .inl (cJ, 1, .inr (.inl u)))]) (fun v => v = some (.int 1)) := by
  refine zw_RE.of cL_placesAbove 4 (some .int) [(0, 9, 12, 19)] (by decide) rfl (Nat.le_of_ble_eq_true rfl) ?_
  intro pP eE sS mM aA bB mT cD A C htab hr hlk hA hE Q hQ
  refine zv_go (pc' := 0) rfl (lv' := [(0, .ref (q 0)), (1, .int i), (2, .ref o)]) rfl rfl rfl rfl ?_
  refine zv_aload_n C dL_placesAbove_0 1 rfl 2 rfl ?_
  refine zv_iconst (v := 0) C dL_placesAbove_1 2 rfl (by decide) ?_
  refine zv_aload_n C dL_placesAbove_2 3 rfl 0 rfl ?_
  refine zv_iload_n C dL_placesAbove_3 4 rfl 1 rfl ?_
  refine zv_tV (rest := [.int 0, .ref o]) C hA hE (k_X1_placesAbove_t l D cI cZ q h k b y n r f0 f1 f2 f3 f4 f5 f6 f7 f8 f9 f10 f11 f12 f13 n1 r1 g0 g1 g2 g3 g4 g5 g6 g7 g8 g9 g10 g11 g12 g13 bp bn i hn hf hl) (cwV 1 C.1.2.2.2.2 gL_placesAbove_X1_placesAbove rfl rfl rfl (by decide +kernel) ⟨Nat.le_of_ble_eq_true rfl, Nat.le_of_ble_eq_true rfl⟩) dL_placesAbove_4 (ci := 1) 0 rfl rfl rfl rfl (Nat.le_of_ble_eq_true rfl) ⟨Nat.le_of_ble_eq_true rfl, Nat.le_of_ble_eq_true rfl⟩ [0, 1] rfl [0, 1, 2, 3, 4, 5, 6, 7, 8, 9, 10, 11, 12, 13, 14, 15, 16, 17, 18, 19, 20, 21, 22, 23, 24, 25, 26, 27, 28, 29, 30, 31, 32] rfl (by decide) (zx_catch C hE (by decide) [] ⟨0, 9, 12, 19⟩ [] (htab.trans rfl) (fun _ h => absurd h List.not_mem_nil) (by decide) (by decide) (by decide +kernel) 12 rfl (fun qx => ?_))
  refine zv_astore_n C dL_placesAbove_12 13 rfl [(3, .ref qx), (0, .ref (q 0)), (1, .int i), (2, .ref o)] (by decide) rfl ?_
  refine zv_iconst (v := 1) C dL_placesAbove_13 14 rfl (by decide) ?_
  exact zv_iretR C hr hlk hA hQ dL_placesAbove_14 rfl
abbrev rkL_nameAt : Room := { frames := 8, cells := 1, slots := 6, locals := 132 }
set_option maxHeartbeats 4000000 in
set_option maxRecDepth 100000 in
theorem k_L_nameAt_t (l : Launch) (D : va_G) (cI cZ cJ : ClassId) (q h k : Nat → Nat) (b : Nat) (y : Int32) (n : Nat) (r : Int32) (f0 f1 f2 f3 f4 f5 f6 f7 f8 f9 f10 f11 f12 f13 : Nat → Int32) (n1 : Nat) (r1 : Int32) (g0 g1 g2 g3 g4 g5 g6 g7 g8 g9 g10 g11 g12 g13 : Nat → Int32) (bp bn : Nat → Int32) (o : Nat) (u : Nat → Int64) (i : Int32) (hn : n ≤ 16) (hf : isP n i = false) (hl : l.stackTraces = false) : zv_RE l yL_nameAt wsL_nameAt rkL_nameAt D vwCl (tyJ cI cZ cJ) [.ref (q 0), .int i, .ref o] ((cR cI cZ q h k (nI b) y (nI n) r f0 f1 f2 f3 f4 f5 f6 f7 f8 f9 f10 f11 f12 f13 (nI n1) r1 g0 g1 g2 g3 g4 g5 g6 g7 g8 g9 g10 g11 g12 g13 bp bn) ++ [(o, .inl (cJ, 1, .inr (.inl u)))]) (fun v => v = some (.int 1)) := by
  refine zw_RE.of cL_nameAt 4 (some .int) [(0, 9, 12, 19)] (by decide) rfl (Nat.le_of_ble_eq_true rfl) ?_
  intro pP eE sS mM aA bB mT cD A C htab hr hlk hA hE Q hQ
  refine zv_go (pc' := 0) rfl (lv' := [(0, .ref (q 0)), (1, .int i), (2, .ref o)]) rfl rfl rfl rfl ?_
  refine zv_aload_n C dL_nameAt_0 1 rfl 2 rfl ?_
  refine zv_iconst (v := 0) C dL_nameAt_1 2 rfl (by decide) ?_
  refine zv_aload_n C dL_nameAt_2 3 rfl 0 rfl ?_
  refine zv_iload_n C dL_nameAt_3 4 rfl 1 rfl ?_
  refine zv_tV (rest := [.int 0, .ref o]) C hA hE (k_X1_nameAt_t l D cI cZ q h k b y n r f0 f1 f2 f3 f4 f5 f6 f7 f8 f9 f10 f11 f12 f13 n1 r1 g0 g1 g2 g3 g4 g5 g6 g7 g8 g9 g10 g11 g12 g13 bp bn i hn hf hl) (cwV 1 C.1.2.2.2.2 gL_nameAt_X1_nameAt rfl rfl rfl (by decide +kernel) ⟨Nat.le_of_ble_eq_true rfl, Nat.le_of_ble_eq_true rfl⟩) dL_nameAt_4 (ci := 1) 0 rfl rfl rfl rfl (Nat.le_of_ble_eq_true rfl) ⟨Nat.le_of_ble_eq_true rfl, Nat.le_of_ble_eq_true rfl⟩ [0, 1] rfl [0, 1, 2, 3, 4, 5, 6, 7, 8, 9, 10, 11, 12, 13, 14, 15, 16, 17, 18, 19, 20, 21, 22, 23, 24, 25, 26, 27, 28, 29, 30, 31, 32] rfl (by decide) (zx_catch C hE (by decide) [] ⟨0, 9, 12, 19⟩ [] (htab.trans rfl) (fun _ h => absurd h List.not_mem_nil) (by decide) (by decide) (by decide +kernel) 12 rfl (fun qx => ?_))
  refine zv_astore_n C dL_nameAt_12 13 rfl [(3, .ref qx), (0, .ref (q 0)), (1, .int i), (2, .ref o)] (by decide) rfl ?_
  refine zv_iconst (v := 1) C dL_nameAt_13 14 rfl (by decide) ?_
  exact zv_iretR C hr hlk hA hQ dL_nameAt_14 rfl
abbrev rkL_arguing : Room := { frames := 8, cells := 1, slots := 6, locals := 132 }
set_option maxHeartbeats 4000000 in
set_option maxRecDepth 100000 in
theorem k_L_arguing_t (l : Launch) (D : va_G) (cI cZ cJ : ClassId) (q h k : Nat → Nat) (b : Nat) (y : Int32) (n : Nat) (r : Int32) (f0 f1 f2 f3 f4 f5 f6 f7 f8 f9 f10 f11 f12 f13 : Nat → Int32) (n1 : Nat) (r1 : Int32) (g0 g1 g2 g3 g4 g5 g6 g7 g8 g9 g10 g11 g12 g13 : Nat → Int32) (bp bn : Nat → Int32) (o : Nat) (u : Nat → Int64) (i : Int32) (hn : n ≤ 16) (hf : isP n i = false) (hl : l.stackTraces = false) : zv_RE l yL_arguing wsL_arguing rkL_arguing D vwCl (tyJ cI cZ cJ) [.ref (q 0), .int i, .ref o] ((cR cI cZ q h k (nI b) y (nI n) r f0 f1 f2 f3 f4 f5 f6 f7 f8 f9 f10 f11 f12 f13 (nI n1) r1 g0 g1 g2 g3 g4 g5 g6 g7 g8 g9 g10 g11 g12 g13 bp bn) ++ [(o, .inl (cJ, 1, .inr (.inl u)))]) (fun v => v = some (.int 1)) := by
  refine zw_RE.of cL_arguing 4 (some .int) [(0, 9, 12, 19)] (by decide) rfl (Nat.le_of_ble_eq_true rfl) ?_
  intro pP eE sS mM aA bB mT cD A C htab hr hlk hA hE Q hQ
  refine zv_go (pc' := 0) rfl (lv' := [(0, .ref (q 0)), (1, .int i), (2, .ref o)]) rfl rfl rfl rfl ?_
  refine zv_aload_n C dL_arguing_0 1 rfl 2 rfl ?_
  refine zv_iconst (v := 0) C dL_arguing_1 2 rfl (by decide) ?_
  refine zv_aload_n C dL_arguing_2 3 rfl 0 rfl ?_
  refine zv_iload_n C dL_arguing_3 4 rfl 1 rfl ?_
  refine zv_tV (rest := [.int 0, .ref o]) C hA hE (k_X1_arguing_t l D cI cZ q h k b y n r f0 f1 f2 f3 f4 f5 f6 f7 f8 f9 f10 f11 f12 f13 n1 r1 g0 g1 g2 g3 g4 g5 g6 g7 g8 g9 g10 g11 g12 g13 bp bn i hn hf hl) (cwV 1 C.1.2.2.2.2 gL_arguing_X1_arguing rfl rfl rfl (by decide +kernel) ⟨Nat.le_of_ble_eq_true rfl, Nat.le_of_ble_eq_true rfl⟩) dL_arguing_4 (ci := 1) 0 rfl rfl rfl rfl (Nat.le_of_ble_eq_true rfl) ⟨Nat.le_of_ble_eq_true rfl, Nat.le_of_ble_eq_true rfl⟩ [0, 1] rfl [0, 1, 2, 3, 4, 5, 6, 7, 8, 9, 10, 11, 12, 13, 14, 15, 16, 17, 18, 19, 20, 21, 22, 23, 24, 25, 26, 27, 28, 29, 30, 31, 32] rfl (by decide) (zx_catch C hE (by decide) [] ⟨0, 9, 12, 19⟩ [] (htab.trans rfl) (fun _ h => absurd h List.not_mem_nil) (by decide) (by decide) (by decide +kernel) 12 rfl (fun qx => ?_))
  refine zv_astore_n C dL_arguing_12 13 rfl [(3, .ref qx), (0, .ref (q 0)), (1, .int i), (2, .ref o)] (by decide) rfl ?_
  refine zv_iconst (v := 1) C dL_arguing_13 14 rfl (by decide) ?_
  exact zv_iretR C hr hlk hA hQ dL_arguing_14 rfl
abbrev rkL_isArgued : Room := { frames := 8, cells := 1, slots := 6, locals := 132 }
set_option maxHeartbeats 4000000 in
set_option maxRecDepth 100000 in
theorem k_L_isArgued_t (l : Launch) (D : va_G) (cI cZ cJ : ClassId) (q h k : Nat → Nat) (b : Nat) (y : Int32) (n : Nat) (r : Int32) (f0 f1 f2 f3 f4 f5 f6 f7 f8 f9 f10 f11 f12 f13 : Nat → Int32) (n1 : Nat) (r1 : Int32) (g0 g1 g2 g3 g4 g5 g6 g7 g8 g9 g10 g11 g12 g13 : Nat → Int32) (bp bn : Nat → Int32) (o : Nat) (u : Nat → Int64) (i : Int32) (hn : n ≤ 16) (hf : isP n i = false) (hl : l.stackTraces = false) : zv_RE l yL_isArgued wsL_isArgued rkL_isArgued D vwCl (tyJ cI cZ cJ) [.ref (q 0), .int i, .ref o] ((cR cI cZ q h k (nI b) y (nI n) r f0 f1 f2 f3 f4 f5 f6 f7 f8 f9 f10 f11 f12 f13 (nI n1) r1 g0 g1 g2 g3 g4 g5 g6 g7 g8 g9 g10 g11 g12 g13 bp bn) ++ [(o, .inl (cJ, 1, .inr (.inl u)))]) (fun v => v = some (.int 1)) := by
  refine zw_RE.of cL_isArgued 4 (some .int) [(0, 16, 19, 19)] (by decide) rfl (Nat.le_of_ble_eq_true rfl) ?_
  intro pP eE sS mM aA bB mT cD A C htab hr hlk hA hE Q hQ
  refine zv_go (pc' := 0) rfl (lv' := [(0, .ref (q 0)), (1, .int i), (2, .ref o)]) rfl rfl rfl rfl ?_
  refine zv_aload_n C dL_isArgued_0 1 rfl 2 rfl ?_
  refine zv_iconst (v := 0) C dL_isArgued_1 2 rfl (by decide) ?_
  refine zv_aload_n C dL_isArgued_2 3 rfl 0 rfl ?_
  refine zv_iload_n C dL_isArgued_3 4 rfl 1 rfl ?_
  refine zv_tV (rest := [.int 0, .ref o]) C hA hE (k_X1_isArgued_t l D cI cZ q h k b y n r f0 f1 f2 f3 f4 f5 f6 f7 f8 f9 f10 f11 f12 f13 n1 r1 g0 g1 g2 g3 g4 g5 g6 g7 g8 g9 g10 g11 g12 g13 bp bn i hn hf hl) (cwV 1 C.1.2.2.2.2 gL_isArgued_X1_isArgued rfl rfl rfl (by decide +kernel) ⟨Nat.le_of_ble_eq_true rfl, Nat.le_of_ble_eq_true rfl⟩) dL_isArgued_4 (ci := 1) 0 rfl rfl rfl rfl (Nat.le_of_ble_eq_true rfl) ⟨Nat.le_of_ble_eq_true rfl, Nat.le_of_ble_eq_true rfl⟩ [0, 1] rfl [0, 1, 2, 3, 4, 5, 6, 7, 8, 9, 10, 11, 12, 13, 14, 15, 16, 17, 18, 19, 20, 21, 22, 23, 24, 25, 26, 27, 28, 29, 30, 31, 32] rfl (by decide) (zx_catch C hE (by decide) [] ⟨0, 16, 19, 19⟩ [] (htab.trans rfl) (fun _ h => absurd h List.not_mem_nil) (by decide) (by decide) (by decide +kernel) 19 rfl (fun qx => ?_))
  refine zv_astore_n C dL_isArgued_19 20 rfl [(3, .ref qx), (0, .ref (q 0)), (1, .int i), (2, .ref o)] (by decide) rfl ?_
  refine zv_iconst (v := 1) C dL_isArgued_20 21 rfl (by decide) ?_
  exact zv_iretR C hr hlk hA hQ dL_isArgued_21 rfl
abbrev rkL_insultsAt : Room := { frames := 8, cells := 1, slots := 6, locals := 134 }
set_option maxHeartbeats 4000000 in
set_option maxRecDepth 100000 in
theorem k_L_insultsAt_t (l : Launch) (D : va_G) (cI cZ cJ : ClassId) (q h k : Nat → Nat) (b : Nat) (y : Int32) (n : Nat) (r : Int32) (f0 f1 f2 f3 f4 f5 f6 f7 f8 f9 f10 f11 f12 f13 : Nat → Int32) (n1 : Nat) (r1 : Int32) (g0 g1 g2 g3 g4 g5 g6 g7 g8 g9 g10 g11 g12 g13 : Nat → Int32) (bp bn : Nat → Int32) (o : Nat) (u : Nat → Int64) (i : Int32) (hn : n ≤ 16) (hf : isP n i = false) (hl : l.stackTraces = false) : zv_RE l yL_insultsAt wsL_insultsAt rkL_insultsAt D vwCl (tyJ cI cZ cJ) [.ref (q 0), .int i, .ref o] ((cR cI cZ q h k (nI b) y (nI n) r f0 f1 f2 f3 f4 f5 f6 f7 f8 f9 f10 f11 f12 f13 (nI n1) r1 g0 g1 g2 g3 g4 g5 g6 g7 g8 g9 g10 g11 g12 g13 bp bn) ++ [(o, .inl (cJ, 1, .inr (.inl u)))]) (fun v => v = some (.int 1)) := by
  refine zw_RE.of cL_insultsAt 4 (some .int) [(0, 9, 12, 19)] (by decide) rfl (Nat.le_of_ble_eq_true rfl) ?_
  intro pP eE sS mM aA bB mT cD A C htab hr hlk hA hE Q hQ
  refine zv_go (pc' := 0) rfl (lv' := [(0, .ref (q 0)), (1, .int i), (2, .ref o)]) rfl rfl rfl rfl ?_
  refine zv_aload_n C dL_insultsAt_0 1 rfl 2 rfl ?_
  refine zv_iconst (v := 0) C dL_insultsAt_1 2 rfl (by decide) ?_
  refine zv_aload_n C dL_insultsAt_2 3 rfl 0 rfl ?_
  refine zv_iload_n C dL_insultsAt_3 4 rfl 1 rfl ?_
  refine zv_tV (rest := [.int 0, .ref o]) C hA hE (k_X1_insultsAt_t l D cI cZ q h k b y n r f0 f1 f2 f3 f4 f5 f6 f7 f8 f9 f10 f11 f12 f13 n1 r1 g0 g1 g2 g3 g4 g5 g6 g7 g8 g9 g10 g11 g12 g13 bp bn i hn hf hl) (cwV 1 C.1.2.2.2.2 gL_insultsAt_X1_insultsAt rfl rfl rfl (by decide +kernel) ⟨Nat.le_of_ble_eq_true rfl, Nat.le_of_ble_eq_true rfl⟩) dL_insultsAt_4 (ci := 1) 0 rfl rfl rfl rfl (Nat.le_of_ble_eq_true rfl) ⟨Nat.le_of_ble_eq_true rfl, Nat.le_of_ble_eq_true rfl⟩ [0, 1] rfl [0, 1, 2, 3, 4, 5, 6, 7, 8, 9, 10, 11, 12, 13, 14, 15, 16, 17, 18, 19, 20, 21, 22, 23, 24, 25, 26, 27, 28, 29, 30, 31, 32] rfl (by decide) (zx_catch C hE (by decide) [] ⟨0, 9, 12, 19⟩ [] (htab.trans rfl) (fun _ h => absurd h List.not_mem_nil) (by decide) (by decide) (by decide +kernel) 12 rfl (fun qx => ?_))
  refine zv_astore_n C dL_insultsAt_12 13 rfl [(3, .ref qx), (0, .ref (q 0)), (1, .int i), (2, .ref o)] (by decide) rfl ?_
  refine zv_iconst (v := 1) C dL_insultsAt_13 14 rfl (by decide) ?_
  exact zv_iretR C hr hlk hA hQ dL_insultsAt_14 rfl
abbrev rkL_yearsUntilRenamed : Room := { frames := 8, cells := 1, slots := 6, locals := 133 }
set_option maxHeartbeats 4000000 in
set_option maxRecDepth 100000 in
theorem k_L_yearsUntilRenamed_t (l : Launch) (D : va_G) (cI cZ cJ : ClassId) (q h k : Nat → Nat) (b : Nat) (y : Int32) (n : Nat) (r : Int32) (f0 f1 f2 f3 f4 f5 f6 f7 f8 f9 f10 f11 f12 f13 : Nat → Int32) (n1 : Nat) (r1 : Int32) (g0 g1 g2 g3 g4 g5 g6 g7 g8 g9 g10 g11 g12 g13 : Nat → Int32) (bp bn : Nat → Int32) (o : Nat) (u : Nat → Int64) (i : Int32) (hn : n ≤ 16) (hf : isP n i = false) (hl : l.stackTraces = false) : zv_RE l yL_yearsUntilRenamed wsL_yearsUntilRenamed rkL_yearsUntilRenamed D vwCl (tyJ cI cZ cJ) [.ref (q 0), .int i, .ref o] ((cR cI cZ q h k (nI b) y (nI n) r f0 f1 f2 f3 f4 f5 f6 f7 f8 f9 f10 f11 f12 f13 (nI n1) r1 g0 g1 g2 g3 g4 g5 g6 g7 g8 g9 g10 g11 g12 g13 bp bn) ++ [(o, .inl (cJ, 1, .inr (.inl u)))]) (fun v => v = some (.int 1)) := by
  refine zw_RE.of cL_yearsUntilRenamed 4 (some .int) [(0, 9, 12, 19)] (by decide) rfl (Nat.le_of_ble_eq_true rfl) ?_
  intro pP eE sS mM aA bB mT cD A C htab hr hlk hA hE Q hQ
  refine zv_go (pc' := 0) rfl (lv' := [(0, .ref (q 0)), (1, .int i), (2, .ref o)]) rfl rfl rfl rfl ?_
  refine zv_aload_n C dL_yearsUntilRenamed_0 1 rfl 2 rfl ?_
  refine zv_iconst (v := 0) C dL_yearsUntilRenamed_1 2 rfl (by decide) ?_
  refine zv_aload_n C dL_yearsUntilRenamed_2 3 rfl 0 rfl ?_
  refine zv_iload_n C dL_yearsUntilRenamed_3 4 rfl 1 rfl ?_
  refine zv_tV (rest := [.int 0, .ref o]) C hA hE (k_X1_yearsUntilRenamed_t l D cI cZ q h k b y n r f0 f1 f2 f3 f4 f5 f6 f7 f8 f9 f10 f11 f12 f13 n1 r1 g0 g1 g2 g3 g4 g5 g6 g7 g8 g9 g10 g11 g12 g13 bp bn i hn hf hl) (cwV 1 C.1.2.2.2.2 gL_yearsUntilRenamed_X1_yearsUntilRenamed rfl rfl rfl (by decide +kernel) ⟨Nat.le_of_ble_eq_true rfl, Nat.le_of_ble_eq_true rfl⟩) dL_yearsUntilRenamed_4 (ci := 1) 0 rfl rfl rfl rfl (Nat.le_of_ble_eq_true rfl) ⟨Nat.le_of_ble_eq_true rfl, Nat.le_of_ble_eq_true rfl⟩ [0, 1] rfl [0, 1, 2, 3, 4, 5, 6, 7, 8, 9, 10, 11, 12, 13, 14, 15, 16, 17, 18, 19, 20, 21, 22, 23, 24, 25, 26, 27, 28, 29, 30, 31, 32] rfl (by decide) (zx_catch C hE (by decide) [] ⟨0, 9, 12, 19⟩ [] (htab.trans rfl) (fun _ h => absurd h List.not_mem_nil) (by decide) (by decide) (by decide +kernel) 12 rfl (fun qx => ?_))
  refine zv_astore_n C dL_yearsUntilRenamed_12 13 rfl [(3, .ref qx), (0, .ref (q 0)), (1, .int i), (2, .ref o)] (by decide) rfl ?_
  refine zv_iconst (v := 1) C dL_yearsUntilRenamed_13 14 rfl (by decide) ?_
  exact zv_iretR C hr hlk hA hQ dL_yearsUntilRenamed_14 rfl
abbrev rkL_renamedByDelta : Room := { frames := 8, cells := 1, slots := 6, locals := 132 }
set_option maxHeartbeats 4000000 in
set_option maxRecDepth 100000 in
theorem k_L_renamedByDelta_t (l : Launch) (D : va_G) (cI cZ cJ : ClassId) (q h k : Nat → Nat) (b : Nat) (y : Int32) (n : Nat) (r : Int32) (f0 f1 f2 f3 f4 f5 f6 f7 f8 f9 f10 f11 f12 f13 : Nat → Int32) (n1 : Nat) (r1 : Int32) (g0 g1 g2 g3 g4 g5 g6 g7 g8 g9 g10 g11 g12 g13 : Nat → Int32) (bp bn : Nat → Int32) (o : Nat) (u : Nat → Int64) (i : Int32) (hn : n ≤ 16) (hf : isP n i = false) (hl : l.stackTraces = false) : zv_RE l yL_renamedByDelta wsL_renamedByDelta rkL_renamedByDelta D vwCl (tyJ cI cZ cJ) [.ref (q 0), .int i, .ref o] ((cR cI cZ q h k (nI b) y (nI n) r f0 f1 f2 f3 f4 f5 f6 f7 f8 f9 f10 f11 f12 f13 (nI n1) r1 g0 g1 g2 g3 g4 g5 g6 g7 g8 g9 g10 g11 g12 g13 bp bn) ++ [(o, .inl (cJ, 1, .inr (.inl u)))]) (fun v => v = some (.int 1)) := by
  refine zw_RE.of cL_renamedByDelta 4 (some .int) [(0, 9, 12, 19)] (by decide) rfl (Nat.le_of_ble_eq_true rfl) ?_
  intro pP eE sS mM aA bB mT cD A C htab hr hlk hA hE Q hQ
  refine zv_go (pc' := 0) rfl (lv' := [(0, .ref (q 0)), (1, .int i), (2, .ref o)]) rfl rfl rfl rfl ?_
  refine zv_aload_n C dL_renamedByDelta_0 1 rfl 2 rfl ?_
  refine zv_iconst (v := 0) C dL_renamedByDelta_1 2 rfl (by decide) ?_
  refine zv_aload_n C dL_renamedByDelta_2 3 rfl 0 rfl ?_
  refine zv_iload_n C dL_renamedByDelta_3 4 rfl 1 rfl ?_
  refine zv_tV (rest := [.int 0, .ref o]) C hA hE (k_X1_renamedByDelta_t l D cI cZ q h k b y n r f0 f1 f2 f3 f4 f5 f6 f7 f8 f9 f10 f11 f12 f13 n1 r1 g0 g1 g2 g3 g4 g5 g6 g7 g8 g9 g10 g11 g12 g13 bp bn i hn hf hl) (cwV 1 C.1.2.2.2.2 gL_renamedByDelta_X1_renamedByDelta rfl rfl rfl (by decide +kernel) ⟨Nat.le_of_ble_eq_true rfl, Nat.le_of_ble_eq_true rfl⟩) dL_renamedByDelta_4 (ci := 1) 0 rfl rfl rfl rfl (Nat.le_of_ble_eq_true rfl) ⟨Nat.le_of_ble_eq_true rfl, Nat.le_of_ble_eq_true rfl⟩ [0, 1] rfl [0, 1, 2, 3, 4, 5, 6, 7, 8, 9, 10, 11, 12, 13, 14, 15, 16, 17, 18, 19, 20, 21, 22, 23, 24, 25, 26, 27, 28, 29, 30, 31, 32] rfl (by decide) (zx_catch C hE (by decide) [] ⟨0, 9, 12, 19⟩ [] (htab.trans rfl) (fun _ h => absurd h List.not_mem_nil) (by decide) (by decide) (by decide +kernel) 12 rfl (fun qx => ?_))
  refine zv_astore_n C dL_renamedByDelta_12 13 rfl [(3, .ref qx), (0, .ref (q 0)), (1, .int i), (2, .ref o)] (by decide) rfl ?_
  refine zv_iconst (v := 1) C dL_renamedByDelta_13 14 rfl (by decide) ?_
  exact zv_iretR C hr hlk hA hQ dL_renamedByDelta_14 rfl
set_option maxHeartbeats 4000000 in
set_option maxRecDepth 100000 in
theorem k_L_build_t2 (l : Launch) (D : va_G) (cI cZ cJ : ClassId) (q h k : Nat → Nat) (b : Nat) (y : Int32) (n : Nat) (r : Int32) (f0 f1 f2 f3 f4 f5 f6 f7 f8 f9 f10 f11 f12 f13 : Nat → Int32) (n1 : Nat) (r1 : Int32) (g0 g1 g2 g3 g4 g5 g6 g7 g8 g9 g10 g11 g12 g13 : Nat → Int32) (bp bn : Nat → Int32) (o : Nat) (u : Nat → Int64) (p : Nat) (hn : n ≤ 16) (hp : p < n) (hb : b = 16) (hl : l.stackTraces = false) : zv_RE l yL_build wsL_build rkL_build D vwCl (tyJ cI cZ cJ) [.ref (q 0), .int (nI p), .ref o] ((cR cI cZ q h k (nI b) y (nI n) r f0 f1 f2 f3 f4 f5 f6 f7 f8 f9 f10 f11 f12 f13 (nI n1) r1 g0 g1 g2 g3 g4 g5 g6 g7 g8 g9 g10 g11 g12 g13 bp bn) ++ [(o, .inl (cJ, 1, .inr (.inl u)))]) (fun v => v = some (.int 2)) := by
  refine zw_RE.of cL_build 4 (some .int) [(0, 9, 12, 19), (0, 9, 15, 13)] (by decide) rfl (Nat.le_of_ble_eq_true rfl) ?_
  intro pP eE sS mM aA bB mT cD A C htab hr hlk hA hE Q hQ
  refine zv_go (pc' := 0) rfl (lv' := [(0, .ref (q 0)), (1, .int (nI p)), (2, .ref o)]) rfl rfl rfl rfl ?_
  refine zv_aload_n C dL_build_0 1 rfl 2 rfl ?_
  refine zv_iconst (v := 0) C dL_build_1 2 rfl (by decide) ?_
  refine zv_aload_n C dL_build_2 3 rfl 0 rfl ?_
  refine zv_iload_n C dL_build_3 4 rfl 1 rfl ?_
  refine zv_tV (rest := [.int 0, .ref o]) C hA hE (k_X1_build_t2 l D cI cZ q h k b y n r f0 f1 f2 f3 f4 f5 f6 f7 f8 f9 f10 f11 f12 f13 n1 r1 g0 g1 g2 g3 g4 g5 g6 g7 g8 g9 g10 g11 g12 g13 bp bn p hn hp hb hl) (cwV 1 C.1.2.2.2.2 gL_build_X1_build rfl rfl rfl (by decide +kernel) ⟨Nat.le_of_ble_eq_true rfl, Nat.le_of_ble_eq_true rfl⟩) dL_build_4 (ci := 1) 0 rfl rfl rfl rfl (Nat.le_of_ble_eq_true rfl) ⟨Nat.le_of_ble_eq_true rfl, Nat.le_of_ble_eq_true rfl⟩ [0, 1] rfl [0, 1, 2, 3, 4, 5, 6, 7, 8, 9, 10, 11, 12, 13, 14, 15, 16, 17, 18, 19, 20, 21, 22, 23, 24, 25, 26, 27, 28, 29, 30, 31, 32] rfl (by decide) (zx_catch C hE (by decide) [⟨0, 9, 12, 19⟩] ⟨0, 9, 15, 13⟩ [] (htab.trans rfl) (List.forall_mem_cons.mpr ⟨Or.inr ⟨by decide, "java/lang/IndexOutOfBoundsException", by decide +kernel, by decide⟩, (fun _ h => absurd h List.not_mem_nil)⟩) (by decide) (by decide) (by decide +kernel) 15 rfl (fun qx => ?_))
  refine zv_astore_n C dL_build_15 16 rfl [(3, .ref qx), (0, .ref (q 0)), (1, .int (nI p)), (2, .ref o)] (by decide) rfl ?_
  refine zv_iconst (v := 2) C dL_build_16 17 rfl (by decide) ?_
  exact zv_iretR C hr hlk hA hQ dL_build_17 rfl
abbrev rkL_placeOf : Room := { frames := 8, cells := 1, slots := 6, locals := 132 }
set_option maxHeartbeats 4000000 in
set_option maxRecDepth 100000 in
theorem k_L_placeOf_t (l : Launch) (D : va_G) (cI cZ cJ : ClassId) (q h k : Nat → Nat) (b : Nat) (y : Int32) (n : Nat) (r : Int32) (f0 f1 f2 f3 f4 f5 f6 f7 f8 f9 f10 f11 f12 f13 : Nat → Int32) (n1 : Nat) (r1 : Int32) (g0 g1 g2 g3 g4 g5 g6 g7 g8 g9 g10 g11 g12 g13 : Nat → Int32) (bp bn : Nat → Int32) (o : Nat) (u : Nat → Int64) (i : Int32) (hb : b ≤ 16) (hf : isP b i = false) (hl : l.stackTraces = false) : zv_RE l yL_placeOf wsL_placeOf rkL_placeOf D vwCl (tyJ cI cZ cJ) [.ref (q 0), .int i, .ref o] ((cR cI cZ q h k (nI b) y (nI n) r f0 f1 f2 f3 f4 f5 f6 f7 f8 f9 f10 f11 f12 f13 (nI n1) r1 g0 g1 g2 g3 g4 g5 g6 g7 g8 g9 g10 g11 g12 g13 bp bn) ++ [(o, .inl (cJ, 1, .inr (.inl u)))]) (fun v => v = some (.int 1)) := by
  refine zw_RE.of cL_placeOf 4 (some .int) [(0, 9, 12, 19)] (by decide) rfl (Nat.le_of_ble_eq_true rfl) ?_
  intro pP eE sS mM aA bB mT cD A C htab hr hlk hA hE Q hQ
  refine zv_go (pc' := 0) rfl (lv' := [(0, .ref (q 0)), (1, .int i), (2, .ref o)]) rfl rfl rfl rfl ?_
  refine zv_aload_n C dL_placeOf_0 1 rfl 2 rfl ?_
  refine zv_iconst (v := 0) C dL_placeOf_1 2 rfl (by decide) ?_
  refine zv_aload_n C dL_placeOf_2 3 rfl 0 rfl ?_
  refine zv_iload_n C dL_placeOf_3 4 rfl 1 rfl ?_
  refine zv_tV (rest := [.int 0, .ref o]) C hA hE (k_X1_placeOf_t l D cI cZ q h k b y n r f0 f1 f2 f3 f4 f5 f6 f7 f8 f9 f10 f11 f12 f13 n1 r1 g0 g1 g2 g3 g4 g5 g6 g7 g8 g9 g10 g11 g12 g13 bp bn i hb hf hl) (cwV 1 C.1.2.2.2.2 gL_placeOf_X1_placeOf rfl rfl rfl (by decide +kernel) ⟨Nat.le_of_ble_eq_true rfl, Nat.le_of_ble_eq_true rfl⟩) dL_placeOf_4 (ci := 1) 0 rfl rfl rfl rfl (Nat.le_of_ble_eq_true rfl) ⟨Nat.le_of_ble_eq_true rfl, Nat.le_of_ble_eq_true rfl⟩ [0, 1] rfl [0, 1, 2, 3, 4, 5, 6, 7, 8, 9, 10, 11, 12, 13, 14, 15, 16, 17, 18, 19, 20, 21, 22, 23, 24, 25, 26, 27, 28, 29, 30, 31, 32] rfl (by decide) (zx_catch C hE (by decide) [] ⟨0, 9, 12, 19⟩ [] (htab.trans rfl) (fun _ h => absurd h List.not_mem_nil) (by decide) (by decide) (by decide +kernel) 12 rfl (fun qx => ?_))
  refine zv_astore_n C dL_placeOf_12 13 rfl [(3, .ref qx), (0, .ref (q 0)), (1, .int i), (2, .ref o)] (by decide) rfl ?_
  refine zv_iconst (v := 1) C dL_placeOf_13 14 rfl (by decide) ?_
  exact zv_iretR C hr hlk hA hQ dL_placeOf_14 rfl
abbrev rkL_keeps : Room := { frames := 8, cells := 1, slots := 6, locals := 132 }
set_option maxHeartbeats 4000000 in
set_option maxRecDepth 100000 in
theorem k_L_keeps_t (l : Launch) (D : va_G) (cI cZ cJ : ClassId) (q h k : Nat → Nat) (b : Nat) (y : Int32) (n : Nat) (r : Int32) (f0 f1 f2 f3 f4 f5 f6 f7 f8 f9 f10 f11 f12 f13 : Nat → Int32) (n1 : Nat) (r1 : Int32) (g0 g1 g2 g3 g4 g5 g6 g7 g8 g9 g10 g11 g12 g13 : Nat → Int32) (bp bn : Nat → Int32) (o : Nat) (u : Nat → Int64) (i : Int32) (hb : b ≤ 16) (hf : isP b i = false) (hl : l.stackTraces = false) : zv_RE l yL_keeps wsL_keeps rkL_keeps D vwCl (tyJ cI cZ cJ) [.ref (q 0), .int i, .ref o] ((cR cI cZ q h k (nI b) y (nI n) r f0 f1 f2 f3 f4 f5 f6 f7 f8 f9 f10 f11 f12 f13 (nI n1) r1 g0 g1 g2 g3 g4 g5 g6 g7 g8 g9 g10 g11 g12 g13 bp bn) ++ [(o, .inl (cJ, 1, .inr (.inl u)))]) (fun v => v = some (.int 1)) := by
  refine zw_RE.of cL_keeps 4 (some .int) [(0, 9, 12, 19)] (by decide) rfl (Nat.le_of_ble_eq_true rfl) ?_
  intro pP eE sS mM aA bB mT cD A C htab hr hlk hA hE Q hQ
  refine zv_go (pc' := 0) rfl (lv' := [(0, .ref (q 0)), (1, .int i), (2, .ref o)]) rfl rfl rfl rfl ?_
  refine zv_aload_n C dL_keeps_0 1 rfl 2 rfl ?_
  refine zv_iconst (v := 0) C dL_keeps_1 2 rfl (by decide) ?_
  refine zv_aload_n C dL_keeps_2 3 rfl 0 rfl ?_
  refine zv_iload_n C dL_keeps_3 4 rfl 1 rfl ?_
  refine zv_tV (rest := [.int 0, .ref o]) C hA hE (k_X1_keeps_t l D cI cZ q h k b y n r f0 f1 f2 f3 f4 f5 f6 f7 f8 f9 f10 f11 f12 f13 n1 r1 g0 g1 g2 g3 g4 g5 g6 g7 g8 g9 g10 g11 g12 g13 bp bn i hb hf hl) (cwV 1 C.1.2.2.2.2 gL_keeps_X1_keeps rfl rfl rfl (by decide +kernel) ⟨Nat.le_of_ble_eq_true rfl, Nat.le_of_ble_eq_true rfl⟩) dL_keeps_4 (ci := 1) 0 rfl rfl rfl rfl (Nat.le_of_ble_eq_true rfl) ⟨Nat.le_of_ble_eq_true rfl, Nat.le_of_ble_eq_true rfl⟩ [0, 1] rfl [0, 1, 2, 3, 4, 5, 6, 7, 8, 9, 10, 11, 12, 13, 14, 15, 16, 17, 18, 19, 20, 21, 22, 23, 24, 25, 26, 27, 28, 29, 30, 31, 32] rfl (by decide) (zx_catch C hE (by decide) [] ⟨0, 9, 12, 19⟩ [] (htab.trans rfl) (fun _ h => absurd h List.not_mem_nil) (by decide) (by decide) (by decide +kernel) 12 rfl (fun qx => ?_))
  refine zv_astore_n C dL_keeps_12 13 rfl [(3, .ref qx), (0, .ref (q 0)), (1, .int i), (2, .ref o)] (by decide) rfl ?_
  refine zv_iconst (v := 1) C dL_keeps_13 14 rfl (by decide) ?_
  exact zv_iretR C hr hlk hA hQ dL_keeps_14 rfl
abbrev rkL_isInsulted : Room := { frames := 8, cells := 1, slots := 6, locals := 132 }
set_option maxHeartbeats 4000000 in
set_option maxRecDepth 100000 in
theorem k_L_isInsulted_t (l : Launch) (D : va_G) (cI cZ cJ : ClassId) (q h k : Nat → Nat) (b : Nat) (y : Int32) (n : Nat) (r : Int32) (f0 f1 f2 f3 f4 f5 f6 f7 f8 f9 f10 f11 f12 f13 : Nat → Int32) (n1 : Nat) (r1 : Int32) (g0 g1 g2 g3 g4 g5 g6 g7 g8 g9 g10 g11 g12 g13 : Nat → Int32) (bp bn : Nat → Int32) (o : Nat) (u : Nat → Int64) (i : Int32) (hb : b ≤ 16) (hf : isP b i = false) (hl : l.stackTraces = false) : zv_RE l yL_isInsulted wsL_isInsulted rkL_isInsulted D vwCl (tyJ cI cZ cJ) [.ref (q 0), .int i, .ref o] ((cR cI cZ q h k (nI b) y (nI n) r f0 f1 f2 f3 f4 f5 f6 f7 f8 f9 f10 f11 f12 f13 (nI n1) r1 g0 g1 g2 g3 g4 g5 g6 g7 g8 g9 g10 g11 g12 g13 bp bn) ++ [(o, .inl (cJ, 1, .inr (.inl u)))]) (fun v => v = some (.int 1)) := by
  refine zw_RE.of cL_isInsulted 4 (some .int) [(0, 16, 19, 19)] (by decide) rfl (Nat.le_of_ble_eq_true rfl) ?_
  intro pP eE sS mM aA bB mT cD A C htab hr hlk hA hE Q hQ
  refine zv_go (pc' := 0) rfl (lv' := [(0, .ref (q 0)), (1, .int i), (2, .ref o)]) rfl rfl rfl rfl ?_
  refine zv_aload_n C dL_isInsulted_0 1 rfl 2 rfl ?_
  refine zv_iconst (v := 0) C dL_isInsulted_1 2 rfl (by decide) ?_
  refine zv_aload_n C dL_isInsulted_2 3 rfl 0 rfl ?_
  refine zv_iload_n C dL_isInsulted_3 4 rfl 1 rfl ?_
  refine zv_tV (rest := [.int 0, .ref o]) C hA hE (k_X1_isInsulted_t l D cI cZ q h k b y n r f0 f1 f2 f3 f4 f5 f6 f7 f8 f9 f10 f11 f12 f13 n1 r1 g0 g1 g2 g3 g4 g5 g6 g7 g8 g9 g10 g11 g12 g13 bp bn i hb hf hl) (cwV 1 C.1.2.2.2.2 gL_isInsulted_X1_isInsulted rfl rfl rfl (by decide +kernel) ⟨Nat.le_of_ble_eq_true rfl, Nat.le_of_ble_eq_true rfl⟩) dL_isInsulted_4 (ci := 1) 0 rfl rfl rfl rfl (Nat.le_of_ble_eq_true rfl) ⟨Nat.le_of_ble_eq_true rfl, Nat.le_of_ble_eq_true rfl⟩ [0, 1] rfl [0, 1, 2, 3, 4, 5, 6, 7, 8, 9, 10, 11, 12, 13, 14, 15, 16, 17, 18, 19, 20, 21, 22, 23, 24, 25, 26, 27, 28, 29, 30, 31, 32] rfl (by decide) (zx_catch C hE (by decide) [] ⟨0, 16, 19, 19⟩ [] (htab.trans rfl) (fun _ h => absurd h List.not_mem_nil) (by decide) (by decide) (by decide +kernel) 19 rfl (fun qx => ?_))
  refine zv_astore_n C dL_isInsulted_19 20 rfl [(3, .ref qx), (0, .ref (q 0)), (1, .int i), (2, .ref o)] (by decide) rfl ?_
  refine zv_iconst (v := 1) C dL_isInsulted_20 21 rfl (by decide) ?_
  exact zv_iretR C hr hlk hA hQ dL_isInsulted_21 rfl
abbrev rkL_nameIn : Room := { frames := 8, cells := 1, slots := 6, locals := 133 }
set_option maxHeartbeats 4000000 in
set_option maxRecDepth 100000 in
theorem k_L_nameIn_t1 (l : Launch) (D : va_G) (cI cZ cJ : ClassId) (q h k : Nat → Nat) (b : Nat) (y : Int32) (n : Nat) (r : Int32) (f0 f1 f2 f3 f4 f5 f6 f7 f8 f9 f10 f11 f12 f13 : Nat → Int32) (n1 : Nat) (r1 : Int32) (g0 g1 g2 g3 g4 g5 g6 g7 g8 g9 g10 g11 g12 g13 : Nat → Int32) (bp bn : Nat → Int32) (o : Nat) (u : Nat → Int64) (i j : Int32) (hn : n ≤ 16) (hf : isP n i = false) (hl : l.stackTraces = false) : zv_RE l yL_nameIn wsL_nameIn rkL_nameIn D vwCl (tyJ cI cZ cJ) [.ref (q 0), .int i, .int j, .ref o] ((cR cI cZ q h k (nI b) y (nI n) r f0 f1 f2 f3 f4 f5 f6 f7 f8 f9 f10 f11 f12 f13 (nI n1) r1 g0 g1 g2 g3 g4 g5 g6 g7 g8 g9 g10 g11 g12 g13 bp bn) ++ [(o, .inl (cJ, 1, .inr (.inl u)))]) (fun v => v = some (.int 1)) := by
  refine zw_RE.of cL_nameIn 5 (some .int) [(0, 10, 13, 19), (0, 10, 17, 21)] (by decide) rfl (Nat.le_of_ble_eq_true rfl) ?_
  intro pP eE sS mM aA bB mT cD A C htab hr hlk hA hE Q hQ
  refine zv_go (pc' := 0) rfl (lv' := [(0, .ref (q 0)), (1, .int i), (2, .int j), (3, .ref o)]) rfl rfl rfl rfl ?_
  refine zv_aload_n C dL_nameIn_0 1 rfl 3 rfl ?_
  refine zv_iconst (v := 0) C dL_nameIn_1 2 rfl (by decide) ?_
  refine zv_aload_n C dL_nameIn_2 3 rfl 0 rfl ?_
  refine zv_iload_n C dL_nameIn_3 4 rfl 1 rfl ?_
  refine zv_iload_n C dL_nameIn_4 5 rfl 2 rfl ?_
  refine zv_tV (rest := [.int 0, .ref o]) C hA hE (k_X1_nameIn_t1 l D cI cZ q h k b y n r f0 f1 f2 f3 f4 f5 f6 f7 f8 f9 f10 f11 f12 f13 n1 r1 g0 g1 g2 g3 g4 g5 g6 g7 g8 g9 g10 g11 g12 g13 bp bn i j hn hf hl) (cwV 2 C.1.2.2.2.2 gL_nameIn_X1_nameIn rfl rfl rfl (by decide +kernel) ⟨Nat.le_of_ble_eq_true rfl, Nat.le_of_ble_eq_true rfl⟩) dL_nameIn_5 (ci := 1) 0 rfl rfl rfl rfl (Nat.le_of_ble_eq_true rfl) ⟨Nat.le_of_ble_eq_true rfl, Nat.le_of_ble_eq_true rfl⟩ [0, 1] rfl [0, 1, 2, 3, 4, 5, 6, 7, 8, 9, 10, 11, 12, 13, 14, 15, 16, 17, 18, 19, 20, 21, 22, 23, 24, 25, 26, 27, 28, 29, 30, 31, 32] rfl (by decide) (zx_catch C hE (by decide) [] ⟨0, 10, 13, 19⟩ [⟨0, 10, 17, 21⟩] (htab.trans rfl) (fun _ h => absurd h List.not_mem_nil) (by decide) (by decide) (by decide +kernel) 13 rfl (fun qx => ?_))
  refine zv_astore C dL_nameIn_13 15 rfl [(4, .ref qx), (0, .ref (q 0)), (1, .int i), (2, .int j), (3, .ref o)] (by decide) rfl ?_
  refine zv_iconst (v := 1) C dL_nameIn_15 16 rfl (by decide) ?_
  exact zv_iretR C hr hlk hA hQ dL_nameIn_16 rfl
set_option maxHeartbeats 4000000 in
set_option maxRecDepth 100000 in
theorem k_L_nameIn_t2 (l : Launch) (D : va_G) (cI cZ cJ : ClassId) (q h k : Nat → Nat) (b : Nat) (y : Int32) (n : Nat) (r : Int32) (f0 f1 f2 f3 f4 f5 f6 f7 f8 f9 f10 f11 f12 f13 : Nat → Int32) (n1 : Nat) (r1 : Int32) (g0 g1 g2 g3 g4 g5 g6 g7 g8 g9 g10 g11 g12 g13 : Nat → Int32) (bp bn : Nat → Int32) (o : Nat) (u : Nat → Int64) (p : Nat) (j : Int32) (hn : n ≤ 16) (hp : p < n) (h1 : isI j 1 50 = false) (hl : l.stackTraces = false) : zv_RE l yL_nameIn wsL_nameIn rkL_nameIn D vwCl (tyJ cI cZ cJ) [.ref (q 0), .int (nI p), .int j, .ref o] ((cR cI cZ q h k (nI b) y (nI n) r f0 f1 f2 f3 f4 f5 f6 f7 f8 f9 f10 f11 f12 f13 (nI n1) r1 g0 g1 g2 g3 g4 g5 g6 g7 g8 g9 g10 g11 g12 g13 bp bn) ++ [(o, .inl (cJ, 1, .inr (.inl u)))]) (fun v => v = some (.int 2)) := by
  refine zw_RE.of cL_nameIn 5 (some .int) [(0, 10, 13, 19), (0, 10, 17, 21)] (by decide) rfl (Nat.le_of_ble_eq_true rfl) ?_
  intro pP eE sS mM aA bB mT cD A C htab hr hlk hA hE Q hQ
  refine zv_go (pc' := 0) rfl (lv' := [(0, .ref (q 0)), (1, .int (nI p)), (2, .int j), (3, .ref o)]) rfl rfl rfl rfl ?_
  refine zv_aload_n C dL_nameIn_0 1 rfl 3 rfl ?_
  refine zv_iconst (v := 0) C dL_nameIn_1 2 rfl (by decide) ?_
  refine zv_aload_n C dL_nameIn_2 3 rfl 0 rfl ?_
  refine zv_iload_n C dL_nameIn_3 4 rfl 1 rfl ?_
  refine zv_iload_n C dL_nameIn_4 5 rfl 2 rfl ?_
  refine zv_tV (rest := [.int 0, .ref o]) C hA hE (k_X1_nameIn_t2 l D cI cZ q h k b y n r f0 f1 f2 f3 f4 f5 f6 f7 f8 f9 f10 f11 f12 f13 n1 r1 g0 g1 g2 g3 g4 g5 g6 g7 g8 g9 g10 g11 g12 g13 bp bn p j hn hp h1 hl) (cwV 2 C.1.2.2.2.2 gL_nameIn_X1_nameIn rfl rfl rfl (by decide +kernel) ⟨Nat.le_of_ble_eq_true rfl, Nat.le_of_ble_eq_true rfl⟩) dL_nameIn_5 (ci := 1) 0 rfl rfl rfl rfl (Nat.le_of_ble_eq_true rfl) ⟨Nat.le_of_ble_eq_true rfl, Nat.le_of_ble_eq_true rfl⟩ [0, 1] rfl [0, 1, 2, 3, 4, 5, 6, 7, 8, 9, 10, 11, 12, 13, 14, 15, 16, 17, 18, 19, 20, 21, 22, 23, 24, 25, 26, 27, 28, 29, 30, 31, 32] rfl (by decide) (zx_catch C hE (by decide) [⟨0, 10, 13, 19⟩] ⟨0, 10, 17, 21⟩ [] (htab.trans rfl) (List.forall_mem_cons.mpr ⟨Or.inr ⟨by decide, "java/lang/IndexOutOfBoundsException", by decide +kernel, by decide⟩, (fun _ h => absurd h List.not_mem_nil)⟩) (by decide) (by decide) (by decide +kernel) 17 rfl (fun qx => ?_))
  refine zv_astore C dL_nameIn_17 19 rfl [(4, .ref qx), (0, .ref (q 0)), (1, .int (nI p)), (2, .int j), (3, .ref o)] (by decide) rfl ?_
  refine zv_iconst (v := 2) C dL_nameIn_19 20 rfl (by decide) ?_
  exact zv_iretR C hr hlk hA hQ dL_nameIn_20 rfl
