noncomputable def dgM (n b : Nat) (f0 f1 f2 f3 f5 f6 f7 : Nat → Int32) (r y : Int32) : Int64 := fdP (brR f6 f7 (nmS n f0 f1 f2 f3 f5 r)) b (fdP (plR n f0 f1 f3 (sol n f0 f1 f2 f3 f5 r).1 (sol n f0 f1 f2 f3 f5 r).2.1 (nmS n f0 f1 f2 f3 f5 r) (fun p => nI (agA f0 f1 f3 f5 (nmS n f0 f1 f2 f3 f5 r) p n)) (fun p => zb (agD f0 f1 f2 f3 f5 (nmS n f0 f1 f2 f3 f5 r) p n))) n (dg8 y (nI n) (nI b) (nI (inN f6 f7 (nmS n f0 f1 f2 f3 f5 r) b)) (gst (nmS n f0 f1 f2 f3 f5 r) n 10) (nI (cnt (nmS n f0 f1 f2 f3 f5 r) (-1) n)) ((wst (sprg f1 f3) (dry n f0 f1 f2 f3 f5 r) n).1) (nI (cne (nmS n f0 f1 f2 f3 f5 (1 - r)) (nmS n f0 f1 f2 f3 f5 r) n))))
theorem dgM_eq {n b : Nat} {f0 f1 f2 f3 f5 f6 f7 s g9 g10 g11 : Nat → Int32} {d : Nat → Nat} {r y : Int32} (hn : n ≤ 16) (hD : Dep n f0 s d) (hB : Brg n b f6) (hM : ∀ p, p < n → MA n f0 f1 f2 f3 f5 r g9 g10 g11 p) : (fdP (brR f6 f7 g11) b (fdP (plR n f0 f1 f3 g9 g10 g11 (fun p => nI (agA f0 f1 f3 f5 g11 p n)) (fun p => zb (agD f0 f1 f2 f3 f5 g11 p n))) n (dg8 y (nI n) (nI b) (nI (inN f6 f7 (nmS n f0 f1 f2 f3 f5 r) b)) (gst g11 n 10) (nI (cnt g11 (-1) n)) ((wst (sprg f1 f3) (dry n f0 f1 f2 f3 f5 r) n).1) (nI (cne (nmS n f0 f1 f2 f3 f5 (1 - r)) (nmS n f0 f1 f2 f3 f5 r) n))))) = dgM n b f0 f1 f2 f3 f5 f6 f7 r y := by
  have h11 : ∀ i, i < n → g11 i = nmS n f0 f1 f2 f3 f5 r i := fun i hi => MA.nm hD hn hM i hi
  unfold dgM
  rw [gst_congr h11 10, cnt_congr (-1) n h11]
  rw [fdP_congr _ n (fun i hi x => plR_congr (ag := fun p => nI (agA f0 f1 f3 f5 g11 p n)) (ar := fun p => zb (agD f0 f1 f2 f3 f5 g11 p n)) (w' := f0) (has' := f1) (spr' := f3) (wat' := (sol n f0 f1 f2 f3 f5 r).1) (len' := (sol n f0 f1 f2 f3 f5 r).2.1) (nm' := nmS n f0 f1 f2 f3 f5 r) (ag' := fun p => nI (agA f0 f1 f3 f5 (nmS n f0 f1 f2 f3 f5 r) p n)) (ar' := fun p => zb (agD f0 f1 f2 f3 f5 (nmS n f0 f1 f2 f3 f5 r) p n)) rfl rfl rfl rfl rfl (MA.sol hD hn hM i hi).1 (MA.sol hD hn hM i hi).2.1 (h11 i hi) (congrArg nI (agA_congr h11)) (congrArg zb (agD_congr hi h11)))]
  exact fdP_congr _ b (fun i hi x => brR_congr rfl rfl (by
    obtain ⟨q, hq, e⟩ := hB i hi
    rw [e, nI_clamp (by omega)]
    exact h11 q hq))
theorem zo_one {x : Int32} (h : zo x) (hn : ¬ x = 0) : x = 1 := h.resolve_left hn
abbrev rmX2_digest : Room := { frames := 6, cells := 17, slots := 168, locals := 137 }
set_option maxHeartbeats 4000000 in
set_option maxRecDepth 100000 in
theorem k_X2_digest (l : Launch) (D : va_G) (cI cZ : ClassId) (h : Nat → Nat) (t : Int32) (n : Nat) (r y : Int32) (b : Nat) (f0 f1 f2 f3 f4 f5 f6 f7 f8 f9 f10 f11 f12 f13 : Nat → Int32) (s : Nat → Int32) (d : Nat → Nat) (hn : n ≤ 16) (hD : Dep n f0 s d) (hb : b ≤ 16) (hB : Brg n b f6) (hz1 : ∀ i, zo (f1 i)) : zv_M l yX2_digest wsX2_digest rmX2_digest D vwCl (tyL cI cZ) [.ref (h 0)] (cM cI cZ h t (nI n) r y (nI b) f0 f1 f2 f3 f4 f5 f6 f7 f8 f9 f10 f11 f12 f13) (fun v w => ∃ (g8 g9 g10 g11 g12 : Nat → Int32), v = some (.long (dgM n b f0 f1 f2 f3 f5 f6 f7 r y)) ∧ w = (cM cI cZ h 0 (nI n) r y (nI b) f0 f1 f2 f3 f4 f5 f6 f7 g8 g9 g10 g11 g12 f13)) := by
  refine zv_M.of cX2_digest 13 (some .long) (by decide) rfl (Nat.le_of_ble_eq_true rfl) ?_
  intro pP eE sS mM aA bB mT cD A C hr hlk hnm Q hQ
  have inX2 : ∀ w ∈ u_ws RX2 TX2 19, w ∈ wsX2_digest := by decide +kernel
  have lk64 : Cond.fieldLink RX2 64 "RiverNamesModel" "bridges" "I" ∈ wsX2_digest := by decide +kernel
  have lk29 : Cond.fieldLink RX2 29 "RiverNamesModel" "at" "[I" ∈ wsX2_digest := by decide +kernel
  have lk32 : Cond.fieldLink RX2 32 "RiverNamesModel" "kept" "[I" ∈ wsX2_digest := by decide +kernel
  have lk57 : Cond.fieldLink RX2 57 "RiverNamesModel" "places" "I" ∈ wsX2_digest := by decide +kernel
  have arI : Cond.arrayClass .int ∈ wsX2_digest := by decide +kernel
  have lk9 : Cond.fieldLink RX2 9 "RiverNamesModel" "to" "[I" ∈ wsX2_digest := by decide +kernel
  have lk13 : Cond.fieldLink RX2 13 "RiverNamesModel" "has" "[Z" ∈ wsX2_digest := by decide +kernel
  have lk20 : Cond.fieldLink RX2 20 "RiverNamesModel" "spring" "[I" ∈ wsX2_digest := by decide +kernel
  have lk38 : Cond.fieldLink RX2 38 "RiverNamesModel" "water" "[I" ∈ wsX2_digest := by decide +kernel
  have lk41 : Cond.fieldLink RX2 41 "RiverNamesModel" "length" "[I" ∈ wsX2_digest := by decide +kernel
  have lk44 : Cond.fieldLink RX2 44 "RiverNamesModel" "name" "[I" ∈ wsX2_digest := by decide +kernel
  have lk53 : Cond.fieldLink RX2 53 "RiverNamesModel" "thrown" "I" ∈ wsX2_digest := by decide +kernel
  have lk132 : Cond.fieldLink RX2 132 "RiverNamesModel" "year" "I" ∈ wsX2_digest := by decide +kernel
  have L312 : ∀ (mu_L312 : Nat), ∀ (j : Nat) (sm : Int64) (g8 g9 g10 g11 g12 : Nat → Int32), (j ≤ b) → (∀ p, p < n → MA n f0 f1 f2 f3 f5 r g9 g10 g11 p) → (sm = (fdP (brR f6 f7 g11) j (fdP (plR n f0 f1 f3 g9 g10 g11 (fun p => nI (agA f0 f1 f3 f5 g11 p n)) (fun p => zb (agD f0 f1 f2 f3 f5 g11 p n))) n (dg8 y (nI n) (nI b) (nI (inN f6 f7 (nmS n f0 f1 f2 f3 f5 r) b)) (gst g11 n 10) (nI (cnt g11 (-1) n)) ((wst (sprg f1 f3) (dry n f0 f1 f2 f3 f5 r) n).1) (nI (cne (nmS n f0 f1 f2 f3 f5 (1 - r)) (nmS n f0 f1 f2 f3 f5 r) n)))))) → b - j < mu_L312 → zv_V pP l eE rmX2_digest sS mM aA bB mT cD Q 13 D vwCl A A (tyL cI cZ) (cM cI cZ h 0 (nI n) r y (nI b) f0 f1 f2 f3 f4 f5 f6 f7 g8 g9 g10 g11 g12 f13) (1 + n) (8 + 10 * n) 312 [(0, .ref (h 0)), (5, .long sm), (7, .int (nI j))] [] := by
    intro mu_L312
    induction mu_L312 with
    | zero => intro j sm g8 g9 g10 g11 g12 hj hM hm hmu_L312; exact absurd hmu_L312 (Nat.not_lt_zero _)
    | succ mu_L312 ih_L312 =>
      intro j sm g8 g9 g10 g11 g12 hj hM hm hmu_L312
      refine zv_iload C dX2_digest_312 314 rfl 2 rfl ?_
      refine zv_aload_n C dX2_digest_314 315 rfl 0 rfl ?_
      refine zv_get (ci := 2) C inX2 rfl dX2_digest_315 318 rfl 0 10 rfl (by decide) lk64 rfl ?_
      refine zv_icmp_ge C dX2_digest_318 321 377 rfl (by decide) (fun c1 => ?_) (fun c1 => ?_)
      · replace c1 := zn_le (a := b) (b := j) (by omega) (by omega) c1
        refine zv_lload C dX2_digest_377 379 rfl 1 rfl ?_
        refine zv_widen (k' := 17) (n' := 168) (by omega) (by omega) ?_
        exact zv_lret C hr hlk hQ dX2_digest_379 ⟨g8, g9, g10, g11, g12, (by have hjn : j = b := (by omega); rw [hm, hjn]; exact congrArg (fun z => some (Value.long z)) (dgM_eq hn hD hB hM)), rfl⟩
      · replace c1 := zn_le' (a := b) (b := j) (by omega) (by omega) c1
        refine zv_lload C dX2_digest_321 323 rfl 1 rfl ?_
        refine zv_ldc2 C dX2_digest_323 326 rfl (v := 31) (by decide +kernel) ?_
        refine zv_lmul C dX2_digest_326 327 rfl ?_
        refine zv_aload_n C dX2_digest_327 328 rfl 0 rfl ?_
        refine zv_get (ci := 2) C inX2 rfl dX2_digest_328 331 rfl 0 11 rfl (by decide) lk29 rfl ?_
        refine zv_iload C dX2_digest_331 333 rfl 2 rfl ?_
        refine zv_iald (v := (f6 j)) C dX2_digest_333 334 rfl 7 0 j rfl rfl rfl (by omega) (by decide) rfl ?_
        refine zv_i2l C dX2_digest_334 335 rfl ?_
        refine zv_ladd C dX2_digest_335 336 rfl ?_
        refine zv_ldc2 C dX2_digest_336 339 rfl (v := 31) (by decide +kernel) ?_
        refine zv_lmul C dX2_digest_339 340 rfl ?_
        refine zv_aload_n C dX2_digest_340 341 rfl 0 rfl ?_
        refine zv_get (ci := 2) C inX2 rfl dX2_digest_341 344 rfl 0 12 rfl (by decide) lk32 rfl ?_
        refine zv_iload C dX2_digest_344 346 rfl 2 rfl ?_
        refine zv_iald (v := (f7 j)) C dX2_digest_346 347 rfl 8 0 j rfl rfl rfl (by omega) (by decide) rfl ?_
        refine zv_i2l C dX2_digest_347 348 rfl ?_
        refine zv_ladd C dX2_digest_348 349 rfl ?_
        refine zv_ldc2 C dX2_digest_349 352 rfl (v := 31) (by decide +kernel) ?_
        refine zv_lmul C dX2_digest_352 353 rfl ?_
        refine zv_aload_n C dX2_digest_353 354 rfl 0 rfl ?_
        refine zv_iload C dX2_digest_354 356 rfl 2 rfl ?_
        refine zv_callVR (rest := [.long (((((sm * 31) + (Int32.toInt64 (f6 j))) * 31) + (Int32.toInt64 (f7 j))) * 31)]) C (k_X2_insulted l D cI cZ h 0 n r y b f0 f1 f2 f3 f4 f5 f6 f7 g8 g9 g10 g11 g12 f13 j (by omega) (by obtain ⟨q, hq, e⟩ := hB j (by omega); exact ⟨q, by omega, e⟩)) (cwV 1 C.1.2.2.2.2 gX2_digest_X2_insulted rfl rfl rfl (by decide +kernel) ⟨Nat.le_of_ble_eq_true rfl, Nat.le_of_ble_eq_true rfl⟩) dX2_digest_356 359 rfl (ci := 2) 0 rfl rfl rfl rfl (Nat.le_of_ble_eq_true rfl) ⟨(by show 1 + n + 0 ≤ 17; omega), (by show 8 + 10 * n + 0 ≤ 168; omega)⟩ [0, 1] rfl [0, 1, 2, 3, 4, 5, 6, 7, 8, 9, 10, 11, 12, 13, 14] rfl (by decide) (fun v hv => ?_)
        subst hv
        refine zv_go rfl rfl (st' := [.int (zb (insd (f7 j) (g11 (f6 j).toNatClampNeg))), .long (((((sm * 31) + (Int32.toInt64 (f6 j))) * 31) + (Int32.toInt64 (f7 j))) * 31)]) rfl (kc' := 1 + n) rfl (ns' := 8 + 10 * n) rfl ?_
        refine zv_if_eq C dX2_digest_359 362 366 rfl (by decide) (fun c2 => ?_) (fun c2 => ?_)
        · replace c2 := zb_eq0.mp c2
          refine zv_iconst (v := 0) C dX2_digest_366 367 rfl (by decide) ?_
          refine zv_i2l C dX2_digest_367 368 rfl ?_
          refine zv_ladd C dX2_digest_368 369 rfl ?_
          refine zv_lstore C dX2_digest_369 371 rfl [(5, .long ((((((sm * 31) + (Int32.toInt64 (f6 j))) * 31) + (Int32.toInt64 (f7 j))) * 31) + (Int32.toInt64 0))), (0, .ref (h 0)), (7, .int (nI j))] (by decide) rfl ?_
          refine zv_iinc (v := (nI (j + 1))) C dX2_digest_371 374 rfl [(7, .int (nI (j + 1))), (5, .long ((((((sm * 31) + (Int32.toInt64 (f6 j))) * 31) + (Int32.toInt64 (f7 j))) * 31) + (Int32.toInt64 0))), (0, .ref (h 0))] 2 rfl (nI_1 j) (by decide) rfl ?_
          refine zv_goto C dX2_digest_374 312 (by decide) ?_
          refine zv_sub [2, 1, 0] (lv' := [(0, .ref (h 0)), (5, .long ((((((sm * 31) + (Int32.toInt64 (f6 j))) * 31) + (Int32.toInt64 (f7 j))) * 31) + (Int32.toInt64 0))), (7, .int (nI (j + 1)))]) rfl ?_
          exact ih_L312 (j + 1) ((((((sm * 31) + (Int32.toInt64 (f6 j))) * 31) + (Int32.toInt64 (f7 j))) * 31) + (Int32.toInt64 0)) g8 g9 g10 g11 g12 (by omega) hM (by show _ = brR f6 f7 g11 j (fdP (brR f6 f7 g11) j (fdP (plR n f0 f1 f3 g9 g10 g11 (fun p => nI (agA f0 f1 f3 f5 g11 p n)) (fun p => zb (agD f0 f1 f2 f3 f5 g11 p n))) n (dg8 y (nI n) (nI b) (nI (inN f6 f7 (nmS n f0 f1 f2 f3 f5 r) b)) (gst g11 n 10) (nI (cnt g11 (-1) n)) ((wst (sprg f1 f3) (dry n f0 f1 f2 f3 f5 r) n).1) (nI (cne (nmS n f0 f1 f2 f3 f5 (1 - r)) (nmS n f0 f1 f2 f3 f5 r) n))))); rw [← hm]; unfold brR; rw [c2]; rfl) (by omega)
        · replace c2 := zb_ne0.mp c2
          refine zv_iconst (v := 1) C dX2_digest_362 363 rfl (by decide) ?_
          refine zv_goto C dX2_digest_363 367 (by decide) ?_
          refine zv_i2l C dX2_digest_367 368 rfl ?_
          refine zv_ladd C dX2_digest_368 369 rfl ?_
          refine zv_lstore C dX2_digest_369 371 rfl [(5, .long ((((((sm * 31) + (Int32.toInt64 (f6 j))) * 31) + (Int32.toInt64 (f7 j))) * 31) + (Int32.toInt64 1))), (0, .ref (h 0)), (7, .int (nI j))] (by decide) rfl ?_
          refine zv_iinc (v := (nI (j + 1))) C dX2_digest_371 374 rfl [(7, .int (nI (j + 1))), (5, .long ((((((sm * 31) + (Int32.toInt64 (f6 j))) * 31) + (Int32.toInt64 (f7 j))) * 31) + (Int32.toInt64 1))), (0, .ref (h 0))] 2 rfl (nI_1 j) (by decide) rfl ?_
          refine zv_goto C dX2_digest_374 312 (by decide) ?_
          refine zv_sub [2, 1, 0] (lv' := [(0, .ref (h 0)), (5, .long ((((((sm * 31) + (Int32.toInt64 (f6 j))) * 31) + (Int32.toInt64 (f7 j))) * 31) + (Int32.toInt64 1))), (7, .int (nI (j + 1)))]) rfl ?_
          exact ih_L312 (j + 1) ((((((sm * 31) + (Int32.toInt64 (f6 j))) * 31) + (Int32.toInt64 (f7 j))) * 31) + (Int32.toInt64 1)) g8 g9 g10 g11 g12 (by omega) hM (by show _ = brR f6 f7 g11 j (fdP (brR f6 f7 g11) j (fdP (plR n f0 f1 f3 g9 g10 g11 (fun p => nI (agA f0 f1 f3 f5 g11 p n)) (fun p => zb (agD f0 f1 f2 f3 f5 g11 p n))) n (dg8 y (nI n) (nI b) (nI (inN f6 f7 (nmS n f0 f1 f2 f3 f5 r) b)) (gst g11 n 10) (nI (cnt g11 (-1) n)) ((wst (sprg f1 f3) (dry n f0 f1 f2 f3 f5 r) n).1) (nI (cne (nmS n f0 f1 f2 f3 f5 (1 - r)) (nmS n f0 f1 f2 f3 f5 r) n))))); rw [← hm]; unfold brR; rw [c2]; rfl) (by omega)
  have L128 : ∀ (mu_L128 : Nat), ∀ (j : Nat) (sm : Int64) (g8 g9 g10 g11 g12 : Nat → Int32), (j ≤ n) → (∀ p, p < n → MA n f0 f1 f2 f3 f5 r g9 g10 g11 p) → (sm = (fdP (plR n f0 f1 f3 g9 g10 g11 (fun p => nI (agA f0 f1 f3 f5 g11 p n)) (fun p => zb (agD f0 f1 f2 f3 f5 g11 p n))) j (dg8 y (nI n) (nI b) (nI (inN f6 f7 (nmS n f0 f1 f2 f3 f5 r) b)) (gst g11 n 10) (nI (cnt g11 (-1) n)) ((wst (sprg f1 f3) (dry n f0 f1 f2 f3 f5 r) n).1) (nI (cne (nmS n f0 f1 f2 f3 f5 (1 - r)) (nmS n f0 f1 f2 f3 f5 r) n))))) → n - j < mu_L128 → zv_V pP l eE rmX2_digest sS mM aA bB mT cD Q 13 D vwCl A A (tyL cI cZ) (cM cI cZ h 0 (nI n) r y (nI b) f0 f1 f2 f3 f4 f5 f6 f7 g8 g9 g10 g11 g12 f13) (1 + j) (8 + 10 * j) 128 [(0, .ref (h 0)), (5, .long sm), (7, .int (nI j))] [] := by
    intro mu_L128
    induction mu_L128 with
    | zero => intro j sm g8 g9 g10 g11 g12 hj hM hm hmu_L128; exact absurd hmu_L128 (Nat.not_lt_zero _)
    | succ mu_L128 ih_L128 =>
      intro j sm g8 g9 g10 g11 g12 hj hM hm hmu_L128
      refine zv_iload C dX2_digest_128 130 rfl 2 rfl ?_
      refine zv_aload_n C dX2_digest_130 131 rfl 0 rfl ?_
      refine zv_get (ci := 2) C inX2 rfl dX2_digest_131 134 rfl 0 1 rfl (by decide) lk57 rfl ?_
      refine zv_icmp_ge C dX2_digest_134 137 309 rfl (by decide) (fun c3 => ?_) (fun c3 => ?_)
      · replace c3 := zn_le (a := n) (b := j) (by omega) (by omega) c3
        refine zv_iconst (v := 0) C dX2_digest_309 310 rfl (by decide) ?_
        refine zv_istore C dX2_digest_310 312 rfl [(7, .int 0), (0, .ref (h 0)), (5, .long sm)] (by decide) rfl ?_
        have hjn : j = n := (by omega)
        subst hjn
        refine zv_sub [1, 2, 0] (lv' := [(0, .ref (h 0)), (5, .long sm), (7, .int 0)]) rfl ?_
        exact L312 _ 0 sm g8 g9 g10 g11 g12 (Nat.zero_le _) hM hm (Nat.lt_succ_self _)
      · replace c3 := zn_le' (a := n) (b := j) (by omega) (by omega) c3
        refine zv_bipush (v := 10) C dX2_digest_137 139 rfl (by decide) ?_
        refine zv_newa (atype := .int) C arI rfl dX2_digest_139 141 rfl (N' := 10) (a0 := (10, .inl z0)) (fun cA => rfl) 0 rfl ra_int (by decide) (by decide) (by decide) (by show 1 + j + 1 ≤ 17; omega) (by show 8 + 10 * j + 10 ≤ 168; omega) (fun qi => ?_)
        refine zv_go rfl rfl rfl (kc' := 1 + j + 1) (by omega) (ns' := 8 + 10 * j + 10) (by omega) ?_
        refine zv_wd (ws' := ((cM cI cZ h 0 (nI n) r y (nI b) f0 f1 f2 f3 f4 f5 f6 f7 g8 g9 g10 g11 g12 f13) ++ [(qi, .inl (cI, 10, .inl z0))])) rfl ?_
        refine zv_dup C dX2_digest_141 142 rfl rfl ?_
        refine zv_iconst (v := 0) C dX2_digest_142 143 rfl (by decide) ?_
        refine zv_aload_n C dX2_digest_143 144 rfl 0 rfl ?_
        refine zv_get (ci := 2) C inX2 rfl dX2_digest_144 147 rfl 0 4 rfl (by decide) lk9 rfl ?_
        refine zv_iload C dX2_digest_147 149 rfl 2 rfl ?_
        refine zv_iald (v := (f0 j)) C dX2_digest_149 150 rfl 1 0 j rfl rfl rfl (by omega) (by decide) rfl ?_
        refine zv_iast (x' := (f0 j)) C dX2_digest_150 151 rfl 15 0 0 rfl rfl (by decide) (by omega) (by decide) rfl ((cM cI cZ h 0 (nI n) r y (nI b) f0 f1 f2 f3 f4 f5 f6 f7 g8 g9 g10 g11 g12 f13) ++ [(qi, .inl (cI, 10, .inl (upd z0 0 (f0 j))))]) rfl ?_
        refine zv_dup C dX2_digest_151 152 rfl rfl ?_
        refine zv_iconst (v := 1) C dX2_digest_152 153 rfl (by decide) ?_
        refine zv_aload_n C dX2_digest_153 154 rfl 0 rfl ?_
        refine zv_get (ci := 2) C inX2 rfl dX2_digest_154 157 rfl 0 5 rfl (by decide) lk13 rfl ?_
        refine zv_iload C dX2_digest_157 159 rfl 2 rfl ?_
        refine zv_zald (v := (f1 j)) C dX2_digest_159 160 rfl 2 1 j rfl rfl rfl (by omega) (by decide) rfl ?_
        refine zv_if_eq C dX2_digest_160 163 167 rfl (by decide) (fun c4 => ?_) (fun c4 => ?_)
        · refine zv_iconst (v := 0) C dX2_digest_167 168 rfl (by decide) ?_
          refine zv_iast (x' := (f1 j)) C dX2_digest_168 169 rfl 15 0 1 rfl rfl (by decide) (by omega) (by decide) c4.symm ((cM cI cZ h 0 (nI n) r y (nI b) f0 f1 f2 f3 f4 f5 f6 f7 g8 g9 g10 g11 g12 f13) ++ [(qi, .inl (cI, 10, .inl (upd (upd z0 0 (f0 j)) 1 (f1 j))))]) rfl ?_
          refine zv_dup C dX2_digest_169 170 rfl rfl ?_
          refine zv_iconst (v := 2) C dX2_digest_170 171 rfl (by decide) ?_
          refine zv_aload_n C dX2_digest_171 172 rfl 0 rfl ?_
          refine zv_get (ci := 2) C inX2 rfl dX2_digest_172 175 rfl 0 7 rfl (by decide) lk20 rfl ?_
          refine zv_iload C dX2_digest_175 177 rfl 2 rfl ?_
          refine zv_iald (v := (f3 j)) C dX2_digest_177 178 rfl 4 0 j rfl rfl rfl (by omega) (by decide) rfl ?_
          refine zv_iast (x' := (f3 j)) C dX2_digest_178 179 rfl 15 0 2 rfl rfl (by decide) (by omega) (by decide) rfl ((cM cI cZ h 0 (nI n) r y (nI b) f0 f1 f2 f3 f4 f5 f6 f7 g8 g9 g10 g11 g12 f13) ++ [(qi, .inl (cI, 10, .inl (upd (upd (upd z0 0 (f0 j)) 1 (f1 j)) 2 (f3 j))))]) rfl ?_
          refine zv_dup C dX2_digest_179 180 rfl rfl ?_
          refine zv_iconst (v := 3) C dX2_digest_180 181 rfl (by decide) ?_
          refine zv_aload_n C dX2_digest_181 182 rfl 0 rfl ?_
          refine zv_get (ci := 2) C inX2 rfl dX2_digest_182 185 rfl 0 14 rfl (by decide) lk38 rfl ?_
          refine zv_iload C dX2_digest_185 187 rfl 2 rfl ?_
          refine zv_iald (v := (g9 j)) C dX2_digest_187 188 rfl 10 0 j rfl rfl rfl (by omega) (by decide) rfl ?_
          refine zv_iast (x' := (g9 j)) C dX2_digest_188 189 rfl 15 0 3 rfl rfl (by decide) (by omega) (by decide) rfl ((cM cI cZ h 0 (nI n) r y (nI b) f0 f1 f2 f3 f4 f5 f6 f7 g8 g9 g10 g11 g12 f13) ++ [(qi, .inl (cI, 10, .inl (upd (upd (upd (upd z0 0 (f0 j)) 1 (f1 j)) 2 (f3 j)) 3 (g9 j))))]) rfl ?_
          refine zv_dup C dX2_digest_189 190 rfl rfl ?_
          refine zv_iconst (v := 4) C dX2_digest_190 191 rfl (by decide) ?_
          refine zv_aload_n C dX2_digest_191 192 rfl 0 rfl ?_
          refine zv_get (ci := 2) C inX2 rfl dX2_digest_192 195 rfl 0 15 rfl (by decide) lk41 rfl ?_
          refine zv_iload C dX2_digest_195 197 rfl 2 rfl ?_
          refine zv_iald (v := (g10 j)) C dX2_digest_197 198 rfl 11 0 j rfl rfl rfl (by omega) (by decide) rfl ?_
          refine zv_iast (x' := (g10 j)) C dX2_digest_198 199 rfl 15 0 4 rfl rfl (by decide) (by omega) (by decide) rfl ((cM cI cZ h 0 (nI n) r y (nI b) f0 f1 f2 f3 f4 f5 f6 f7 g8 g9 g10 g11 g12 f13) ++ [(qi, .inl (cI, 10, .inl (upd (upd (upd (upd (upd z0 0 (f0 j)) 1 (f1 j)) 2 (f3 j)) 3 (g9 j)) 4 (g10 j))))]) rfl ?_
          refine zv_dup C dX2_digest_199 200 rfl rfl ?_
          refine zv_iconst (v := 5) C dX2_digest_200 201 rfl (by decide) ?_
          refine zv_aload_n C dX2_digest_201 202 rfl 0 rfl ?_
          refine zv_iload C dX2_digest_202 204 rfl 2 rfl ?_
          refine zv_callVR (rest := [.int 5, .ref qi, .ref qi]) C (k_X2_mouth l D cI cZ h 0 n r y b f0 f1 f2 f3 f4 f5 f6 f7 g8 g9 g10 g11 g12 f13 j s d (by omega) (by assumption) (by omega)) (cwV 1 C.1.2.2.2.2 gX2_digest_X2_mouth rfl rfl rfl (by decide +kernel) ⟨Nat.le_of_ble_eq_true rfl, Nat.le_of_ble_eq_true rfl⟩) dX2_digest_204 207 rfl (ci := 2) 0 rfl rfl rfl rfl (Nat.le_of_ble_eq_true rfl) ⟨(by show 1 + j + 1 + 0 ≤ 17; omega), (by show 8 + 10 * j + 10 + 0 ≤ 168; omega)⟩ [0, 1] rfl [0, 1, 2, 3, 4, 5, 6, 7, 8, 9, 10, 11, 12, 13, 14] rfl (by decide) (fun v hv => ?_)
          subst hv
          refine zv_go rfl rfl (st' := [.int (nI (mo f0 16 j)), .int 5, .ref qi, .ref qi]) rfl (kc' := 1 + j + 1) rfl (ns' := 8 + 10 * j + 10) rfl ?_
          refine zv_iast (x' := (nI (mo f0 16 j))) C dX2_digest_207 208 rfl 15 0 5 rfl rfl (by decide) (by omega) (by decide) rfl ((cM cI cZ h 0 (nI n) r y (nI b) f0 f1 f2 f3 f4 f5 f6 f7 g8 g9 g10 g11 g12 f13) ++ [(qi, .inl (cI, 10, .inl (upd (upd (upd (upd (upd (upd z0 0 (f0 j)) 1 (f1 j)) 2 (f3 j)) 3 (g9 j)) 4 (g10 j)) 5 (nI (mo f0 16 j)))))]) rfl ?_
          refine zv_dup C dX2_digest_208 209 rfl rfl ?_
          refine zv_bipush (v := 6) C dX2_digest_209 211 rfl (by decide) ?_
          refine zv_aload_n C dX2_digest_211 212 rfl 0 rfl ?_
          refine zv_iload C dX2_digest_212 214 rfl 2 rfl ?_
          refine zv_callVR (rest := [.int 6, .ref qi, .ref qi]) C (k_X2_aboveOf l D cI cZ h 0 n r y b f0 f1 f2 f3 f4 f5 f6 f7 g8 g9 g10 g11 g12 f13 j s d (by omega) (by assumption) (by omega)) (cwV 1 C.1.2.2.2.2 gX2_digest_X2_aboveOf rfl rfl rfl (by decide +kernel) ⟨Nat.le_of_ble_eq_true rfl, Nat.le_of_ble_eq_true rfl⟩) dX2_digest_214 217 rfl (ci := 2) 0 rfl rfl rfl rfl (Nat.le_of_ble_eq_true rfl) ⟨(by show 1 + j + 1 + 0 ≤ 17; omega), (by show 8 + 10 * j + 10 + 0 ≤ 168; omega)⟩ [0, 1] rfl [0, 1, 2, 3, 4, 5, 6, 7, 8, 9, 10, 11, 12, 13, 14] rfl (by decide) (fun v hv => ?_)
          subst hv
          refine zv_go rfl rfl (st' := [.int (nI (ao n f0 j)), .int 6, .ref qi, .ref qi]) rfl (kc' := 1 + j + 1) rfl (ns' := 8 + 10 * j + 10) rfl ?_
          refine zv_iast (x' := (nI (ao n f0 j))) C dX2_digest_217 218 rfl 15 0 6 rfl rfl (by decide) (by omega) (by decide) rfl ((cM cI cZ h 0 (nI n) r y (nI b) f0 f1 f2 f3 f4 f5 f6 f7 g8 g9 g10 g11 g12 f13) ++ [(qi, .inl (cI, 10, .inl (upd (upd (upd (upd (upd (upd (upd z0 0 (f0 j)) 1 (f1 j)) 2 (f3 j)) 3 (g9 j)) 4 (g10 j)) 5 (nI (mo f0 16 j))) 6 (nI (ao n f0 j)))))]) rfl ?_
          refine zv_dup C dX2_digest_218 219 rfl rfl ?_
          refine zv_bipush (v := 7) C dX2_digest_219 221 rfl (by decide) ?_
          refine zv_aload_n C dX2_digest_221 222 rfl 0 rfl ?_
          refine zv_get (ci := 2) C inX2 rfl dX2_digest_222 225 rfl 0 16 rfl (by decide) lk44 rfl ?_
          refine zv_iload C dX2_digest_225 227 rfl 2 rfl ?_
          refine zv_iald (v := (g11 j)) C dX2_digest_227 228 rfl 12 0 j rfl rfl rfl (by omega) (by decide) rfl ?_
          refine zv_iast (x' := (g11 j)) C dX2_digest_228 229 rfl 15 0 7 rfl rfl (by decide) (by omega) (by decide) rfl ((cM cI cZ h 0 (nI n) r y (nI b) f0 f1 f2 f3 f4 f5 f6 f7 g8 g9 g10 g11 g12 f13) ++ [(qi, .inl (cI, 10, .inl (upd (upd (upd (upd (upd (upd (upd (upd z0 0 (f0 j)) 1 (f1 j)) 2 (f3 j)) 3 (g9 j)) 4 (g10 j)) 5 (nI (mo f0 16 j))) 6 (nI (ao n f0 j))) 7 (g11 j))))]) rfl ?_
          refine zv_dup C dX2_digest_229 230 rfl rfl ?_
          refine zv_bipush (v := 8) C dX2_digest_230 232 rfl (by decide) ?_
          refine zv_aload_n C dX2_digest_232 233 rfl 0 rfl ?_
          refine zv_iload C dX2_digest_233 235 rfl 2 rfl ?_
          refine zv_callVR (rest := [.int 8, .ref qi, .ref qi]) C (k_X2_arguingAt l D cI cZ h 0 n r y b f0 f1 f2 f3 f4 f5 f6 f7 g8 g9 g10 g11 g12 f13 j (by omega) (by omega)) (cwV 1 C.1.2.2.2.2 gX2_digest_X2_arguingAt rfl rfl rfl (by decide +kernel) ⟨Nat.le_of_ble_eq_true rfl, Nat.le_of_ble_eq_true rfl⟩) dX2_digest_235 238 rfl (ci := 2) 0 rfl rfl rfl rfl (Nat.le_of_ble_eq_true rfl) ⟨(by show 1 + j + 1 + 0 ≤ 17; omega), (by show 8 + 10 * j + 10 + 0 ≤ 168; omega)⟩ [0, 1] rfl [0, 1, 2, 3, 4, 5, 6, 7, 8, 9, 10, 11, 12, 13, 14] rfl (by decide) (fun v hv => ?_)
          subst hv
          refine zv_go rfl rfl (st' := [.int (nI (agA f0 f1 f3 f5 g11 j n)), .int 8, .ref qi, .ref qi]) rfl (kc' := 1 + j + 1) rfl (ns' := 8 + 10 * j + 10) rfl ?_
          refine zv_iast (x' := (nI (agA f0 f1 f3 f5 g11 j n))) C dX2_digest_238 239 rfl 15 0 8 rfl rfl (by decide) (by omega) (by decide) rfl ((cM cI cZ h 0 (nI n) r y (nI b) f0 f1 f2 f3 f4 f5 f6 f7 g8 g9 g10 g11 g12 f13) ++ [(qi, .inl (cI, 10, .inl (upd (upd (upd (upd (upd (upd (upd (upd (upd z0 0 (f0 j)) 1 (f1 j)) 2 (f3 j)) 3 (g9 j)) 4 (g10 j)) 5 (nI (mo f0 16 j))) 6 (nI (ao n f0 j))) 7 (g11 j)) 8 (nI (agA f0 f1 f3 f5 g11 j n)))))]) rfl ?_
          refine zv_dup C dX2_digest_239 240 rfl rfl ?_
          refine zv_bipush (v := 9) C dX2_digest_240 242 rfl (by decide) ?_
          refine zv_aload_n C dX2_digest_242 243 rfl 0 rfl ?_
          refine zv_iload C dX2_digest_243 245 rfl 2 rfl ?_
          refine zv_callVR (rest := [.int 9, .ref qi, .ref qi]) C (k_X2_argued l D cI cZ h 0 n r y b f0 f1 f2 f3 f4 f5 f6 f7 g8 g9 g10 g11 g12 f13 j (by omega) (by omega)) (cwV 1 C.1.2.2.2.2 gX2_digest_X2_argued rfl rfl rfl (by decide +kernel) ⟨Nat.le_of_ble_eq_true rfl, Nat.le_of_ble_eq_true rfl⟩) dX2_digest_245 248 rfl (ci := 2) 0 rfl rfl rfl rfl (Nat.le_of_ble_eq_true rfl) ⟨(by show 1 + j + 1 + 0 ≤ 17; omega), (by show 8 + 10 * j + 10 + 0 ≤ 168; omega)⟩ [0, 1] rfl [0, 1, 2, 3, 4, 5, 6, 7, 8, 9, 10, 11, 12, 13, 14] rfl (by decide) (fun v hv => ?_)
          subst hv
          refine zv_go rfl rfl (st' := [.int (zb (agD f0 f1 f2 f3 f5 g11 j n)), .int 9, .ref qi, .ref qi]) rfl (kc' := 1 + j + 1) rfl (ns' := 8 + 10 * j + 10) rfl ?_
          refine zv_if_eq C dX2_digest_248 251 255 rfl (by decide) (fun c5 => ?_) (fun c5 => ?_)
          · replace c5 := zb_eq0.mp c5
            refine zv_iconst (v := 0) C dX2_digest_255 256 rfl (by decide) ?_
            refine zv_iast (x' := (zb (agD f0 f1 f2 f3 f5 g11 j n))) C dX2_digest_256 257 rfl 15 0 9 rfl rfl (by decide) (by omega) (by decide) (by rw [c5]; rfl) ((cM cI cZ h 0 (nI n) r y (nI b) f0 f1 f2 f3 f4 f5 f6 f7 g8 g9 g10 g11 g12 f13) ++ [(qi, .inl (cI, 10, .inl (upd (upd (upd (upd (upd (upd (upd (upd (upd (upd z0 0 (f0 j)) 1 (f1 j)) 2 (f3 j)) 3 (g9 j)) 4 (g10 j)) 5 (nI (mo f0 16 j))) 6 (nI (ao n f0 j))) 7 (g11 j)) 8 (nI (agA f0 f1 f3 f5 g11 j n))) 9 (zb (agD f0 f1 f2 f3 f5 g11 j n)))))]) rfl ?_
            refine zv_astore C dX2_digest_257 259 rfl [(8, .ref qi), (0, .ref (h 0)), (5, .long sm), (7, .int (nI j))] (by decide) rfl ?_
            refine zv_aload C dX2_digest_259 261 rfl 0 rfl ?_
            refine zv_astore C dX2_digest_261 263 rfl [(9, .ref qi), (8, .ref qi), (0, .ref (h 0)), (5, .long sm), (7, .int (nI j))] (by decide) rfl ?_
            refine zv_aload C dX2_digest_263 265 rfl 0 rfl ?_
            refine zv_alen (v := 10) C dX2_digest_265 266 rfl 15 0 rfl rfl rfl ?_
            refine zv_istore C dX2_digest_266 268 rfl [(10, .int 10), (9, .ref qi), (8, .ref qi), (0, .ref (h 0)), (5, .long sm), (7, .int (nI j))] (by decide) rfl ?_
            refine zv_iconst (v := 0) C dX2_digest_268 269 rfl (by decide) ?_
            refine zv_istore C dX2_digest_269 271 rfl [(11, .int 0), (10, .int 10), (9, .ref qi), (8, .ref qi), (0, .ref (h 0)), (5, .long sm), (7, .int (nI j))] (by decide) rfl ?_
            refine zv_iload C dX2_digest_271 273 rfl 0 rfl ?_
            refine zv_iload C dX2_digest_273 275 rfl 1 rfl ?_
            refine zv_icmp_ge C dX2_digest_275 278 303 rfl (by decide) (fun q => absurd q (by decide)) (fun _ => ?_)
            refine zv_aload C dX2_digest_278 280 rfl 2 rfl ?_
            refine zv_iload C dX2_digest_280 282 rfl 0 rfl ?_
            refine zv_iald (v := (f0 j)) C dX2_digest_282 283 rfl 15 0 0 rfl rfl (by decide) (by omega) (by decide) rfl ?_
            refine zv_istore C dX2_digest_283 285 rfl [(12, .int (f0 j)), (11, .int 0), (10, .int 10), (9, .ref qi), (8, .ref qi), (0, .ref (h 0)), (5, .long sm), (7, .int (nI j))] (by decide) rfl ?_
            refine zv_lload C dX2_digest_285 287 rfl 6 rfl ?_
            refine zv_ldc2 C dX2_digest_287 290 rfl (v := 31) (by decide +kernel) ?_
            refine zv_lmul C dX2_digest_290 291 rfl ?_
            refine zv_iload C dX2_digest_291 293 rfl 0 rfl ?_
            refine zv_i2l C dX2_digest_293 294 rfl ?_
            refine zv_ladd C dX2_digest_294 295 rfl ?_
            refine zv_lstore C dX2_digest_295 297 rfl [(5, .long ((sm * 31) + (Int32.toInt64 (f0 j)))), (12, .int (f0 j)), (11, .int 0), (10, .int 10), (9, .ref qi), (8, .ref qi), (0, .ref (h 0)), (7, .int (nI j))] (by decide) rfl ?_
            refine zv_iinc (v := 1) C dX2_digest_297 300 rfl [(11, .int 1), (5, .long ((sm * 31) + (Int32.toInt64 (f0 j)))), (12, .int (f0 j)), (10, .int 10), (9, .ref qi), (8, .ref qi), (0, .ref (h 0)), (7, .int (nI j))] 2 rfl (by decide) (by decide) rfl ?_
            refine zv_goto C dX2_digest_300 271 (by decide) ?_
            refine zv_iload C dX2_digest_271 273 rfl 0 rfl ?_
            refine zv_iload C dX2_digest_273 275 rfl 3 rfl ?_
            refine zv_icmp_ge C dX2_digest_275 278 303 rfl (by decide) (fun q => absurd q (by decide)) (fun _ => ?_)
            refine zv_aload C dX2_digest_278 280 rfl 4 rfl ?_
            refine zv_iload C dX2_digest_280 282 rfl 0 rfl ?_
            refine zv_iald (v := (f1 j)) C dX2_digest_282 283 rfl 15 0 1 rfl rfl (by decide) (by omega) (by decide) rfl ?_
            refine zv_istore C dX2_digest_283 285 rfl [(12, .int (f1 j)), (11, .int 1), (5, .long ((sm * 31) + (Int32.toInt64 (f0 j)))), (10, .int 10), (9, .ref qi), (8, .ref qi), (0, .ref (h 0)), (7, .int (nI j))] (by decide) rfl ?_
            refine zv_lload C dX2_digest_285 287 rfl 2 rfl ?_
            refine zv_ldc2 C dX2_digest_287 290 rfl (v := 31) (by decide +kernel) ?_
            refine zv_lmul C dX2_digest_290 291 rfl ?_
            refine zv_iload C dX2_digest_291 293 rfl 0 rfl ?_
            refine zv_i2l C dX2_digest_293 294 rfl ?_
            refine zv_ladd C dX2_digest_294 295 rfl ?_
            refine zv_lstore C dX2_digest_295 297 rfl [(5, .long ((((sm * 31) + (Int32.toInt64 (f0 j))) * 31) + (Int32.toInt64 (f1 j)))), (12, .int (f1 j)), (11, .int 1), (10, .int 10), (9, .ref qi), (8, .ref qi), (0, .ref (h 0)), (7, .int (nI j))] (by decide) rfl ?_
            refine zv_iinc (v := 2) C dX2_digest_297 300 rfl [(11, .int 2), (5, .long ((((sm * 31) + (Int32.toInt64 (f0 j))) * 31) + (Int32.toInt64 (f1 j)))), (12, .int (f1 j)), (10, .int 10), (9, .ref qi), (8, .ref qi), (0, .ref (h 0)), (7, .int (nI j))] 2 rfl (by decide) (by decide) rfl ?_
            refine zv_goto C dX2_digest_300 271 (by decide) ?_
            refine zv_iload C dX2_digest_271 273 rfl 0 rfl ?_
            refine zv_iload C dX2_digest_273 275 rfl 3 rfl ?_
            refine zv_icmp_ge C dX2_digest_275 278 303 rfl (by decide) (fun q => absurd q (by decide)) (fun _ => ?_)
            refine zv_aload C dX2_digest_278 280 rfl 4 rfl ?_
            refine zv_iload C dX2_digest_280 282 rfl 0 rfl ?_
            refine zv_iald (v := (f3 j)) C dX2_digest_282 283 rfl 15 0 2 rfl rfl (by decide) (by omega) (by decide) rfl ?_
            refine zv_istore C dX2_digest_283 285 rfl [(12, .int (f3 j)), (11, .int 2), (5, .long ((((sm * 31) + (Int32.toInt64 (f0 j))) * 31) + (Int32.toInt64 (f1 j)))), (10, .int 10), (9, .ref qi), (8, .ref qi), (0, .ref (h 0)), (7, .int (nI j))] (by decide) rfl ?_
            refine zv_lload C dX2_digest_285 287 rfl 2 rfl ?_
            refine zv_ldc2 C dX2_digest_287 290 rfl (v := 31) (by decide +kernel) ?_
            refine zv_lmul C dX2_digest_290 291 rfl ?_
            refine zv_iload C dX2_digest_291 293 rfl 0 rfl ?_
            refine zv_i2l C dX2_digest_293 294 rfl ?_
            refine zv_ladd C dX2_digest_294 295 rfl ?_
            refine zv_lstore C dX2_digest_295 297 rfl [(5, .long ((((((sm * 31) + (Int32.toInt64 (f0 j))) * 31) + (Int32.toInt64 (f1 j))) * 31) + (Int32.toInt64 (f3 j)))), (12, .int (f3 j)), (11, .int 2), (10, .int 10), (9, .ref qi), (8, .ref qi), (0, .ref (h 0)), (7, .int (nI j))] (by decide) rfl ?_
            refine zv_iinc (v := 3) C dX2_digest_297 300 rfl [(11, .int 3), (5, .long ((((((sm * 31) + (Int32.toInt64 (f0 j))) * 31) + (Int32.toInt64 (f1 j))) * 31) + (Int32.toInt64 (f3 j)))), (12, .int (f3 j)), (10, .int 10), (9, .ref qi), (8, .ref qi), (0, .ref (h 0)), (7, .int (nI j))] 2 rfl (by decide) (by decide) rfl ?_
            refine zv_goto C dX2_digest_300 271 (by decide) ?_
            refine zv_iload C dX2_digest_271 273 rfl 0 rfl ?_
            refine zv_iload C dX2_digest_273 275 rfl 3 rfl ?_
            refine zv_icmp_ge C dX2_digest_275 278 303 rfl (by decide) (fun q => absurd q (by decide)) (fun _ => ?_)
            refine zv_aload C dX2_digest_278 280 rfl 4 rfl ?_
            refine zv_iload C dX2_digest_280 282 rfl 0 rfl ?_
            refine zv_iald (v := (g9 j)) C dX2_digest_282 283 rfl 15 0 3 rfl rfl (by decide) (by omega) (by decide) rfl ?_
            refine zv_istore C dX2_digest_283 285 rfl [(12, .int (g9 j)), (11, .int 3), (5, .long ((((((sm * 31) + (Int32.toInt64 (f0 j))) * 31) + (Int32.toInt64 (f1 j))) * 31) + (Int32.toInt64 (f3 j)))), (10, .int 10), (9, .ref qi), (8, .ref qi), (0, .ref (h 0)), (7, .int (nI j))] (by decide) rfl ?_
            refine zv_lload C dX2_digest_285 287 rfl 2 rfl ?_
            refine zv_ldc2 C dX2_digest_287 290 rfl (v := 31) (by decide +kernel) ?_
            refine zv_lmul C dX2_digest_290 291 rfl ?_
            refine zv_iload C dX2_digest_291 293 rfl 0 rfl ?_
            refine zv_i2l C dX2_digest_293 294 rfl ?_
            refine zv_ladd C dX2_digest_294 295 rfl ?_
            refine zv_lstore C dX2_digest_295 297 rfl [(5, .long ((((((((sm * 31) + (Int32.toInt64 (f0 j))) * 31) + (Int32.toInt64 (f1 j))) * 31) + (Int32.toInt64 (f3 j))) * 31) + (Int32.toInt64 (g9 j)))), (12, .int (g9 j)), (11, .int 3), (10, .int 10), (9, .ref qi), (8, .ref qi), (0, .ref (h 0)), (7, .int (nI j))] (by decide) rfl ?_
            refine zv_iinc (v := 4) C dX2_digest_297 300 rfl [(11, .int 4), (5, .long ((((((((sm * 31) + (Int32.toInt64 (f0 j))) * 31) + (Int32.toInt64 (f1 j))) * 31) + (Int32.toInt64 (f3 j))) * 31) + (Int32.toInt64 (g9 j)))), (12, .int (g9 j)), (10, .int 10), (9, .ref qi), (8, .ref qi), (0, .ref (h 0)), (7, .int (nI j))] 2 rfl (by decide) (by decide) rfl ?_
            refine zv_goto C dX2_digest_300 271 (by decide) ?_
            refine zv_iload C dX2_digest_271 273 rfl 0 rfl ?_
            refine zv_iload C dX2_digest_273 275 rfl 3 rfl ?_
            refine zv_icmp_ge C dX2_digest_275 278 303 rfl (by decide) (fun q => absurd q (by decide)) (fun _ => ?_)
            refine zv_aload C dX2_digest_278 280 rfl 4 rfl ?_
            refine zv_iload C dX2_digest_280 282 rfl 0 rfl ?_
            refine zv_iald (v := (g10 j)) C dX2_digest_282 283 rfl 15 0 4 rfl rfl (by decide) (by omega) (by decide) rfl ?_
            refine zv_istore C dX2_digest_283 285 rfl [(12, .int (g10 j)), (11, .int 4), (5, .long ((((((((sm * 31) + (Int32.toInt64 (f0 j))) * 31) + (Int32.toInt64 (f1 j))) * 31) + (Int32.toInt64 (f3 j))) * 31) + (Int32.toInt64 (g9 j)))), (10, .int 10), (9, .ref qi), (8, .ref qi), (0, .ref (h 0)), (7, .int (nI j))] (by decide) rfl ?_
            refine zv_lload C dX2_digest_285 287 rfl 2 rfl ?_
            refine zv_ldc2 C dX2_digest_287 290 rfl (v := 31) (by decide +kernel) ?_
            refine zv_lmul C dX2_digest_290 291 rfl ?_
            refine zv_iload C dX2_digest_291 293 rfl 0 rfl ?_
            refine zv_i2l C dX2_digest_293 294 rfl ?_
            refine zv_ladd C dX2_digest_294 295 rfl ?_
            refine zv_lstore C dX2_digest_295 297 rfl [(5, .long ((((((((((sm * 31) + (Int32.toInt64 (f0 j))) * 31) + (Int32.toInt64 (f1 j))) * 31) + (Int32.toInt64 (f3 j))) * 31) + (Int32.toInt64 (g9 j))) * 31) + (Int32.toInt64 (g10 j)))), (12, .int (g10 j)), (11, .int 4), (10, .int 10), (9, .ref qi), (8, .ref qi), (0, .ref (h 0)), (7, .int (nI j))] (by decide) rfl ?_
            refine zv_iinc (v := 5) C dX2_digest_297 300 rfl [(11, .int 5), (5, .long ((((((((((sm * 31) + (Int32.toInt64 (f0 j))) * 31) + (Int32.toInt64 (f1 j))) * 31) + (Int32.toInt64 (f3 j))) * 31) + (Int32.toInt64 (g9 j))) * 31) + (Int32.toInt64 (g10 j)))), (12, .int (g10 j)), (10, .int 10), (9, .ref qi), (8, .ref qi), (0, .ref (h 0)), (7, .int (nI j))] 2 rfl (by decide) (by decide) rfl ?_
            refine zv_goto C dX2_digest_300 271 (by decide) ?_
            refine zv_iload C dX2_digest_271 273 rfl 0 rfl ?_
            refine zv_iload C dX2_digest_273 275 rfl 3 rfl ?_
            refine zv_icmp_ge C dX2_digest_275 278 303 rfl (by decide) (fun q => absurd q (by decide)) (fun _ => ?_)
            refine zv_aload C dX2_digest_278 280 rfl 4 rfl ?_
            refine zv_iload C dX2_digest_280 282 rfl 0 rfl ?_
            refine zv_iald (v := (nI (mo f0 16 j))) C dX2_digest_282 283 rfl 15 0 5 rfl rfl (by decide) (by omega) (by decide) rfl ?_
            refine zv_istore C dX2_digest_283 285 rfl [(12, .int (nI (mo f0 16 j))), (11, .int 5), (5, .long ((((((((((sm * 31) + (Int32.toInt64 (f0 j))) * 31) + (Int32.toInt64 (f1 j))) * 31) + (Int32.toInt64 (f3 j))) * 31) + (Int32.toInt64 (g9 j))) * 31) + (Int32.toInt64 (g10 j)))), (10, .int 10), (9, .ref qi), (8, .ref qi), (0, .ref (h 0)), (7, .int (nI j))] (by decide) rfl ?_
            refine zv_lload C dX2_digest_285 287 rfl 2 rfl ?_
            refine zv_ldc2 C dX2_digest_287 290 rfl (v := 31) (by decide +kernel) ?_
            refine zv_lmul C dX2_digest_290 291 rfl ?_
            refine zv_iload C dX2_digest_291 293 rfl 0 rfl ?_
            refine zv_i2l C dX2_digest_293 294 rfl ?_
            refine zv_ladd C dX2_digest_294 295 rfl ?_
            refine zv_lstore C dX2_digest_295 297 rfl [(5, .long ((((((((((((sm * 31) + (Int32.toInt64 (f0 j))) * 31) + (Int32.toInt64 (f1 j))) * 31) + (Int32.toInt64 (f3 j))) * 31) + (Int32.toInt64 (g9 j))) * 31) + (Int32.toInt64 (g10 j))) * 31) + (Int32.toInt64 (nI (mo f0 16 j))))), (12, .int (nI (mo f0 16 j))), (11, .int 5), (10, .int 10), (9, .ref qi), (8, .ref qi), (0, .ref (h 0)), (7, .int (nI j))] (by decide) rfl ?_
            refine zv_iinc (v := 6) C dX2_digest_297 300 rfl [(11, .int 6), (5, .long ((((((((((((sm * 31) + (Int32.toInt64 (f0 j))) * 31) + (Int32.toInt64 (f1 j))) * 31) + (Int32.toInt64 (f3 j))) * 31) + (Int32.toInt64 (g9 j))) * 31) + (Int32.toInt64 (g10 j))) * 31) + (Int32.toInt64 (nI (mo f0 16 j))))), (12, .int (nI (mo f0 16 j))), (10, .int 10), (9, .ref qi), (8, .ref qi), (0, .ref (h 0)), (7, .int (nI j))] 2 rfl (by decide) (by decide) rfl ?_
            refine zv_goto C dX2_digest_300 271 (by decide) ?_
            refine zv_iload C dX2_digest_271 273 rfl 0 rfl ?_
            refine zv_iload C dX2_digest_273 275 rfl 3 rfl ?_
            refine zv_icmp_ge C dX2_digest_275 278 303 rfl (by decide) (fun q => absurd q (by decide)) (fun _ => ?_)
            refine zv_aload C dX2_digest_278 280 rfl 4 rfl ?_
            refine zv_iload C dX2_digest_280 282 rfl 0 rfl ?_
            refine zv_iald (v := (nI (ao n f0 j))) C dX2_digest_282 283 rfl 15 0 6 rfl rfl (by decide) (by omega) (by decide) rfl ?_
            refine zv_istore C dX2_digest_283 285 rfl [(12, .int (nI (ao n f0 j))), (11, .int 6), (5, .long ((((((((((((sm * 31) + (Int32.toInt64 (f0 j))) * 31) + (Int32.toInt64 (f1 j))) * 31) + (Int32.toInt64 (f3 j))) * 31) + (Int32.toInt64 (g9 j))) * 31) + (Int32.toInt64 (g10 j))) * 31) + (Int32.toInt64 (nI (mo f0 16 j))))), (10, .int 10), (9, .ref qi), (8, .ref qi), (0, .ref (h 0)), (7, .int (nI j))] (by decide) rfl ?_
            refine zv_lload C dX2_digest_285 287 rfl 2 rfl ?_
            refine zv_ldc2 C dX2_digest_287 290 rfl (v := 31) (by decide +kernel) ?_
            refine zv_lmul C dX2_digest_290 291 rfl ?_
            refine zv_iload C dX2_digest_291 293 rfl 0 rfl ?_
            refine zv_i2l C dX2_digest_293 294 rfl ?_
            refine zv_ladd C dX2_digest_294 295 rfl ?_
            refine zv_lstore C dX2_digest_295 297 rfl [(5, .long ((((((((((((((sm * 31) + (Int32.toInt64 (f0 j))) * 31) + (Int32.toInt64 (f1 j))) * 31) + (Int32.toInt64 (f3 j))) * 31) + (Int32.toInt64 (g9 j))) * 31) + (Int32.toInt64 (g10 j))) * 31) + (Int32.toInt64 (nI (mo f0 16 j)))) * 31) + (Int32.toInt64 (nI (ao n f0 j))))), (12, .int (nI (ao n f0 j))), (11, .int 6), (10, .int 10), (9, .ref qi), (8, .ref qi), (0, .ref (h 0)), (7, .int (nI j))] (by decide) rfl ?_
            refine zv_iinc (v := 7) C dX2_digest_297 300 rfl [(11, .int 7), (5, .long ((((((((((((((sm * 31) + (Int32.toInt64 (f0 j))) * 31) + (Int32.toInt64 (f1 j))) * 31) + (Int32.toInt64 (f3 j))) * 31) + (Int32.toInt64 (g9 j))) * 31) + (Int32.toInt64 (g10 j))) * 31) + (Int32.toInt64 (nI (mo f0 16 j)))) * 31) + (Int32.toInt64 (nI (ao n f0 j))))), (12, .int (nI (ao n f0 j))), (10, .int 10), (9, .ref qi), (8, .ref qi), (0, .ref (h 0)), (7, .int (nI j))] 2 rfl (by decide) (by decide) rfl ?_
            refine zv_goto C dX2_digest_300 271 (by decide) ?_
            refine zv_iload C dX2_digest_271 273 rfl 0 rfl ?_
            refine zv_iload C dX2_digest_273 275 rfl 3 rfl ?_
            refine zv_icmp_ge C dX2_digest_275 278 303 rfl (by decide) (fun q => absurd q (by decide)) (fun _ => ?_)
            refine zv_aload C dX2_digest_278 280 rfl 4 rfl ?_
            refine zv_iload C dX2_digest_280 282 rfl 0 rfl ?_
            refine zv_iald (v := (g11 j)) C dX2_digest_282 283 rfl 15 0 7 rfl rfl (by decide) (by omega) (by decide) rfl ?_
            refine zv_istore C dX2_digest_283 285 rfl [(12, .int (g11 j)), (11, .int 7), (5, .long ((((((((((((((sm * 31) + (Int32.toInt64 (f0 j))) * 31) + (Int32.toInt64 (f1 j))) * 31) + (Int32.toInt64 (f3 j))) * 31) + (Int32.toInt64 (g9 j))) * 31) + (Int32.toInt64 (g10 j))) * 31) + (Int32.toInt64 (nI (mo f0 16 j)))) * 31) + (Int32.toInt64 (nI (ao n f0 j))))), (10, .int 10), (9, .ref qi), (8, .ref qi), (0, .ref (h 0)), (7, .int (nI j))] (by decide) rfl ?_
            refine zv_lload C dX2_digest_285 287 rfl 2 rfl ?_
            refine zv_ldc2 C dX2_digest_287 290 rfl (v := 31) (by decide +kernel) ?_
            refine zv_lmul C dX2_digest_290 291 rfl ?_
            refine zv_iload C dX2_digest_291 293 rfl 0 rfl ?_
            refine zv_i2l C dX2_digest_293 294 rfl ?_
            refine zv_ladd C dX2_digest_294 295 rfl ?_
            refine zv_lstore C dX2_digest_295 297 rfl [(5, .long ((((((((((((((((sm * 31) + (Int32.toInt64 (f0 j))) * 31) + (Int32.toInt64 (f1 j))) * 31) + (Int32.toInt64 (f3 j))) * 31) + (Int32.toInt64 (g9 j))) * 31) + (Int32.toInt64 (g10 j))) * 31) + (Int32.toInt64 (nI (mo f0 16 j)))) * 31) + (Int32.toInt64 (nI (ao n f0 j)))) * 31) + (Int32.toInt64 (g11 j)))), (12, .int (g11 j)), (11, .int 7), (10, .int 10), (9, .ref qi), (8, .ref qi), (0, .ref (h 0)), (7, .int (nI j))] (by decide) rfl ?_
            refine zv_iinc (v := 8) C dX2_digest_297 300 rfl [(11, .int 8), (5, .long ((((((((((((((((sm * 31) + (Int32.toInt64 (f0 j))) * 31) + (Int32.toInt64 (f1 j))) * 31) + (Int32.toInt64 (f3 j))) * 31) + (Int32.toInt64 (g9 j))) * 31) + (Int32.toInt64 (g10 j))) * 31) + (Int32.toInt64 (nI (mo f0 16 j)))) * 31) + (Int32.toInt64 (nI (ao n f0 j)))) * 31) + (Int32.toInt64 (g11 j)))), (12, .int (g11 j)), (10, .int 10), (9, .ref qi), (8, .ref qi), (0, .ref (h 0)), (7, .int (nI j))] 2 rfl (by decide) (by decide) rfl ?_
            refine zv_goto C dX2_digest_300 271 (by decide) ?_
            refine zv_iload C dX2_digest_271 273 rfl 0 rfl ?_
            refine zv_iload C dX2_digest_273 275 rfl 3 rfl ?_
            refine zv_icmp_ge C dX2_digest_275 278 303 rfl (by decide) (fun q => absurd q (by decide)) (fun _ => ?_)
            refine zv_aload C dX2_digest_278 280 rfl 4 rfl ?_
            refine zv_iload C dX2_digest_280 282 rfl 0 rfl ?_
            refine zv_iald (v := (nI (agA f0 f1 f3 f5 g11 j n))) C dX2_digest_282 283 rfl 15 0 8 rfl rfl (by decide) (by omega) (by decide) rfl ?_
            refine zv_istore C dX2_digest_283 285 rfl [(12, .int (nI (agA f0 f1 f3 f5 g11 j n))), (11, .int 8), (5, .long ((((((((((((((((sm * 31) + (Int32.toInt64 (f0 j))) * 31) + (Int32.toInt64 (f1 j))) * 31) + (Int32.toInt64 (f3 j))) * 31) + (Int32.toInt64 (g9 j))) * 31) + (Int32.toInt64 (g10 j))) * 31) + (Int32.toInt64 (nI (mo f0 16 j)))) * 31) + (Int32.toInt64 (nI (ao n f0 j)))) * 31) + (Int32.toInt64 (g11 j)))), (10, .int 10), (9, .ref qi), (8, .ref qi), (0, .ref (h 0)), (7, .int (nI j))] (by decide) rfl ?_
            refine zv_lload C dX2_digest_285 287 rfl 2 rfl ?_
            refine zv_ldc2 C dX2_digest_287 290 rfl (v := 31) (by decide +kernel) ?_
            refine zv_lmul C dX2_digest_290 291 rfl ?_
            refine zv_iload C dX2_digest_291 293 rfl 0 rfl ?_
            refine zv_i2l C dX2_digest_293 294 rfl ?_
            refine zv_ladd C dX2_digest_294 295 rfl ?_
            refine zv_lstore C dX2_digest_295 297 rfl [(5, .long ((((((((((((((((((sm * 31) + (Int32.toInt64 (f0 j))) * 31) + (Int32.toInt64 (f1 j))) * 31) + (Int32.toInt64 (f3 j))) * 31) + (Int32.toInt64 (g9 j))) * 31) + (Int32.toInt64 (g10 j))) * 31) + (Int32.toInt64 (nI (mo f0 16 j)))) * 31) + (Int32.toInt64 (nI (ao n f0 j)))) * 31) + (Int32.toInt64 (g11 j))) * 31) + (Int32.toInt64 (nI (agA f0 f1 f3 f5 g11 j n))))), (12, .int (nI (agA f0 f1 f3 f5 g11 j n))), (11, .int 8), (10, .int 10), (9, .ref qi), (8, .ref qi), (0, .ref (h 0)), (7, .int (nI j))] (by decide) rfl ?_
            refine zv_iinc (v := 9) C dX2_digest_297 300 rfl [(11, .int 9), (5, .long ((((((((((((((((((sm * 31) + (Int32.toInt64 (f0 j))) * 31) + (Int32.toInt64 (f1 j))) * 31) + (Int32.toInt64 (f3 j))) * 31) + (Int32.toInt64 (g9 j))) * 31) + (Int32.toInt64 (g10 j))) * 31) + (Int32.toInt64 (nI (mo f0 16 j)))) * 31) + (Int32.toInt64 (nI (ao n f0 j)))) * 31) + (Int32.toInt64 (g11 j))) * 31) + (Int32.toInt64 (nI (agA f0 f1 f3 f5 g11 j n))))), (12, .int (nI (agA f0 f1 f3 f5 g11 j n))), (10, .int 10), (9, .ref qi), (8, .ref qi), (0, .ref (h 0)), (7, .int (nI j))] 2 rfl (by decide) (by decide) rfl ?_
            refine zv_goto C dX2_digest_300 271 (by decide) ?_
            refine zv_iload C dX2_digest_271 273 rfl 0 rfl ?_
            refine zv_iload C dX2_digest_273 275 rfl 3 rfl ?_
            refine zv_icmp_ge C dX2_digest_275 278 303 rfl (by decide) (fun q => absurd q (by decide)) (fun _ => ?_)
            refine zv_aload C dX2_digest_278 280 rfl 4 rfl ?_
            refine zv_iload C dX2_digest_280 282 rfl 0 rfl ?_
            refine zv_iald (v := (zb (agD f0 f1 f2 f3 f5 g11 j n))) C dX2_digest_282 283 rfl 15 0 9 rfl rfl (by decide) (by omega) (by decide) (upd_at _ _ _) ?_
            refine zv_istore C dX2_digest_283 285 rfl [(12, .int (zb (agD f0 f1 f2 f3 f5 g11 j n))), (11, .int 9), (5, .long ((((((((((((((((((sm * 31) + (Int32.toInt64 (f0 j))) * 31) + (Int32.toInt64 (f1 j))) * 31) + (Int32.toInt64 (f3 j))) * 31) + (Int32.toInt64 (g9 j))) * 31) + (Int32.toInt64 (g10 j))) * 31) + (Int32.toInt64 (nI (mo f0 16 j)))) * 31) + (Int32.toInt64 (nI (ao n f0 j)))) * 31) + (Int32.toInt64 (g11 j))) * 31) + (Int32.toInt64 (nI (agA f0 f1 f3 f5 g11 j n))))), (10, .int 10), (9, .ref qi), (8, .ref qi), (0, .ref (h 0)), (7, .int (nI j))] (by decide) rfl ?_
            refine zv_lload C dX2_digest_285 287 rfl 2 rfl ?_
            refine zv_ldc2 C dX2_digest_287 290 rfl (v := 31) (by decide +kernel) ?_
            refine zv_lmul C dX2_digest_290 291 rfl ?_
            refine zv_iload C dX2_digest_291 293 rfl 0 rfl ?_
            refine zv_i2l C dX2_digest_293 294 rfl ?_
            refine zv_ladd C dX2_digest_294 295 rfl ?_
            refine zv_lstore C dX2_digest_295 297 rfl [(5, .long ((((((((((((((((((((sm * 31) + (Int32.toInt64 (f0 j))) * 31) + (Int32.toInt64 (f1 j))) * 31) + (Int32.toInt64 (f3 j))) * 31) + (Int32.toInt64 (g9 j))) * 31) + (Int32.toInt64 (g10 j))) * 31) + (Int32.toInt64 (nI (mo f0 16 j)))) * 31) + (Int32.toInt64 (nI (ao n f0 j)))) * 31) + (Int32.toInt64 (g11 j))) * 31) + (Int32.toInt64 (nI (agA f0 f1 f3 f5 g11 j n)))) * 31) + (Int32.toInt64 (zb (agD f0 f1 f2 f3 f5 g11 j n))))), (12, .int (zb (agD f0 f1 f2 f3 f5 g11 j n))), (11, .int 9), (10, .int 10), (9, .ref qi), (8, .ref qi), (0, .ref (h 0)), (7, .int (nI j))] (by decide) rfl ?_
            refine zv_iinc (v := 10) C dX2_digest_297 300 rfl [(11, .int 10), (5, .long ((((((((((((((((((((sm * 31) + (Int32.toInt64 (f0 j))) * 31) + (Int32.toInt64 (f1 j))) * 31) + (Int32.toInt64 (f3 j))) * 31) + (Int32.toInt64 (g9 j))) * 31) + (Int32.toInt64 (g10 j))) * 31) + (Int32.toInt64 (nI (mo f0 16 j)))) * 31) + (Int32.toInt64 (nI (ao n f0 j)))) * 31) + (Int32.toInt64 (g11 j))) * 31) + (Int32.toInt64 (nI (agA f0 f1 f3 f5 g11 j n)))) * 31) + (Int32.toInt64 (zb (agD f0 f1 f2 f3 f5 g11 j n))))), (12, .int (zb (agD f0 f1 f2 f3 f5 g11 j n))), (10, .int 10), (9, .ref qi), (8, .ref qi), (0, .ref (h 0)), (7, .int (nI j))] 2 rfl (by decide) (by decide) rfl ?_
            refine zv_goto C dX2_digest_300 271 (by decide) ?_
            refine zv_iload C dX2_digest_271 273 rfl 0 rfl ?_
            refine zv_iload C dX2_digest_273 275 rfl 3 rfl ?_
            refine zv_icmp_ge C dX2_digest_275 278 303 rfl (by decide) (fun _ => ?_) (fun q => absurd (by decide) q)
            refine zv_perm [0, 1, 2, 3, 4, 5, 6, 7, 8, 9, 10, 11, 12, 13, 14] (ws' := (cM cI cZ h 0 (nI n) r y (nI b) f0 f1 f2 f3 f4 f5 f6 f7 g8 g9 g10 g11 g12 f13)) (by decide) rfl ?_
            refine zv_iinc (v := (nI (j + 1))) C dX2_digest_303 306 rfl [(7, .int (nI (j + 1))), (11, .int 10), (5, .long ((((((((((((((((((((sm * 31) + (Int32.toInt64 (f0 j))) * 31) + (Int32.toInt64 (f1 j))) * 31) + (Int32.toInt64 (f3 j))) * 31) + (Int32.toInt64 (g9 j))) * 31) + (Int32.toInt64 (g10 j))) * 31) + (Int32.toInt64 (nI (mo f0 16 j)))) * 31) + (Int32.toInt64 (nI (ao n f0 j)))) * 31) + (Int32.toInt64 (g11 j))) * 31) + (Int32.toInt64 (nI (agA f0 f1 f3 f5 g11 j n)))) * 31) + (Int32.toInt64 (zb (agD f0 f1 f2 f3 f5 g11 j n))))), (12, .int (zb (agD f0 f1 f2 f3 f5 g11 j n))), (10, .int 10), (9, .ref qi), (8, .ref qi), (0, .ref (h 0))] 7 rfl (nI_1 j) (by decide) rfl ?_
            refine zv_goto C dX2_digest_306 128 (by decide) ?_
            refine zv_go rfl rfl rfl (kc' := 1 + (j + 1)) (by omega) (ns' := 8 + 10 * (j + 1)) (by omega) ?_
            refine zv_sub [7, 2, 0] (lv' := [(0, .ref (h 0)), (5, .long ((((((((((((((((((((sm * 31) + (Int32.toInt64 (f0 j))) * 31) + (Int32.toInt64 (f1 j))) * 31) + (Int32.toInt64 (f3 j))) * 31) + (Int32.toInt64 (g9 j))) * 31) + (Int32.toInt64 (g10 j))) * 31) + (Int32.toInt64 (nI (mo f0 16 j)))) * 31) + (Int32.toInt64 (nI (ao n f0 j)))) * 31) + (Int32.toInt64 (g11 j))) * 31) + (Int32.toInt64 (nI (agA f0 f1 f3 f5 g11 j n)))) * 31) + (Int32.toInt64 (zb (agD f0 f1 f2 f3 f5 g11 j n))))), (7, .int (nI (j + 1)))]) rfl ?_
            exact ih_L128 (j + 1) ((((((((((((((((((((sm * 31) + (Int32.toInt64 (f0 j))) * 31) + (Int32.toInt64 (f1 j))) * 31) + (Int32.toInt64 (f3 j))) * 31) + (Int32.toInt64 (g9 j))) * 31) + (Int32.toInt64 (g10 j))) * 31) + (Int32.toInt64 (nI (mo f0 16 j)))) * 31) + (Int32.toInt64 (nI (ao n f0 j)))) * 31) + (Int32.toInt64 (g11 j))) * 31) + (Int32.toInt64 (nI (agA f0 f1 f3 f5 g11 j n)))) * 31) + (Int32.toInt64 (zb (agD f0 f1 f2 f3 f5 g11 j n)))) g8 g9 g10 g11 g12 (by omega) hM (by rw [hm]; rfl) (by omega)
          · replace c5 := zb_ne0.mp c5
            refine zv_iconst (v := 1) C dX2_digest_251 252 rfl (by decide) ?_
            refine zv_goto C dX2_digest_252 256 (by decide) ?_
            refine zv_iast (x' := (zb (agD f0 f1 f2 f3 f5 g11 j n))) C dX2_digest_256 257 rfl 15 0 9 rfl rfl (by decide) (by omega) (by decide) (by rw [c5]; rfl) ((cM cI cZ h 0 (nI n) r y (nI b) f0 f1 f2 f3 f4 f5 f6 f7 g8 g9 g10 g11 g12 f13) ++ [(qi, .inl (cI, 10, .inl (upd (upd (upd (upd (upd (upd (upd (upd (upd (upd z0 0 (f0 j)) 1 (f1 j)) 2 (f3 j)) 3 (g9 j)) 4 (g10 j)) 5 (nI (mo f0 16 j))) 6 (nI (ao n f0 j))) 7 (g11 j)) 8 (nI (agA f0 f1 f3 f5 g11 j n))) 9 (zb (agD f0 f1 f2 f3 f5 g11 j n)))))]) rfl ?_
            refine zv_astore C dX2_digest_257 259 rfl [(8, .ref qi), (0, .ref (h 0)), (5, .long sm), (7, .int (nI j))] (by decide) rfl ?_
            refine zv_aload C dX2_digest_259 261 rfl 0 rfl ?_
            refine zv_astore C dX2_digest_261 263 rfl [(9, .ref qi), (8, .ref qi), (0, .ref (h 0)), (5, .long sm), (7, .int (nI j))] (by decide) rfl ?_
            refine zv_aload C dX2_digest_263 265 rfl 0 rfl ?_
            refine zv_alen (v := 10) C dX2_digest_265 266 rfl 15 0 rfl rfl rfl ?_
            refine zv_istore C dX2_digest_266 268 rfl [(10, .int 10), (9, .ref qi), (8, .ref qi), (0, .ref (h 0)), (5, .long sm), (7, .int (nI j))] (by decide) rfl ?_
            refine zv_iconst (v := 0) C dX2_digest_268 269 rfl (by decide) ?_
            refine zv_istore C dX2_digest_269 271 rfl [(11, .int 0), (10, .int 10), (9, .ref qi), (8, .ref qi), (0, .ref (h 0)), (5, .long sm), (7, .int (nI j))] (by decide) rfl ?_
            refine zv_iload C dX2_digest_271 273 rfl 0 rfl ?_
            refine zv_iload C dX2_digest_273 275 rfl 1 rfl ?_
            refine zv_icmp_ge C dX2_digest_275 278 303 rfl (by decide) (fun q => absurd q (by decide)) (fun _ => ?_)
            refine zv_aload C dX2_digest_278 280 rfl 2 rfl ?_
            refine zv_iload C dX2_digest_280 282 rfl 0 rfl ?_
            refine zv_iald (v := (f0 j)) C dX2_digest_282 283 rfl 15 0 0 rfl rfl (by decide) (by omega) (by decide) rfl ?_
            refine zv_istore C dX2_digest_283 285 rfl [(12, .int (f0 j)), (11, .int 0), (10, .int 10), (9, .ref qi), (8, .ref qi), (0, .ref (h 0)), (5, .long sm), (7, .int (nI j))] (by decide) rfl ?_
            refine zv_lload C dX2_digest_285 287 rfl 6 rfl ?_
            refine zv_ldc2 C dX2_digest_287 290 rfl (v := 31) (by decide +kernel) ?_
            refine zv_lmul C dX2_digest_290 291 rfl ?_
            refine zv_iload C dX2_digest_291 293 rfl 0 rfl ?_
            refine zv_i2l C dX2_digest_293 294 rfl ?_
            refine zv_ladd C dX2_digest_294 295 rfl ?_
            refine zv_lstore C dX2_digest_295 297 rfl [(5, .long ((sm * 31) + (Int32.toInt64 (f0 j)))), (12, .int (f0 j)), (11, .int 0), (10, .int 10), (9, .ref qi), (8, .ref qi), (0, .ref (h 0)), (7, .int (nI j))] (by decide) rfl ?_
            refine zv_iinc (v := 1) C dX2_digest_297 300 rfl [(11, .int 1), (5, .long ((sm * 31) + (Int32.toInt64 (f0 j)))), (12, .int (f0 j)), (10, .int 10), (9, .ref qi), (8, .ref qi), (0, .ref (h 0)), (7, .int (nI j))] 2 rfl (by decide) (by decide) rfl ?_
            refine zv_goto C dX2_digest_300 271 (by decide) ?_
            refine zv_iload C dX2_digest_271 273 rfl 0 rfl ?_
            refine zv_iload C dX2_digest_273 275 rfl 3 rfl ?_
            refine zv_icmp_ge C dX2_digest_275 278 303 rfl (by decide) (fun q => absurd q (by decide)) (fun _ => ?_)
            refine zv_aload C dX2_digest_278 280 rfl 4 rfl ?_
            refine zv_iload C dX2_digest_280 282 rfl 0 rfl ?_
            refine zv_iald (v := (f1 j)) C dX2_digest_282 283 rfl 15 0 1 rfl rfl (by decide) (by omega) (by decide) rfl ?_
            refine zv_istore C dX2_digest_283 285 rfl [(12, .int (f1 j)), (11, .int 1), (5, .long ((sm * 31) + (Int32.toInt64 (f0 j)))), (10, .int 10), (9, .ref qi), (8, .ref qi), (0, .ref (h 0)), (7, .int (nI j))] (by decide) rfl ?_
            refine zv_lload C dX2_digest_285 287 rfl 2 rfl ?_
            refine zv_ldc2 C dX2_digest_287 290 rfl (v := 31) (by decide +kernel) ?_
            refine zv_lmul C dX2_digest_290 291 rfl ?_
            refine zv_iload C dX2_digest_291 293 rfl 0 rfl ?_
            refine zv_i2l C dX2_digest_293 294 rfl ?_
            refine zv_ladd C dX2_digest_294 295 rfl ?_
            refine zv_lstore C dX2_digest_295 297 rfl [(5, .long ((((sm * 31) + (Int32.toInt64 (f0 j))) * 31) + (Int32.toInt64 (f1 j)))), (12, .int (f1 j)), (11, .int 1), (10, .int 10), (9, .ref qi), (8, .ref qi), (0, .ref (h 0)), (7, .int (nI j))] (by decide) rfl ?_
            refine zv_iinc (v := 2) C dX2_digest_297 300 rfl [(11, .int 2), (5, .long ((((sm * 31) + (Int32.toInt64 (f0 j))) * 31) + (Int32.toInt64 (f1 j)))), (12, .int (f1 j)), (10, .int 10), (9, .ref qi), (8, .ref qi), (0, .ref (h 0)), (7, .int (nI j))] 2 rfl (by decide) (by decide) rfl ?_
            refine zv_goto C dX2_digest_300 271 (by decide) ?_
            refine zv_iload C dX2_digest_271 273 rfl 0 rfl ?_
            refine zv_iload C dX2_digest_273 275 rfl 3 rfl ?_
            refine zv_icmp_ge C dX2_digest_275 278 303 rfl (by decide) (fun q => absurd q (by decide)) (fun _ => ?_)
            refine zv_aload C dX2_digest_278 280 rfl 4 rfl ?_
            refine zv_iload C dX2_digest_280 282 rfl 0 rfl ?_
            refine zv_iald (v := (f3 j)) C dX2_digest_282 283 rfl 15 0 2 rfl rfl (by decide) (by omega) (by decide) rfl ?_
            refine zv_istore C dX2_digest_283 285 rfl [(12, .int (f3 j)), (11, .int 2), (5, .long ((((sm * 31) + (Int32.toInt64 (f0 j))) * 31) + (Int32.toInt64 (f1 j)))), (10, .int 10), (9, .ref qi), (8, .ref qi), (0, .ref (h 0)), (7, .int (nI j))] (by decide) rfl ?_
            refine zv_lload C dX2_digest_285 287 rfl 2 rfl ?_
            refine zv_ldc2 C dX2_digest_287 290 rfl (v := 31) (by decide +kernel) ?_
            refine zv_lmul C dX2_digest_290 291 rfl ?_
            refine zv_iload C dX2_digest_291 293 rfl 0 rfl ?_
            refine zv_i2l C dX2_digest_293 294 rfl ?_
            refine zv_ladd C dX2_digest_294 295 rfl ?_
            refine zv_lstore C dX2_digest_295 297 rfl [(5, .long ((((((sm * 31) + (Int32.toInt64 (f0 j))) * 31) + (Int32.toInt64 (f1 j))) * 31) + (Int32.toInt64 (f3 j)))), (12, .int (f3 j)), (11, .int 2), (10, .int 10), (9, .ref qi), (8, .ref qi), (0, .ref (h 0)), (7, .int (nI j))] (by decide) rfl ?_
            refine zv_iinc (v := 3) C dX2_digest_297 300 rfl [(11, .int 3), (5, .long ((((((sm * 31) + (Int32.toInt64 (f0 j))) * 31) + (Int32.toInt64 (f1 j))) * 31) + (Int32.toInt64 (f3 j)))), (12, .int (f3 j)), (10, .int 10), (9, .ref qi), (8, .ref qi), (0, .ref (h 0)), (7, .int (nI j))] 2 rfl (by decide) (by decide) rfl ?_
            refine zv_goto C dX2_digest_300 271 (by decide) ?_
            refine zv_iload C dX2_digest_271 273 rfl 0 rfl ?_
            refine zv_iload C dX2_digest_273 275 rfl 3 rfl ?_
            refine zv_icmp_ge C dX2_digest_275 278 303 rfl (by decide) (fun q => absurd q (by decide)) (fun _ => ?_)
            refine zv_aload C dX2_digest_278 280 rfl 4 rfl ?_
            refine zv_iload C dX2_digest_280 282 rfl 0 rfl ?_
            refine zv_iald (v := (g9 j)) C dX2_digest_282 283 rfl 15 0 3 rfl rfl (by decide) (by omega) (by decide) rfl ?_
            refine zv_istore C dX2_digest_283 285 rfl [(12, .int (g9 j)), (11, .int 3), (5, .long ((((((sm * 31) + (Int32.toInt64 (f0 j))) * 31) + (Int32.toInt64 (f1 j))) * 31) + (Int32.toInt64 (f3 j)))), (10, .int 10), (9, .ref qi), (8, .ref qi), (0, .ref (h 0)), (7, .int (nI j))] (by decide) rfl ?_
            refine zv_lload C dX2_digest_285 287 rfl 2 rfl ?_
            refine zv_ldc2 C dX2_digest_287 290 rfl (v := 31) (by decide +kernel) ?_
            refine zv_lmul C dX2_digest_290 291 rfl ?_
            refine zv_iload C dX2_digest_291 293 rfl 0 rfl ?_
            refine zv_i2l C dX2_digest_293 294 rfl ?_
            refine zv_ladd C dX2_digest_294 295 rfl ?_
            refine zv_lstore C dX2_digest_295 297 rfl [(5, .long ((((((((sm * 31) + (Int32.toInt64 (f0 j))) * 31) + (Int32.toInt64 (f1 j))) * 31) + (Int32.toInt64 (f3 j))) * 31) + (Int32.toInt64 (g9 j)))), (12, .int (g9 j)), (11, .int 3), (10, .int 10), (9, .ref qi), (8, .ref qi), (0, .ref (h 0)), (7, .int (nI j))] (by decide) rfl ?_
            refine zv_iinc (v := 4) C dX2_digest_297 300 rfl [(11, .int 4), (5, .long ((((((((sm * 31) + (Int32.toInt64 (f0 j))) * 31) + (Int32.toInt64 (f1 j))) * 31) + (Int32.toInt64 (f3 j))) * 31) + (Int32.toInt64 (g9 j)))), (12, .int (g9 j)), (10, .int 10), (9, .ref qi), (8, .ref qi), (0, .ref (h 0)), (7, .int (nI j))] 2 rfl (by decide) (by decide) rfl ?_
            refine zv_goto C dX2_digest_300 271 (by decide) ?_
            refine zv_iload C dX2_digest_271 273 rfl 0 rfl ?_
            refine zv_iload C dX2_digest_273 275 rfl 3 rfl ?_
            refine zv_icmp_ge C dX2_digest_275 278 303 rfl (by decide) (fun q => absurd q (by decide)) (fun _ => ?_)
            refine zv_aload C dX2_digest_278 280 rfl 4 rfl ?_
            refine zv_iload C dX2_digest_280 282 rfl 0 rfl ?_
            refine zv_iald (v := (g10 j)) C dX2_digest_282 283 rfl 15 0 4 rfl rfl (by decide) (by omega) (by decide) rfl ?_
            refine zv_istore C dX2_digest_283 285 rfl [(12, .int (g10 j)), (11, .int 4), (5, .long ((((((((sm * 31) + (Int32.toInt64 (f0 j))) * 31) + (Int32.toInt64 (f1 j))) * 31) + (Int32.toInt64 (f3 j))) * 31) + (Int32.toInt64 (g9 j)))), (10, .int 10), (9, .ref qi), (8, .ref qi), (0, .ref (h 0)), (7, .int (nI j))] (by decide) rfl ?_
            refine zv_lload C dX2_digest_285 287 rfl 2 rfl ?_
            refine zv_ldc2 C dX2_digest_287 290 rfl (v := 31) (by decide +kernel) ?_
            refine zv_lmul C dX2_digest_290 291 rfl ?_
            refine zv_iload C dX2_digest_291 293 rfl 0 rfl ?_
            refine zv_i2l C dX2_digest_293 294 rfl ?_
            refine zv_ladd C dX2_digest_294 295 rfl ?_
            refine zv_lstore C dX2_digest_295 297 rfl [(5, .long ((((((((((sm * 31) + (Int32.toInt64 (f0 j))) * 31) + (Int32.toInt64 (f1 j))) * 31) + (Int32.toInt64 (f3 j))) * 31) + (Int32.toInt64 (g9 j))) * 31) + (Int32.toInt64 (g10 j)))), (12, .int (g10 j)), (11, .int 4), (10, .int 10), (9, .ref qi), (8, .ref qi), (0, .ref (h 0)), (7, .int (nI j))] (by decide) rfl ?_
            refine zv_iinc (v := 5) C dX2_digest_297 300 rfl [(11, .int 5), (5, .long ((((((((((sm * 31) + (Int32.toInt64 (f0 j))) * 31) + (Int32.toInt64 (f1 j))) * 31) + (Int32.toInt64 (f3 j))) * 31) + (Int32.toInt64 (g9 j))) * 31) + (Int32.toInt64 (g10 j)))), (12, .int (g10 j)), (10, .int 10), (9, .ref qi), (8, .ref qi), (0, .ref (h 0)), (7, .int (nI j))] 2 rfl (by decide) (by decide) rfl ?_
            refine zv_goto C dX2_digest_300 271 (by decide) ?_
            refine zv_iload C dX2_digest_271 273 rfl 0 rfl ?_
            refine zv_iload C dX2_digest_273 275 rfl 3 rfl ?_
            refine zv_icmp_ge C dX2_digest_275 278 303 rfl (by decide) (fun q => absurd q (by decide)) (fun _ => ?_)
            refine zv_aload C dX2_digest_278 280 rfl 4 rfl ?_
            refine zv_iload C dX2_digest_280 282 rfl 0 rfl ?_
            refine zv_iald (v := (nI (mo f0 16 j))) C dX2_digest_282 283 rfl 15 0 5 rfl rfl (by decide) (by omega) (by decide) rfl ?_
            refine zv_istore C dX2_digest_283 285 rfl [(12, .int (nI (mo f0 16 j))), (11, .int 5), (5, .long ((((((((((sm * 31) + (Int32.toInt64 (f0 j))) * 31) + (Int32.toInt64 (f1 j))) * 31) + (Int32.toInt64 (f3 j))) * 31) + (Int32.toInt64 (g9 j))) * 31) + (Int32.toInt64 (g10 j)))), (10, .int 10), (9, .ref qi), (8, .ref qi), (0, .ref (h 0)), (7, .int (nI j))] (by decide) rfl ?_
            refine zv_lload C dX2_digest_285 287 rfl 2 rfl ?_
            refine zv_ldc2 C dX2_digest_287 290 rfl (v := 31) (by decide +kernel) ?_
            refine zv_lmul C dX2_digest_290 291 rfl ?_
            refine zv_iload C dX2_digest_291 293 rfl 0 rfl ?_
            refine zv_i2l C dX2_digest_293 294 rfl ?_
            refine zv_ladd C dX2_digest_294 295 rfl ?_
            refine zv_lstore C dX2_digest_295 297 rfl [(5, .long ((((((((((((sm * 31) + (Int32.toInt64 (f0 j))) * 31) + (Int32.toInt64 (f1 j))) * 31) + (Int32.toInt64 (f3 j))) * 31) + (Int32.toInt64 (g9 j))) * 31) + (Int32.toInt64 (g10 j))) * 31) + (Int32.toInt64 (nI (mo f0 16 j))))), (12, .int (nI (mo f0 16 j))), (11, .int 5), (10, .int 10), (9, .ref qi), (8, .ref qi), (0, .ref (h 0)), (7, .int (nI j))] (by decide) rfl ?_
            refine zv_iinc (v := 6) C dX2_digest_297 300 rfl [(11, .int 6), (5, .long ((((((((((((sm * 31) + (Int32.toInt64 (f0 j))) * 31) + (Int32.toInt64 (f1 j))) * 31) + (Int32.toInt64 (f3 j))) * 31) + (Int32.toInt64 (g9 j))) * 31) + (Int32.toInt64 (g10 j))) * 31) + (Int32.toInt64 (nI (mo f0 16 j))))), (12, .int (nI (mo f0 16 j))), (10, .int 10), (9, .ref qi), (8, .ref qi), (0, .ref (h 0)), (7, .int (nI j))] 2 rfl (by decide) (by decide) rfl ?_
            refine zv_goto C dX2_digest_300 271 (by decide) ?_
            refine zv_iload C dX2_digest_271 273 rfl 0 rfl ?_
            refine zv_iload C dX2_digest_273 275 rfl 3 rfl ?_
            refine zv_icmp_ge C dX2_digest_275 278 303 rfl (by decide) (fun q => absurd q (by decide)) (fun _ => ?_)
            refine zv_aload C dX2_digest_278 280 rfl 4 rfl ?_
            refine zv_iload C dX2_digest_280 282 rfl 0 rfl ?_
            refine zv_iald (v := (nI (ao n f0 j))) C dX2_digest_282 283 rfl 15 0 6 rfl rfl (by decide) (by omega) (by decide) rfl ?_
            refine zv_istore C dX2_digest_283 285 rfl [(12, .int (nI (ao n f0 j))), (11, .int 6), (5, .long ((((((((((((sm * 31) + (Int32.toInt64 (f0 j))) * 31) + (Int32.toInt64 (f1 j))) * 31) + (Int32.toInt64 (f3 j))) * 31) + (Int32.toInt64 (g9 j))) * 31) + (Int32.toInt64 (g10 j))) * 31) + (Int32.toInt64 (nI (mo f0 16 j))))), (10, .int 10), (9, .ref qi), (8, .ref qi), (0, .ref (h 0)), (7, .int (nI j))] (by decide) rfl ?_
            refine zv_lload C dX2_digest_285 287 rfl 2 rfl ?_
            refine zv_ldc2 C dX2_digest_287 290 rfl (v := 31) (by decide +kernel) ?_
            refine zv_lmul C dX2_digest_290 291 rfl ?_
            refine zv_iload C dX2_digest_291 293 rfl 0 rfl ?_
            refine zv_i2l C dX2_digest_293 294 rfl ?_
            refine zv_ladd C dX2_digest_294 295 rfl ?_
            refine zv_lstore C dX2_digest_295 297 rfl [(5, .long ((((((((((((((sm * 31) + (Int32.toInt64 (f0 j))) * 31) + (Int32.toInt64 (f1 j))) * 31) + (Int32.toInt64 (f3 j))) * 31) + (Int32.toInt64 (g9 j))) * 31) + (Int32.toInt64 (g10 j))) * 31) + (Int32.toInt64 (nI (mo f0 16 j)))) * 31) + (Int32.toInt64 (nI (ao n f0 j))))), (12, .int (nI (ao n f0 j))), (11, .int 6), (10, .int 10), (9, .ref qi), (8, .ref qi), (0, .ref (h 0)), (7, .int (nI j))] (by decide) rfl ?_
            refine zv_iinc (v := 7) C dX2_digest_297 300 rfl [(11, .int 7), (5, .long ((((((((((((((sm * 31) + (Int32.toInt64 (f0 j))) * 31) + (Int32.toInt64 (f1 j))) * 31) + (Int32.toInt64 (f3 j))) * 31) + (Int32.toInt64 (g9 j))) * 31) + (Int32.toInt64 (g10 j))) * 31) + (Int32.toInt64 (nI (mo f0 16 j)))) * 31) + (Int32.toInt64 (nI (ao n f0 j))))), (12, .int (nI (ao n f0 j))), (10, .int 10), (9, .ref qi), (8, .ref qi), (0, .ref (h 0)), (7, .int (nI j))] 2 rfl (by decide) (by decide) rfl ?_
            refine zv_goto C dX2_digest_300 271 (by decide) ?_
            refine zv_iload C dX2_digest_271 273 rfl 0 rfl ?_
            refine zv_iload C dX2_digest_273 275 rfl 3 rfl ?_
            refine zv_icmp_ge C dX2_digest_275 278 303 rfl (by decide) (fun q => absurd q (by decide)) (fun _ => ?_)
            refine zv_aload C dX2_digest_278 280 rfl 4 rfl ?_
            refine zv_iload C dX2_digest_280 282 rfl 0 rfl ?_
            refine zv_iald (v := (g11 j)) C dX2_digest_282 283 rfl 15 0 7 rfl rfl (by decide) (by omega) (by decide) rfl ?_
            refine zv_istore C dX2_digest_283 285 rfl [(12, .int (g11 j)), (11, .int 7), (5, .long ((((((((((((((sm * 31) + (Int32.toInt64 (f0 j))) * 31) + (Int32.toInt64 (f1 j))) * 31) + (Int32.toInt64 (f3 j))) * 31) + (Int32.toInt64 (g9 j))) * 31) + (Int32.toInt64 (g10 j))) * 31) + (Int32.toInt64 (nI (mo f0 16 j)))) * 31) + (Int32.toInt64 (nI (ao n f0 j))))), (10, .int 10), (9, .ref qi), (8, .ref qi), (0, .ref (h 0)), (7, .int (nI j))] (by decide) rfl ?_
            refine zv_lload C dX2_digest_285 287 rfl 2 rfl ?_
            refine zv_ldc2 C dX2_digest_287 290 rfl (v := 31) (by decide +kernel) ?_
            refine zv_lmul C dX2_digest_290 291 rfl ?_
            refine zv_iload C dX2_digest_291 293 rfl 0 rfl ?_
            refine zv_i2l C dX2_digest_293 294 rfl ?_
            refine zv_ladd C dX2_digest_294 295 rfl ?_
            refine zv_lstore C dX2_digest_295 297 rfl [(5, .long ((((((((((((((((sm * 31) + (Int32.toInt64 (f0 j))) * 31) + (Int32.toInt64 (f1 j))) * 31) + (Int32.toInt64 (f3 j))) * 31) + (Int32.toInt64 (g9 j))) * 31) + (Int32.toInt64 (g10 j))) * 31) + (Int32.toInt64 (nI (mo f0 16 j)))) * 31) + (Int32.toInt64 (nI (ao n f0 j)))) * 31) + (Int32.toInt64 (g11 j)))), (12, .int (g11 j)), (11, .int 7), (10, .int 10), (9, .ref qi), (8, .ref qi), (0, .ref (h 0)), (7, .int (nI j))] (by decide) rfl ?_
            refine zv_iinc (v := 8) C dX2_digest_297 300 rfl [(11, .int 8), (5, .long ((((((((((((((((sm * 31) + (Int32.toInt64 (f0 j))) * 31) + (Int32.toInt64 (f1 j))) * 31) + (Int32.toInt64 (f3 j))) * 31) + (Int32.toInt64 (g9 j))) * 31) + (Int32.toInt64 (g10 j))) * 31) + (Int32.toInt64 (nI (mo f0 16 j)))) * 31) + (Int32.toInt64 (nI (ao n f0 j)))) * 31) + (Int32.toInt64 (g11 j)))), (12, .int (g11 j)), (10, .int 10), (9, .ref qi), (8, .ref qi), (0, .ref (h 0)), (7, .int (nI j))] 2 rfl (by decide) (by decide) rfl ?_
            refine zv_goto C dX2_digest_300 271 (by decide) ?_
            refine zv_iload C dX2_digest_271 273 rfl 0 rfl ?_
            refine zv_iload C dX2_digest_273 275 rfl 3 rfl ?_
            refine zv_icmp_ge C dX2_digest_275 278 303 rfl (by decide) (fun q => absurd q (by decide)) (fun _ => ?_)
            refine zv_aload C dX2_digest_278 280 rfl 4 rfl ?_
            refine zv_iload C dX2_digest_280 282 rfl 0 rfl ?_
            refine zv_iald (v := (nI (agA f0 f1 f3 f5 g11 j n))) C dX2_digest_282 283 rfl 15 0 8 rfl rfl (by decide) (by omega) (by decide) rfl ?_
            refine zv_istore C dX2_digest_283 285 rfl [(12, .int (nI (agA f0 f1 f3 f5 g11 j n))), (11, .int 8), (5, .long ((((((((((((((((sm * 31) + (Int32.toInt64 (f0 j))) * 31) + (Int32.toInt64 (f1 j))) * 31) + (Int32.toInt64 (f3 j))) * 31) + (Int32.toInt64 (g9 j))) * 31) + (Int32.toInt64 (g10 j))) * 31) + (Int32.toInt64 (nI (mo f0 16 j)))) * 31) + (Int32.toInt64 (nI (ao n f0 j)))) * 31) + (Int32.toInt64 (g11 j)))), (10, .int 10), (9, .ref qi), (8, .ref qi), (0, .ref (h 0)), (7, .int (nI j))] (by decide) rfl ?_
            refine zv_lload C dX2_digest_285 287 rfl 2 rfl ?_
            refine zv_ldc2 C dX2_digest_287 290 rfl (v := 31) (by decide +kernel) ?_
            refine zv_lmul C dX2_digest_290 291 rfl ?_
            refine zv_iload C dX2_digest_291 293 rfl 0 rfl ?_
            refine zv_i2l C dX2_digest_293 294 rfl ?_
            refine zv_ladd C dX2_digest_294 295 rfl ?_
            refine zv_lstore C dX2_digest_295 297 rfl [(5, .long ((((((((((((((((((sm * 31) + (Int32.toInt64 (f0 j))) * 31) + (Int32.toInt64 (f1 j))) * 31) + (Int32.toInt64 (f3 j))) * 31) + (Int32.toInt64 (g9 j))) * 31) + (Int32.toInt64 (g10 j))) * 31) + (Int32.toInt64 (nI (mo f0 16 j)))) * 31) + (Int32.toInt64 (nI (ao n f0 j)))) * 31) + (Int32.toInt64 (g11 j))) * 31) + (Int32.toInt64 (nI (agA f0 f1 f3 f5 g11 j n))))), (12, .int (nI (agA f0 f1 f3 f5 g11 j n))), (11, .int 8), (10, .int 10), (9, .ref qi), (8, .ref qi), (0, .ref (h 0)), (7, .int (nI j))] (by decide) rfl ?_
            refine zv_iinc (v := 9) C dX2_digest_297 300 rfl [(11, .int 9), (5, .long ((((((((((((((((((sm * 31) + (Int32.toInt64 (f0 j))) * 31) + (Int32.toInt64 (f1 j))) * 31) + (Int32.toInt64 (f3 j))) * 31) + (Int32.toInt64 (g9 j))) * 31) + (Int32.toInt64 (g10 j))) * 31) + (Int32.toInt64 (nI (mo f0 16 j)))) * 31) + (Int32.toInt64 (nI (ao n f0 j)))) * 31) + (Int32.toInt64 (g11 j))) * 31) + (Int32.toInt64 (nI (agA f0 f1 f3 f5 g11 j n))))), (12, .int (nI (agA f0 f1 f3 f5 g11 j n))), (10, .int 10), (9, .ref qi), (8, .ref qi), (0, .ref (h 0)), (7, .int (nI j))] 2 rfl (by decide) (by decide) rfl ?_
            refine zv_goto C dX2_digest_300 271 (by decide) ?_
            refine zv_iload C dX2_digest_271 273 rfl 0 rfl ?_
            refine zv_iload C dX2_digest_273 275 rfl 3 rfl ?_
            refine zv_icmp_ge C dX2_digest_275 278 303 rfl (by decide) (fun q => absurd q (by decide)) (fun _ => ?_)
            refine zv_aload C dX2_digest_278 280 rfl 4 rfl ?_
            refine zv_iload C dX2_digest_280 282 rfl 0 rfl ?_
            refine zv_iald (v := (zb (agD f0 f1 f2 f3 f5 g11 j n))) C dX2_digest_282 283 rfl 15 0 9 rfl rfl (by decide) (by omega) (by decide) (upd_at _ _ _) ?_
            refine zv_istore C dX2_digest_283 285 rfl [(12, .int (zb (agD f0 f1 f2 f3 f5 g11 j n))), (11, .int 9), (5, .long ((((((((((((((((((sm * 31) + (Int32.toInt64 (f0 j))) * 31) + (Int32.toInt64 (f1 j))) * 31) + (Int32.toInt64 (f3 j))) * 31) + (Int32.toInt64 (g9 j))) * 31) + (Int32.toInt64 (g10 j))) * 31) + (Int32.toInt64 (nI (mo f0 16 j)))) * 31) + (Int32.toInt64 (nI (ao n f0 j)))) * 31) + (Int32.toInt64 (g11 j))) * 31) + (Int32.toInt64 (nI (agA f0 f1 f3 f5 g11 j n))))), (10, .int 10), (9, .ref qi), (8, .ref qi), (0, .ref (h 0)), (7, .int (nI j))] (by decide) rfl ?_
            refine zv_lload C dX2_digest_285 287 rfl 2 rfl ?_
            refine zv_ldc2 C dX2_digest_287 290 rfl (v := 31) (by decide +kernel) ?_
            refine zv_lmul C dX2_digest_290 291 rfl ?_
            refine zv_iload C dX2_digest_291 293 rfl 0 rfl ?_
            refine zv_i2l C dX2_digest_293 294 rfl ?_
            refine zv_ladd C dX2_digest_294 295 rfl ?_
            refine zv_lstore C dX2_digest_295 297 rfl [(5, .long ((((((((((((((((((((sm * 31) + (Int32.toInt64 (f0 j))) * 31) + (Int32.toInt64 (f1 j))) * 31) + (Int32.toInt64 (f3 j))) * 31) + (Int32.toInt64 (g9 j))) * 31) + (Int32.toInt64 (g10 j))) * 31) + (Int32.toInt64 (nI (mo f0 16 j)))) * 31) + (Int32.toInt64 (nI (ao n f0 j)))) * 31) + (Int32.toInt64 (g11 j))) * 31) + (Int32.toInt64 (nI (agA f0 f1 f3 f5 g11 j n)))) * 31) + (Int32.toInt64 (zb (agD f0 f1 f2 f3 f5 g11 j n))))), (12, .int (zb (agD f0 f1 f2 f3 f5 g11 j n))), (11, .int 9), (10, .int 10), (9, .ref qi), (8, .ref qi), (0, .ref (h 0)), (7, .int (nI j))] (by decide) rfl ?_
            refine zv_iinc (v := 10) C dX2_digest_297 300 rfl [(11, .int 10), (5, .long ((((((((((((((((((((sm * 31) + (Int32.toInt64 (f0 j))) * 31) + (Int32.toInt64 (f1 j))) * 31) + (Int32.toInt64 (f3 j))) * 31) + (Int32.toInt64 (g9 j))) * 31) + (Int32.toInt64 (g10 j))) * 31) + (Int32.toInt64 (nI (mo f0 16 j)))) * 31) + (Int32.toInt64 (nI (ao n f0 j)))) * 31) + (Int32.toInt64 (g11 j))) * 31) + (Int32.toInt64 (nI (agA f0 f1 f3 f5 g11 j n)))) * 31) + (Int32.toInt64 (zb (agD f0 f1 f2 f3 f5 g11 j n))))), (12, .int (zb (agD f0 f1 f2 f3 f5 g11 j n))), (10, .int 10), (9, .ref qi), (8, .ref qi), (0, .ref (h 0)), (7, .int (nI j))] 2 rfl (by decide) (by decide) rfl ?_
            refine zv_goto C dX2_digest_300 271 (by decide) ?_
            refine zv_iload C dX2_digest_271 273 rfl 0 rfl ?_
            refine zv_iload C dX2_digest_273 275 rfl 3 rfl ?_
            refine zv_icmp_ge C dX2_digest_275 278 303 rfl (by decide) (fun _ => ?_) (fun q => absurd (by decide) q)
            refine zv_perm [0, 1, 2, 3, 4, 5, 6, 7, 8, 9, 10, 11, 12, 13, 14] (ws' := (cM cI cZ h 0 (nI n) r y (nI b) f0 f1 f2 f3 f4 f5 f6 f7 g8 g9 g10 g11 g12 f13)) (by decide) rfl ?_
            refine zv_iinc (v := (nI (j + 1))) C dX2_digest_303 306 rfl [(7, .int (nI (j + 1))), (11, .int 10), (5, .long ((((((((((((((((((((sm * 31) + (Int32.toInt64 (f0 j))) * 31) + (Int32.toInt64 (f1 j))) * 31) + (Int32.toInt64 (f3 j))) * 31) + (Int32.toInt64 (g9 j))) * 31) + (Int32.toInt64 (g10 j))) * 31) + (Int32.toInt64 (nI (mo f0 16 j)))) * 31) + (Int32.toInt64 (nI (ao n f0 j)))) * 31) + (Int32.toInt64 (g11 j))) * 31) + (Int32.toInt64 (nI (agA f0 f1 f3 f5 g11 j n)))) * 31) + (Int32.toInt64 (zb (agD f0 f1 f2 f3 f5 g11 j n))))), (12, .int (zb (agD f0 f1 f2 f3 f5 g11 j n))), (10, .int 10), (9, .ref qi), (8, .ref qi), (0, .ref (h 0))] 7 rfl (nI_1 j) (by decide) rfl ?_
            refine zv_goto C dX2_digest_306 128 (by decide) ?_
            refine zv_go rfl rfl rfl (kc' := 1 + (j + 1)) (by omega) (ns' := 8 + 10 * (j + 1)) (by omega) ?_
            refine zv_sub [7, 2, 0] (lv' := [(0, .ref (h 0)), (5, .long ((((((((((((((((((((sm * 31) + (Int32.toInt64 (f0 j))) * 31) + (Int32.toInt64 (f1 j))) * 31) + (Int32.toInt64 (f3 j))) * 31) + (Int32.toInt64 (g9 j))) * 31) + (Int32.toInt64 (g10 j))) * 31) + (Int32.toInt64 (nI (mo f0 16 j)))) * 31) + (Int32.toInt64 (nI (ao n f0 j)))) * 31) + (Int32.toInt64 (g11 j))) * 31) + (Int32.toInt64 (nI (agA f0 f1 f3 f5 g11 j n)))) * 31) + (Int32.toInt64 (zb (agD f0 f1 f2 f3 f5 g11 j n))))), (7, .int (nI (j + 1)))]) rfl ?_
            exact ih_L128 (j + 1) ((((((((((((((((((((sm * 31) + (Int32.toInt64 (f0 j))) * 31) + (Int32.toInt64 (f1 j))) * 31) + (Int32.toInt64 (f3 j))) * 31) + (Int32.toInt64 (g9 j))) * 31) + (Int32.toInt64 (g10 j))) * 31) + (Int32.toInt64 (nI (mo f0 16 j)))) * 31) + (Int32.toInt64 (nI (ao n f0 j)))) * 31) + (Int32.toInt64 (g11 j))) * 31) + (Int32.toInt64 (nI (agA f0 f1 f3 f5 g11 j n)))) * 31) + (Int32.toInt64 (zb (agD f0 f1 f2 f3 f5 g11 j n)))) g8 g9 g10 g11 g12 (by omega) hM (by rw [hm]; rfl) (by omega)
        · refine zv_iconst (v := 1) C dX2_digest_163 164 rfl (by decide) ?_
          refine zv_goto C dX2_digest_164 168 (by decide) ?_
          refine zv_iast (x' := (f1 j)) C dX2_digest_168 169 rfl 15 0 1 rfl rfl (by decide) (by omega) (by decide) (zo_one (hz1 j) c4).symm ((cM cI cZ h 0 (nI n) r y (nI b) f0 f1 f2 f3 f4 f5 f6 f7 g8 g9 g10 g11 g12 f13) ++ [(qi, .inl (cI, 10, .inl (upd (upd z0 0 (f0 j)) 1 (f1 j))))]) rfl ?_
          refine zv_dup C dX2_digest_169 170 rfl rfl ?_
          refine zv_iconst (v := 2) C dX2_digest_170 171 rfl (by decide) ?_
          refine zv_aload_n C dX2_digest_171 172 rfl 0 rfl ?_
          refine zv_get (ci := 2) C inX2 rfl dX2_digest_172 175 rfl 0 7 rfl (by decide) lk20 rfl ?_
          refine zv_iload C dX2_digest_175 177 rfl 2 rfl ?_
          refine zv_iald (v := (f3 j)) C dX2_digest_177 178 rfl 4 0 j rfl rfl rfl (by omega) (by decide) rfl ?_
          refine zv_iast (x' := (f3 j)) C dX2_digest_178 179 rfl 15 0 2 rfl rfl (by decide) (by omega) (by decide) rfl ((cM cI cZ h 0 (nI n) r y (nI b) f0 f1 f2 f3 f4 f5 f6 f7 g8 g9 g10 g11 g12 f13) ++ [(qi, .inl (cI, 10, .inl (upd (upd (upd z0 0 (f0 j)) 1 (f1 j)) 2 (f3 j))))]) rfl ?_
          refine zv_dup C dX2_digest_179 180 rfl rfl ?_
          refine zv_iconst (v := 3) C dX2_digest_180 181 rfl (by decide) ?_
          refine zv_aload_n C dX2_digest_181 182 rfl 0 rfl ?_
          refine zv_get (ci := 2) C inX2 rfl dX2_digest_182 185 rfl 0 14 rfl (by decide) lk38 rfl ?_
          refine zv_iload C dX2_digest_185 187 rfl 2 rfl ?_
          refine zv_iald (v := (g9 j)) C dX2_digest_187 188 rfl 10 0 j rfl rfl rfl (by omega) (by decide) rfl ?_
          refine zv_iast (x' := (g9 j)) C dX2_digest_188 189 rfl 15 0 3 rfl rfl (by decide) (by omega) (by decide) rfl ((cM cI cZ h 0 (nI n) r y (nI b) f0 f1 f2 f3 f4 f5 f6 f7 g8 g9 g10 g11 g12 f13) ++ [(qi, .inl (cI, 10, .inl (upd (upd (upd (upd z0 0 (f0 j)) 1 (f1 j)) 2 (f3 j)) 3 (g9 j))))]) rfl ?_
          refine zv_dup C dX2_digest_189 190 rfl rfl ?_
          refine zv_iconst (v := 4) C dX2_digest_190 191 rfl (by decide) ?_
          refine zv_aload_n C dX2_digest_191 192 rfl 0 rfl ?_
          refine zv_get (ci := 2) C inX2 rfl dX2_digest_192 195 rfl 0 15 rfl (by decide) lk41 rfl ?_
          refine zv_iload C dX2_digest_195 197 rfl 2 rfl ?_
          refine zv_iald (v := (g10 j)) C dX2_digest_197 198 rfl 11 0 j rfl rfl rfl (by omega) (by decide) rfl ?_
          refine zv_iast (x' := (g10 j)) C dX2_digest_198 199 rfl 15 0 4 rfl rfl (by decide) (by omega) (by decide) rfl ((cM cI cZ h 0 (nI n) r y (nI b) f0 f1 f2 f3 f4 f5 f6 f7 g8 g9 g10 g11 g12 f13) ++ [(qi, .inl (cI, 10, .inl (upd (upd (upd (upd (upd z0 0 (f0 j)) 1 (f1 j)) 2 (f3 j)) 3 (g9 j)) 4 (g10 j))))]) rfl ?_
          refine zv_dup C dX2_digest_199 200 rfl rfl ?_
          refine zv_iconst (v := 5) C dX2_digest_200 201 rfl (by decide) ?_
          refine zv_aload_n C dX2_digest_201 202 rfl 0 rfl ?_
          refine zv_iload C dX2_digest_202 204 rfl 2 rfl ?_
          refine zv_callVR (rest := [.int 5, .ref qi, .ref qi]) C (k_X2_mouth l D cI cZ h 0 n r y b f0 f1 f2 f3 f4 f5 f6 f7 g8 g9 g10 g11 g12 f13 j s d (by omega) (by assumption) (by omega)) (cwV 1 C.1.2.2.2.2 gX2_digest_X2_mouth rfl rfl rfl (by decide +kernel) ⟨Nat.le_of_ble_eq_true rfl, Nat.le_of_ble_eq_true rfl⟩) dX2_digest_204 207 rfl (ci := 2) 0 rfl rfl rfl rfl (Nat.le_of_ble_eq_true rfl) ⟨(by show 1 + j + 1 + 0 ≤ 17; omega), (by show 8 + 10 * j + 10 + 0 ≤ 168; omega)⟩ [0, 1] rfl [0, 1, 2, 3, 4, 5, 6, 7, 8, 9, 10, 11, 12, 13, 14] rfl (by decide) (fun v hv => ?_)
          subst hv
          refine zv_go rfl rfl (st' := [.int (nI (mo f0 16 j)), .int 5, .ref qi, .ref qi]) rfl (kc' := 1 + j + 1) rfl (ns' := 8 + 10 * j + 10) rfl ?_
          refine zv_iast (x' := (nI (mo f0 16 j))) C dX2_digest_207 208 rfl 15 0 5 rfl rfl (by decide) (by omega) (by decide) rfl ((cM cI cZ h 0 (nI n) r y (nI b) f0 f1 f2 f3 f4 f5 f6 f7 g8 g9 g10 g11 g12 f13) ++ [(qi, .inl (cI, 10, .inl (upd (upd (upd (upd (upd (upd z0 0 (f0 j)) 1 (f1 j)) 2 (f3 j)) 3 (g9 j)) 4 (g10 j)) 5 (nI (mo f0 16 j)))))]) rfl ?_
          refine zv_dup C dX2_digest_208 209 rfl rfl ?_
          refine zv_bipush (v := 6) C dX2_digest_209 211 rfl (by decide) ?_
          refine zv_aload_n C dX2_digest_211 212 rfl 0 rfl ?_
          refine zv_iload C dX2_digest_212 214 rfl 2 rfl ?_
          refine zv_callVR (rest := [.int 6, .ref qi, .ref qi]) C (k_X2_aboveOf l D cI cZ h 0 n r y b f0 f1 f2 f3 f4 f5 f6 f7 g8 g9 g10 g11 g12 f13 j s d (by omega) (by assumption) (by omega)) (cwV 1 C.1.2.2.2.2 gX2_digest_X2_aboveOf rfl rfl rfl (by decide +kernel) ⟨Nat.le_of_ble_eq_true rfl, Nat.le_of_ble_eq_true rfl⟩) dX2_digest_214 217 rfl (ci := 2) 0 rfl rfl rfl rfl (Nat.le_of_ble_eq_true rfl) ⟨(by show 1 + j + 1 + 0 ≤ 17; omega), (by show 8 + 10 * j + 10 + 0 ≤ 168; omega)⟩ [0, 1] rfl [0, 1, 2, 3, 4, 5, 6, 7, 8, 9, 10, 11, 12, 13, 14] rfl (by decide) (fun v hv => ?_)
          subst hv
          refine zv_go rfl rfl (st' := [.int (nI (ao n f0 j)), .int 6, .ref qi, .ref qi]) rfl (kc' := 1 + j + 1) rfl (ns' := 8 + 10 * j + 10) rfl ?_
          refine zv_iast (x' := (nI (ao n f0 j))) C dX2_digest_217 218 rfl 15 0 6 rfl rfl (by decide) (by omega) (by decide) rfl ((cM cI cZ h 0 (nI n) r y (nI b) f0 f1 f2 f3 f4 f5 f6 f7 g8 g9 g10 g11 g12 f13) ++ [(qi, .inl (cI, 10, .inl (upd (upd (upd (upd (upd (upd (upd z0 0 (f0 j)) 1 (f1 j)) 2 (f3 j)) 3 (g9 j)) 4 (g10 j)) 5 (nI (mo f0 16 j))) 6 (nI (ao n f0 j)))))]) rfl ?_
          refine zv_dup C dX2_digest_218 219 rfl rfl ?_
          refine zv_bipush (v := 7) C dX2_digest_219 221 rfl (by decide) ?_
          refine zv_aload_n C dX2_digest_221 222 rfl 0 rfl ?_
          refine zv_get (ci := 2) C inX2 rfl dX2_digest_222 225 rfl 0 16 rfl (by decide) lk44 rfl ?_
          refine zv_iload C dX2_digest_225 227 rfl 2 rfl ?_
          refine zv_iald (v := (g11 j)) C dX2_digest_227 228 rfl 12 0 j rfl rfl rfl (by omega) (by decide) rfl ?_
          refine zv_iast (x' := (g11 j)) C dX2_digest_228 229 rfl 15 0 7 rfl rfl (by decide) (by omega) (by decide) rfl ((cM cI cZ h 0 (nI n) r y (nI b) f0 f1 f2 f3 f4 f5 f6 f7 g8 g9 g10 g11 g12 f13) ++ [(qi, .inl (cI, 10, .inl (upd (upd (upd (upd (upd (upd (upd (upd z0 0 (f0 j)) 1 (f1 j)) 2 (f3 j)) 3 (g9 j)) 4 (g10 j)) 5 (nI (mo f0 16 j))) 6 (nI (ao n f0 j))) 7 (g11 j))))]) rfl ?_
          refine zv_dup C dX2_digest_229 230 rfl rfl ?_
          refine zv_bipush (v := 8) C dX2_digest_230 232 rfl (by decide) ?_
          refine zv_aload_n C dX2_digest_232 233 rfl 0 rfl ?_
          refine zv_iload C dX2_digest_233 235 rfl 2 rfl ?_
          refine zv_callVR (rest := [.int 8, .ref qi, .ref qi]) C (k_X2_arguingAt l D cI cZ h 0 n r y b f0 f1 f2 f3 f4 f5 f6 f7 g8 g9 g10 g11 g12 f13 j (by omega) (by omega)) (cwV 1 C.1.2.2.2.2 gX2_digest_X2_arguingAt rfl rfl rfl (by decide +kernel) ⟨Nat.le_of_ble_eq_true rfl, Nat.le_of_ble_eq_true rfl⟩) dX2_digest_235 238 rfl (ci := 2) 0 rfl rfl rfl rfl (Nat.le_of_ble_eq_true rfl) ⟨(by show 1 + j + 1 + 0 ≤ 17; omega), (by show 8 + 10 * j + 10 + 0 ≤ 168; omega)⟩ [0, 1] rfl [0, 1, 2, 3, 4, 5, 6, 7, 8, 9, 10, 11, 12, 13, 14] rfl (by decide) (fun v hv => ?_)
          subst hv
          refine zv_go rfl rfl (st' := [.int (nI (agA f0 f1 f3 f5 g11 j n)), .int 8, .ref qi, .ref qi]) rfl (kc' := 1 + j + 1) rfl (ns' := 8 + 10 * j + 10) rfl ?_
          refine zv_iast (x' := (nI (agA f0 f1 f3 f5 g11 j n))) C dX2_digest_238 239 rfl 15 0 8 rfl rfl (by decide) (by omega) (by decide) rfl ((cM cI cZ h 0 (nI n) r y (nI b) f0 f1 f2 f3 f4 f5 f6 f7 g8 g9 g10 g11 g12 f13) ++ [(qi, .inl (cI, 10, .inl (upd (upd (upd (upd (upd (upd (upd (upd (upd z0 0 (f0 j)) 1 (f1 j)) 2 (f3 j)) 3 (g9 j)) 4 (g10 j)) 5 (nI (mo f0 16 j))) 6 (nI (ao n f0 j))) 7 (g11 j)) 8 (nI (agA f0 f1 f3 f5 g11 j n)))))]) rfl ?_
          refine zv_dup C dX2_digest_239 240 rfl rfl ?_
          refine zv_bipush (v := 9) C dX2_digest_240 242 rfl (by decide) ?_
          refine zv_aload_n C dX2_digest_242 243 rfl 0 rfl ?_
          refine zv_iload C dX2_digest_243 245 rfl 2 rfl ?_
          refine zv_callVR (rest := [.int 9, .ref qi, .ref qi]) C (k_X2_argued l D cI cZ h 0 n r y b f0 f1 f2 f3 f4 f5 f6 f7 g8 g9 g10 g11 g12 f13 j (by omega) (by omega)) (cwV 1 C.1.2.2.2.2 gX2_digest_X2_argued rfl rfl rfl (by decide +kernel) ⟨Nat.le_of_ble_eq_true rfl, Nat.le_of_ble_eq_true rfl⟩) dX2_digest_245 248 rfl (ci := 2) 0 rfl rfl rfl rfl (Nat.le_of_ble_eq_true rfl) ⟨(by show 1 + j + 1 + 0 ≤ 17; omega), (by show 8 + 10 * j + 10 + 0 ≤ 168; omega)⟩ [0, 1] rfl [0, 1, 2, 3, 4, 5, 6, 7, 8, 9, 10, 11, 12, 13, 14] rfl (by decide) (fun v hv => ?_)
          subst hv
          refine zv_go rfl rfl (st' := [.int (zb (agD f0 f1 f2 f3 f5 g11 j n)), .int 9, .ref qi, .ref qi]) rfl (kc' := 1 + j + 1) rfl (ns' := 8 + 10 * j + 10) rfl ?_
          refine zv_if_eq C dX2_digest_248 251 255 rfl (by decide) (fun c6 => ?_) (fun c6 => ?_)
          · replace c6 := zb_eq0.mp c6
            refine zv_iconst (v := 0) C dX2_digest_255 256 rfl (by decide) ?_
            refine zv_iast (x' := (zb (agD f0 f1 f2 f3 f5 g11 j n))) C dX2_digest_256 257 rfl 15 0 9 rfl rfl (by decide) (by omega) (by decide) (by rw [c6]; rfl) ((cM cI cZ h 0 (nI n) r y (nI b) f0 f1 f2 f3 f4 f5 f6 f7 g8 g9 g10 g11 g12 f13) ++ [(qi, .inl (cI, 10, .inl (upd (upd (upd (upd (upd (upd (upd (upd (upd (upd z0 0 (f0 j)) 1 (f1 j)) 2 (f3 j)) 3 (g9 j)) 4 (g10 j)) 5 (nI (mo f0 16 j))) 6 (nI (ao n f0 j))) 7 (g11 j)) 8 (nI (agA f0 f1 f3 f5 g11 j n))) 9 (zb (agD f0 f1 f2 f3 f5 g11 j n)))))]) rfl ?_
            refine zv_astore C dX2_digest_257 259 rfl [(8, .ref qi), (0, .ref (h 0)), (5, .long sm), (7, .int (nI j))] (by decide) rfl ?_
            refine zv_aload C dX2_digest_259 261 rfl 0 rfl ?_
            refine zv_astore C dX2_digest_261 263 rfl [(9, .ref qi), (8, .ref qi), (0, .ref (h 0)), (5, .long sm), (7, .int (nI j))] (by decide) rfl ?_
            refine zv_aload C dX2_digest_263 265 rfl 0 rfl ?_
            refine zv_alen (v := 10) C dX2_digest_265 266 rfl 15 0 rfl rfl rfl ?_
            refine zv_istore C dX2_digest_266 268 rfl [(10, .int 10), (9, .ref qi), (8, .ref qi), (0, .ref (h 0)), (5, .long sm), (7, .int (nI j))] (by decide) rfl ?_
            refine zv_iconst (v := 0) C dX2_digest_268 269 rfl (by decide) ?_
            refine zv_istore C dX2_digest_269 271 rfl [(11, .int 0), (10, .int 10), (9, .ref qi), (8, .ref qi), (0, .ref (h 0)), (5, .long sm), (7, .int (nI j))] (by decide) rfl ?_
            refine zv_iload C dX2_digest_271 273 rfl 0 rfl ?_
            refine zv_iload C dX2_digest_273 275 rfl 1 rfl ?_
            refine zv_icmp_ge C dX2_digest_275 278 303 rfl (by decide) (fun q => absurd q (by decide)) (fun _ => ?_)
            refine zv_aload C dX2_digest_278 280 rfl 2 rfl ?_
            refine zv_iload C dX2_digest_280 282 rfl 0 rfl ?_
            refine zv_iald (v := (f0 j)) C dX2_digest_282 283 rfl 15 0 0 rfl rfl (by decide) (by omega) (by decide) rfl ?_
            refine zv_istore C dX2_digest_283 285 rfl [(12, .int (f0 j)), (11, .int 0), (10, .int 10), (9, .ref qi), (8, .ref qi), (0, .ref (h 0)), (5, .long sm), (7, .int (nI j))] (by decide) rfl ?_
            refine zv_lload C dX2_digest_285 287 rfl 6 rfl ?_
            refine zv_ldc2 C dX2_digest_287 290 rfl (v := 31) (by decide +kernel) ?_
            refine zv_lmul C dX2_digest_290 291 rfl ?_
            refine zv_iload C dX2_digest_291 293 rfl 0 rfl ?_
            refine zv_i2l C dX2_digest_293 294 rfl ?_
            refine zv_ladd C dX2_digest_294 295 rfl ?_
            refine zv_lstore C dX2_digest_295 297 rfl [(5, .long ((sm * 31) + (Int32.toInt64 (f0 j)))), (12, .int (f0 j)), (11, .int 0), (10, .int 10), (9, .ref qi), (8, .ref qi), (0, .ref (h 0)), (7, .int (nI j))] (by decide) rfl ?_
            refine zv_iinc (v := 1) C dX2_digest_297 300 rfl [(11, .int 1), (5, .long ((sm * 31) + (Int32.toInt64 (f0 j)))), (12, .int (f0 j)), (10, .int 10), (9, .ref qi), (8, .ref qi), (0, .ref (h 0)), (7, .int (nI j))] 2 rfl (by decide) (by decide) rfl ?_
            refine zv_goto C dX2_digest_300 271 (by decide) ?_
            refine zv_iload C dX2_digest_271 273 rfl 0 rfl ?_
            refine zv_iload C dX2_digest_273 275 rfl 3 rfl ?_
            refine zv_icmp_ge C dX2_digest_275 278 303 rfl (by decide) (fun q => absurd q (by decide)) (fun _ => ?_)
            refine zv_aload C dX2_digest_278 280 rfl 4 rfl ?_
            refine zv_iload C dX2_digest_280 282 rfl 0 rfl ?_
            refine zv_iald (v := (f1 j)) C dX2_digest_282 283 rfl 15 0 1 rfl rfl (by decide) (by omega) (by decide) rfl ?_
            refine zv_istore C dX2_digest_283 285 rfl [(12, .int (f1 j)), (11, .int 1), (5, .long ((sm * 31) + (Int32.toInt64 (f0 j)))), (10, .int 10), (9, .ref qi), (8, .ref qi), (0, .ref (h 0)), (7, .int (nI j))] (by decide) rfl ?_
            refine zv_lload C dX2_digest_285 287 rfl 2 rfl ?_
            refine zv_ldc2 C dX2_digest_287 290 rfl (v := 31) (by decide +kernel) ?_
            refine zv_lmul C dX2_digest_290 291 rfl ?_
            refine zv_iload C dX2_digest_291 293 rfl 0 rfl ?_
            refine zv_i2l C dX2_digest_293 294 rfl ?_
            refine zv_ladd C dX2_digest_294 295 rfl ?_
            refine zv_lstore C dX2_digest_295 297 rfl [(5, .long ((((sm * 31) + (Int32.toInt64 (f0 j))) * 31) + (Int32.toInt64 (f1 j)))), (12, .int (f1 j)), (11, .int 1), (10, .int 10), (9, .ref qi), (8, .ref qi), (0, .ref (h 0)), (7, .int (nI j))] (by decide) rfl ?_
            refine zv_iinc (v := 2) C dX2_digest_297 300 rfl [(11, .int 2), (5, .long ((((sm * 31) + (Int32.toInt64 (f0 j))) * 31) + (Int32.toInt64 (f1 j)))), (12, .int (f1 j)), (10, .int 10), (9, .ref qi), (8, .ref qi), (0, .ref (h 0)), (7, .int (nI j))] 2 rfl (by decide) (by decide) rfl ?_
            refine zv_goto C dX2_digest_300 271 (by decide) ?_
            refine zv_iload C dX2_digest_271 273 rfl 0 rfl ?_
            refine zv_iload C dX2_digest_273 275 rfl 3 rfl ?_
            refine zv_icmp_ge C dX2_digest_275 278 303 rfl (by decide) (fun q => absurd q (by decide)) (fun _ => ?_)
            refine zv_aload C dX2_digest_278 280 rfl 4 rfl ?_
            refine zv_iload C dX2_digest_280 282 rfl 0 rfl ?_
            refine zv_iald (v := (f3 j)) C dX2_digest_282 283 rfl 15 0 2 rfl rfl (by decide) (by omega) (by decide) rfl ?_
            refine zv_istore C dX2_digest_283 285 rfl [(12, .int (f3 j)), (11, .int 2), (5, .long ((((sm * 31) + (Int32.toInt64 (f0 j))) * 31) + (Int32.toInt64 (f1 j)))), (10, .int 10), (9, .ref qi), (8, .ref qi), (0, .ref (h 0)), (7, .int (nI j))] (by decide) rfl ?_
            refine zv_lload C dX2_digest_285 287 rfl 2 rfl ?_
            refine zv_ldc2 C dX2_digest_287 290 rfl (v := 31) (by decide +kernel) ?_
            refine zv_lmul C dX2_digest_290 291 rfl ?_
            refine zv_iload C dX2_digest_291 293 rfl 0 rfl ?_
            refine zv_i2l C dX2_digest_293 294 rfl ?_
            refine zv_ladd C dX2_digest_294 295 rfl ?_
            refine zv_lstore C dX2_digest_295 297 rfl [(5, .long ((((((sm * 31) + (Int32.toInt64 (f0 j))) * 31) + (Int32.toInt64 (f1 j))) * 31) + (Int32.toInt64 (f3 j)))), (12, .int (f3 j)), (11, .int 2), (10, .int 10), (9, .ref qi), (8, .ref qi), (0, .ref (h 0)), (7, .int (nI j))] (by decide) rfl ?_
            refine zv_iinc (v := 3) C dX2_digest_297 300 rfl [(11, .int 3), (5, .long ((((((sm * 31) + (Int32.toInt64 (f0 j))) * 31) + (Int32.toInt64 (f1 j))) * 31) + (Int32.toInt64 (f3 j)))), (12, .int (f3 j)), (10, .int 10), (9, .ref qi), (8, .ref qi), (0, .ref (h 0)), (7, .int (nI j))] 2 rfl (by decide) (by decide) rfl ?_
            refine zv_goto C dX2_digest_300 271 (by decide) ?_
            refine zv_iload C dX2_digest_271 273 rfl 0 rfl ?_
            refine zv_iload C dX2_digest_273 275 rfl 3 rfl ?_
            refine zv_icmp_ge C dX2_digest_275 278 303 rfl (by decide) (fun q => absurd q (by decide)) (fun _ => ?_)
            refine zv_aload C dX2_digest_278 280 rfl 4 rfl ?_
            refine zv_iload C dX2_digest_280 282 rfl 0 rfl ?_
            refine zv_iald (v := (g9 j)) C dX2_digest_282 283 rfl 15 0 3 rfl rfl (by decide) (by omega) (by decide) rfl ?_
            refine zv_istore C dX2_digest_283 285 rfl [(12, .int (g9 j)), (11, .int 3), (5, .long ((((((sm * 31) + (Int32.toInt64 (f0 j))) * 31) + (Int32.toInt64 (f1 j))) * 31) + (Int32.toInt64 (f3 j)))), (10, .int 10), (9, .ref qi), (8, .ref qi), (0, .ref (h 0)), (7, .int (nI j))] (by decide) rfl ?_
            refine zv_lload C dX2_digest_285 287 rfl 2 rfl ?_
            refine zv_ldc2 C dX2_digest_287 290 rfl (v := 31) (by decide +kernel) ?_
            refine zv_lmul C dX2_digest_290 291 rfl ?_
            refine zv_iload C dX2_digest_291 293 rfl 0 rfl ?_
            refine zv_i2l C dX2_digest_293 294 rfl ?_
            refine zv_ladd C dX2_digest_294 295 rfl ?_
            refine zv_lstore C dX2_digest_295 297 rfl [(5, .long ((((((((sm * 31) + (Int32.toInt64 (f0 j))) * 31) + (Int32.toInt64 (f1 j))) * 31) + (Int32.toInt64 (f3 j))) * 31) + (Int32.toInt64 (g9 j)))), (12, .int (g9 j)), (11, .int 3), (10, .int 10), (9, .ref qi), (8, .ref qi), (0, .ref (h 0)), (7, .int (nI j))] (by decide) rfl ?_
            refine zv_iinc (v := 4) C dX2_digest_297 300 rfl [(11, .int 4), (5, .long ((((((((sm * 31) + (Int32.toInt64 (f0 j))) * 31) + (Int32.toInt64 (f1 j))) * 31) + (Int32.toInt64 (f3 j))) * 31) + (Int32.toInt64 (g9 j)))), (12, .int (g9 j)), (10, .int 10), (9, .ref qi), (8, .ref qi), (0, .ref (h 0)), (7, .int (nI j))] 2 rfl (by decide) (by decide) rfl ?_
            refine zv_goto C dX2_digest_300 271 (by decide) ?_
            refine zv_iload C dX2_digest_271 273 rfl 0 rfl ?_
            refine zv_iload C dX2_digest_273 275 rfl 3 rfl ?_
            refine zv_icmp_ge C dX2_digest_275 278 303 rfl (by decide) (fun q => absurd q (by decide)) (fun _ => ?_)
            refine zv_aload C dX2_digest_278 280 rfl 4 rfl ?_
            refine zv_iload C dX2_digest_280 282 rfl 0 rfl ?_
            refine zv_iald (v := (g10 j)) C dX2_digest_282 283 rfl 15 0 4 rfl rfl (by decide) (by omega) (by decide) rfl ?_
            refine zv_istore C dX2_digest_283 285 rfl [(12, .int (g10 j)), (11, .int 4), (5, .long ((((((((sm * 31) + (Int32.toInt64 (f0 j))) * 31) + (Int32.toInt64 (f1 j))) * 31) + (Int32.toInt64 (f3 j))) * 31) + (Int32.toInt64 (g9 j)))), (10, .int 10), (9, .ref qi), (8, .ref qi), (0, .ref (h 0)), (7, .int (nI j))] (by decide) rfl ?_
            refine zv_lload C dX2_digest_285 287 rfl 2 rfl ?_
            refine zv_ldc2 C dX2_digest_287 290 rfl (v := 31) (by decide +kernel) ?_
            refine zv_lmul C dX2_digest_290 291 rfl ?_
            refine zv_iload C dX2_digest_291 293 rfl 0 rfl ?_
            refine zv_i2l C dX2_digest_293 294 rfl ?_
            refine zv_ladd C dX2_digest_294 295 rfl ?_
            refine zv_lstore C dX2_digest_295 297 rfl [(5, .long ((((((((((sm * 31) + (Int32.toInt64 (f0 j))) * 31) + (Int32.toInt64 (f1 j))) * 31) + (Int32.toInt64 (f3 j))) * 31) + (Int32.toInt64 (g9 j))) * 31) + (Int32.toInt64 (g10 j)))), (12, .int (g10 j)), (11, .int 4), (10, .int 10), (9, .ref qi), (8, .ref qi), (0, .ref (h 0)), (7, .int (nI j))] (by decide) rfl ?_
            refine zv_iinc (v := 5) C dX2_digest_297 300 rfl [(11, .int 5), (5, .long ((((((((((sm * 31) + (Int32.toInt64 (f0 j))) * 31) + (Int32.toInt64 (f1 j))) * 31) + (Int32.toInt64 (f3 j))) * 31) + (Int32.toInt64 (g9 j))) * 31) + (Int32.toInt64 (g10 j)))), (12, .int (g10 j)), (10, .int 10), (9, .ref qi), (8, .ref qi), (0, .ref (h 0)), (7, .int (nI j))] 2 rfl (by decide) (by decide) rfl ?_
            refine zv_goto C dX2_digest_300 271 (by decide) ?_
            refine zv_iload C dX2_digest_271 273 rfl 0 rfl ?_
            refine zv_iload C dX2_digest_273 275 rfl 3 rfl ?_
            refine zv_icmp_ge C dX2_digest_275 278 303 rfl (by decide) (fun q => absurd q (by decide)) (fun _ => ?_)
            refine zv_aload C dX2_digest_278 280 rfl 4 rfl ?_
            refine zv_iload C dX2_digest_280 282 rfl 0 rfl ?_
            refine zv_iald (v := (nI (mo f0 16 j))) C dX2_digest_282 283 rfl 15 0 5 rfl rfl (by decide) (by omega) (by decide) rfl ?_
            refine zv_istore C dX2_digest_283 285 rfl [(12, .int (nI (mo f0 16 j))), (11, .int 5), (5, .long ((((((((((sm * 31) + (Int32.toInt64 (f0 j))) * 31) + (Int32.toInt64 (f1 j))) * 31) + (Int32.toInt64 (f3 j))) * 31) + (Int32.toInt64 (g9 j))) * 31) + (Int32.toInt64 (g10 j)))), (10, .int 10), (9, .ref qi), (8, .ref qi), (0, .ref (h 0)), (7, .int (nI j))] (by decide) rfl ?_
            refine zv_lload C dX2_digest_285 287 rfl 2 rfl ?_
            refine zv_ldc2 C dX2_digest_287 290 rfl (v := 31) (by decide +kernel) ?_
            refine zv_lmul C dX2_digest_290 291 rfl ?_
            refine zv_iload C dX2_digest_291 293 rfl 0 rfl ?_
            refine zv_i2l C dX2_digest_293 294 rfl ?_
            refine zv_ladd C dX2_digest_294 295 rfl ?_
            refine zv_lstore C dX2_digest_295 297 rfl [(5, .long ((((((((((((sm * 31) + (Int32.toInt64 (f0 j))) * 31) + (Int32.toInt64 (f1 j))) * 31) + (Int32.toInt64 (f3 j))) * 31) + (Int32.toInt64 (g9 j))) * 31) + (Int32.toInt64 (g10 j))) * 31) + (Int32.toInt64 (nI (mo f0 16 j))))), (12, .int (nI (mo f0 16 j))), (11, .int 5), (10, .int 10), (9, .ref qi), (8, .ref qi), (0, .ref (h 0)), (7, .int (nI j))] (by decide) rfl ?_
            refine zv_iinc (v := 6) C dX2_digest_297 300 rfl [(11, .int 6), (5, .long ((((((((((((sm * 31) + (Int32.toInt64 (f0 j))) * 31) + (Int32.toInt64 (f1 j))) * 31) + (Int32.toInt64 (f3 j))) * 31) + (Int32.toInt64 (g9 j))) * 31) + (Int32.toInt64 (g10 j))) * 31) + (Int32.toInt64 (nI (mo f0 16 j))))), (12, .int (nI (mo f0 16 j))), (10, .int 10), (9, .ref qi), (8, .ref qi), (0, .ref (h 0)), (7, .int (nI j))] 2 rfl (by decide) (by decide) rfl ?_
            refine zv_goto C dX2_digest_300 271 (by decide) ?_
            refine zv_iload C dX2_digest_271 273 rfl 0 rfl ?_
            refine zv_iload C dX2_digest_273 275 rfl 3 rfl ?_
            refine zv_icmp_ge C dX2_digest_275 278 303 rfl (by decide) (fun q => absurd q (by decide)) (fun _ => ?_)
            refine zv_aload C dX2_digest_278 280 rfl 4 rfl ?_
            refine zv_iload C dX2_digest_280 282 rfl 0 rfl ?_
            refine zv_iald (v := (nI (ao n f0 j))) C dX2_digest_282 283 rfl 15 0 6 rfl rfl (by decide) (by omega) (by decide) rfl ?_
            refine zv_istore C dX2_digest_283 285 rfl [(12, .int (nI (ao n f0 j))), (11, .int 6), (5, .long ((((((((((((sm * 31) + (Int32.toInt64 (f0 j))) * 31) + (Int32.toInt64 (f1 j))) * 31) + (Int32.toInt64 (f3 j))) * 31) + (Int32.toInt64 (g9 j))) * 31) + (Int32.toInt64 (g10 j))) * 31) + (Int32.toInt64 (nI (mo f0 16 j))))), (10, .int 10), (9, .ref qi), (8, .ref qi), (0, .ref (h 0)), (7, .int (nI j))] (by decide) rfl ?_
            refine zv_lload C dX2_digest_285 287 rfl 2 rfl ?_
            refine zv_ldc2 C dX2_digest_287 290 rfl (v := 31) (by decide +kernel) ?_
            refine zv_lmul C dX2_digest_290 291 rfl ?_
            refine zv_iload C dX2_digest_291 293 rfl 0 rfl ?_
            refine zv_i2l C dX2_digest_293 294 rfl ?_
            refine zv_ladd C dX2_digest_294 295 rfl ?_
            refine zv_lstore C dX2_digest_295 297 rfl [(5, .long ((((((((((((((sm * 31) + (Int32.toInt64 (f0 j))) * 31) + (Int32.toInt64 (f1 j))) * 31) + (Int32.toInt64 (f3 j))) * 31) + (Int32.toInt64 (g9 j))) * 31) + (Int32.toInt64 (g10 j))) * 31) + (Int32.toInt64 (nI (mo f0 16 j)))) * 31) + (Int32.toInt64 (nI (ao n f0 j))))), (12, .int (nI (ao n f0 j))), (11, .int 6), (10, .int 10), (9, .ref qi), (8, .ref qi), (0, .ref (h 0)), (7, .int (nI j))] (by decide) rfl ?_
            refine zv_iinc (v := 7) C dX2_digest_297 300 rfl [(11, .int 7), (5, .long ((((((((((((((sm * 31) + (Int32.toInt64 (f0 j))) * 31) + (Int32.toInt64 (f1 j))) * 31) + (Int32.toInt64 (f3 j))) * 31) + (Int32.toInt64 (g9 j))) * 31) + (Int32.toInt64 (g10 j))) * 31) + (Int32.toInt64 (nI (mo f0 16 j)))) * 31) + (Int32.toInt64 (nI (ao n f0 j))))), (12, .int (nI (ao n f0 j))), (10, .int 10), (9, .ref qi), (8, .ref qi), (0, .ref (h 0)), (7, .int (nI j))] 2 rfl (by decide) (by decide) rfl ?_
            refine zv_goto C dX2_digest_300 271 (by decide) ?_
            refine zv_iload C dX2_digest_271 273 rfl 0 rfl ?_
            refine zv_iload C dX2_digest_273 275 rfl 3 rfl ?_
            refine zv_icmp_ge C dX2_digest_275 278 303 rfl (by decide) (fun q => absurd q (by decide)) (fun _ => ?_)
            refine zv_aload C dX2_digest_278 280 rfl 4 rfl ?_
            refine zv_iload C dX2_digest_280 282 rfl 0 rfl ?_
            refine zv_iald (v := (g11 j)) C dX2_digest_282 283 rfl 15 0 7 rfl rfl (by decide) (by omega) (by decide) rfl ?_
            refine zv_istore C dX2_digest_283 285 rfl [(12, .int (g11 j)), (11, .int 7), (5, .long ((((((((((((((sm * 31) + (Int32.toInt64 (f0 j))) * 31) + (Int32.toInt64 (f1 j))) * 31) + (Int32.toInt64 (f3 j))) * 31) + (Int32.toInt64 (g9 j))) * 31) + (Int32.toInt64 (g10 j))) * 31) + (Int32.toInt64 (nI (mo f0 16 j)))) * 31) + (Int32.toInt64 (nI (ao n f0 j))))), (10, .int 10), (9, .ref qi), (8, .ref qi), (0, .ref (h 0)), (7, .int (nI j))] (by decide) rfl ?_
            refine zv_lload C dX2_digest_285 287 rfl 2 rfl ?_
            refine zv_ldc2 C dX2_digest_287 290 rfl (v := 31) (by decide +kernel) ?_
            refine zv_lmul C dX2_digest_290 291 rfl ?_
            refine zv_iload C dX2_digest_291 293 rfl 0 rfl ?_
            refine zv_i2l C dX2_digest_293 294 rfl ?_
            refine zv_ladd C dX2_digest_294 295 rfl ?_
            refine zv_lstore C dX2_digest_295 297 rfl [(5, .long ((((((((((((((((sm * 31) + (Int32.toInt64 (f0 j))) * 31) + (Int32.toInt64 (f1 j))) * 31) + (Int32.toInt64 (f3 j))) * 31) + (Int32.toInt64 (g9 j))) * 31) + (Int32.toInt64 (g10 j))) * 31) + (Int32.toInt64 (nI (mo f0 16 j)))) * 31) + (Int32.toInt64 (nI (ao n f0 j)))) * 31) + (Int32.toInt64 (g11 j)))), (12, .int (g11 j)), (11, .int 7), (10, .int 10), (9, .ref qi), (8, .ref qi), (0, .ref (h 0)), (7, .int (nI j))] (by decide) rfl ?_
            refine zv_iinc (v := 8) C dX2_digest_297 300 rfl [(11, .int 8), (5, .long ((((((((((((((((sm * 31) + (Int32.toInt64 (f0 j))) * 31) + (Int32.toInt64 (f1 j))) * 31) + (Int32.toInt64 (f3 j))) * 31) + (Int32.toInt64 (g9 j))) * 31) + (Int32.toInt64 (g10 j))) * 31) + (Int32.toInt64 (nI (mo f0 16 j)))) * 31) + (Int32.toInt64 (nI (ao n f0 j)))) * 31) + (Int32.toInt64 (g11 j)))), (12, .int (g11 j)), (10, .int 10), (9, .ref qi), (8, .ref qi), (0, .ref (h 0)), (7, .int (nI j))] 2 rfl (by decide) (by decide) rfl ?_
            refine zv_goto C dX2_digest_300 271 (by decide) ?_
            refine zv_iload C dX2_digest_271 273 rfl 0 rfl ?_
            refine zv_iload C dX2_digest_273 275 rfl 3 rfl ?_
            refine zv_icmp_ge C dX2_digest_275 278 303 rfl (by decide) (fun q => absurd q (by decide)) (fun _ => ?_)
            refine zv_aload C dX2_digest_278 280 rfl 4 rfl ?_
            refine zv_iload C dX2_digest_280 282 rfl 0 rfl ?_
            refine zv_iald (v := (nI (agA f0 f1 f3 f5 g11 j n))) C dX2_digest_282 283 rfl 15 0 8 rfl rfl (by decide) (by omega) (by decide) rfl ?_
            refine zv_istore C dX2_digest_283 285 rfl [(12, .int (nI (agA f0 f1 f3 f5 g11 j n))), (11, .int 8), (5, .long ((((((((((((((((sm * 31) + (Int32.toInt64 (f0 j))) * 31) + (Int32.toInt64 (f1 j))) * 31) + (Int32.toInt64 (f3 j))) * 31) + (Int32.toInt64 (g9 j))) * 31) + (Int32.toInt64 (g10 j))) * 31) + (Int32.toInt64 (nI (mo f0 16 j)))) * 31) + (Int32.toInt64 (nI (ao n f0 j)))) * 31) + (Int32.toInt64 (g11 j)))), (10, .int 10), (9, .ref qi), (8, .ref qi), (0, .ref (h 0)), (7, .int (nI j))] (by decide) rfl ?_
            refine zv_lload C dX2_digest_285 287 rfl 2 rfl ?_
            refine zv_ldc2 C dX2_digest_287 290 rfl (v := 31) (by decide +kernel) ?_
            refine zv_lmul C dX2_digest_290 291 rfl ?_
            refine zv_iload C dX2_digest_291 293 rfl 0 rfl ?_
            refine zv_i2l C dX2_digest_293 294 rfl ?_
            refine zv_ladd C dX2_digest_294 295 rfl ?_
            refine zv_lstore C dX2_digest_295 297 rfl [(5, .long ((((((((((((((((((sm * 31) + (Int32.toInt64 (f0 j))) * 31) + (Int32.toInt64 (f1 j))) * 31) + (Int32.toInt64 (f3 j))) * 31) + (Int32.toInt64 (g9 j))) * 31) + (Int32.toInt64 (g10 j))) * 31) + (Int32.toInt64 (nI (mo f0 16 j)))) * 31) + (Int32.toInt64 (nI (ao n f0 j)))) * 31) + (Int32.toInt64 (g11 j))) * 31) + (Int32.toInt64 (nI (agA f0 f1 f3 f5 g11 j n))))), (12, .int (nI (agA f0 f1 f3 f5 g11 j n))), (11, .int 8), (10, .int 10), (9, .ref qi), (8, .ref qi), (0, .ref (h 0)), (7, .int (nI j))] (by decide) rfl ?_
            refine zv_iinc (v := 9) C dX2_digest_297 300 rfl [(11, .int 9), (5, .long ((((((((((((((((((sm * 31) + (Int32.toInt64 (f0 j))) * 31) + (Int32.toInt64 (f1 j))) * 31) + (Int32.toInt64 (f3 j))) * 31) + (Int32.toInt64 (g9 j))) * 31) + (Int32.toInt64 (g10 j))) * 31) + (Int32.toInt64 (nI (mo f0 16 j)))) * 31) + (Int32.toInt64 (nI (ao n f0 j)))) * 31) + (Int32.toInt64 (g11 j))) * 31) + (Int32.toInt64 (nI (agA f0 f1 f3 f5 g11 j n))))), (12, .int (nI (agA f0 f1 f3 f5 g11 j n))), (10, .int 10), (9, .ref qi), (8, .ref qi), (0, .ref (h 0)), (7, .int (nI j))] 2 rfl (by decide) (by decide) rfl ?_
            refine zv_goto C dX2_digest_300 271 (by decide) ?_
            refine zv_iload C dX2_digest_271 273 rfl 0 rfl ?_
            refine zv_iload C dX2_digest_273 275 rfl 3 rfl ?_
            refine zv_icmp_ge C dX2_digest_275 278 303 rfl (by decide) (fun q => absurd q (by decide)) (fun _ => ?_)
            refine zv_aload C dX2_digest_278 280 rfl 4 rfl ?_
            refine zv_iload C dX2_digest_280 282 rfl 0 rfl ?_
            refine zv_iald (v := (zb (agD f0 f1 f2 f3 f5 g11 j n))) C dX2_digest_282 283 rfl 15 0 9 rfl rfl (by decide) (by omega) (by decide) (upd_at _ _ _) ?_
            refine zv_istore C dX2_digest_283 285 rfl [(12, .int (zb (agD f0 f1 f2 f3 f5 g11 j n))), (11, .int 9), (5, .long ((((((((((((((((((sm * 31) + (Int32.toInt64 (f0 j))) * 31) + (Int32.toInt64 (f1 j))) * 31) + (Int32.toInt64 (f3 j))) * 31) + (Int32.toInt64 (g9 j))) * 31) + (Int32.toInt64 (g10 j))) * 31) + (Int32.toInt64 (nI (mo f0 16 j)))) * 31) + (Int32.toInt64 (nI (ao n f0 j)))) * 31) + (Int32.toInt64 (g11 j))) * 31) + (Int32.toInt64 (nI (agA f0 f1 f3 f5 g11 j n))))), (10, .int 10), (9, .ref qi), (8, .ref qi), (0, .ref (h 0)), (7, .int (nI j))] (by decide) rfl ?_
            refine zv_lload C dX2_digest_285 287 rfl 2 rfl ?_
            refine zv_ldc2 C dX2_digest_287 290 rfl (v := 31) (by decide +kernel) ?_
            refine zv_lmul C dX2_digest_290 291 rfl ?_
            refine zv_iload C dX2_digest_291 293 rfl 0 rfl ?_
            refine zv_i2l C dX2_digest_293 294 rfl ?_
            refine zv_ladd C dX2_digest_294 295 rfl ?_
            refine zv_lstore C dX2_digest_295 297 rfl [(5, .long ((((((((((((((((((((sm * 31) + (Int32.toInt64 (f0 j))) * 31) + (Int32.toInt64 (f1 j))) * 31) + (Int32.toInt64 (f3 j))) * 31) + (Int32.toInt64 (g9 j))) * 31) + (Int32.toInt64 (g10 j))) * 31) + (Int32.toInt64 (nI (mo f0 16 j)))) * 31) + (Int32.toInt64 (nI (ao n f0 j)))) * 31) + (Int32.toInt64 (g11 j))) * 31) + (Int32.toInt64 (nI (agA f0 f1 f3 f5 g11 j n)))) * 31) + (Int32.toInt64 (zb (agD f0 f1 f2 f3 f5 g11 j n))))), (12, .int (zb (agD f0 f1 f2 f3 f5 g11 j n))), (11, .int 9), (10, .int 10), (9, .ref qi), (8, .ref qi), (0, .ref (h 0)), (7, .int (nI j))] (by decide) rfl ?_
            refine zv_iinc (v := 10) C dX2_digest_297 300 rfl [(11, .int 10), (5, .long ((((((((((((((((((((sm * 31) + (Int32.toInt64 (f0 j))) * 31) + (Int32.toInt64 (f1 j))) * 31) + (Int32.toInt64 (f3 j))) * 31) + (Int32.toInt64 (g9 j))) * 31) + (Int32.toInt64 (g10 j))) * 31) + (Int32.toInt64 (nI (mo f0 16 j)))) * 31) + (Int32.toInt64 (nI (ao n f0 j)))) * 31) + (Int32.toInt64 (g11 j))) * 31) + (Int32.toInt64 (nI (agA f0 f1 f3 f5 g11 j n)))) * 31) + (Int32.toInt64 (zb (agD f0 f1 f2 f3 f5 g11 j n))))), (12, .int (zb (agD f0 f1 f2 f3 f5 g11 j n))), (10, .int 10), (9, .ref qi), (8, .ref qi), (0, .ref (h 0)), (7, .int (nI j))] 2 rfl (by decide) (by decide) rfl ?_
            refine zv_goto C dX2_digest_300 271 (by decide) ?_
            refine zv_iload C dX2_digest_271 273 rfl 0 rfl ?_
            refine zv_iload C dX2_digest_273 275 rfl 3 rfl ?_
            refine zv_icmp_ge C dX2_digest_275 278 303 rfl (by decide) (fun _ => ?_) (fun q => absurd (by decide) q)
            refine zv_perm [0, 1, 2, 3, 4, 5, 6, 7, 8, 9, 10, 11, 12, 13, 14] (ws' := (cM cI cZ h 0 (nI n) r y (nI b) f0 f1 f2 f3 f4 f5 f6 f7 g8 g9 g10 g11 g12 f13)) (by decide) rfl ?_
            refine zv_iinc (v := (nI (j + 1))) C dX2_digest_303 306 rfl [(7, .int (nI (j + 1))), (11, .int 10), (5, .long ((((((((((((((((((((sm * 31) + (Int32.toInt64 (f0 j))) * 31) + (Int32.toInt64 (f1 j))) * 31) + (Int32.toInt64 (f3 j))) * 31) + (Int32.toInt64 (g9 j))) * 31) + (Int32.toInt64 (g10 j))) * 31) + (Int32.toInt64 (nI (mo f0 16 j)))) * 31) + (Int32.toInt64 (nI (ao n f0 j)))) * 31) + (Int32.toInt64 (g11 j))) * 31) + (Int32.toInt64 (nI (agA f0 f1 f3 f5 g11 j n)))) * 31) + (Int32.toInt64 (zb (agD f0 f1 f2 f3 f5 g11 j n))))), (12, .int (zb (agD f0 f1 f2 f3 f5 g11 j n))), (10, .int 10), (9, .ref qi), (8, .ref qi), (0, .ref (h 0))] 7 rfl (nI_1 j) (by decide) rfl ?_
            refine zv_goto C dX2_digest_306 128 (by decide) ?_
            refine zv_go rfl rfl rfl (kc' := 1 + (j + 1)) (by omega) (ns' := 8 + 10 * (j + 1)) (by omega) ?_
            refine zv_sub [7, 2, 0] (lv' := [(0, .ref (h 0)), (5, .long ((((((((((((((((((((sm * 31) + (Int32.toInt64 (f0 j))) * 31) + (Int32.toInt64 (f1 j))) * 31) + (Int32.toInt64 (f3 j))) * 31) + (Int32.toInt64 (g9 j))) * 31) + (Int32.toInt64 (g10 j))) * 31) + (Int32.toInt64 (nI (mo f0 16 j)))) * 31) + (Int32.toInt64 (nI (ao n f0 j)))) * 31) + (Int32.toInt64 (g11 j))) * 31) + (Int32.toInt64 (nI (agA f0 f1 f3 f5 g11 j n)))) * 31) + (Int32.toInt64 (zb (agD f0 f1 f2 f3 f5 g11 j n))))), (7, .int (nI (j + 1)))]) rfl ?_
            exact ih_L128 (j + 1) ((((((((((((((((((((sm * 31) + (Int32.toInt64 (f0 j))) * 31) + (Int32.toInt64 (f1 j))) * 31) + (Int32.toInt64 (f3 j))) * 31) + (Int32.toInt64 (g9 j))) * 31) + (Int32.toInt64 (g10 j))) * 31) + (Int32.toInt64 (nI (mo f0 16 j)))) * 31) + (Int32.toInt64 (nI (ao n f0 j)))) * 31) + (Int32.toInt64 (g11 j))) * 31) + (Int32.toInt64 (nI (agA f0 f1 f3 f5 g11 j n)))) * 31) + (Int32.toInt64 (zb (agD f0 f1 f2 f3 f5 g11 j n)))) g8 g9 g10 g11 g12 (by omega) hM (by rw [hm]; rfl) (by omega)
          · replace c6 := zb_ne0.mp c6
            refine zv_iconst (v := 1) C dX2_digest_251 252 rfl (by decide) ?_
            refine zv_goto C dX2_digest_252 256 (by decide) ?_
            refine zv_iast (x' := (zb (agD f0 f1 f2 f3 f5 g11 j n))) C dX2_digest_256 257 rfl 15 0 9 rfl rfl (by decide) (by omega) (by decide) (by rw [c6]; rfl) ((cM cI cZ h 0 (nI n) r y (nI b) f0 f1 f2 f3 f4 f5 f6 f7 g8 g9 g10 g11 g12 f13) ++ [(qi, .inl (cI, 10, .inl (upd (upd (upd (upd (upd (upd (upd (upd (upd (upd z0 0 (f0 j)) 1 (f1 j)) 2 (f3 j)) 3 (g9 j)) 4 (g10 j)) 5 (nI (mo f0 16 j))) 6 (nI (ao n f0 j))) 7 (g11 j)) 8 (nI (agA f0 f1 f3 f5 g11 j n))) 9 (zb (agD f0 f1 f2 f3 f5 g11 j n)))))]) rfl ?_
            refine zv_astore C dX2_digest_257 259 rfl [(8, .ref qi), (0, .ref (h 0)), (5, .long sm), (7, .int (nI j))] (by decide) rfl ?_
            refine zv_aload C dX2_digest_259 261 rfl 0 rfl ?_
            refine zv_astore C dX2_digest_261 263 rfl [(9, .ref qi), (8, .ref qi), (0, .ref (h 0)), (5, .long sm), (7, .int (nI j))] (by decide) rfl ?_
            refine zv_aload C dX2_digest_263 265 rfl 0 rfl ?_
            refine zv_alen (v := 10) C dX2_digest_265 266 rfl 15 0 rfl rfl rfl ?_
            refine zv_istore C dX2_digest_266 268 rfl [(10, .int 10), (9, .ref qi), (8, .ref qi), (0, .ref (h 0)), (5, .long sm), (7, .int (nI j))] (by decide) rfl ?_
            refine zv_iconst (v := 0) C dX2_digest_268 269 rfl (by decide) ?_
            refine zv_istore C dX2_digest_269 271 rfl [(11, .int 0), (10, .int 10), (9, .ref qi), (8, .ref qi), (0, .ref (h 0)), (5, .long sm), (7, .int (nI j))] (by decide) rfl ?_
            refine zv_iload C dX2_digest_271 273 rfl 0 rfl ?_
            refine zv_iload C dX2_digest_273 275 rfl 1 rfl ?_
            refine zv_icmp_ge C dX2_digest_275 278 303 rfl (by decide) (fun q => absurd q (by decide)) (fun _ => ?_)
            refine zv_aload C dX2_digest_278 280 rfl 2 rfl ?_
            refine zv_iload C dX2_digest_280 282 rfl 0 rfl ?_
            refine zv_iald (v := (f0 j)) C dX2_digest_282 283 rfl 15 0 0 rfl rfl (by decide) (by omega) (by decide) rfl ?_
            refine zv_istore C dX2_digest_283 285 rfl [(12, .int (f0 j)), (11, .int 0), (10, .int 10), (9, .ref qi), (8, .ref qi), (0, .ref (h 0)), (5, .long sm), (7, .int (nI j))] (by decide) rfl ?_
            refine zv_lload C dX2_digest_285 287 rfl 6 rfl ?_
            refine zv_ldc2 C dX2_digest_287 290 rfl (v := 31) (by decide +kernel) ?_
            refine zv_lmul C dX2_digest_290 291 rfl ?_
            refine zv_iload C dX2_digest_291 293 rfl 0 rfl ?_
            refine zv_i2l C dX2_digest_293 294 rfl ?_
            refine zv_ladd C dX2_digest_294 295 rfl ?_
            refine zv_lstore C dX2_digest_295 297 rfl [(5, .long ((sm * 31) + (Int32.toInt64 (f0 j)))), (12, .int (f0 j)), (11, .int 0), (10, .int 10), (9, .ref qi), (8, .ref qi), (0, .ref (h 0)), (7, .int (nI j))] (by decide) rfl ?_
            refine zv_iinc (v := 1) C dX2_digest_297 300 rfl [(11, .int 1), (5, .long ((sm * 31) + (Int32.toInt64 (f0 j)))), (12, .int (f0 j)), (10, .int 10), (9, .ref qi), (8, .ref qi), (0, .ref (h 0)), (7, .int (nI j))] 2 rfl (by decide) (by decide) rfl ?_
            refine zv_goto C dX2_digest_300 271 (by decide) ?_
            refine zv_iload C dX2_digest_271 273 rfl 0 rfl ?_
            refine zv_iload C dX2_digest_273 275 rfl 3 rfl ?_
            refine zv_icmp_ge C dX2_digest_275 278 303 rfl (by decide) (fun q => absurd q (by decide)) (fun _ => ?_)
            refine zv_aload C dX2_digest_278 280 rfl 4 rfl ?_
            refine zv_iload C dX2_digest_280 282 rfl 0 rfl ?_
            refine zv_iald (v := (f1 j)) C dX2_digest_282 283 rfl 15 0 1 rfl rfl (by decide) (by omega) (by decide) rfl ?_
            refine zv_istore C dX2_digest_283 285 rfl [(12, .int (f1 j)), (11, .int 1), (5, .long ((sm * 31) + (Int32.toInt64 (f0 j)))), (10, .int 10), (9, .ref qi), (8, .ref qi), (0, .ref (h 0)), (7, .int (nI j))] (by decide) rfl ?_
            refine zv_lload C dX2_digest_285 287 rfl 2 rfl ?_
            refine zv_ldc2 C dX2_digest_287 290 rfl (v := 31) (by decide +kernel) ?_
            refine zv_lmul C dX2_digest_290 291 rfl ?_
            refine zv_iload C dX2_digest_291 293 rfl 0 rfl ?_
            refine zv_i2l C dX2_digest_293 294 rfl ?_
            refine zv_ladd C dX2_digest_294 295 rfl ?_
            refine zv_lstore C dX2_digest_295 297 rfl [(5, .long ((((sm * 31) + (Int32.toInt64 (f0 j))) * 31) + (Int32.toInt64 (f1 j)))), (12, .int (f1 j)), (11, .int 1), (10, .int 10), (9, .ref qi), (8, .ref qi), (0, .ref (h 0)), (7, .int (nI j))] (by decide) rfl ?_
            refine zv_iinc (v := 2) C dX2_digest_297 300 rfl [(11, .int 2), (5, .long ((((sm * 31) + (Int32.toInt64 (f0 j))) * 31) + (Int32.toInt64 (f1 j)))), (12, .int (f1 j)), (10, .int 10), (9, .ref qi), (8, .ref qi), (0, .ref (h 0)), (7, .int (nI j))] 2 rfl (by decide) (by decide) rfl ?_
            refine zv_goto C dX2_digest_300 271 (by decide) ?_
            refine zv_iload C dX2_digest_271 273 rfl 0 rfl ?_
            refine zv_iload C dX2_digest_273 275 rfl 3 rfl ?_
            refine zv_icmp_ge C dX2_digest_275 278 303 rfl (by decide) (fun q => absurd q (by decide)) (fun _ => ?_)
            refine zv_aload C dX2_digest_278 280 rfl 4 rfl ?_
            refine zv_iload C dX2_digest_280 282 rfl 0 rfl ?_
            refine zv_iald (v := (f3 j)) C dX2_digest_282 283 rfl 15 0 2 rfl rfl (by decide) (by omega) (by decide) rfl ?_
            refine zv_istore C dX2_digest_283 285 rfl [(12, .int (f3 j)), (11, .int 2), (5, .long ((((sm * 31) + (Int32.toInt64 (f0 j))) * 31) + (Int32.toInt64 (f1 j)))), (10, .int 10), (9, .ref qi), (8, .ref qi), (0, .ref (h 0)), (7, .int (nI j))] (by decide) rfl ?_
            refine zv_lload C dX2_digest_285 287 rfl 2 rfl ?_
            refine zv_ldc2 C dX2_digest_287 290 rfl (v := 31) (by decide +kernel) ?_
            refine zv_lmul C dX2_digest_290 291 rfl ?_
            refine zv_iload C dX2_digest_291 293 rfl 0 rfl ?_
            refine zv_i2l C dX2_digest_293 294 rfl ?_
            refine zv_ladd C dX2_digest_294 295 rfl ?_
            refine zv_lstore C dX2_digest_295 297 rfl [(5, .long ((((((sm * 31) + (Int32.toInt64 (f0 j))) * 31) + (Int32.toInt64 (f1 j))) * 31) + (Int32.toInt64 (f3 j)))), (12, .int (f3 j)), (11, .int 2), (10, .int 10), (9, .ref qi), (8, .ref qi), (0, .ref (h 0)), (7, .int (nI j))] (by decide) rfl ?_
            refine zv_iinc (v := 3) C dX2_digest_297 300 rfl [(11, .int 3), (5, .long ((((((sm * 31) + (Int32.toInt64 (f0 j))) * 31) + (Int32.toInt64 (f1 j))) * 31) + (Int32.toInt64 (f3 j)))), (12, .int (f3 j)), (10, .int 10), (9, .ref qi), (8, .ref qi), (0, .ref (h 0)), (7, .int (nI j))] 2 rfl (by decide) (by decide) rfl ?_
            refine zv_goto C dX2_digest_300 271 (by decide) ?_
            refine zv_iload C dX2_digest_271 273 rfl 0 rfl ?_
            refine zv_iload C dX2_digest_273 275 rfl 3 rfl ?_
            refine zv_icmp_ge C dX2_digest_275 278 303 rfl (by decide) (fun q => absurd q (by decide)) (fun _ => ?_)
            refine zv_aload C dX2_digest_278 280 rfl 4 rfl ?_
            refine zv_iload C dX2_digest_280 282 rfl 0 rfl ?_
            refine zv_iald (v := (g9 j)) C dX2_digest_282 283 rfl 15 0 3 rfl rfl (by decide) (by omega) (by decide) rfl ?_
            refine zv_istore C dX2_digest_283 285 rfl [(12, .int (g9 j)), (11, .int 3), (5, .long ((((((sm * 31) + (Int32.toInt64 (f0 j))) * 31) + (Int32.toInt64 (f1 j))) * 31) + (Int32.toInt64 (f3 j)))), (10, .int 10), (9, .ref qi), (8, .ref qi), (0, .ref (h 0)), (7, .int (nI j))] (by decide) rfl ?_
            refine zv_lload C dX2_digest_285 287 rfl 2 rfl ?_
            refine zv_ldc2 C dX2_digest_287 290 rfl (v := 31) (by decide +kernel) ?_
            refine zv_lmul C dX2_digest_290 291 rfl ?_
            refine zv_iload C dX2_digest_291 293 rfl 0 rfl ?_
            refine zv_i2l C dX2_digest_293 294 rfl ?_
            refine zv_ladd C dX2_digest_294 295 rfl ?_
            refine zv_lstore C dX2_digest_295 297 rfl [(5, .long ((((((((sm * 31) + (Int32.toInt64 (f0 j))) * 31) + (Int32.toInt64 (f1 j))) * 31) + (Int32.toInt64 (f3 j))) * 31) + (Int32.toInt64 (g9 j)))), (12, .int (g9 j)), (11, .int 3), (10, .int 10), (9, .ref qi), (8, .ref qi), (0, .ref (h 0)), (7, .int (nI j))] (by decide) rfl ?_
            refine zv_iinc (v := 4) C dX2_digest_297 300 rfl [(11, .int 4), (5, .long ((((((((sm * 31) + (Int32.toInt64 (f0 j))) * 31) + (Int32.toInt64 (f1 j))) * 31) + (Int32.toInt64 (f3 j))) * 31) + (Int32.toInt64 (g9 j)))), (12, .int (g9 j)), (10, .int 10), (9, .ref qi), (8, .ref qi), (0, .ref (h 0)), (7, .int (nI j))] 2 rfl (by decide) (by decide) rfl ?_
            refine zv_goto C dX2_digest_300 271 (by decide) ?_
            refine zv_iload C dX2_digest_271 273 rfl 0 rfl ?_
            refine zv_iload C dX2_digest_273 275 rfl 3 rfl ?_
            refine zv_icmp_ge C dX2_digest_275 278 303 rfl (by decide) (fun q => absurd q (by decide)) (fun _ => ?_)
            refine zv_aload C dX2_digest_278 280 rfl 4 rfl ?_
            refine zv_iload C dX2_digest_280 282 rfl 0 rfl ?_
            refine zv_iald (v := (g10 j)) C dX2_digest_282 283 rfl 15 0 4 rfl rfl (by decide) (by omega) (by decide) rfl ?_
            refine zv_istore C dX2_digest_283 285 rfl [(12, .int (g10 j)), (11, .int 4), (5, .long ((((((((sm * 31) + (Int32.toInt64 (f0 j))) * 31) + (Int32.toInt64 (f1 j))) * 31) + (Int32.toInt64 (f3 j))) * 31) + (Int32.toInt64 (g9 j)))), (10, .int 10), (9, .ref qi), (8, .ref qi), (0, .ref (h 0)), (7, .int (nI j))] (by decide) rfl ?_
            refine zv_lload C dX2_digest_285 287 rfl 2 rfl ?_
            refine zv_ldc2 C dX2_digest_287 290 rfl (v := 31) (by decide +kernel) ?_
            refine zv_lmul C dX2_digest_290 291 rfl ?_
            refine zv_iload C dX2_digest_291 293 rfl 0 rfl ?_
            refine zv_i2l C dX2_digest_293 294 rfl ?_
            refine zv_ladd C dX2_digest_294 295 rfl ?_
            refine zv_lstore C dX2_digest_295 297 rfl [(5, .long ((((((((((sm * 31) + (Int32.toInt64 (f0 j))) * 31) + (Int32.toInt64 (f1 j))) * 31) + (Int32.toInt64 (f3 j))) * 31) + (Int32.toInt64 (g9 j))) * 31) + (Int32.toInt64 (g10 j)))), (12, .int (g10 j)), (11, .int 4), (10, .int 10), (9, .ref qi), (8, .ref qi), (0, .ref (h 0)), (7, .int (nI j))] (by decide) rfl ?_
            refine zv_iinc (v := 5) C dX2_digest_297 300 rfl [(11, .int 5), (5, .long ((((((((((sm * 31) + (Int32.toInt64 (f0 j))) * 31) + (Int32.toInt64 (f1 j))) * 31) + (Int32.toInt64 (f3 j))) * 31) + (Int32.toInt64 (g9 j))) * 31) + (Int32.toInt64 (g10 j)))), (12, .int (g10 j)), (10, .int 10), (9, .ref qi), (8, .ref qi), (0, .ref (h 0)), (7, .int (nI j))] 2 rfl (by decide) (by decide) rfl ?_
            refine zv_goto C dX2_digest_300 271 (by decide) ?_
            refine zv_iload C dX2_digest_271 273 rfl 0 rfl ?_
            refine zv_iload C dX2_digest_273 275 rfl 3 rfl ?_
            refine zv_icmp_ge C dX2_digest_275 278 303 rfl (by decide) (fun q => absurd q (by decide)) (fun _ => ?_)
            refine zv_aload C dX2_digest_278 280 rfl 4 rfl ?_
            refine zv_iload C dX2_digest_280 282 rfl 0 rfl ?_
            refine zv_iald (v := (nI (mo f0 16 j))) C dX2_digest_282 283 rfl 15 0 5 rfl rfl (by decide) (by omega) (by decide) rfl ?_
            refine zv_istore C dX2_digest_283 285 rfl [(12, .int (nI (mo f0 16 j))), (11, .int 5), (5, .long ((((((((((sm * 31) + (Int32.toInt64 (f0 j))) * 31) + (Int32.toInt64 (f1 j))) * 31) + (Int32.toInt64 (f3 j))) * 31) + (Int32.toInt64 (g9 j))) * 31) + (Int32.toInt64 (g10 j)))), (10, .int 10), (9, .ref qi), (8, .ref qi), (0, .ref (h 0)), (7, .int (nI j))] (by decide) rfl ?_
            refine zv_lload C dX2_digest_285 287 rfl 2 rfl ?_
            refine zv_ldc2 C dX2_digest_287 290 rfl (v := 31) (by decide +kernel) ?_
            refine zv_lmul C dX2_digest_290 291 rfl ?_
            refine zv_iload C dX2_digest_291 293 rfl 0 rfl ?_
            refine zv_i2l C dX2_digest_293 294 rfl ?_
            refine zv_ladd C dX2_digest_294 295 rfl ?_
            refine zv_lstore C dX2_digest_295 297 rfl [(5, .long ((((((((((((sm * 31) + (Int32.toInt64 (f0 j))) * 31) + (Int32.toInt64 (f1 j))) * 31) + (Int32.toInt64 (f3 j))) * 31) + (Int32.toInt64 (g9 j))) * 31) + (Int32.toInt64 (g10 j))) * 31) + (Int32.toInt64 (nI (mo f0 16 j))))), (12, .int (nI (mo f0 16 j))), (11, .int 5), (10, .int 10), (9, .ref qi), (8, .ref qi), (0, .ref (h 0)), (7, .int (nI j))] (by decide) rfl ?_
            refine zv_iinc (v := 6) C dX2_digest_297 300 rfl [(11, .int 6), (5, .long ((((((((((((sm * 31) + (Int32.toInt64 (f0 j))) * 31) + (Int32.toInt64 (f1 j))) * 31) + (Int32.toInt64 (f3 j))) * 31) + (Int32.toInt64 (g9 j))) * 31) + (Int32.toInt64 (g10 j))) * 31) + (Int32.toInt64 (nI (mo f0 16 j))))), (12, .int (nI (mo f0 16 j))), (10, .int 10), (9, .ref qi), (8, .ref qi), (0, .ref (h 0)), (7, .int (nI j))] 2 rfl (by decide) (by decide) rfl ?_
            refine zv_goto C dX2_digest_300 271 (by decide) ?_
            refine zv_iload C dX2_digest_271 273 rfl 0 rfl ?_
            refine zv_iload C dX2_digest_273 275 rfl 3 rfl ?_
            refine zv_icmp_ge C dX2_digest_275 278 303 rfl (by decide) (fun q => absurd q (by decide)) (fun _ => ?_)
            refine zv_aload C dX2_digest_278 280 rfl 4 rfl ?_
            refine zv_iload C dX2_digest_280 282 rfl 0 rfl ?_
            refine zv_iald (v := (nI (ao n f0 j))) C dX2_digest_282 283 rfl 15 0 6 rfl rfl (by decide) (by omega) (by decide) rfl ?_
            refine zv_istore C dX2_digest_283 285 rfl [(12, .int (nI (ao n f0 j))), (11, .int 6), (5, .long ((((((((((((sm * 31) + (Int32.toInt64 (f0 j))) * 31) + (Int32.toInt64 (f1 j))) * 31) + (Int32.toInt64 (f3 j))) * 31) + (Int32.toInt64 (g9 j))) * 31) + (Int32.toInt64 (g10 j))) * 31) + (Int32.toInt64 (nI (mo f0 16 j))))), (10, .int 10), (9, .ref qi), (8, .ref qi), (0, .ref (h 0)), (7, .int (nI j))] (by decide) rfl ?_
            refine zv_lload C dX2_digest_285 287 rfl 2 rfl ?_
            refine zv_ldc2 C dX2_digest_287 290 rfl (v := 31) (by decide +kernel) ?_
            refine zv_lmul C dX2_digest_290 291 rfl ?_
            refine zv_iload C dX2_digest_291 293 rfl 0 rfl ?_
            refine zv_i2l C dX2_digest_293 294 rfl ?_
            refine zv_ladd C dX2_digest_294 295 rfl ?_
            refine zv_lstore C dX2_digest_295 297 rfl [(5, .long ((((((((((((((sm * 31) + (Int32.toInt64 (f0 j))) * 31) + (Int32.toInt64 (f1 j))) * 31) + (Int32.toInt64 (f3 j))) * 31) + (Int32.toInt64 (g9 j))) * 31) + (Int32.toInt64 (g10 j))) * 31) + (Int32.toInt64 (nI (mo f0 16 j)))) * 31) + (Int32.toInt64 (nI (ao n f0 j))))), (12, .int (nI (ao n f0 j))), (11, .int 6), (10, .int 10), (9, .ref qi), (8, .ref qi), (0, .ref (h 0)), (7, .int (nI j))] (by decide) rfl ?_
            refine zv_iinc (v := 7) C dX2_digest_297 300 rfl [(11, .int 7), (5, .long ((((((((((((((sm * 31) + (Int32.toInt64 (f0 j))) * 31) + (Int32.toInt64 (f1 j))) * 31) + (Int32.toInt64 (f3 j))) * 31) + (Int32.toInt64 (g9 j))) * 31) + (Int32.toInt64 (g10 j))) * 31) + (Int32.toInt64 (nI (mo f0 16 j)))) * 31) + (Int32.toInt64 (nI (ao n f0 j))))), (12, .int (nI (ao n f0 j))), (10, .int 10), (9, .ref qi), (8, .ref qi), (0, .ref (h 0)), (7, .int (nI j))] 2 rfl (by decide) (by decide) rfl ?_
            refine zv_goto C dX2_digest_300 271 (by decide) ?_
            refine zv_iload C dX2_digest_271 273 rfl 0 rfl ?_
            refine zv_iload C dX2_digest_273 275 rfl 3 rfl ?_
            refine zv_icmp_ge C dX2_digest_275 278 303 rfl (by decide) (fun q => absurd q (by decide)) (fun _ => ?_)
            refine zv_aload C dX2_digest_278 280 rfl 4 rfl ?_
            refine zv_iload C dX2_digest_280 282 rfl 0 rfl ?_
            refine zv_iald (v := (g11 j)) C dX2_digest_282 283 rfl 15 0 7 rfl rfl (by decide) (by omega) (by decide) rfl ?_
            refine zv_istore C dX2_digest_283 285 rfl [(12, .int (g11 j)), (11, .int 7), (5, .long ((((((((((((((sm * 31) + (Int32.toInt64 (f0 j))) * 31) + (Int32.toInt64 (f1 j))) * 31) + (Int32.toInt64 (f3 j))) * 31) + (Int32.toInt64 (g9 j))) * 31) + (Int32.toInt64 (g10 j))) * 31) + (Int32.toInt64 (nI (mo f0 16 j)))) * 31) + (Int32.toInt64 (nI (ao n f0 j))))), (10, .int 10), (9, .ref qi), (8, .ref qi), (0, .ref (h 0)), (7, .int (nI j))] (by decide) rfl ?_
            refine zv_lload C dX2_digest_285 287 rfl 2 rfl ?_
            refine zv_ldc2 C dX2_digest_287 290 rfl (v := 31) (by decide +kernel) ?_
            refine zv_lmul C dX2_digest_290 291 rfl ?_
            refine zv_iload C dX2_digest_291 293 rfl 0 rfl ?_
            refine zv_i2l C dX2_digest_293 294 rfl ?_
            refine zv_ladd C dX2_digest_294 295 rfl ?_
            refine zv_lstore C dX2_digest_295 297 rfl [(5, .long ((((((((((((((((sm * 31) + (Int32.toInt64 (f0 j))) * 31) + (Int32.toInt64 (f1 j))) * 31) + (Int32.toInt64 (f3 j))) * 31) + (Int32.toInt64 (g9 j))) * 31) + (Int32.toInt64 (g10 j))) * 31) + (Int32.toInt64 (nI (mo f0 16 j)))) * 31) + (Int32.toInt64 (nI (ao n f0 j)))) * 31) + (Int32.toInt64 (g11 j)))), (12, .int (g11 j)), (11, .int 7), (10, .int 10), (9, .ref qi), (8, .ref qi), (0, .ref (h 0)), (7, .int (nI j))] (by decide) rfl ?_
            refine zv_iinc (v := 8) C dX2_digest_297 300 rfl [(11, .int 8), (5, .long ((((((((((((((((sm * 31) + (Int32.toInt64 (f0 j))) * 31) + (Int32.toInt64 (f1 j))) * 31) + (Int32.toInt64 (f3 j))) * 31) + (Int32.toInt64 (g9 j))) * 31) + (Int32.toInt64 (g10 j))) * 31) + (Int32.toInt64 (nI (mo f0 16 j)))) * 31) + (Int32.toInt64 (nI (ao n f0 j)))) * 31) + (Int32.toInt64 (g11 j)))), (12, .int (g11 j)), (10, .int 10), (9, .ref qi), (8, .ref qi), (0, .ref (h 0)), (7, .int (nI j))] 2 rfl (by decide) (by decide) rfl ?_
            refine zv_goto C dX2_digest_300 271 (by decide) ?_
            refine zv_iload C dX2_digest_271 273 rfl 0 rfl ?_
            refine zv_iload C dX2_digest_273 275 rfl 3 rfl ?_
            refine zv_icmp_ge C dX2_digest_275 278 303 rfl (by decide) (fun q => absurd q (by decide)) (fun _ => ?_)
            refine zv_aload C dX2_digest_278 280 rfl 4 rfl ?_
            refine zv_iload C dX2_digest_280 282 rfl 0 rfl ?_
            refine zv_iald (v := (nI (agA f0 f1 f3 f5 g11 j n))) C dX2_digest_282 283 rfl 15 0 8 rfl rfl (by decide) (by omega) (by decide) rfl ?_
            refine zv_istore C dX2_digest_283 285 rfl [(12, .int (nI (agA f0 f1 f3 f5 g11 j n))), (11, .int 8), (5, .long ((((((((((((((((sm * 31) + (Int32.toInt64 (f0 j))) * 31) + (Int32.toInt64 (f1 j))) * 31) + (Int32.toInt64 (f3 j))) * 31) + (Int32.toInt64 (g9 j))) * 31) + (Int32.toInt64 (g10 j))) * 31) + (Int32.toInt64 (nI (mo f0 16 j)))) * 31) + (Int32.toInt64 (nI (ao n f0 j)))) * 31) + (Int32.toInt64 (g11 j)))), (10, .int 10), (9, .ref qi), (8, .ref qi), (0, .ref (h 0)), (7, .int (nI j))] (by decide) rfl ?_
            refine zv_lload C dX2_digest_285 287 rfl 2 rfl ?_
            refine zv_ldc2 C dX2_digest_287 290 rfl (v := 31) (by decide +kernel) ?_
            refine zv_lmul C dX2_digest_290 291 rfl ?_
            refine zv_iload C dX2_digest_291 293 rfl 0 rfl ?_
            refine zv_i2l C dX2_digest_293 294 rfl ?_
            refine zv_ladd C dX2_digest_294 295 rfl ?_
            refine zv_lstore C dX2_digest_295 297 rfl [(5, .long ((((((((((((((((((sm * 31) + (Int32.toInt64 (f0 j))) * 31) + (Int32.toInt64 (f1 j))) * 31) + (Int32.toInt64 (f3 j))) * 31) + (Int32.toInt64 (g9 j))) * 31) + (Int32.toInt64 (g10 j))) * 31) + (Int32.toInt64 (nI (mo f0 16 j)))) * 31) + (Int32.toInt64 (nI (ao n f0 j)))) * 31) + (Int32.toInt64 (g11 j))) * 31) + (Int32.toInt64 (nI (agA f0 f1 f3 f5 g11 j n))))), (12, .int (nI (agA f0 f1 f3 f5 g11 j n))), (11, .int 8), (10, .int 10), (9, .ref qi), (8, .ref qi), (0, .ref (h 0)), (7, .int (nI j))] (by decide) rfl ?_
            refine zv_iinc (v := 9) C dX2_digest_297 300 rfl [(11, .int 9), (5, .long ((((((((((((((((((sm * 31) + (Int32.toInt64 (f0 j))) * 31) + (Int32.toInt64 (f1 j))) * 31) + (Int32.toInt64 (f3 j))) * 31) + (Int32.toInt64 (g9 j))) * 31) + (Int32.toInt64 (g10 j))) * 31) + (Int32.toInt64 (nI (mo f0 16 j)))) * 31) + (Int32.toInt64 (nI (ao n f0 j)))) * 31) + (Int32.toInt64 (g11 j))) * 31) + (Int32.toInt64 (nI (agA f0 f1 f3 f5 g11 j n))))), (12, .int (nI (agA f0 f1 f3 f5 g11 j n))), (10, .int 10), (9, .ref qi), (8, .ref qi), (0, .ref (h 0)), (7, .int (nI j))] 2 rfl (by decide) (by decide) rfl ?_
            refine zv_goto C dX2_digest_300 271 (by decide) ?_
            refine zv_iload C dX2_digest_271 273 rfl 0 rfl ?_
            refine zv_iload C dX2_digest_273 275 rfl 3 rfl ?_
            refine zv_icmp_ge C dX2_digest_275 278 303 rfl (by decide) (fun q => absurd q (by decide)) (fun _ => ?_)
            refine zv_aload C dX2_digest_278 280 rfl 4 rfl ?_
            refine zv_iload C dX2_digest_280 282 rfl 0 rfl ?_
            refine zv_iald (v := (zb (agD f0 f1 f2 f3 f5 g11 j n))) C dX2_digest_282 283 rfl 15 0 9 rfl rfl (by decide) (by omega) (by decide) (upd_at _ _ _) ?_
            refine zv_istore C dX2_digest_283 285 rfl [(12, .int (zb (agD f0 f1 f2 f3 f5 g11 j n))), (11, .int 9), (5, .long ((((((((((((((((((sm * 31) + (Int32.toInt64 (f0 j))) * 31) + (Int32.toInt64 (f1 j))) * 31) + (Int32.toInt64 (f3 j))) * 31) + (Int32.toInt64 (g9 j))) * 31) + (Int32.toInt64 (g10 j))) * 31) + (Int32.toInt64 (nI (mo f0 16 j)))) * 31) + (Int32.toInt64 (nI (ao n f0 j)))) * 31) + (Int32.toInt64 (g11 j))) * 31) + (Int32.toInt64 (nI (agA f0 f1 f3 f5 g11 j n))))), (10, .int 10), (9, .ref qi), (8, .ref qi), (0, .ref (h 0)), (7, .int (nI j))] (by decide) rfl ?_
            refine zv_lload C dX2_digest_285 287 rfl 2 rfl ?_
            refine zv_ldc2 C dX2_digest_287 290 rfl (v := 31) (by decide +kernel) ?_
            refine zv_lmul C dX2_digest_290 291 rfl ?_
            refine zv_iload C dX2_digest_291 293 rfl 0 rfl ?_
            refine zv_i2l C dX2_digest_293 294 rfl ?_
            refine zv_ladd C dX2_digest_294 295 rfl ?_
            refine zv_lstore C dX2_digest_295 297 rfl [(5, .long ((((((((((((((((((((sm * 31) + (Int32.toInt64 (f0 j))) * 31) + (Int32.toInt64 (f1 j))) * 31) + (Int32.toInt64 (f3 j))) * 31) + (Int32.toInt64 (g9 j))) * 31) + (Int32.toInt64 (g10 j))) * 31) + (Int32.toInt64 (nI (mo f0 16 j)))) * 31) + (Int32.toInt64 (nI (ao n f0 j)))) * 31) + (Int32.toInt64 (g11 j))) * 31) + (Int32.toInt64 (nI (agA f0 f1 f3 f5 g11 j n)))) * 31) + (Int32.toInt64 (zb (agD f0 f1 f2 f3 f5 g11 j n))))), (12, .int (zb (agD f0 f1 f2 f3 f5 g11 j n))), (11, .int 9), (10, .int 10), (9, .ref qi), (8, .ref qi), (0, .ref (h 0)), (7, .int (nI j))] (by decide) rfl ?_
            refine zv_iinc (v := 10) C dX2_digest_297 300 rfl [(11, .int 10), (5, .long ((((((((((((((((((((sm * 31) + (Int32.toInt64 (f0 j))) * 31) + (Int32.toInt64 (f1 j))) * 31) + (Int32.toInt64 (f3 j))) * 31) + (Int32.toInt64 (g9 j))) * 31) + (Int32.toInt64 (g10 j))) * 31) + (Int32.toInt64 (nI (mo f0 16 j)))) * 31) + (Int32.toInt64 (nI (ao n f0 j)))) * 31) + (Int32.toInt64 (g11 j))) * 31) + (Int32.toInt64 (nI (agA f0 f1 f3 f5 g11 j n)))) * 31) + (Int32.toInt64 (zb (agD f0 f1 f2 f3 f5 g11 j n))))), (12, .int (zb (agD f0 f1 f2 f3 f5 g11 j n))), (10, .int 10), (9, .ref qi), (8, .ref qi), (0, .ref (h 0)), (7, .int (nI j))] 2 rfl (by decide) (by decide) rfl ?_
            refine zv_goto C dX2_digest_300 271 (by decide) ?_
            refine zv_iload C dX2_digest_271 273 rfl 0 rfl ?_
            refine zv_iload C dX2_digest_273 275 rfl 3 rfl ?_
            refine zv_icmp_ge C dX2_digest_275 278 303 rfl (by decide) (fun _ => ?_) (fun q => absurd (by decide) q)
            refine zv_perm [0, 1, 2, 3, 4, 5, 6, 7, 8, 9, 10, 11, 12, 13, 14] (ws' := (cM cI cZ h 0 (nI n) r y (nI b) f0 f1 f2 f3 f4 f5 f6 f7 g8 g9 g10 g11 g12 f13)) (by decide) rfl ?_
            refine zv_iinc (v := (nI (j + 1))) C dX2_digest_303 306 rfl [(7, .int (nI (j + 1))), (11, .int 10), (5, .long ((((((((((((((((((((sm * 31) + (Int32.toInt64 (f0 j))) * 31) + (Int32.toInt64 (f1 j))) * 31) + (Int32.toInt64 (f3 j))) * 31) + (Int32.toInt64 (g9 j))) * 31) + (Int32.toInt64 (g10 j))) * 31) + (Int32.toInt64 (nI (mo f0 16 j)))) * 31) + (Int32.toInt64 (nI (ao n f0 j)))) * 31) + (Int32.toInt64 (g11 j))) * 31) + (Int32.toInt64 (nI (agA f0 f1 f3 f5 g11 j n)))) * 31) + (Int32.toInt64 (zb (agD f0 f1 f2 f3 f5 g11 j n))))), (12, .int (zb (agD f0 f1 f2 f3 f5 g11 j n))), (10, .int 10), (9, .ref qi), (8, .ref qi), (0, .ref (h 0))] 7 rfl (nI_1 j) (by decide) rfl ?_
            refine zv_goto C dX2_digest_306 128 (by decide) ?_
            refine zv_go rfl rfl rfl (kc' := 1 + (j + 1)) (by omega) (ns' := 8 + 10 * (j + 1)) (by omega) ?_
            refine zv_sub [7, 2, 0] (lv' := [(0, .ref (h 0)), (5, .long ((((((((((((((((((((sm * 31) + (Int32.toInt64 (f0 j))) * 31) + (Int32.toInt64 (f1 j))) * 31) + (Int32.toInt64 (f3 j))) * 31) + (Int32.toInt64 (g9 j))) * 31) + (Int32.toInt64 (g10 j))) * 31) + (Int32.toInt64 (nI (mo f0 16 j)))) * 31) + (Int32.toInt64 (nI (ao n f0 j)))) * 31) + (Int32.toInt64 (g11 j))) * 31) + (Int32.toInt64 (nI (agA f0 f1 f3 f5 g11 j n)))) * 31) + (Int32.toInt64 (zb (agD f0 f1 f2 f3 f5 g11 j n))))), (7, .int (nI (j + 1)))]) rfl ?_
            exact ih_L128 (j + 1) ((((((((((((((((((((sm * 31) + (Int32.toInt64 (f0 j))) * 31) + (Int32.toInt64 (f1 j))) * 31) + (Int32.toInt64 (f3 j))) * 31) + (Int32.toInt64 (g9 j))) * 31) + (Int32.toInt64 (g10 j))) * 31) + (Int32.toInt64 (nI (mo f0 16 j)))) * 31) + (Int32.toInt64 (nI (ao n f0 j)))) * 31) + (Int32.toInt64 (g11 j))) * 31) + (Int32.toInt64 (nI (agA f0 f1 f3 f5 g11 j n)))) * 31) + (Int32.toInt64 (zb (agD f0 f1 f2 f3 f5 g11 j n)))) g8 g9 g10 g11 g12 (by omega) hM (by rw [hm]; rfl) (by omega)
  refine zv_go (pc' := 0) rfl (lv' := [(0, .ref (h 0))]) rfl rfl rfl rfl ?_
  refine zv_aload_n C dX2_digest_0 1 rfl 0 rfl ?_
  refine zv_iconst (v := 0) C dX2_digest_1 2 rfl (by decide) ?_
  refine zv_put (ci := 2) C inX2 rfl tyX2_ok nmX2 dX2_digest_2 5 rfl 0 0 rfl (by decide) lk53 rfl rfl rfl (Nat.le_of_ble_eq_true rfl) (cM cI cZ h 0 (nI n) r y (nI b) f0 f1 f2 f3 f4 f5 f6 f7 f8 f9 f10 f11 f12 f13) rfl ?_
  refine zv_aload_n C dX2_digest_5 6 rfl 0 rfl ?_
  refine zv_callV (rest := []) (wr := []) C (k_X2_weightiest l D cI cZ h 0 n r y b f0 f1 f2 f3 f4 f5 f6 f7 f8 f9 f10 f11 f12 f13 s d (by omega) (by assumption)) (cwV 0 C.1.2.2.2.2 gX2_digest_X2_weightiest rfl rfl rfl (by decide +kernel) ⟨Nat.le_of_ble_eq_true rfl, Nat.le_of_ble_eq_true rfl⟩) dX2_digest_6 9 rfl (ci := 2) 0 rfl rfl rfl rfl (Nat.le_of_ble_eq_true rfl) ⟨Nat.le_of_ble_eq_true rfl, Nat.le_of_ble_eq_true rfl⟩ [0, 1] rfl [0, 1, 2, 3, 4, 5, 6, 7, 8, 9, 10, 11, 12, 13, 14] rfl (by decide) [] rfl (by decide) (by decide +kernel) (fun v w hv => ?_)
  obtain ⟨u8_108, u9_108, u10_108, u11_108, u12_108, rfl, rfl⟩ := hv
  refine zv_go rfl rfl (st' := [.int ((wst (sprg f1 f3) (dry n f0 f1 f2 f3 f5 r) n).1)]) rfl (kc' := 0) rfl (ns' := 0) rfl ?_
  refine zv_wd (ws' := (cM cI cZ h 0 (nI n) r y (nI b) f0 f1 f2 f3 f4 f5 f6 f7 u8_108 u9_108 u10_108 u11_108 u12_108 f13)) rfl ?_
  refine zv_istore_n C dX2_digest_9 10 rfl [(1, .int ((wst (sprg f1 f3) (dry n f0 f1 f2 f3 f5 r) n).1)), (0, .ref (h 0))] (by decide) rfl ?_
  refine zv_aload_n C dX2_digest_10 11 rfl 1 rfl ?_
  refine zv_callV (rest := []) (wr := []) C (k_X2_byRule l D cI cZ h 0 n r y b f0 f1 f2 f3 f4 f5 f6 f7 u8_108 u9_108 u10_108 u11_108 u12_108 f13 s d (by omega) (by assumption)) (cwV 0 C.1.2.2.2.2 gX2_digest_X2_byRule rfl rfl rfl (by decide +kernel) ⟨Nat.le_of_ble_eq_true rfl, Nat.le_of_ble_eq_true rfl⟩) dX2_digest_11 14 rfl (ci := 2) 0 rfl rfl rfl rfl (Nat.le_of_ble_eq_true rfl) ⟨Nat.le_of_ble_eq_true rfl, Nat.le_of_ble_eq_true rfl⟩ [0, 1] rfl [0, 1, 2, 3, 4, 5, 6, 7, 8, 9, 10, 11, 12, 13, 14] rfl (by decide) [] rfl (by decide) (by decide +kernel) (fun v w hv => ?_)
  obtain ⟨u8_109, u9_109, u10_109, u11_109, u12_109, rfl, rfl⟩ := hv
  refine zv_go rfl rfl (st' := [.int (nI (cne (nmS n f0 f1 f2 f3 f5 (1 - r)) (nmS n f0 f1 f2 f3 f5 r) n))]) rfl (kc' := 0) rfl (ns' := 0) rfl ?_
  refine zv_wd (ws' := (cM cI cZ h 0 (nI n) r y (nI b) f0 f1 f2 f3 f4 f5 f6 f7 u8_109 u9_109 u10_109 u11_109 u12_109 f13)) rfl ?_
  refine zv_istore_n C dX2_digest_14 15 rfl [(2, .int (nI (cne (nmS n f0 f1 f2 f3 f5 (1 - r)) (nmS n f0 f1 f2 f3 f5 r) n))), (1, .int ((wst (sprg f1 f3) (dry n f0 f1 f2 f3 f5 r) n).1)), (0, .ref (h 0))] (by decide) rfl ?_
  refine zv_aload_n C dX2_digest_15 16 rfl 2 rfl ?_
  refine zv_callV (rest := []) (wr := []) C (k_X2_allInsults l D cI cZ h 0 n r y b f0 f1 f2 f3 f4 f5 f6 f7 u8_109 u9_109 u10_109 u11_109 u12_109 f13 s d (by omega) (by assumption) (by omega) (by assumption)) (cwV 0 C.1.2.2.2.2 gX2_digest_X2_allInsults rfl rfl rfl (by decide +kernel) ⟨Nat.le_of_ble_eq_true rfl, Nat.le_of_ble_eq_true rfl⟩) dX2_digest_16 19 rfl (ci := 2) 0 rfl rfl rfl rfl (Nat.le_of_ble_eq_true rfl) ⟨Nat.le_of_ble_eq_true rfl, Nat.le_of_ble_eq_true rfl⟩ [0, 1] rfl [0, 1, 2, 3, 4, 5, 6, 7, 8, 9, 10, 11, 12, 13, 14] rfl (by decide) [] rfl (by decide) (by decide +kernel) (fun v w hv => ?_)
  obtain ⟨u8_110, u9_110, u10_110, u11_110, rfl, rfl, huM110⟩ := hv
  refine zv_go rfl rfl (st' := [.int (nI (inN f6 f7 (nmS n f0 f1 f2 f3 f5 r) b))]) rfl (kc' := 0) rfl (ns' := 0) rfl ?_
  refine zv_wd (ws' := (cM cI cZ h 0 (nI n) r y (nI b) f0 f1 f2 f3 f4 f5 f6 f7 u8_110 u9_110 u10_110 u11_110 u12_109 f13)) rfl ?_
  refine zv_istore_n C dX2_digest_19 20 rfl [(3, .int (nI (inN f6 f7 (nmS n f0 f1 f2 f3 f5 r) b))), (2, .int (nI (cne (nmS n f0 f1 f2 f3 f5 (1 - r)) (nmS n f0 f1 f2 f3 f5 r) n))), (1, .int ((wst (sprg f1 f3) (dry n f0 f1 f2 f3 f5 r) n).1)), (0, .ref (h 0))] (by decide) rfl ?_
  refine zv_bipush (v := 8) C dX2_digest_20 22 rfl (by decide) ?_
  refine zv_newa (atype := .int) C arI rfl dX2_digest_22 24 rfl (N' := 8) (a0 := (8, .inl z0)) (fun cA => rfl) 0 rfl ra_int (by decide) (by decide) (by decide) (by decide) (by decide) (fun qa => ?_)
  refine zv_go rfl rfl rfl (kc' := 1) rfl (ns' := 8) rfl ?_
  refine zv_wd (ws' := ((cM cI cZ h 0 (nI n) r y (nI b) f0 f1 f2 f3 f4 f5 f6 f7 u8_110 u9_110 u10_110 u11_110 u12_109 f13) ++ [(qa, .inl (cI, 8, .inl z0))])) rfl ?_
  refine zv_dup C dX2_digest_24 25 rfl rfl ?_
  refine zv_iconst (v := 0) C dX2_digest_25 26 rfl (by decide) ?_
  refine zv_aload_n C dX2_digest_26 27 rfl 3 rfl ?_
  refine zv_get (ci := 2) C inX2 rfl dX2_digest_27 30 rfl 0 3 rfl (by decide) lk132 rfl ?_
  refine zv_iast (x' := y) C dX2_digest_30 31 rfl 15 0 0 rfl rfl (by decide) (by omega) (by decide) rfl ((cM cI cZ h 0 (nI n) r y (nI b) f0 f1 f2 f3 f4 f5 f6 f7 u8_110 u9_110 u10_110 u11_110 u12_109 f13) ++ [(qa, .inl (cI, 8, .inl (upd z0 0 y)))]) rfl ?_
  refine zv_dup C dX2_digest_31 32 rfl rfl ?_
  refine zv_iconst (v := 1) C dX2_digest_32 33 rfl (by decide) ?_
  refine zv_aload_n C dX2_digest_33 34 rfl 3 rfl ?_
  refine zv_get (ci := 2) C inX2 rfl dX2_digest_34 37 rfl 0 1 rfl (by decide) lk57 rfl ?_
  refine zv_iast (x' := (nI n)) C dX2_digest_37 38 rfl 15 0 1 rfl rfl (by decide) (by omega) (by decide) rfl ((cM cI cZ h 0 (nI n) r y (nI b) f0 f1 f2 f3 f4 f5 f6 f7 u8_110 u9_110 u10_110 u11_110 u12_109 f13) ++ [(qa, .inl (cI, 8, .inl (upd (upd z0 0 y) 1 (nI n))))]) rfl ?_
  refine zv_dup C dX2_digest_38 39 rfl rfl ?_
  refine zv_iconst (v := 2) C dX2_digest_39 40 rfl (by decide) ?_
  refine zv_aload_n C dX2_digest_40 41 rfl 3 rfl ?_
  refine zv_get (ci := 2) C inX2 rfl dX2_digest_41 44 rfl 0 10 rfl (by decide) lk64 rfl ?_
  refine zv_iast (x' := (nI b)) C dX2_digest_44 45 rfl 15 0 2 rfl rfl (by decide) (by omega) (by decide) rfl ((cM cI cZ h 0 (nI n) r y (nI b) f0 f1 f2 f3 f4 f5 f6 f7 u8_110 u9_110 u10_110 u11_110 u12_109 f13) ++ [(qa, .inl (cI, 8, .inl (upd (upd (upd z0 0 y) 1 (nI n)) 2 (nI b))))]) rfl ?_
  refine zv_dup C dX2_digest_45 46 rfl rfl ?_
  refine zv_iconst (v := 3) C dX2_digest_46 47 rfl (by decide) ?_
  refine zv_iload_n C dX2_digest_47 48 rfl 0 rfl ?_
  refine zv_iast (x' := (nI (inN f6 f7 (nmS n f0 f1 f2 f3 f5 r) b))) C dX2_digest_48 49 rfl 15 0 3 rfl rfl (by decide) (by omega) (by decide) rfl ((cM cI cZ h 0 (nI n) r y (nI b) f0 f1 f2 f3 f4 f5 f6 f7 u8_110 u9_110 u10_110 u11_110 u12_109 f13) ++ [(qa, .inl (cI, 8, .inl (upd (upd (upd (upd z0 0 y) 1 (nI n)) 2 (nI b)) 3 (nI (inN f6 f7 (nmS n f0 f1 f2 f3 f5 r) b)))))]) rfl ?_
  refine zv_dup C dX2_digest_49 50 rfl rfl ?_
  refine zv_iconst (v := 4) C dX2_digest_50 51 rfl (by decide) ?_
  refine zv_aload_n C dX2_digest_51 52 rfl 3 rfl ?_
  refine zv_callVR (rest := [.int 4, .ref qa, .ref qa]) C (k_X2_greatest l D cI cZ h 0 n r y b f0 f1 f2 f3 f4 f5 f6 f7 u8_110 u9_110 u10_110 u11_110 u12_109 f13 (by omega)) (cwV 0 C.1.2.2.2.2 gX2_digest_X2_greatest rfl rfl rfl (by decide +kernel) ⟨Nat.le_of_ble_eq_true rfl, Nat.le_of_ble_eq_true rfl⟩) dX2_digest_52 55 rfl (ci := 2) 0 rfl rfl rfl rfl (Nat.le_of_ble_eq_true rfl) ⟨Nat.le_of_ble_eq_true rfl, Nat.le_of_ble_eq_true rfl⟩ [0, 1] rfl [0, 1, 2, 3, 4, 5, 6, 7, 8, 9, 10, 11, 12, 13, 14] rfl (by decide) (fun v hv => ?_)
  subst hv
  refine zv_go rfl rfl (st' := [.int (gst u11_110 n 10), .int 4, .ref qa, .ref qa]) rfl (kc' := 1) rfl (ns' := 8) rfl ?_
  refine zv_iast (x' := (gst u11_110 n 10)) C dX2_digest_55 56 rfl 15 0 4 rfl rfl (by decide) (by omega) (by decide) rfl ((cM cI cZ h 0 (nI n) r y (nI b) f0 f1 f2 f3 f4 f5 f6 f7 u8_110 u9_110 u10_110 u11_110 u12_109 f13) ++ [(qa, .inl (cI, 8, .inl (upd (upd (upd (upd (upd z0 0 y) 1 (nI n)) 2 (nI b)) 3 (nI (inN f6 f7 (nmS n f0 f1 f2 f3 f5 r) b))) 4 (gst u11_110 n 10))))]) rfl ?_
  refine zv_dup C dX2_digest_56 57 rfl rfl ?_
  refine zv_iconst (v := 5) C dX2_digest_57 58 rfl (by decide) ?_
  refine zv_aload_n C dX2_digest_58 59 rfl 3 rfl ?_
  refine zv_iconst (v := (-1 : Int32)) C dX2_digest_59 60 rfl (by decide) ?_
  refine zv_callVR (rest := [.int 5, .ref qa, .ref qa]) C (k_X2_many l D cI cZ h 0 n r y b f0 f1 f2 f3 f4 f5 f6 f7 u8_110 u9_110 u10_110 u11_110 u12_109 f13 (-1 : Int32) (by omega)) (cwV 1 C.1.2.2.2.2 gX2_digest_X2_many rfl rfl rfl (by decide +kernel) ⟨Nat.le_of_ble_eq_true rfl, Nat.le_of_ble_eq_true rfl⟩) dX2_digest_60 63 rfl (ci := 2) 0 rfl rfl rfl rfl (Nat.le_of_ble_eq_true rfl) ⟨Nat.le_of_ble_eq_true rfl, Nat.le_of_ble_eq_true rfl⟩ [0, 1] rfl [0, 1, 2, 3, 4, 5, 6, 7, 8, 9, 10, 11, 12, 13, 14] rfl (by decide) (fun v hv => ?_)
  subst hv
  refine zv_go rfl rfl (st' := [.int (nI (cnt u11_110 (-1 : Int32) n)), .int 5, .ref qa, .ref qa]) rfl (kc' := 1) rfl (ns' := 8) rfl ?_
  refine zv_iast (x' := (nI (cnt u11_110 (-1 : Int32) n))) C dX2_digest_63 64 rfl 15 0 5 rfl rfl (by decide) (by omega) (by decide) rfl ((cM cI cZ h 0 (nI n) r y (nI b) f0 f1 f2 f3 f4 f5 f6 f7 u8_110 u9_110 u10_110 u11_110 u12_109 f13) ++ [(qa, .inl (cI, 8, .inl (upd (upd (upd (upd (upd (upd z0 0 y) 1 (nI n)) 2 (nI b)) 3 (nI (inN f6 f7 (nmS n f0 f1 f2 f3 f5 r) b))) 4 (gst u11_110 n 10)) 5 (nI (cnt u11_110 (-1 : Int32) n)))))]) rfl ?_
  refine zv_dup C dX2_digest_64 65 rfl rfl ?_
  refine zv_bipush (v := 6) C dX2_digest_65 67 rfl (by decide) ?_
  refine zv_iload_n C dX2_digest_67 68 rfl 2 rfl ?_
  refine zv_iast (x' := ((wst (sprg f1 f3) (dry n f0 f1 f2 f3 f5 r) n).1)) C dX2_digest_68 69 rfl 15 0 6 rfl rfl (by decide) (by omega) (by decide) rfl ((cM cI cZ h 0 (nI n) r y (nI b) f0 f1 f2 f3 f4 f5 f6 f7 u8_110 u9_110 u10_110 u11_110 u12_109 f13) ++ [(qa, .inl (cI, 8, .inl (upd (upd (upd (upd (upd (upd (upd z0 0 y) 1 (nI n)) 2 (nI b)) 3 (nI (inN f6 f7 (nmS n f0 f1 f2 f3 f5 r) b))) 4 (gst u11_110 n 10)) 5 (nI (cnt u11_110 (-1 : Int32) n))) 6 ((wst (sprg f1 f3) (dry n f0 f1 f2 f3 f5 r) n).1))))]) rfl ?_
  refine zv_dup C dX2_digest_69 70 rfl rfl ?_
  refine zv_bipush (v := 7) C dX2_digest_70 72 rfl (by decide) ?_
  refine zv_iload_n C dX2_digest_72 73 rfl 1 rfl ?_
  refine zv_iast (x' := (nI (cne (nmS n f0 f1 f2 f3 f5 (1 - r)) (nmS n f0 f1 f2 f3 f5 r) n))) C dX2_digest_73 74 rfl 15 0 7 rfl rfl (by decide) (by omega) (by decide) rfl ((cM cI cZ h 0 (nI n) r y (nI b) f0 f1 f2 f3 f4 f5 f6 f7 u8_110 u9_110 u10_110 u11_110 u12_109 f13) ++ [(qa, .inl (cI, 8, .inl (upd (upd (upd (upd (upd (upd (upd (upd z0 0 y) 1 (nI n)) 2 (nI b)) 3 (nI (inN f6 f7 (nmS n f0 f1 f2 f3 f5 r) b))) 4 (gst u11_110 n 10)) 5 (nI (cnt u11_110 (-1 : Int32) n))) 6 ((wst (sprg f1 f3) (dry n f0 f1 f2 f3 f5 r) n).1)) 7 (nI (cne (nmS n f0 f1 f2 f3 f5 (1 - r)) (nmS n f0 f1 f2 f3 f5 r) n)))))]) rfl ?_
  refine zv_astore C dX2_digest_74 76 rfl [(4, .ref qa), (3, .int (nI (inN f6 f7 (nmS n f0 f1 f2 f3 f5 r) b))), (2, .int (nI (cne (nmS n f0 f1 f2 f3 f5 (1 - r)) (nmS n f0 f1 f2 f3 f5 r) n))), (1, .int ((wst (sprg f1 f3) (dry n f0 f1 f2 f3 f5 r) n).1)), (0, .ref (h 0))] (by decide) rfl ?_
  refine zv_ldc2 C dX2_digest_76 79 rfl (v := 2027) (by decide +kernel) ?_
  refine zv_lstore C dX2_digest_79 81 rfl [(5, .long 2027), (4, .ref qa), (3, .int (nI (inN f6 f7 (nmS n f0 f1 f2 f3 f5 r) b))), (2, .int (nI (cne (nmS n f0 f1 f2 f3 f5 (1 - r)) (nmS n f0 f1 f2 f3 f5 r) n))), (1, .int ((wst (sprg f1 f3) (dry n f0 f1 f2 f3 f5 r) n).1)), (0, .ref (h 0))] (by decide) rfl ?_
  refine zv_aload C dX2_digest_81 83 rfl 1 rfl ?_
  refine zv_astore C dX2_digest_83 85 rfl [(7, .ref qa), (5, .long 2027), (4, .ref qa), (3, .int (nI (inN f6 f7 (nmS n f0 f1 f2 f3 f5 r) b))), (2, .int (nI (cne (nmS n f0 f1 f2 f3 f5 (1 - r)) (nmS n f0 f1 f2 f3 f5 r) n))), (1, .int ((wst (sprg f1 f3) (dry n f0 f1 f2 f3 f5 r) n).1)), (0, .ref (h 0))] (by decide) rfl ?_
  refine zv_aload C dX2_digest_85 87 rfl 0 rfl ?_
  refine zv_alen (v := 8) C dX2_digest_87 88 rfl 15 0 rfl rfl rfl ?_
  refine zv_istore C dX2_digest_88 90 rfl [(8, .int 8), (7, .ref qa), (5, .long 2027), (4, .ref qa), (3, .int (nI (inN f6 f7 (nmS n f0 f1 f2 f3 f5 r) b))), (2, .int (nI (cne (nmS n f0 f1 f2 f3 f5 (1 - r)) (nmS n f0 f1 f2 f3 f5 r) n))), (1, .int ((wst (sprg f1 f3) (dry n f0 f1 f2 f3 f5 r) n).1)), (0, .ref (h 0))] (by decide) rfl ?_
  refine zv_iconst (v := 0) C dX2_digest_90 91 rfl (by decide) ?_
  refine zv_istore C dX2_digest_91 93 rfl [(9, .int 0), (8, .int 8), (7, .ref qa), (5, .long 2027), (4, .ref qa), (3, .int (nI (inN f6 f7 (nmS n f0 f1 f2 f3 f5 r) b))), (2, .int (nI (cne (nmS n f0 f1 f2 f3 f5 (1 - r)) (nmS n f0 f1 f2 f3 f5 r) n))), (1, .int ((wst (sprg f1 f3) (dry n f0 f1 f2 f3 f5 r) n).1)), (0, .ref (h 0))] (by decide) rfl ?_
  refine zv_iload C dX2_digest_93 95 rfl 0 rfl ?_
  refine zv_iload C dX2_digest_95 97 rfl 1 rfl ?_
  refine zv_icmp_ge C dX2_digest_97 100 125 rfl (by decide) (fun q => absurd q (by decide)) (fun _ => ?_)
  refine zv_aload C dX2_digest_100 102 rfl 2 rfl ?_
  refine zv_iload C dX2_digest_102 104 rfl 0 rfl ?_
  refine zv_iald (v := y) C dX2_digest_104 105 rfl 15 0 0 rfl rfl (by decide) (by omega) (by decide) rfl ?_
  refine zv_istore C dX2_digest_105 107 rfl [(10, .int y), (9, .int 0), (8, .int 8), (7, .ref qa), (5, .long 2027), (4, .ref qa), (3, .int (nI (inN f6 f7 (nmS n f0 f1 f2 f3 f5 r) b))), (2, .int (nI (cne (nmS n f0 f1 f2 f3 f5 (1 - r)) (nmS n f0 f1 f2 f3 f5 r) n))), (1, .int ((wst (sprg f1 f3) (dry n f0 f1 f2 f3 f5 r) n).1)), (0, .ref (h 0))] (by decide) rfl ?_
  refine zv_lload C dX2_digest_107 109 rfl 4 rfl ?_
  refine zv_ldc2 C dX2_digest_109 112 rfl (v := 31) (by decide +kernel) ?_
  refine zv_lmul C dX2_digest_112 113 rfl ?_
  refine zv_iload C dX2_digest_113 115 rfl 0 rfl ?_
  refine zv_i2l C dX2_digest_115 116 rfl ?_
  refine zv_ladd C dX2_digest_116 117 rfl ?_
  refine zv_lstore C dX2_digest_117 119 rfl [(5, .long ((2027 * 31) + (Int32.toInt64 y))), (10, .int y), (9, .int 0), (8, .int 8), (7, .ref qa), (4, .ref qa), (3, .int (nI (inN f6 f7 (nmS n f0 f1 f2 f3 f5 r) b))), (2, .int (nI (cne (nmS n f0 f1 f2 f3 f5 (1 - r)) (nmS n f0 f1 f2 f3 f5 r) n))), (1, .int ((wst (sprg f1 f3) (dry n f0 f1 f2 f3 f5 r) n).1)), (0, .ref (h 0))] (by decide) rfl ?_
  refine zv_iinc (v := 1) C dX2_digest_119 122 rfl [(9, .int 1), (5, .long ((2027 * 31) + (Int32.toInt64 y))), (10, .int y), (8, .int 8), (7, .ref qa), (4, .ref qa), (3, .int (nI (inN f6 f7 (nmS n f0 f1 f2 f3 f5 r) b))), (2, .int (nI (cne (nmS n f0 f1 f2 f3 f5 (1 - r)) (nmS n f0 f1 f2 f3 f5 r) n))), (1, .int ((wst (sprg f1 f3) (dry n f0 f1 f2 f3 f5 r) n).1)), (0, .ref (h 0))] 2 rfl (by decide) (by decide) rfl ?_
  refine zv_goto C dX2_digest_122 93 (by decide) ?_
  refine zv_iload C dX2_digest_93 95 rfl 0 rfl ?_
  refine zv_iload C dX2_digest_95 97 rfl 3 rfl ?_
  refine zv_icmp_ge C dX2_digest_97 100 125 rfl (by decide) (fun q => absurd q (by decide)) (fun _ => ?_)
  refine zv_aload C dX2_digest_100 102 rfl 4 rfl ?_
  refine zv_iload C dX2_digest_102 104 rfl 0 rfl ?_
  refine zv_iald (v := (nI n)) C dX2_digest_104 105 rfl 15 0 1 rfl rfl (by decide) (by omega) (by decide) rfl ?_
  refine zv_istore C dX2_digest_105 107 rfl [(10, .int (nI n)), (9, .int 1), (5, .long ((2027 * 31) + (Int32.toInt64 y))), (8, .int 8), (7, .ref qa), (4, .ref qa), (3, .int (nI (inN f6 f7 (nmS n f0 f1 f2 f3 f5 r) b))), (2, .int (nI (cne (nmS n f0 f1 f2 f3 f5 (1 - r)) (nmS n f0 f1 f2 f3 f5 r) n))), (1, .int ((wst (sprg f1 f3) (dry n f0 f1 f2 f3 f5 r) n).1)), (0, .ref (h 0))] (by decide) rfl ?_
  refine zv_lload C dX2_digest_107 109 rfl 2 rfl ?_
  refine zv_ldc2 C dX2_digest_109 112 rfl (v := 31) (by decide +kernel) ?_
  refine zv_lmul C dX2_digest_112 113 rfl ?_
  refine zv_iload C dX2_digest_113 115 rfl 0 rfl ?_
  refine zv_i2l C dX2_digest_115 116 rfl ?_
  refine zv_ladd C dX2_digest_116 117 rfl ?_
  refine zv_lstore C dX2_digest_117 119 rfl [(5, .long ((((2027 * 31) + (Int32.toInt64 y)) * 31) + (Int32.toInt64 (nI n)))), (10, .int (nI n)), (9, .int 1), (8, .int 8), (7, .ref qa), (4, .ref qa), (3, .int (nI (inN f6 f7 (nmS n f0 f1 f2 f3 f5 r) b))), (2, .int (nI (cne (nmS n f0 f1 f2 f3 f5 (1 - r)) (nmS n f0 f1 f2 f3 f5 r) n))), (1, .int ((wst (sprg f1 f3) (dry n f0 f1 f2 f3 f5 r) n).1)), (0, .ref (h 0))] (by decide) rfl ?_
  refine zv_iinc (v := 2) C dX2_digest_119 122 rfl [(9, .int 2), (5, .long ((((2027 * 31) + (Int32.toInt64 y)) * 31) + (Int32.toInt64 (nI n)))), (10, .int (nI n)), (8, .int 8), (7, .ref qa), (4, .ref qa), (3, .int (nI (inN f6 f7 (nmS n f0 f1 f2 f3 f5 r) b))), (2, .int (nI (cne (nmS n f0 f1 f2 f3 f5 (1 - r)) (nmS n f0 f1 f2 f3 f5 r) n))), (1, .int ((wst (sprg f1 f3) (dry n f0 f1 f2 f3 f5 r) n).1)), (0, .ref (h 0))] 2 rfl (by decide) (by decide) rfl ?_
  refine zv_goto C dX2_digest_122 93 (by decide) ?_
  refine zv_iload C dX2_digest_93 95 rfl 0 rfl ?_
  refine zv_iload C dX2_digest_95 97 rfl 3 rfl ?_
  refine zv_icmp_ge C dX2_digest_97 100 125 rfl (by decide) (fun q => absurd q (by decide)) (fun _ => ?_)
  refine zv_aload C dX2_digest_100 102 rfl 4 rfl ?_
  refine zv_iload C dX2_digest_102 104 rfl 0 rfl ?_
  refine zv_iald (v := (nI b)) C dX2_digest_104 105 rfl 15 0 2 rfl rfl (by decide) (by omega) (by decide) rfl ?_
  refine zv_istore C dX2_digest_105 107 rfl [(10, .int (nI b)), (9, .int 2), (5, .long ((((2027 * 31) + (Int32.toInt64 y)) * 31) + (Int32.toInt64 (nI n)))), (8, .int 8), (7, .ref qa), (4, .ref qa), (3, .int (nI (inN f6 f7 (nmS n f0 f1 f2 f3 f5 r) b))), (2, .int (nI (cne (nmS n f0 f1 f2 f3 f5 (1 - r)) (nmS n f0 f1 f2 f3 f5 r) n))), (1, .int ((wst (sprg f1 f3) (dry n f0 f1 f2 f3 f5 r) n).1)), (0, .ref (h 0))] (by decide) rfl ?_
  refine zv_lload C dX2_digest_107 109 rfl 2 rfl ?_
  refine zv_ldc2 C dX2_digest_109 112 rfl (v := 31) (by decide +kernel) ?_
  refine zv_lmul C dX2_digest_112 113 rfl ?_
  refine zv_iload C dX2_digest_113 115 rfl 0 rfl ?_
  refine zv_i2l C dX2_digest_115 116 rfl ?_
  refine zv_ladd C dX2_digest_116 117 rfl ?_
  refine zv_lstore C dX2_digest_117 119 rfl [(5, .long ((((((2027 * 31) + (Int32.toInt64 y)) * 31) + (Int32.toInt64 (nI n))) * 31) + (Int32.toInt64 (nI b)))), (10, .int (nI b)), (9, .int 2), (8, .int 8), (7, .ref qa), (4, .ref qa), (3, .int (nI (inN f6 f7 (nmS n f0 f1 f2 f3 f5 r) b))), (2, .int (nI (cne (nmS n f0 f1 f2 f3 f5 (1 - r)) (nmS n f0 f1 f2 f3 f5 r) n))), (1, .int ((wst (sprg f1 f3) (dry n f0 f1 f2 f3 f5 r) n).1)), (0, .ref (h 0))] (by decide) rfl ?_
  refine zv_iinc (v := 3) C dX2_digest_119 122 rfl [(9, .int 3), (5, .long ((((((2027 * 31) + (Int32.toInt64 y)) * 31) + (Int32.toInt64 (nI n))) * 31) + (Int32.toInt64 (nI b)))), (10, .int (nI b)), (8, .int 8), (7, .ref qa), (4, .ref qa), (3, .int (nI (inN f6 f7 (nmS n f0 f1 f2 f3 f5 r) b))), (2, .int (nI (cne (nmS n f0 f1 f2 f3 f5 (1 - r)) (nmS n f0 f1 f2 f3 f5 r) n))), (1, .int ((wst (sprg f1 f3) (dry n f0 f1 f2 f3 f5 r) n).1)), (0, .ref (h 0))] 2 rfl (by decide) (by decide) rfl ?_
  refine zv_goto C dX2_digest_122 93 (by decide) ?_
  refine zv_iload C dX2_digest_93 95 rfl 0 rfl ?_
  refine zv_iload C dX2_digest_95 97 rfl 3 rfl ?_
  refine zv_icmp_ge C dX2_digest_97 100 125 rfl (by decide) (fun q => absurd q (by decide)) (fun _ => ?_)
  refine zv_aload C dX2_digest_100 102 rfl 4 rfl ?_
  refine zv_iload C dX2_digest_102 104 rfl 0 rfl ?_
  refine zv_iald (v := (nI (inN f6 f7 (nmS n f0 f1 f2 f3 f5 r) b))) C dX2_digest_104 105 rfl 15 0 3 rfl rfl (by decide) (by omega) (by decide) rfl ?_
  refine zv_istore C dX2_digest_105 107 rfl [(10, .int (nI (inN f6 f7 (nmS n f0 f1 f2 f3 f5 r) b))), (9, .int 3), (5, .long ((((((2027 * 31) + (Int32.toInt64 y)) * 31) + (Int32.toInt64 (nI n))) * 31) + (Int32.toInt64 (nI b)))), (8, .int 8), (7, .ref qa), (4, .ref qa), (3, .int (nI (inN f6 f7 (nmS n f0 f1 f2 f3 f5 r) b))), (2, .int (nI (cne (nmS n f0 f1 f2 f3 f5 (1 - r)) (nmS n f0 f1 f2 f3 f5 r) n))), (1, .int ((wst (sprg f1 f3) (dry n f0 f1 f2 f3 f5 r) n).1)), (0, .ref (h 0))] (by decide) rfl ?_
  refine zv_lload C dX2_digest_107 109 rfl 2 rfl ?_
  refine zv_ldc2 C dX2_digest_109 112 rfl (v := 31) (by decide +kernel) ?_
  refine zv_lmul C dX2_digest_112 113 rfl ?_
  refine zv_iload C dX2_digest_113 115 rfl 0 rfl ?_
  refine zv_i2l C dX2_digest_115 116 rfl ?_
  refine zv_ladd C dX2_digest_116 117 rfl ?_
  refine zv_lstore C dX2_digest_117 119 rfl [(5, .long ((((((((2027 * 31) + (Int32.toInt64 y)) * 31) + (Int32.toInt64 (nI n))) * 31) + (Int32.toInt64 (nI b))) * 31) + (Int32.toInt64 (nI (inN f6 f7 (nmS n f0 f1 f2 f3 f5 r) b))))), (10, .int (nI (inN f6 f7 (nmS n f0 f1 f2 f3 f5 r) b))), (9, .int 3), (8, .int 8), (7, .ref qa), (4, .ref qa), (3, .int (nI (inN f6 f7 (nmS n f0 f1 f2 f3 f5 r) b))), (2, .int (nI (cne (nmS n f0 f1 f2 f3 f5 (1 - r)) (nmS n f0 f1 f2 f3 f5 r) n))), (1, .int ((wst (sprg f1 f3) (dry n f0 f1 f2 f3 f5 r) n).1)), (0, .ref (h 0))] (by decide) rfl ?_
  refine zv_iinc (v := 4) C dX2_digest_119 122 rfl [(9, .int 4), (5, .long ((((((((2027 * 31) + (Int32.toInt64 y)) * 31) + (Int32.toInt64 (nI n))) * 31) + (Int32.toInt64 (nI b))) * 31) + (Int32.toInt64 (nI (inN f6 f7 (nmS n f0 f1 f2 f3 f5 r) b))))), (10, .int (nI (inN f6 f7 (nmS n f0 f1 f2 f3 f5 r) b))), (8, .int 8), (7, .ref qa), (4, .ref qa), (3, .int (nI (inN f6 f7 (nmS n f0 f1 f2 f3 f5 r) b))), (2, .int (nI (cne (nmS n f0 f1 f2 f3 f5 (1 - r)) (nmS n f0 f1 f2 f3 f5 r) n))), (1, .int ((wst (sprg f1 f3) (dry n f0 f1 f2 f3 f5 r) n).1)), (0, .ref (h 0))] 2 rfl (by decide) (by decide) rfl ?_
  refine zv_goto C dX2_digest_122 93 (by decide) ?_
  refine zv_iload C dX2_digest_93 95 rfl 0 rfl ?_
  refine zv_iload C dX2_digest_95 97 rfl 3 rfl ?_
  refine zv_icmp_ge C dX2_digest_97 100 125 rfl (by decide) (fun q => absurd q (by decide)) (fun _ => ?_)
  refine zv_aload C dX2_digest_100 102 rfl 4 rfl ?_
  refine zv_iload C dX2_digest_102 104 rfl 0 rfl ?_
  refine zv_iald (v := (gst u11_110 n 10)) C dX2_digest_104 105 rfl 15 0 4 rfl rfl (by decide) (by omega) (by decide) rfl ?_
  refine zv_istore C dX2_digest_105 107 rfl [(10, .int (gst u11_110 n 10)), (9, .int 4), (5, .long ((((((((2027 * 31) + (Int32.toInt64 y)) * 31) + (Int32.toInt64 (nI n))) * 31) + (Int32.toInt64 (nI b))) * 31) + (Int32.toInt64 (nI (inN f6 f7 (nmS n f0 f1 f2 f3 f5 r) b))))), (8, .int 8), (7, .ref qa), (4, .ref qa), (3, .int (nI (inN f6 f7 (nmS n f0 f1 f2 f3 f5 r) b))), (2, .int (nI (cne (nmS n f0 f1 f2 f3 f5 (1 - r)) (nmS n f0 f1 f2 f3 f5 r) n))), (1, .int ((wst (sprg f1 f3) (dry n f0 f1 f2 f3 f5 r) n).1)), (0, .ref (h 0))] (by decide) rfl ?_
  refine zv_lload C dX2_digest_107 109 rfl 2 rfl ?_
  refine zv_ldc2 C dX2_digest_109 112 rfl (v := 31) (by decide +kernel) ?_
  refine zv_lmul C dX2_digest_112 113 rfl ?_
  refine zv_iload C dX2_digest_113 115 rfl 0 rfl ?_
  refine zv_i2l C dX2_digest_115 116 rfl ?_
  refine zv_ladd C dX2_digest_116 117 rfl ?_
  refine zv_lstore C dX2_digest_117 119 rfl [(5, .long ((((((((((2027 * 31) + (Int32.toInt64 y)) * 31) + (Int32.toInt64 (nI n))) * 31) + (Int32.toInt64 (nI b))) * 31) + (Int32.toInt64 (nI (inN f6 f7 (nmS n f0 f1 f2 f3 f5 r) b)))) * 31) + (Int32.toInt64 (gst u11_110 n 10)))), (10, .int (gst u11_110 n 10)), (9, .int 4), (8, .int 8), (7, .ref qa), (4, .ref qa), (3, .int (nI (inN f6 f7 (nmS n f0 f1 f2 f3 f5 r) b))), (2, .int (nI (cne (nmS n f0 f1 f2 f3 f5 (1 - r)) (nmS n f0 f1 f2 f3 f5 r) n))), (1, .int ((wst (sprg f1 f3) (dry n f0 f1 f2 f3 f5 r) n).1)), (0, .ref (h 0))] (by decide) rfl ?_
  refine zv_iinc (v := 5) C dX2_digest_119 122 rfl [(9, .int 5), (5, .long ((((((((((2027 * 31) + (Int32.toInt64 y)) * 31) + (Int32.toInt64 (nI n))) * 31) + (Int32.toInt64 (nI b))) * 31) + (Int32.toInt64 (nI (inN f6 f7 (nmS n f0 f1 f2 f3 f5 r) b)))) * 31) + (Int32.toInt64 (gst u11_110 n 10)))), (10, .int (gst u11_110 n 10)), (8, .int 8), (7, .ref qa), (4, .ref qa), (3, .int (nI (inN f6 f7 (nmS n f0 f1 f2 f3 f5 r) b))), (2, .int (nI (cne (nmS n f0 f1 f2 f3 f5 (1 - r)) (nmS n f0 f1 f2 f3 f5 r) n))), (1, .int ((wst (sprg f1 f3) (dry n f0 f1 f2 f3 f5 r) n).1)), (0, .ref (h 0))] 2 rfl (by decide) (by decide) rfl ?_
  refine zv_goto C dX2_digest_122 93 (by decide) ?_
  refine zv_iload C dX2_digest_93 95 rfl 0 rfl ?_
  refine zv_iload C dX2_digest_95 97 rfl 3 rfl ?_
  refine zv_icmp_ge C dX2_digest_97 100 125 rfl (by decide) (fun q => absurd q (by decide)) (fun _ => ?_)
  refine zv_aload C dX2_digest_100 102 rfl 4 rfl ?_
  refine zv_iload C dX2_digest_102 104 rfl 0 rfl ?_
  refine zv_iald (v := (nI (cnt u11_110 (-1 : Int32) n))) C dX2_digest_104 105 rfl 15 0 5 rfl rfl (by decide) (by omega) (by decide) rfl ?_
  refine zv_istore C dX2_digest_105 107 rfl [(10, .int (nI (cnt u11_110 (-1 : Int32) n))), (9, .int 5), (5, .long ((((((((((2027 * 31) + (Int32.toInt64 y)) * 31) + (Int32.toInt64 (nI n))) * 31) + (Int32.toInt64 (nI b))) * 31) + (Int32.toInt64 (nI (inN f6 f7 (nmS n f0 f1 f2 f3 f5 r) b)))) * 31) + (Int32.toInt64 (gst u11_110 n 10)))), (8, .int 8), (7, .ref qa), (4, .ref qa), (3, .int (nI (inN f6 f7 (nmS n f0 f1 f2 f3 f5 r) b))), (2, .int (nI (cne (nmS n f0 f1 f2 f3 f5 (1 - r)) (nmS n f0 f1 f2 f3 f5 r) n))), (1, .int ((wst (sprg f1 f3) (dry n f0 f1 f2 f3 f5 r) n).1)), (0, .ref (h 0))] (by decide) rfl ?_
  refine zv_lload C dX2_digest_107 109 rfl 2 rfl ?_
  refine zv_ldc2 C dX2_digest_109 112 rfl (v := 31) (by decide +kernel) ?_
  refine zv_lmul C dX2_digest_112 113 rfl ?_
  refine zv_iload C dX2_digest_113 115 rfl 0 rfl ?_
  refine zv_i2l C dX2_digest_115 116 rfl ?_
  refine zv_ladd C dX2_digest_116 117 rfl ?_
  refine zv_lstore C dX2_digest_117 119 rfl [(5, .long ((((((((((((2027 * 31) + (Int32.toInt64 y)) * 31) + (Int32.toInt64 (nI n))) * 31) + (Int32.toInt64 (nI b))) * 31) + (Int32.toInt64 (nI (inN f6 f7 (nmS n f0 f1 f2 f3 f5 r) b)))) * 31) + (Int32.toInt64 (gst u11_110 n 10))) * 31) + (Int32.toInt64 (nI (cnt u11_110 (-1 : Int32) n))))), (10, .int (nI (cnt u11_110 (-1 : Int32) n))), (9, .int 5), (8, .int 8), (7, .ref qa), (4, .ref qa), (3, .int (nI (inN f6 f7 (nmS n f0 f1 f2 f3 f5 r) b))), (2, .int (nI (cne (nmS n f0 f1 f2 f3 f5 (1 - r)) (nmS n f0 f1 f2 f3 f5 r) n))), (1, .int ((wst (sprg f1 f3) (dry n f0 f1 f2 f3 f5 r) n).1)), (0, .ref (h 0))] (by decide) rfl ?_
  refine zv_iinc (v := 6) C dX2_digest_119 122 rfl [(9, .int 6), (5, .long ((((((((((((2027 * 31) + (Int32.toInt64 y)) * 31) + (Int32.toInt64 (nI n))) * 31) + (Int32.toInt64 (nI b))) * 31) + (Int32.toInt64 (nI (inN f6 f7 (nmS n f0 f1 f2 f3 f5 r) b)))) * 31) + (Int32.toInt64 (gst u11_110 n 10))) * 31) + (Int32.toInt64 (nI (cnt u11_110 (-1 : Int32) n))))), (10, .int (nI (cnt u11_110 (-1 : Int32) n))), (8, .int 8), (7, .ref qa), (4, .ref qa), (3, .int (nI (inN f6 f7 (nmS n f0 f1 f2 f3 f5 r) b))), (2, .int (nI (cne (nmS n f0 f1 f2 f3 f5 (1 - r)) (nmS n f0 f1 f2 f3 f5 r) n))), (1, .int ((wst (sprg f1 f3) (dry n f0 f1 f2 f3 f5 r) n).1)), (0, .ref (h 0))] 2 rfl (by decide) (by decide) rfl ?_
  refine zv_goto C dX2_digest_122 93 (by decide) ?_
  refine zv_iload C dX2_digest_93 95 rfl 0 rfl ?_
  refine zv_iload C dX2_digest_95 97 rfl 3 rfl ?_
  refine zv_icmp_ge C dX2_digest_97 100 125 rfl (by decide) (fun q => absurd q (by decide)) (fun _ => ?_)
  refine zv_aload C dX2_digest_100 102 rfl 4 rfl ?_
  refine zv_iload C dX2_digest_102 104 rfl 0 rfl ?_
  refine zv_iald (v := ((wst (sprg f1 f3) (dry n f0 f1 f2 f3 f5 r) n).1)) C dX2_digest_104 105 rfl 15 0 6 rfl rfl (by decide) (by omega) (by decide) rfl ?_
  refine zv_istore C dX2_digest_105 107 rfl [(10, .int ((wst (sprg f1 f3) (dry n f0 f1 f2 f3 f5 r) n).1)), (9, .int 6), (5, .long ((((((((((((2027 * 31) + (Int32.toInt64 y)) * 31) + (Int32.toInt64 (nI n))) * 31) + (Int32.toInt64 (nI b))) * 31) + (Int32.toInt64 (nI (inN f6 f7 (nmS n f0 f1 f2 f3 f5 r) b)))) * 31) + (Int32.toInt64 (gst u11_110 n 10))) * 31) + (Int32.toInt64 (nI (cnt u11_110 (-1 : Int32) n))))), (8, .int 8), (7, .ref qa), (4, .ref qa), (3, .int (nI (inN f6 f7 (nmS n f0 f1 f2 f3 f5 r) b))), (2, .int (nI (cne (nmS n f0 f1 f2 f3 f5 (1 - r)) (nmS n f0 f1 f2 f3 f5 r) n))), (1, .int ((wst (sprg f1 f3) (dry n f0 f1 f2 f3 f5 r) n).1)), (0, .ref (h 0))] (by decide) rfl ?_
  refine zv_lload C dX2_digest_107 109 rfl 2 rfl ?_
  refine zv_ldc2 C dX2_digest_109 112 rfl (v := 31) (by decide +kernel) ?_
  refine zv_lmul C dX2_digest_112 113 rfl ?_
  refine zv_iload C dX2_digest_113 115 rfl 0 rfl ?_
  refine zv_i2l C dX2_digest_115 116 rfl ?_
  refine zv_ladd C dX2_digest_116 117 rfl ?_
  refine zv_lstore C dX2_digest_117 119 rfl [(5, .long ((((((((((((((2027 * 31) + (Int32.toInt64 y)) * 31) + (Int32.toInt64 (nI n))) * 31) + (Int32.toInt64 (nI b))) * 31) + (Int32.toInt64 (nI (inN f6 f7 (nmS n f0 f1 f2 f3 f5 r) b)))) * 31) + (Int32.toInt64 (gst u11_110 n 10))) * 31) + (Int32.toInt64 (nI (cnt u11_110 (-1 : Int32) n)))) * 31) + (Int32.toInt64 ((wst (sprg f1 f3) (dry n f0 f1 f2 f3 f5 r) n).1)))), (10, .int ((wst (sprg f1 f3) (dry n f0 f1 f2 f3 f5 r) n).1)), (9, .int 6), (8, .int 8), (7, .ref qa), (4, .ref qa), (3, .int (nI (inN f6 f7 (nmS n f0 f1 f2 f3 f5 r) b))), (2, .int (nI (cne (nmS n f0 f1 f2 f3 f5 (1 - r)) (nmS n f0 f1 f2 f3 f5 r) n))), (1, .int ((wst (sprg f1 f3) (dry n f0 f1 f2 f3 f5 r) n).1)), (0, .ref (h 0))] (by decide) rfl ?_
  refine zv_iinc (v := 7) C dX2_digest_119 122 rfl [(9, .int 7), (5, .long ((((((((((((((2027 * 31) + (Int32.toInt64 y)) * 31) + (Int32.toInt64 (nI n))) * 31) + (Int32.toInt64 (nI b))) * 31) + (Int32.toInt64 (nI (inN f6 f7 (nmS n f0 f1 f2 f3 f5 r) b)))) * 31) + (Int32.toInt64 (gst u11_110 n 10))) * 31) + (Int32.toInt64 (nI (cnt u11_110 (-1 : Int32) n)))) * 31) + (Int32.toInt64 ((wst (sprg f1 f3) (dry n f0 f1 f2 f3 f5 r) n).1)))), (10, .int ((wst (sprg f1 f3) (dry n f0 f1 f2 f3 f5 r) n).1)), (8, .int 8), (7, .ref qa), (4, .ref qa), (3, .int (nI (inN f6 f7 (nmS n f0 f1 f2 f3 f5 r) b))), (2, .int (nI (cne (nmS n f0 f1 f2 f3 f5 (1 - r)) (nmS n f0 f1 f2 f3 f5 r) n))), (1, .int ((wst (sprg f1 f3) (dry n f0 f1 f2 f3 f5 r) n).1)), (0, .ref (h 0))] 2 rfl (by decide) (by decide) rfl ?_
  refine zv_goto C dX2_digest_122 93 (by decide) ?_
  refine zv_iload C dX2_digest_93 95 rfl 0 rfl ?_
  refine zv_iload C dX2_digest_95 97 rfl 3 rfl ?_
  refine zv_icmp_ge C dX2_digest_97 100 125 rfl (by decide) (fun q => absurd q (by decide)) (fun _ => ?_)
  refine zv_aload C dX2_digest_100 102 rfl 4 rfl ?_
  refine zv_iload C dX2_digest_102 104 rfl 0 rfl ?_
  refine zv_iald (v := (nI (cne (nmS n f0 f1 f2 f3 f5 (1 - r)) (nmS n f0 f1 f2 f3 f5 r) n))) C dX2_digest_104 105 rfl 15 0 7 rfl rfl (by decide) (by omega) (by decide) (upd_at _ _ _) ?_
  refine zv_istore C dX2_digest_105 107 rfl [(10, .int (nI (cne (nmS n f0 f1 f2 f3 f5 (1 - r)) (nmS n f0 f1 f2 f3 f5 r) n))), (9, .int 7), (5, .long ((((((((((((((2027 * 31) + (Int32.toInt64 y)) * 31) + (Int32.toInt64 (nI n))) * 31) + (Int32.toInt64 (nI b))) * 31) + (Int32.toInt64 (nI (inN f6 f7 (nmS n f0 f1 f2 f3 f5 r) b)))) * 31) + (Int32.toInt64 (gst u11_110 n 10))) * 31) + (Int32.toInt64 (nI (cnt u11_110 (-1 : Int32) n)))) * 31) + (Int32.toInt64 ((wst (sprg f1 f3) (dry n f0 f1 f2 f3 f5 r) n).1)))), (8, .int 8), (7, .ref qa), (4, .ref qa), (3, .int (nI (inN f6 f7 (nmS n f0 f1 f2 f3 f5 r) b))), (2, .int (nI (cne (nmS n f0 f1 f2 f3 f5 (1 - r)) (nmS n f0 f1 f2 f3 f5 r) n))), (1, .int ((wst (sprg f1 f3) (dry n f0 f1 f2 f3 f5 r) n).1)), (0, .ref (h 0))] (by decide) rfl ?_
  refine zv_lload C dX2_digest_107 109 rfl 2 rfl ?_
  refine zv_ldc2 C dX2_digest_109 112 rfl (v := 31) (by decide +kernel) ?_
  refine zv_lmul C dX2_digest_112 113 rfl ?_
  refine zv_iload C dX2_digest_113 115 rfl 0 rfl ?_
  refine zv_i2l C dX2_digest_115 116 rfl ?_
  refine zv_ladd C dX2_digest_116 117 rfl ?_
  refine zv_lstore C dX2_digest_117 119 rfl [(5, .long ((((((((((((((((2027 * 31) + (Int32.toInt64 y)) * 31) + (Int32.toInt64 (nI n))) * 31) + (Int32.toInt64 (nI b))) * 31) + (Int32.toInt64 (nI (inN f6 f7 (nmS n f0 f1 f2 f3 f5 r) b)))) * 31) + (Int32.toInt64 (gst u11_110 n 10))) * 31) + (Int32.toInt64 (nI (cnt u11_110 (-1 : Int32) n)))) * 31) + (Int32.toInt64 ((wst (sprg f1 f3) (dry n f0 f1 f2 f3 f5 r) n).1))) * 31) + (Int32.toInt64 (nI (cne (nmS n f0 f1 f2 f3 f5 (1 - r)) (nmS n f0 f1 f2 f3 f5 r) n))))), (10, .int (nI (cne (nmS n f0 f1 f2 f3 f5 (1 - r)) (nmS n f0 f1 f2 f3 f5 r) n))), (9, .int 7), (8, .int 8), (7, .ref qa), (4, .ref qa), (3, .int (nI (inN f6 f7 (nmS n f0 f1 f2 f3 f5 r) b))), (2, .int (nI (cne (nmS n f0 f1 f2 f3 f5 (1 - r)) (nmS n f0 f1 f2 f3 f5 r) n))), (1, .int ((wst (sprg f1 f3) (dry n f0 f1 f2 f3 f5 r) n).1)), (0, .ref (h 0))] (by decide) rfl ?_
  refine zv_iinc (v := 8) C dX2_digest_119 122 rfl [(9, .int 8), (5, .long ((((((((((((((((2027 * 31) + (Int32.toInt64 y)) * 31) + (Int32.toInt64 (nI n))) * 31) + (Int32.toInt64 (nI b))) * 31) + (Int32.toInt64 (nI (inN f6 f7 (nmS n f0 f1 f2 f3 f5 r) b)))) * 31) + (Int32.toInt64 (gst u11_110 n 10))) * 31) + (Int32.toInt64 (nI (cnt u11_110 (-1 : Int32) n)))) * 31) + (Int32.toInt64 ((wst (sprg f1 f3) (dry n f0 f1 f2 f3 f5 r) n).1))) * 31) + (Int32.toInt64 (nI (cne (nmS n f0 f1 f2 f3 f5 (1 - r)) (nmS n f0 f1 f2 f3 f5 r) n))))), (10, .int (nI (cne (nmS n f0 f1 f2 f3 f5 (1 - r)) (nmS n f0 f1 f2 f3 f5 r) n))), (8, .int 8), (7, .ref qa), (4, .ref qa), (3, .int (nI (inN f6 f7 (nmS n f0 f1 f2 f3 f5 r) b))), (2, .int (nI (cne (nmS n f0 f1 f2 f3 f5 (1 - r)) (nmS n f0 f1 f2 f3 f5 r) n))), (1, .int ((wst (sprg f1 f3) (dry n f0 f1 f2 f3 f5 r) n).1)), (0, .ref (h 0))] 2 rfl (by decide) (by decide) rfl ?_
  refine zv_goto C dX2_digest_122 93 (by decide) ?_
  refine zv_iload C dX2_digest_93 95 rfl 0 rfl ?_
  refine zv_iload C dX2_digest_95 97 rfl 3 rfl ?_
  refine zv_icmp_ge C dX2_digest_97 100 125 rfl (by decide) (fun _ => ?_) (fun q => absurd (by decide) q)
  refine zv_perm [0, 1, 2, 3, 4, 5, 6, 7, 8, 9, 10, 11, 12, 13, 14] (ws' := (cM cI cZ h 0 (nI n) r y (nI b) f0 f1 f2 f3 f4 f5 f6 f7 u8_110 u9_110 u10_110 u11_110 u12_109 f13)) (by decide) rfl ?_
  refine zv_iconst (v := 0) C dX2_digest_125 126 rfl (by decide) ?_
  refine zv_istore C dX2_digest_126 128 rfl [(7, .int 0), (9, .int 8), (5, .long ((((((((((((((((2027 * 31) + (Int32.toInt64 y)) * 31) + (Int32.toInt64 (nI n))) * 31) + (Int32.toInt64 (nI b))) * 31) + (Int32.toInt64 (nI (inN f6 f7 (nmS n f0 f1 f2 f3 f5 r) b)))) * 31) + (Int32.toInt64 (gst u11_110 n 10))) * 31) + (Int32.toInt64 (nI (cnt u11_110 (-1 : Int32) n)))) * 31) + (Int32.toInt64 ((wst (sprg f1 f3) (dry n f0 f1 f2 f3 f5 r) n).1))) * 31) + (Int32.toInt64 (nI (cne (nmS n f0 f1 f2 f3 f5 (1 - r)) (nmS n f0 f1 f2 f3 f5 r) n))))), (10, .int (nI (cne (nmS n f0 f1 f2 f3 f5 (1 - r)) (nmS n f0 f1 f2 f3 f5 r) n))), (8, .int 8), (4, .ref qa), (3, .int (nI (inN f6 f7 (nmS n f0 f1 f2 f3 f5 r) b))), (2, .int (nI (cne (nmS n f0 f1 f2 f3 f5 (1 - r)) (nmS n f0 f1 f2 f3 f5 r) n))), (1, .int ((wst (sprg f1 f3) (dry n f0 f1 f2 f3 f5 r) n).1)), (0, .ref (h 0))] (by decide) rfl ?_
  refine zv_sub [9, 2, 0] (lv' := [(0, .ref (h 0)), (5, .long ((((((((((((((((2027 * 31) + (Int32.toInt64 y)) * 31) + (Int32.toInt64 (nI n))) * 31) + (Int32.toInt64 (nI b))) * 31) + (Int32.toInt64 (nI (inN f6 f7 (nmS n f0 f1 f2 f3 f5 r) b)))) * 31) + (Int32.toInt64 (gst u11_110 n 10))) * 31) + (Int32.toInt64 (nI (cnt u11_110 (-1 : Int32) n)))) * 31) + (Int32.toInt64 ((wst (sprg f1 f3) (dry n f0 f1 f2 f3 f5 r) n).1))) * 31) + (Int32.toInt64 (nI (cne (nmS n f0 f1 f2 f3 f5 (1 - r)) (nmS n f0 f1 f2 f3 f5 r) n))))), (7, .int 0)]) rfl ?_
  exact L128 _ 0 ((((((((((((((((2027 * 31) + (Int32.toInt64 y)) * 31) + (Int32.toInt64 (nI n))) * 31) + (Int32.toInt64 (nI b))) * 31) + (Int32.toInt64 (nI (inN f6 f7 (nmS n f0 f1 f2 f3 f5 r) b)))) * 31) + (Int32.toInt64 (gst u11_110 n 10))) * 31) + (Int32.toInt64 (nI (cnt u11_110 (-1 : Int32) n)))) * 31) + (Int32.toInt64 ((wst (sprg f1 f3) (dry n f0 f1 f2 f3 f5 r) n).1))) * 31) + (Int32.toInt64 (nI (cne (nmS n f0 f1 f2 f3 f5 (1 - r)) (nmS n f0 f1 f2 f3 f5 r) n)))) u8_110 u9_110 u10_110 u11_110 u12_109 (Nat.zero_le _) huM110 rfl (Nat.lt_succ_self _)
