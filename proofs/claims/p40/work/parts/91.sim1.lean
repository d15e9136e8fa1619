/-! ===== the law's small methods, and those of the land by hand ===== -/
def bl (v : Int32) (N : Nat) : Nat := v.toBitVec.toNat % 2 ^ 31 % N
theorem bl_lt (v : Int32) {N : Nat} (h0 : 0 < N) : bl v N < N := Nat.mod_lt _ h0
theorem bl_rem (v : Int32) {N : Nat} (h0 : 0 < N) (hN : N < 2 ^ 31) : (v &&& 2147483647) - (v &&& 2147483647) / nI N * nI N = nI (bl v N) := by
  rw [pk_and v (m := 2147483647) 31 (by decide), pk_rem (Nat.mod_lt _ (by decide)) h0 hN]
  rfl
theorem bl_0 {N : Nat} (h0 : 0 < N) (hN : N < 2 ^ 31) : ¬ nI N = 0 := fun e => by
  have := zn_eq (b := 0) hN (by omega) e
  omega
abbrev rmL_below : Room := { frames := 0, cells := 0, slots := 0, locals := 0 }
set_option maxHeartbeats 4000000 in
set_option maxRecDepth 100000 in
theorem k_L_below (l : Launch) (D : va_G) (cI cZ cA : ClassId) (v : Int32) (N : Nat) (h0 : 0 < N) (hN : N < 2 ^ 31) : zv_R l yL_below wsL_below rmL_below D vwCl (tyL cI cZ) [.int v, .int (nI N)] [] (fun x => x = some (.int (nI (bl v N)))) := by
  refine zv_R.of cL_below 2 (some .int) (by decide) rfl (Nat.le_of_ble_eq_true rfl) ?_
  intro pP eE sS mM aA bB mT cD A C hr hlk hA Q hQ
  have hAq : ∀ q : Nat, sS.heap.size ≤ q → A q := C.2
  have kc7 : Cond.constant RL 7 (2147483647) ∈ wsL_below := by decide +kernel
  refine zv_go (pc' := 0) rfl (lv' := [(0, .int v), (1, .int (nI N))]) rfl rfl rfl rfl ?_
  refine zv_iload_n C dL_below_0 1 rfl 0 rfl ?_
  refine zn_ldc (v := 2147483647) C dL_below_1 3 rfl kc7 ?_
  refine zv_iand (v := (v &&& 2147483647)) C dL_below_3 4 rfl rfl ?_
  refine zv_iload_n C dL_below_4 5 rfl 1 rfl ?_
  refine zn_irem (v := nI (bl v N)) C dL_below_5 6 rfl (bl_0 h0 hN) (bl_rem v h0 hN) ?_
  exact zv_iretR C hr hlk hA hQ dL_below_6 rfl
abbrev rmX2_hasWater : Room := { frames := 0, cells := 0, slots := 0, locals := 0 }
set_option maxHeartbeats 4000000 in
set_option maxRecDepth 100000 in
theorem k_X2_hasWater (l : Launch) (D : va_G) (cI cZ cA : ClassId) {n b : Nat} {r : Int32} (y : Int32) {m0 m1 m2 m3 m4 m5 m6 m7 : Nat → Int32} (hV : LV n b r m0 m1 m2 m3 m4 m5 m6 m7) (s pa da : Nat → Nat) (p : Nat) (hp : p < n) : zv_R l yX2_hasWater wsX2_hasWater rmX2_hasWater D vwCl (tyS cI cZ cA) [.ref (s 0), .int (nI p)] ((s 0, .inr (2, [.int r, .int y, .ref (s 1), .ref (s 2)])) :: (s 1, .inl (cA, n, aq pa)) :: (s 2, .inl (cA, b, aq da)) :: (sR cI 6 pa (rP m0 m1 m2 m3 m4 m5) n ++ sR cI 2 da (rB m6 m7) b)) (fun v => v = some (.int (zb (sprg m1 m3 p)))) := by
  refine zv_R.of cX2_hasWater 2 (some .boolean) (by decide) rfl (Nat.le_of_ble_eq_true rfl) ?_
  intro pP eE sS mM aA bB mT cD A C hr hlk hA Q hQ
  have hAq : ∀ q : Nat, sS.heap.size ≤ q → A q := C.2
  have inX2 : ∀ w ∈ u_ws RX2 TX2 4, w ∈ wsX2_hasWater := by decide +kernel
  have lk9 : Cond.fieldLink RX2 9 "RiverNamesLaw$Sim" "places" "[[I" ∈ wsX2_hasWater := by decide +kernel
  refine zv_go (pc' := 0) rfl (lv' := [(0, .ref (s 0)), (1, .int (nI p))]) rfl rfl rfl rfl ?_
  have hn16 : n ≤ 16 := hV.n16
  have hb16 : b ≤ 16 := hV.b16
  refine zv_aload_n C dX2_hasWater_0 1 rfl 0 rfl ?_
  refine zv_get (ci := 2) C inX2 rfl dX2_hasWater_1 4 rfl 0 2 rfl (by decide) lk9 rfl ?_
  refine zv_iload_n C dX2_hasWater_4 5 rfl 1 rfl ?_
  refine zn_aald (r := pa p) C dX2_hasWater_5 6 rfl 1 2 p rfl rfl rfl (by omega) (by omega) rfl ?_
  refine zv_iconst (v := 1) C dX2_hasWater_6 7 rfl (by decide) ?_
  refine zv_iald (v := (m1 p)) C dX2_hasWater_7 8 rfl (p + 3) 0 1 (zr_p0 (by omega)) rfl (by decide) (by omega) (by omega) rfl ?_
  refine zv_iconst (v := 1) C dX2_hasWater_8 9 rfl (by decide) ?_
  refine zv_icmp_ne C dX2_hasWater_9 12 27 rfl (by decide) (fun c => ?_) (fun c => ?_)
  · -- no spring
    refine zv_iconst (v := 0) C dX2_hasWater_27 28 rfl (by decide) ?_
    exact zv_zretR C (by decide) hr hlk hA hQ dX2_hasWater_28 (by rw [show sprg m1 m3 p = false from (by have z := (hV.zm1 p).resolve_right c; simp [sprg, z])]; rfl)
  ·
    refine zv_aload_n C dX2_hasWater_12 13 rfl 0 rfl ?_
    refine zv_get (ci := 2) C inX2 rfl dX2_hasWater_13 16 rfl 0 2 rfl (by decide) lk9 rfl ?_
    refine zv_iload_n C dX2_hasWater_16 17 rfl 1 rfl ?_
    refine zn_aald (r := pa p) C dX2_hasWater_17 18 rfl 1 2 p rfl rfl rfl (by omega) (by omega) rfl ?_
    refine zv_iconst (v := 3) C dX2_hasWater_18 19 rfl (by decide) ?_
    refine zv_iald (v := (m3 p)) C dX2_hasWater_19 20 rfl (p + 3) 0 3 (zr_p0 (by omega)) rfl (by decide) (by omega) (by omega) rfl ?_
    refine zv_if_le C dX2_hasWater_20 23 27 rfl (by decide) (fun c2 => ?_) (fun c2 => ?_)
    ·
      refine zv_iconst (v := 0) C dX2_hasWater_27 28 rfl (by decide) ?_
      exact zv_zretR C (by decide) hr hlk hA hQ dX2_hasWater_28 (by rw [show sprg m1 m3 p = false from (by simp [sprg, c, c2])]; rfl)
    ·
      refine zv_iconst (v := 1) C dX2_hasWater_23 24 rfl (by decide) ?_
      refine zv_goto C dX2_hasWater_24 28 (by decide) ?_
      exact zv_zretR C (by decide) hr hlk hA hQ dX2_hasWater_28 (by rw [show sprg m1 m3 p = true from (by simp [sprg, c, c2])]; rfl)
abbrev rmX2_called : Room := { frames := 0, cells := 0, slots := 0, locals := 0 }
set_option maxHeartbeats 4000000 in
set_option maxRecDepth 100000 in
theorem k_X2_called (l : Launch) (D : va_G) (cI cZ cA : ClassId) {n b : Nat} {r : Int32} (y : Int32) {m0 m1 m2 m3 m4 m5 m6 m7 : Nat → Int32} (hV : LV n b r m0 m1 m2 m3 m4 m5 m6 m7) (s pa da : Nat → Nat) (p q nm : Nat) (g : Nat → Int32) (hp : p < n) (hq : q < n) : zv_R l yX2_called wsX2_called rmX2_called D vwCl (tyS cI cZ cA) [.ref (s 0), .int (nI p), .int (nI q), .ref nm] ((nm, .inl (cI, n, .inl g)) :: (s 0, .inr (2, [.int r, .int y, .ref (s 1), .ref (s 2)])) :: (s 1, .inl (cA, n, aq pa)) :: (s 2, .inl (cA, b, aq da)) :: (sR cI 6 pa (rP m0 m1 m2 m3 m4 m5) n ++ sR cI 2 da (rB m6 m7) b)) (fun v => v = some (.int (nmf m2 g p q))) := by
  refine zv_R.of cX2_called 4 (some .int) (by decide) rfl (Nat.le_of_ble_eq_true rfl) ?_
  intro pP eE sS mM aA bB mT cD A C hr hlk hA Q hQ
  have hAq : ∀ q : Nat, sS.heap.size ≤ q → A q := C.2
  have inX2 : ∀ w ∈ u_ws RX2 TX2 4, w ∈ wsX2_called := by decide +kernel
  have lk9 : Cond.fieldLink RX2 9 "RiverNamesLaw$Sim" "places" "[[I" ∈ wsX2_called := by decide +kernel
  refine zv_go (pc' := 0) rfl (lv' := [(0, .ref (s 0)), (1, .int (nI p)), (2, .int (nI q)), (3, .ref nm)]) rfl rfl rfl rfl ?_
  have hn16 : n ≤ 16 := hV.n16
  have hb16 : b ≤ 16 := hV.b16
  refine zv_iload_n C dX2_called_0 1 rfl 2 rfl ?_
  refine zv_iload_n C dX2_called_1 2 rfl 1 rfl ?_
  refine zv_icmp_ne C dX2_called_2 5 16 rfl (by decide) (fun c => ?_) (fun c => ?_)
  ·
    refine zv_aload_n C dX2_called_16 17 rfl 3 rfl ?_
    refine zv_iload_n C dX2_called_17 18 rfl 2 rfl ?_
    refine zv_iald (v := (g q)) C dX2_called_18 19 rfl 0 0 q rfl rfl rfl (by omega) (by omega) rfl ?_
    exact zv_iretR C hr hlk hA hQ dX2_called_19 (by rw [nmf, if_neg (fun z => c (by rw [z]))])
  ·
    refine zv_aload_n C dX2_called_5 6 rfl 0 rfl ?_
    refine zv_get (ci := 2) C inX2 rfl dX2_called_6 9 rfl 1 2 rfl (by decide) lk9 rfl ?_
    refine zv_iload_n C dX2_called_9 10 rfl 1 rfl ?_
    refine zn_aald (r := pa p) C dX2_called_10 11 rfl 2 2 p rfl rfl rfl (by omega) (by omega) rfl ?_
    refine zv_iconst (v := 2) C dX2_called_11 12 rfl (by decide) ?_
    refine zv_iald (v := (m2 p)) C dX2_called_12 13 rfl (p + 4) 0 2 (zr_p0 (by omega)) rfl (by decide) (by omega) (by omega) rfl ?_
    refine zv_goto C dX2_called_13 19 (by decide) ?_
    exact zv_iretR C hr hlk hA hQ dX2_called_19 (by rw [nmf, if_pos (zn_eq (by omega) (by omega) c)])
abbrev rmX2_isAbove : Room := { frames := 0, cells := 0, slots := 0, locals := 0 }
set_option maxHeartbeats 4000000 in
set_option maxRecDepth 100000 in
theorem k_X2_isAbove (l : Launch) (D : va_G) (cI cZ cA : ClassId) {n b : Nat} {r : Int32} (y : Int32) {m0 m1 m2 m3 m4 m5 m6 m7 : Nat → Int32} (hV : LV n b r m0 m1 m2 m3 m4 m5 m6 m7) (s pa da : Nat → Nat) (p o : Nat) (hp : p < n) (ho : o < n) : zv_R l yX2_isAbove wsX2_isAbove rmX2_isAbove D vwCl (tyS cI cZ cA) [.ref (s 0), .int (nI p), .int (nI o)] ((s 0, .inr (2, [.int r, .int y, .ref (s 1), .ref (s 2)])) :: (s 1, .inl (cA, n, aq pa)) :: (s 2, .inl (cA, b, aq da)) :: (sR cI 6 pa (rP m0 m1 m2 m3 m4 m5) n ++ sR cI 2 da (rB m6 m7) b)) (fun v => v = some (.int (zb (fl m0 (nI o) 16 (m0 p))))) := by
  refine zv_R.of cX2_isAbove 4 (some .boolean) (by decide) rfl (Nat.le_of_ble_eq_true rfl) ?_
  intro pP eE sS mM aA bB mT cD A C hr hlk hA Q hQ
  have hAq : ∀ q : Nat, sS.heap.size ≤ q → A q := C.2
  have inX2 : ∀ w ∈ u_ws RX2 TX2 4, w ∈ wsX2_isAbove := by decide +kernel
  have lk9 : Cond.fieldLink RX2 9 "RiverNamesLaw$Sim" "places" "[[I" ∈ wsX2_isAbove := by decide +kernel
  refine zv_go (pc' := 0) rfl (lv' := [(0, .ref (s 0)), (1, .int (nI p)), (2, .int (nI o))]) rfl rfl rfl rfl ?_
  have hn16 : n ≤ 16 := hV.n16
  have hb16 : b ≤ 16 := hV.b16
  obtain ⟨d, sD, hD⟩ := hV.dep
  have LP : ∀ (mu_LP : Nat), ∀ (x : Int32) (k : Nat), (Dx n d k x) → (fl m0 (nI o) 16 (m0 p) = fl m0 (nI o) k x) → k < mu_LP → zv_V pP l eE rmX2_isAbove sS mM aA bB mT cD Q 4 D vwCl A (fun _ => True) (tyS cI cZ cA) ((s 0, .inr (2, [.int r, .int y, .ref (s 1), .ref (s 2)])) :: (s 1, .inl (cA, n, aq pa)) :: (s 2, .inl (cA, b, aq da)) :: (sR cI 6 pa (rP m0 m1 m2 m3 m4 m5) n ++ sR cI 2 da (rB m6 m7) b)) 0 0 9 [(0, .ref (s 0)), (1, .int (nI p)), (2, .int (nI o)), (3, .int x)] [] := by
    intro mu_LP
    induction mu_LP with
    | zero => intro x k hx he hmu_LP; exact absurd hmu_LP (Nat.not_lt_zero _)
    | succ mu_LP ih_LP =>
      intro x k hx he hmu_LP
      refine zv_iload_n C dX2_isAbove_9 10 rfl 3 rfl ?_
      refine zv_if_lt C dX2_isAbove_10 13 32 rfl (by decide) (fun c => ?_) (fun c => ?_)
      ·
        refine zv_iconst (v := 0) C dX2_isAbove_32 33 rfl (by decide) ?_
        exact zv_zretR C (by decide) hr hlk hA hQ dX2_isAbove_33 (by rw [he, fl_neg _ _ _ c]; rfl)
      ·
        rcases hx with hx | ⟨q, hq, rfl, hk⟩
        · rw [hx] at c; exact absurd (by decide) c
        obtain ⟨k, rfl⟩ : ∃ k1, k = k1 + 1 := ⟨k - 1, by omega⟩
        refine zv_iload_n C dX2_isAbove_13 14 rfl 3 rfl ?_
        refine zv_iload_n C dX2_isAbove_14 15 rfl 2 rfl ?_
        refine zv_icmp_ne C dX2_isAbove_15 18 20 rfl (by decide) (fun c2 => ?_) (fun c2 => ?_)
        ·
          refine zv_aload_n C dX2_isAbove_20 21 rfl 0 rfl ?_
          refine zv_get (ci := 2) C inX2 rfl dX2_isAbove_21 24 rfl 0 2 rfl (by decide) lk9 rfl ?_
          refine zv_iload_n C dX2_isAbove_24 25 rfl 3 rfl ?_
          refine zn_aald (r := pa q) C dX2_isAbove_25 26 rfl 1 2 q rfl rfl rfl (by omega) (by omega) rfl ?_
          refine zv_iconst (v := 0) C dX2_isAbove_26 27 rfl (by decide) ?_
          refine zv_iald (v := (m0 q)) C dX2_isAbove_27 28 rfl (q + 3) 0 0 (zr_p0 (by omega)) rfl (by decide) (by omega) (by omega) rfl ?_
          refine zv_istore_n C dX2_isAbove_28 29 rfl [(3, .int (m0 q)), (0, .ref (s 0)), (1, .int (nI p)), (2, .int (nI o))] (by decide) rfl ?_
          refine zv_goto C dX2_isAbove_29 9 (by decide) ?_
          refine zv_sub [1, 2, 3, 0] (lv' := [(0, .ref (s 0)), (1, .int (nI p)), (2, .int (nI o)), (3, .int (m0 q))]) rfl ?_
          exact ih_LP (m0 q) k (hD.dx hq (by omega)) (by rw [he, fl_go _ _ (by omega) c2]) (by omega)
        ·
          refine zv_iconst (v := 1) C dX2_isAbove_18 19 rfl (by decide) ?_
          exact zv_zretR C (by decide) hr hlk hA hQ dX2_isAbove_19 (by rw [he, fl_hit _ _ (by omega) c2]; rfl)
  refine zv_aload_n C dX2_isAbove_0 1 rfl 0 rfl ?_
  refine zv_get (ci := 2) C inX2 rfl dX2_isAbove_1 4 rfl 0 2 rfl (by decide) lk9 rfl ?_
  refine zv_iload_n C dX2_isAbove_4 5 rfl 1 rfl ?_
  refine zn_aald (r := pa p) C dX2_isAbove_5 6 rfl 1 2 p rfl rfl rfl (by omega) (by omega) rfl ?_
  refine zv_iconst (v := 0) C dX2_isAbove_6 7 rfl (by decide) ?_
  refine zv_iald (v := (m0 p)) C dX2_isAbove_7 8 rfl (p + 3) 0 0 (zr_p0 (by omega)) rfl (by decide) (by omega) (by omega) rfl ?_
  refine zv_istore_n C dX2_isAbove_8 9 rfl [(3, .int (m0 p)), (0, .ref (s 0)), (1, .int (nI p)), (2, .int (nI o))] (by decide) rfl ?_
  refine zv_sub [1, 2, 3, 0] (lv' := [(0, .ref (s 0)), (1, .int (nI p)), (2, .int (nI o)), (3, .int (m0 p))]) rfl ?_
  exact LP 17 (m0 p) 16 (hD.dx hp (by have := (hD p hp).1; omega)) rfl (by omega)
abbrev rmX2_differ : Room := { frames := 0, cells := 0, slots := 0, locals := 0 }
set_option maxHeartbeats 4000000 in
set_option maxRecDepth 100000 in
theorem k_X2_differ (l : Launch) (D : va_G) (cI cZ cA : ClassId) (fa ga n : Nat) (f g : Nat → Int32) (hn : n ≤ 16) : zv_R l yX2_differ wsX2_differ rmX2_differ D vwCl (tyS cI cZ cA) [.ref fa, .ref ga] [(fa, .inl (cI, n, .inl f)), (ga, .inl (cI, n, .inl g))] (fun v => v = some (.int (nI (cne f g n)))) := by
  refine zv_R.of cX2_differ 4 (some .int) (by decide) rfl (Nat.le_of_ble_eq_true rfl) ?_
  intro pP eE sS mM aA bB mT cD A C hr hlk hA Q hQ
  have hAq : ∀ q : Nat, sS.heap.size ≤ q → A q := C.2
  refine zv_go (pc' := 0) rfl (lv' := [(0, .ref fa), (1, .ref ga)]) rfl rfl rfl rfl ?_
  have LP : ∀ (mu_LP : Nat), ∀ (k : Nat), (k ≤ n) → n - k < mu_LP → zv_V pP l eE rmX2_differ sS mM aA bB mT cD Q 4 D vwCl A (fun _ => True) (tyS cI cZ cA) [(fa, .inl (cI, n, .inl f)), (ga, .inl (cI, n, .inl g))] 0 0 4 [(0, .ref fa), (1, .ref ga), (2, .int (nI (cne f g k))), (3, .int (nI k))] [] := by
    intro mu_LP
    induction mu_LP with
    | zero => intro k hk hmu_LP; exact absurd hmu_LP (Nat.not_lt_zero _)
    | succ mu_LP ih_LP =>
      intro k hk hmu_LP
      refine zv_iload_n C dX2_differ_4 5 rfl 3 rfl ?_
      refine zv_aload_n C dX2_differ_5 6 rfl 0 rfl ?_
      refine zv_alen (v := (nI n)) C dX2_differ_6 7 rfl 0 0 rfl rfl rfl ?_
      refine zv_icmp_ge C dX2_differ_7 10 33 rfl (by decide) (fun c => ?_) (fun c => ?_)
      ·
        have e : k = n := by have := zn_le (by omega) (by omega) c; omega
        subst e
        refine zv_iload_n C dX2_differ_33 34 rfl 2 rfl ?_
        exact zv_iretR C hr hlk hA hQ dX2_differ_34 rfl
      ·
        have hk2 : k < n := zn_le' (by omega) (by omega) c
        refine zv_iload_n C dX2_differ_10 11 rfl 2 rfl ?_
        refine zv_aload_n C dX2_differ_11 12 rfl 0 rfl ?_
        refine zv_iload_n C dX2_differ_12 13 rfl 3 rfl ?_
        refine zv_iald (v := (f k)) C dX2_differ_13 14 rfl 0 0 k rfl rfl rfl (by omega) (by omega) rfl ?_
        refine zv_aload_n C dX2_differ_14 15 rfl 1 rfl ?_
        refine zv_iload_n C dX2_differ_15 16 rfl 3 rfl ?_
        refine zv_iald (v := (g k)) C dX2_differ_16 17 rfl 1 0 k rfl rfl rfl (by omega) (by omega) rfl ?_
        refine zv_icmp_ne C dX2_differ_17 20 24 rfl (by decide) (fun c2 => ?_) (fun c2 => ?_)
        ·
          refine zv_iconst (v := 1) C dX2_differ_24 25 rfl (by decide) ?_
          refine zv_iadd (v := (nI (cne f g (k + 1)))) C dX2_differ_25 26 rfl (by rw [cne_y f g c2]; first | exact nI_1 _ | exact Int32.add_zero _) ?_
          refine zv_istore_n C dX2_differ_26 27 rfl [(2, .int (nI (cne f g (k + 1)))), (0, .ref fa), (1, .ref ga), (3, .int (nI k))] (by decide) rfl ?_
          refine zv_iinc (v := (nI (k + 1))) C dX2_differ_27 30 rfl [(3, .int (nI (k + 1))), (2, .int (nI (cne f g (k + 1)))), (0, .ref fa), (1, .ref ga)] 3 rfl (nI_1 k) (by decide) rfl ?_
          refine zv_goto C dX2_differ_30 4 (by decide) ?_
          refine zv_sub [2, 3, 1, 0] (lv' := [(0, .ref fa), (1, .ref ga), (2, .int (nI (cne f g (k + 1)))), (3, .int (nI (k + 1)))]) rfl ?_
          exact ih_LP (k + 1) (by omega) (by omega)
        ·
          refine zv_iconst (v := 0) C dX2_differ_20 21 rfl (by decide) ?_
          refine zv_goto C dX2_differ_21 25 (by decide) ?_
          refine zv_iadd (v := (nI (cne f g (k + 1)))) C dX2_differ_25 26 rfl (by rw [cne_n f g c2]; first | exact nI_1 _ | exact Int32.add_zero _) ?_
          refine zv_istore_n C dX2_differ_26 27 rfl [(2, .int (nI (cne f g (k + 1)))), (0, .ref fa), (1, .ref ga), (3, .int (nI k))] (by decide) rfl ?_
          refine zv_iinc (v := (nI (k + 1))) C dX2_differ_27 30 rfl [(3, .int (nI (k + 1))), (2, .int (nI (cne f g (k + 1)))), (0, .ref fa), (1, .ref ga)] 3 rfl (nI_1 k) (by decide) rfl ?_
          refine zv_goto C dX2_differ_30 4 (by decide) ?_
          refine zv_sub [2, 3, 1, 0] (lv' := [(0, .ref fa), (1, .ref ga), (2, .int (nI (cne f g (k + 1)))), (3, .int (nI (k + 1)))]) rfl ?_
          exact ih_LP (k + 1) (by omega) (by omega)
  refine zv_iconst (v := 0) C dX2_differ_0 1 rfl (by decide) ?_
  refine zv_istore_n C dX2_differ_1 2 rfl [(2, .int 0), (0, .ref fa), (1, .ref ga)] (by decide) rfl ?_
  refine zv_iconst (v := 0) C dX2_differ_2 3 rfl (by decide) ?_
  refine zv_istore_n C dX2_differ_3 4 rfl [(3, .int 0), (2, .int 0), (0, .ref fa), (1, .ref ga)] (by decide) rfl ?_
  refine zv_go rfl (lv' := [(3, .int (nI 0)), (2, .int (nI (cne f g 0))), (0, .ref fa), (1, .ref ga)]) rfl rfl rfl rfl ?_
  refine zv_sub [2, 3, 1, 0] (lv' := [(0, .ref fa), (1, .ref ga), (2, .int (nI (cne f g 0))), (3, .int (nI 0))]) rfl ?_
  exact LP (n + 1) 0 (by omega) (by omega)
abbrev rmX2_insults : Room := { frames := 0, cells := 0, slots := 0, locals := 0 }
theorem ins_m1 {x : Int32} {g : Int32} (h : x = -1 ∨ ∃ a, a ≤ 9 ∧ x = nI a) (c : x < 0) : insd x g = false := by
  rcases h with h | ⟨a, ha, h⟩
  · subst h; simp [insd]
  · subst h; exact absurd c (nI_nneg (by omega))
theorem ins_m2 {x : Int32} (c : ¬ x < 0) : ¬ x = -1 := fun e => c (by rw [e]; decide)
set_option maxHeartbeats 4000000 in
set_option maxRecDepth 100000 in
theorem k_X2_insults (l : Launch) (D : va_G) (cI cZ cA : ClassId) {n b : Nat} {r : Int32} (y : Int32) {m0 m1 m2 m3 m4 m5 m6 m7 : Nat → Int32} (hV : LV n b r m0 m1 m2 m3 m4 m5 m6 m7) (s pa da : Nat → Nat) (nm : Nat) (g : Nat → Int32) : zv_R l yX2_insults wsX2_insults rmX2_insults D vwCl (tyS cI cZ cA) [.ref (s 0), .ref nm] ((nm, .inl (cI, n, .inl g)) :: (s 0, .inr (2, [.int r, .int y, .ref (s 1), .ref (s 2)])) :: (s 1, .inl (cA, n, aq pa)) :: (s 2, .inl (cA, b, aq da)) :: (sR cI 6 pa (rP m0 m1 m2 m3 m4 m5) n ++ sR cI 2 da (rB m6 m7) b)) (fun v => v = some (.int (nI (inN m6 m7 g b)))) := by
  refine zv_R.of cX2_insults 7 (some .int) (by decide) rfl (Nat.le_of_ble_eq_true rfl) ?_
  intro pP eE sS mM aA bB mT cD A C hr hlk hA Q hQ
  have hAq : ∀ q : Nat, sS.heap.size ≤ q → A q := C.2
  have inX2 : ∀ w ∈ u_ws RX2 TX2 4, w ∈ wsX2_insults := by decide +kernel
  have lk15 : Cond.fieldLink RX2 15 "RiverNamesLaw$Sim" "bridges" "[[I" ∈ wsX2_insults := by decide +kernel
  refine zv_go (pc' := 0) rfl (lv' := [(0, .ref (s 0)), (1, .ref nm)]) rfl rfl rfl rfl ?_
  have hn16 : n ≤ 16 := hV.n16
  have hb16 : b ≤ 16 := hV.b16
  have LP : ∀ (mu_LP : Nat), ∀ (k : Nat), (k ≤ b) → b - k < mu_LP → zv_V pP l eE rmX2_insults sS mM aA bB mT cD Q 7 D vwCl A (fun _ => True) (tyS cI cZ cA) ((nm, .inl (cI, n, .inl g)) :: (s 0, .inr (2, [.int r, .int y, .ref (s 1), .ref (s 2)])) :: (s 1, .inl (cA, n, aq pa)) :: (s 2, .inl (cA, b, aq da)) :: (sR cI 6 pa (rP m0 m1 m2 m3 m4 m5) n ++ sR cI 2 da (rB m6 m7) b)) 0 0 14 [(0, .ref (s 0)), (1, .ref nm), (2, .int (nI (inN m6 m7 g k))), (3, .ref (s 2)), (4, .int (nI b)), (5, .int (nI k))] [] := by
    intro mu_LP
    induction mu_LP with
    | zero => intro k hk hmu_LP; exact absurd hmu_LP (Nat.not_lt_zero _)
    | succ mu_LP ih_LP =>
      intro k hk hmu_LP
      refine zv_iload C dX2_insults_14 16 rfl 5 rfl ?_
      refine zv_iload C dX2_insults_16 18 rfl 4 rfl ?_
      refine zv_icmp_ge C dX2_insults_18 21 61 rfl (by decide) (fun c => ?_) (fun c => ?_)
      ·
        have e : k = b := by have := zn_le (by omega) (by omega) c; omega
        subst e
        refine zv_iload_n C dX2_insults_61 62 rfl 2 rfl ?_
        exact zv_iretR C hr hlk hA hQ dX2_insults_62 rfl
      ·
        have hk2 : k < b := zn_le' (by omega) (by omega) c
        obtain ⟨q, hq, eq⟩ := hV.brg k hk2
        refine zv_aload_n C dX2_insults_21 22 rfl 3 rfl ?_
        refine zv_iload C dX2_insults_22 24 rfl 5 rfl ?_
        refine zn_aald (r := da k) C dX2_insults_24 25 rfl 3 2 k rfl rfl rfl (by omega) (by omega) rfl ?_
        refine zv_astore C dX2_insults_25 27 rfl [(6, .ref (da k)), (0, .ref (s 0)), (1, .ref nm), (2, .int (nI (inN m6 m7 g k))), (3, .ref (s 2)), (4, .int (nI b)), (5, .int (nI k))] (by decide) rfl ?_
        refine zv_iload_n C dX2_insults_27 28 rfl 3 rfl ?_
        refine zv_aload C dX2_insults_28 30 rfl 0 rfl ?_
        refine zv_iconst (v := 1) C dX2_insults_30 31 rfl (by decide) ?_
        refine zv_iald (v := (m7 k)) C dX2_insults_31 32 rfl (k + n + 4) 0 1 (zr_q1 (by omega)) rfl (by decide) (by omega) (by omega) rfl ?_
        refine zv_if_lt C dX2_insults_32 35 52 rfl (by decide) (fun c2 => ?_) (fun c2 => ?_)
        ·
          refine zv_iconst (v := 0) C dX2_insults_52 53 rfl (by decide) ?_
          refine zv_iadd (v := (nI (inN m6 m7 g (k + 1)))) C dX2_insults_53 54 rfl (by unfold inN; rw [cnb_n _ (ins_m1 (hV.2.2 k hk2) c2)]; exact Int32.add_zero _) ?_
          refine zv_istore_n C dX2_insults_54 55 rfl [(2, .int (nI (inN m6 m7 g (k + 1)))), (6, .ref (da k)), (0, .ref (s 0)), (1, .ref nm), (3, .ref (s 2)), (4, .int (nI b)), (5, .int (nI k))] (by decide) rfl ?_
          refine zv_iinc (v := (nI (k + 1))) C dX2_insults_55 58 rfl [(5, .int (nI (k + 1))), (2, .int (nI (inN m6 m7 g (k + 1)))), (6, .ref (da k)), (0, .ref (s 0)), (1, .ref nm), (3, .ref (s 2)), (4, .int (nI b))] 6 rfl (nI_1 k) (by decide) rfl ?_
          refine zv_goto C dX2_insults_58 14 (by decide) ?_
          refine zv_sub [3, 4, 1, 5, 6, 0] (lv' := [(0, .ref (s 0)), (1, .ref nm), (2, .int (nI (inN m6 m7 g (k + 1)))), (3, .ref (s 2)), (4, .int (nI b)), (5, .int (nI (k + 1)))]) rfl ?_
          exact ih_LP (k + 1) (by omega) (by omega)
        ·
          refine zv_aload_n C dX2_insults_35 36 rfl 2 rfl ?_
          refine zv_aload C dX2_insults_36 38 rfl 0 rfl ?_
          refine zv_iconst (v := 0) C dX2_insults_38 39 rfl (by decide) ?_
          refine zv_iald (v := (nI q)) C dX2_insults_39 40 rfl (k + n + 4) 0 0 (zr_q1 (by omega)) rfl (by decide) (by omega) (by omega) eq ?_
          refine zv_iald (v := (g q)) C dX2_insults_40 41 rfl 0 0 q rfl rfl rfl (by omega) (by omega) rfl ?_
          refine zv_aload C dX2_insults_41 43 rfl 0 rfl ?_
          refine zv_iconst (v := 1) C dX2_insults_43 44 rfl (by decide) ?_
          refine zv_iald (v := (m7 k)) C dX2_insults_44 45 rfl (k + n + 4) 0 1 (zr_q1 (by omega)) rfl (by decide) (by omega) (by omega) rfl ?_
          refine zv_icmp_eq C dX2_insults_45 48 52 rfl (by decide) (fun c3 => ?_) (fun c3 => ?_)
          ·
            refine zv_iconst (v := 0) C dX2_insults_52 53 rfl (by decide) ?_
            refine zv_iadd (v := (nI (inN m6 m7 g (k + 1)))) C dX2_insults_53 54 rfl (by unfold inN; rw [cnb_n _ (by rw [eq, nI_clamp (by omega)]; simp [insd, c3])]; exact Int32.add_zero _) ?_
            refine zv_istore_n C dX2_insults_54 55 rfl [(2, .int (nI (inN m6 m7 g (k + 1)))), (6, .ref (da k)), (0, .ref (s 0)), (1, .ref nm), (3, .ref (s 2)), (4, .int (nI b)), (5, .int (nI k))] (by decide) rfl ?_
            refine zv_iinc (v := (nI (k + 1))) C dX2_insults_55 58 rfl [(5, .int (nI (k + 1))), (2, .int (nI (inN m6 m7 g (k + 1)))), (6, .ref (da k)), (0, .ref (s 0)), (1, .ref nm), (3, .ref (s 2)), (4, .int (nI b))] 6 rfl (nI_1 k) (by decide) rfl ?_
            refine zv_goto C dX2_insults_58 14 (by decide) ?_
            refine zv_sub [3, 4, 1, 5, 6, 0] (lv' := [(0, .ref (s 0)), (1, .ref nm), (2, .int (nI (inN m6 m7 g (k + 1)))), (3, .ref (s 2)), (4, .int (nI b)), (5, .int (nI (k + 1)))]) rfl ?_
            exact ih_LP (k + 1) (by omega) (by omega)
          ·
            refine zv_iconst (v := 1) C dX2_insults_48 49 rfl (by decide) ?_
            refine zv_goto C dX2_insults_49 53 (by decide) ?_
            refine zv_iadd (v := (nI (inN m6 m7 g (k + 1)))) C dX2_insults_53 54 rfl (by unfold inN; rw [cnb_y _ (by rw [eq, nI_clamp (by omega)]; simp [insd, c3, ins_m2 c2])]; exact nI_1 _) ?_
            refine zv_istore_n C dX2_insults_54 55 rfl [(2, .int (nI (inN m6 m7 g (k + 1)))), (6, .ref (da k)), (0, .ref (s 0)), (1, .ref nm), (3, .ref (s 2)), (4, .int (nI b)), (5, .int (nI k))] (by decide) rfl ?_
            refine zv_iinc (v := (nI (k + 1))) C dX2_insults_55 58 rfl [(5, .int (nI (k + 1))), (2, .int (nI (inN m6 m7 g (k + 1)))), (6, .ref (da k)), (0, .ref (s 0)), (1, .ref nm), (3, .ref (s 2)), (4, .int (nI b))] 6 rfl (nI_1 k) (by decide) rfl ?_
            refine zv_goto C dX2_insults_58 14 (by decide) ?_
            refine zv_sub [3, 4, 1, 5, 6, 0] (lv' := [(0, .ref (s 0)), (1, .ref nm), (2, .int (nI (inN m6 m7 g (k + 1)))), (3, .ref (s 2)), (4, .int (nI b)), (5, .int (nI (k + 1)))]) rfl ?_
            exact ih_LP (k + 1) (by omega) (by omega)
  refine zv_iconst (v := 0) C dX2_insults_0 1 rfl (by decide) ?_
  refine zv_istore_n C dX2_insults_1 2 rfl [(2, .int 0), (0, .ref (s 0)), (1, .ref nm)] (by decide) rfl ?_
  refine zv_aload_n C dX2_insults_2 3 rfl 1 rfl ?_
  refine zv_get (ci := 2) C inX2 rfl dX2_insults_3 6 rfl 1 3 rfl (by decide) lk15 rfl ?_
  refine zv_astore_n C dX2_insults_6 7 rfl [(3, .ref (s 2)), (2, .int 0), (0, .ref (s 0)), (1, .ref nm)] (by decide) rfl ?_
  refine zv_aload_n C dX2_insults_7 8 rfl 0 rfl ?_
  refine zv_alen (v := (nI b)) C dX2_insults_8 9 rfl 3 2 rfl rfl rfl ?_
  refine zv_istore C dX2_insults_9 11 rfl [(4, .int (nI b)), (3, .ref (s 2)), (2, .int 0), (0, .ref (s 0)), (1, .ref nm)] (by decide) rfl ?_
  refine zv_iconst (v := 0) C dX2_insults_11 12 rfl (by decide) ?_
  refine zv_istore C dX2_insults_12 14 rfl [(5, .int 0), (4, .int (nI b)), (3, .ref (s 2)), (2, .int 0), (0, .ref (s 0)), (1, .ref nm)] (by decide) rfl ?_
  refine zv_go rfl (lv' := [(5, .int (nI 0)), (4, .int (nI b)), (3, .ref (s 2)), (2, .int (nI (inN m6 m7 g 0))), (0, .ref (s 0)), (1, .ref nm)]) rfl rfl rfl rfl ?_
  refine zv_sub [4, 5, 3, 2, 1, 0] (lv' := [(0, .ref (s 0)), (1, .ref nm), (2, .int (nI (inN m6 m7 g 0))), (3, .ref (s 2)), (4, .int (nI b)), (5, .int (nI 0))]) rfl ?_
  exact LP (b + 1) 0 (by omega) (by omega)
abbrev rmX2_arguers : Room := { frames := 1, cells := 17, slots := 272, locals := 40 }
set_option maxHeartbeats 4000000 in
set_option maxRecDepth 100000 in
theorem k_X2_arguers (l : Launch) (D : va_G) (cI cZ cA : ClassId) {n b : Nat} {r : Int32} (y : Int32) {m0 m1 m2 m3 m4 m5 m6 m7 : Nat → Int32} (hV : LV n b r m0 m1 m2 m3 m4 m5 m6 m7) (s pa da : Nat → Nat) (p nm : Nat) (g : Nat → Int32) (hp : p < n) : zv_NE (va_AOA .int) l yX2_arguers wsX2_arguers rmX2_arguers D vwCl (tyS cI cZ cA) [.ref (s 0), .int (nI p), .ref nm] ((nm, .inl (cI, n, .inl g)) :: (s 0, .inr (2, [.int r, .int y, .ref (s 1), .ref (s 2)])) :: (s 1, .inl (cA, n, aq pa)) :: (s 2, .inl (cA, b, aq da)) :: (sR cI 6 pa (rP m0 m1 m2 m3 m4 m5) n ++ sR cI 2 da (rB m6 m7) b)) (fun v w => ∃ (am c : Nat) (e : Nat → Int32) (o : Nat → Nat), v = some (.ref am) ∧ w = [(am, .inl (cI, c, .inl e))] ∧ AO (arB m0 m1 m3 m5 g p) n c e o) := by
  refine zv_NE.of cX2_arguers 7 (some (.array .int)) (by decide) rfl (Nat.le_of_ble_eq_true rfl) ?_
  intro pP eE sS mM aA bB mT cD A C hr hlk hA hO Q hQ
  have hAq : ∀ q : Nat, sS.heap.size ≤ q → A q := C.2
  have inX2 : ∀ w ∈ u_ws RX2 TX2 4, w ∈ wsX2_arguers := by decide +kernel
  have lk9 : Cond.fieldLink RX2 9 "RiverNamesLaw$Sim" "places" "[[I" ∈ wsX2_arguers := by decide +kernel
  have arint : Cond.arrayClass .int ∈ wsX2_arguers := by decide +kernel
  refine zv_go (pc' := 0) rfl (lv' := [(0, .ref (s 0)), (1, .int (nI p)), (2, .ref nm)]) rfl rfl rfl rfl ?_
  have hn16 : n ≤ 16 := hV.n16
  have hb16 : b ≤ 16 := hV.b16
  have LP : ∀ (mu_LP : Nat), ∀ (am : Nat) (q c : Nat) (e : Nat → Int32) (o : Nat → Nat) (kc ns : Nat), (AO (arB m0 m1 m3 m5 g p) q c e o) → (q ≤ n) → (sS.heap.size ≤ am) → (kc + (n - q) ≤ 17) → (ns + 17 * (n - q) ≤ 272) → n - q < mu_LP → zv_V pP l eE rmX2_arguers sS mM aA bB mT cD Q 7 D vwCl A (fun _ => True) (tyS cI cZ cA) ((am, .inl (cI, c, .inl e)) :: (nm, .inl (cI, n, .inl g)) :: (s 0, .inr (2, [.int r, .int y, .ref (s 1), .ref (s 2)])) :: (s 1, .inl (cA, n, aq pa)) :: (s 2, .inl (cA, b, aq da)) :: (sR cI 6 pa (rP m0 m1 m2 m3 m4 m5) n ++ sR cI 2 da (rB m6 m7) b)) kc ns 7 [(0, .ref (s 0)), (1, .int (nI p)), (2, .ref nm), (3, .ref am), (4, .int (nI q))] [] := by
    intro mu_LP
    induction mu_LP with
    | zero => intro am q c e o kc ns hAO hq fr hkc hns hmu_LP; exact absurd hmu_LP (Nat.not_lt_zero _)
    | succ mu_LP ih_LP =>
      intro am q c e o kc ns hAO hq fr hkc hns hmu_LP
      refine zv_iload C dX2_arguers_7 9 rfl 4 rfl ?_
      refine zv_aload_n C dX2_arguers_9 10 rfl 0 rfl ?_
      refine zv_get (ci := 2) C inX2 rfl dX2_arguers_10 13 rfl 2 2 rfl (by decide) lk9 rfl ?_
      refine zv_alen (v := (nI n)) C dX2_arguers_13 14 rfl 3 2 rfl rfl rfl ?_
      refine zv_icmp_ge C dX2_arguers_14 17 117 rfl (by decide) (fun hc => ?_) (fun hc => ?_)
      ·
        have e1 : q = n := by have := zn_le (by omega) (by omega) hc; omega
        subst e1
        refine zv_aload_n C dX2_arguers_117 118 rfl 3 rfl ?_
        refine zv_widen (k' := 17) (n' := 272) (by omega) (by omega) ?_
        exact zn_aret C hr (Or.inr ⟨_, rfl⟩) hlk hA hQ dX2_arguers_118 [(am, .inl (cI, c, .inl e))] (List.Sublist.cons_cons _ (List.nil_sublist _)) (fun q hq => by rw [List.mem_singleton] at hq; subst hq; exact fr) ⟨am, c, e, o, rfl, rfl, hAO⟩
      ·
        have hq2 : q < n := zn_le' (by omega) (by omega) hc
        refine zv_aload_n C dX2_arguers_17 18 rfl 0 rfl ?_
        refine zv_get (ci := 2) C inX2 rfl dX2_arguers_18 21 rfl 2 2 rfl (by decide) lk9 rfl ?_
        refine zv_iload_n C dX2_arguers_21 22 rfl 1 rfl ?_
        refine zn_aald (r := pa p) C dX2_arguers_22 23 rfl 3 2 p rfl rfl rfl (by omega) (by omega) rfl ?_
        refine zv_iconst (v := 5) C dX2_arguers_23 24 rfl (by decide) ?_
        refine zv_iald (v := (m5 p)) C dX2_arguers_24 25 rfl (p + 5) 0 5 (zr_p0 (by omega)) rfl (by decide) (by omega) (by omega) rfl ?_
        refine zv_if_ne C dX2_arguers_25 28 117 rfl (by decide) (fun h5 => ?_) (fun h5 => ?_)
        ·
          refine zv_aload_n C dX2_arguers_117 118 rfl 3 rfl ?_
          refine zv_widen (k' := 17) (n' := 272) (by omega) (by omega) ?_
          exact zn_aret C hr (Or.inr ⟨_, rfl⟩) hlk hA hQ dX2_arguers_118 [(am, .inl (cI, c, .inl e))] (List.Sublist.cons_cons _ (List.nil_sublist _)) (fun q hq => by rw [List.mem_singleton] at hq; subst hq; exact fr) ⟨am, c, e, o, rfl, rfl, hAO.off (fun q => by simp [arB, h5])⟩
        ·
          refine zv_iload C dX2_arguers_28 30 rfl 4 rfl ?_
          refine zv_iload_n C dX2_arguers_30 31 rfl 1 rfl ?_
          refine zv_icmp_ne C dX2_arguers_31 34 45 rfl (by decide) (fun ce => ?_) (fun ce => ?_)
          · -- another place
            have hne : ¬ q = p := fun z => ce (by rw [z])
            refine zv_aload_n C dX2_arguers_45 46 rfl 0 rfl ?_
            refine zv_get (ci := 2) C inX2 rfl dX2_arguers_46 49 rfl 2 2 rfl (by decide) lk9 rfl ?_
            refine zv_iload C dX2_arguers_49 51 rfl 4 rfl ?_
            refine zn_aald (r := pa q) C dX2_arguers_51 52 rfl 3 2 q rfl rfl rfl (by omega) (by omega) rfl ?_
            refine zv_iconst (v := 0) C dX2_arguers_52 53 rfl (by decide) ?_
            refine zv_iald (v := (m0 q)) C dX2_arguers_53 54 rfl (q + 5) 0 0 (zr_p0 (by omega)) rfl (by decide) (by omega) (by omega) rfl ?_
            refine zv_iload_n C dX2_arguers_54 55 rfl 1 rfl ?_
            refine zv_icmp_ne C dX2_arguers_55 58 111 rfl (by decide) (fun cw => ?_) (fun cw => ?_)
            ·
              have hno : arB m0 m1 m3 m5 g p q = false := (by simp [arB, hne, cw])
              refine zv_iinc (v := (nI (q + 1))) C dX2_arguers_111 114 rfl [(4, .int (nI (q + 1))), (0, .ref (s 0)), (1, .int (nI p)), (2, .ref nm), (3, .ref am)] 4 rfl (nI_1 q) (by decide) rfl ?_
              refine zv_goto C dX2_arguers_114 7 (by decide) ?_
              refine zv_sub [1, 2, 3, 4, 0] (lv' := [(0, .ref (s 0)), (1, .int (nI p)), (2, .ref nm), (3, .ref am), (4, .int (nI (q + 1)))]) rfl ?_
              exact ih_LP am (q + 1) c e o kc ns (hAO.no hno) (by omega) fr (by omega) (by omega) (by omega)
            ·
              refine zv_aload_n C dX2_arguers_58 59 rfl 2 rfl ?_
              refine zv_iload C dX2_arguers_59 61 rfl 4 rfl ?_
              refine zv_iald (v := (g q)) C dX2_arguers_61 62 rfl 1 0 q rfl rfl rfl (by omega) (by omega) rfl ?_
              refine zv_if_ge C dX2_arguers_62 65 68 rfl (by decide) (fun cn => ?_) (fun cn => ?_)
              ·
                have hyes : arB m0 m1 m3 m5 g p q = true := (by simp [arB, h5, hne, cw]; exact cn)
                have hc1 := hAO.c_le
                refine zv_aload_n C dX2_arguers_68 69 rfl 3 rfl ?_
                refine zv_alen (v := (nI c)) C dX2_arguers_69 70 rfl 0 0 rfl rfl rfl ?_
                refine zv_iconst (v := 1) C dX2_arguers_70 71 rfl (by decide) ?_
                refine zv_iadd (v := (nI (c + 1))) C dX2_arguers_71 72 rfl (nI_1 c) ?_
                refine zn_newa (atype := .int) C (fun _ _ => trivial) arint rfl dX2_arguers_72 74 rfl (N' := c + 1) (a0 := (c + 1, .inl z0)) (fun cA => rfl) 0 rfl (fun h => h) (nI_nneg (by omega)) (nI_clamp (by omega)) (by show (c + 1) * 4 ≤ _; omega) (by show kc + 1 ≤ 17; omega) (by show ns + c + 1 ≤ 272; omega) (fun nq1 fr_nq1 => ?_)
                refine zv_go rfl rfl (st' := [.ref nq1]) rfl (kc' := (kc + 1)) rfl (ns' := (ns + c + 1)) rfl ?_
                have fA_nq1 := hAq nq1 fr_nq1
                refine zv_astore C dX2_arguers_74 76 rfl [(5, .ref nq1), (0, .ref (s 0)), (1, .int (nI p)), (2, .ref nm), (3, .ref am), (4, .int (nI q))] (by decide) rfl ?_
                refine zv_iconst (v := 0) C dX2_arguers_76 77 rfl (by decide) ?_
                refine zv_istore C dX2_arguers_77 79 rfl [(6, .int 0), (5, .ref nq1), (0, .ref (s 0)), (1, .int (nI p)), (2, .ref nm), (3, .ref am), (4, .int (nI q))] (by decide) rfl ?_
                have CP : ∀ (mu_CP : Nat), ∀ (i : Nat) (e2 : Nat → Int32), (∀ j, j < i → e2 j = e j) → (i ≤ c) → c - i < mu_CP → zv_V pP l eE rmX2_arguers sS mM aA bB mT cD Q 7 D vwCl A (fun _ => True) (tyS cI cZ cA) ((nq1, .inl (cI, c + 1, .inl e2)) :: (am, .inl (cI, c, .inl e)) :: (nm, .inl (cI, n, .inl g)) :: (s 0, .inr (2, [.int r, .int y, .ref (s 1), .ref (s 2)])) :: (s 1, .inl (cA, n, aq pa)) :: (s 2, .inl (cA, b, aq da)) :: (sR cI 6 pa (rP m0 m1 m2 m3 m4 m5) n ++ sR cI 2 da (rB m6 m7) b)) (kc + 1) (ns + c + 1) 79 [(0, .ref (s 0)), (1, .int (nI p)), (2, .ref nm), (3, .ref am), (4, .int (nI q)), (5, .ref nq1), (6, .int (nI i))] [] := by
                  intro mu_CP
                  induction mu_CP with
                  | zero => intro i e2 he2 hi0 hmu_CP; exact absurd hmu_CP (Nat.not_lt_zero _)
                  | succ mu_CP ih_CP =>
                    intro i e2 he2 hi0 hmu_CP
                    refine zv_iload C dX2_arguers_79 81 rfl 6 rfl ?_
                    refine zv_aload_n C dX2_arguers_81 82 rfl 3 rfl ?_
                    refine zv_alen (v := (nI c)) C dX2_arguers_82 83 rfl 1 0 rfl rfl rfl ?_
                    refine zv_icmp_ge C dX2_arguers_83 86 101 rfl (by decide) (fun hi => ?_) (fun hi => ?_)
                    ·
                      have e3 : i = c := by have := zn_le (by omega) (by omega) hi; omega
                      subst e3
                      refine zv_aload C dX2_arguers_101 103 rfl 5 rfl ?_
                      refine zv_aload_n C dX2_arguers_103 104 rfl 3 rfl ?_
                      refine zv_alen (v := (nI i)) C dX2_arguers_104 105 rfl 1 0 rfl rfl rfl ?_
                      refine zv_iload C dX2_arguers_105 107 rfl 4 rfl ?_
                      refine zn_iast (x' := (nI q)) C dX2_arguers_107 108 rfl 0 0 i rfl fA_nq1 rfl rfl (by omega) (by omega) rfl ((nq1, .inl (cI, i + 1, .inl (upd e2 i (nI q)))) :: (am, .inl (cI, i, .inl e)) :: (nm, .inl (cI, n, .inl g)) :: (s 0, .inr (2, [.int r, .int y, .ref (s 1), .ref (s 2)])) :: (s 1, .inl (cA, n, aq pa)) :: (s 2, .inl (cA, b, aq da)) :: (sR cI 6 pa (rP m0 m1 m2 m3 m4 m5) n ++ sR cI 2 da (rB m6 m7) b)) rfl ?_
                      refine zv_aload C dX2_arguers_108 110 rfl 5 rfl ?_
                      refine zv_astore_n C dX2_arguers_110 111 rfl [(3, .ref nq1), (0, .ref (s 0)), (1, .int (nI p)), (2, .ref nm), (4, .int (nI q)), (5, .ref nq1), (6, .int (nI i))] (by decide) rfl ?_
                      refine zv_iinc (v := (nI (q + 1))) C dX2_arguers_111 114 rfl [(4, .int (nI (q + 1))), (3, .ref nq1), (0, .ref (s 0)), (1, .int (nI p)), (2, .ref nm), (5, .ref nq1), (6, .int (nI i))] 4 rfl (nI_1 q) (by decide) rfl ?_
                      refine zv_goto C dX2_arguers_114 7 (by decide) ?_
                      refine zn_part (ws' := ((nq1, .inl (cI, i + 1, .inl (upd e2 i (nI q)))) :: (nm, .inl (cI, n, .inl g)) :: (s 0, .inr (2, [.int r, .int y, .ref (s 1), .ref (s 2)])) :: (s 1, .inl (cA, n, aq pa)) :: (s 2, .inl (cA, b, aq da)) :: (sR cI 6 pa (rP m0 m1 m2 m3 m4 m5) n ++ sR cI 2 da (rB m6 m7) b))) (List.Sublist.cons_cons _ (List.Sublist.cons _ (List.Sublist.refl _))) ?_
                      refine zv_sub [2, 3, 4, 1, 0] (lv' := [(0, .ref (s 0)), (1, .int (nI p)), (2, .ref nm), (3, .ref nq1), (4, .int (nI (q + 1)))]) rfl ?_
                      exact ih_LP nq1 (q + 1) (i + 1) _ _ _ _ (hAO.yes hyes he2) (by omega) fr_nq1 (by omega) (by omega) (by omega)
                    ·
                      have hi2 : i < c := zn_le' (by omega) (by omega) hi
                      refine zv_aload C dX2_arguers_86 88 rfl 5 rfl ?_
                      refine zv_iload C dX2_arguers_88 90 rfl 6 rfl ?_
                      refine zv_aload_n C dX2_arguers_90 91 rfl 3 rfl ?_
                      refine zv_iload C dX2_arguers_91 93 rfl 6 rfl ?_
                      refine zv_iald (v := (e i)) C dX2_arguers_93 94 rfl 1 0 i rfl rfl rfl (by omega) (by omega) rfl ?_
                      refine zn_iast (x' := (e i)) C dX2_arguers_94 95 rfl 0 0 i rfl fA_nq1 rfl rfl (by omega) (by omega) rfl ((nq1, .inl (cI, c + 1, .inl (upd e2 i (e i)))) :: (am, .inl (cI, c, .inl e)) :: (nm, .inl (cI, n, .inl g)) :: (s 0, .inr (2, [.int r, .int y, .ref (s 1), .ref (s 2)])) :: (s 1, .inl (cA, n, aq pa)) :: (s 2, .inl (cA, b, aq da)) :: (sR cI 6 pa (rP m0 m1 m2 m3 m4 m5) n ++ sR cI 2 da (rB m6 m7) b)) rfl ?_
                      refine zv_iinc (v := (nI (i + 1))) C dX2_arguers_95 98 rfl [(6, .int (nI (i + 1))), (0, .ref (s 0)), (1, .int (nI p)), (2, .ref nm), (3, .ref am), (4, .int (nI q)), (5, .ref nq1)] 6 rfl (nI_1 i) (by decide) rfl ?_
                      refine zv_goto C dX2_arguers_98 79 (by decide) ?_
                      refine zv_sub [1, 2, 3, 4, 5, 6, 0] (lv' := [(0, .ref (s 0)), (1, .int (nI p)), (2, .ref nm), (3, .ref am), (4, .int (nI q)), (5, .ref nq1), (6, .int (nI (i + 1)))]) rfl ?_
                      exact ih_CP (i + 1) _ (fun j hj => by
                        by_cases z : j = i
                        · subst z; exact upd_at _ _ _
                        · rw [upd_ne _ _ _ z]; exact he2 j (by omega)) (by omega) (by omega)
                refine zv_go rfl (lv' := [(6, .int (nI 0)), (5, .ref nq1), (0, .ref (s 0)), (1, .int (nI p)), (2, .ref nm), (3, .ref am), (4, .int (nI q))]) rfl rfl rfl rfl ?_
                refine zv_sub [2, 3, 4, 5, 6, 1, 0] (lv' := [(0, .ref (s 0)), (1, .int (nI p)), (2, .ref nm), (3, .ref am), (4, .int (nI q)), (5, .ref nq1), (6, .int (nI 0))]) rfl ?_
                exact CP (c + 1) 0 z0 (fun j hj => absurd hj (Nat.not_lt_zero j)) (by omega) (by omega)
              ·
                have hno : arB m0 m1 m3 m5 g p q = false := (by simp [arB, hne, cw]; intro _; exact Int32.not_le.mp cn)
                refine zv_goto C dX2_arguers_65 111 (by decide) ?_
                refine zv_iinc (v := (nI (q + 1))) C dX2_arguers_111 114 rfl [(4, .int (nI (q + 1))), (0, .ref (s 0)), (1, .int (nI p)), (2, .ref nm), (3, .ref am)] 4 rfl (nI_1 q) (by decide) rfl ?_
                refine zv_goto C dX2_arguers_114 7 (by decide) ?_
                refine zv_sub [1, 2, 3, 4, 0] (lv' := [(0, .ref (s 0)), (1, .int (nI p)), (2, .ref nm), (3, .ref am), (4, .int (nI (q + 1)))]) rfl ?_
                exact ih_LP am (q + 1) c e o kc ns (hAO.no hno) (by omega) fr (by omega) (by omega) (by omega)
          · -- the place itself
            have heq : q = p := zn_eq (by omega) (by omega) ce
            refine zv_aload_n C dX2_arguers_34 35 rfl 0 rfl ?_
            refine zv_iload_n C dX2_arguers_35 36 rfl 1 rfl ?_
            refine zn_callRV (rest := []) C zn_TB zn_TE (zn_ofR (k_X2_hasWater l D cI cZ cA y hV s pa da p hp)) (cwV 1 C.1.2.2.2.2 gX2_arguers_X2_hasWater rfl rfl rfl (by decide +kernel) ⟨Nat.le_of_ble_eq_true rfl, Nat.le_of_ble_eq_true rfl⟩) dX2_arguers_36 39 rfl (ci := 2) rfl 0 rfl rfl rfl (Nat.le_of_ble_eq_true rfl) ⟨(by show kc + 0 ≤ 17; omega), (by show ns + 0 ≤ 272; omega)⟩ [0, 1, 2] rfl (List.Sublist.cons _ (List.Sublist.cons _ (List.Sublist.refl _))) (fun v hv => ?_)
            subst hv
            refine zv_go rfl rfl (st' := [.int (zb (sprg m1 m3 p))]) rfl (kc' := kc) rfl (ns' := ns) rfl ?_
            refine zv_if_ne C dX2_arguers_39 42 68 rfl (by decide) (fun cz => ?_) (fun cz => ?_)
            ·
              have hyes : arB m0 m1 m3 m5 g p q = true := (by simp [arB, h5, heq]; exact zb_ne0.mp cz)
              have hc1 := hAO.c_le
              refine zv_aload_n C dX2_arguers_68 69 rfl 3 rfl ?_
              refine zv_alen (v := (nI c)) C dX2_arguers_69 70 rfl 0 0 rfl rfl rfl ?_
              refine zv_iconst (v := 1) C dX2_arguers_70 71 rfl (by decide) ?_
              refine zv_iadd (v := (nI (c + 1))) C dX2_arguers_71 72 rfl (nI_1 c) ?_
              refine zn_newa (atype := .int) C (fun _ _ => trivial) arint rfl dX2_arguers_72 74 rfl (N' := c + 1) (a0 := (c + 1, .inl z0)) (fun cA => rfl) 0 rfl (fun h => h) (nI_nneg (by omega)) (nI_clamp (by omega)) (by show (c + 1) * 4 ≤ _; omega) (by show kc + 1 ≤ 17; omega) (by show ns + c + 1 ≤ 272; omega) (fun nq2 fr_nq2 => ?_)
              refine zv_go rfl rfl (st' := [.ref nq2]) rfl (kc' := (kc + 1)) rfl (ns' := (ns + c + 1)) rfl ?_
              have fA_nq2 := hAq nq2 fr_nq2
              refine zv_astore C dX2_arguers_74 76 rfl [(5, .ref nq2), (0, .ref (s 0)), (1, .int (nI p)), (2, .ref nm), (3, .ref am), (4, .int (nI q))] (by decide) rfl ?_
              refine zv_iconst (v := 0) C dX2_arguers_76 77 rfl (by decide) ?_
              refine zv_istore C dX2_arguers_77 79 rfl [(6, .int 0), (5, .ref nq2), (0, .ref (s 0)), (1, .int (nI p)), (2, .ref nm), (3, .ref am), (4, .int (nI q))] (by decide) rfl ?_
              have CP : ∀ (mu_CP : Nat), ∀ (i : Nat) (e2 : Nat → Int32), (∀ j, j < i → e2 j = e j) → (i ≤ c) → c - i < mu_CP → zv_V pP l eE rmX2_arguers sS mM aA bB mT cD Q 7 D vwCl A (fun _ => True) (tyS cI cZ cA) ((nq2, .inl (cI, c + 1, .inl e2)) :: (am, .inl (cI, c, .inl e)) :: (nm, .inl (cI, n, .inl g)) :: (s 0, .inr (2, [.int r, .int y, .ref (s 1), .ref (s 2)])) :: (s 1, .inl (cA, n, aq pa)) :: (s 2, .inl (cA, b, aq da)) :: (sR cI 6 pa (rP m0 m1 m2 m3 m4 m5) n ++ sR cI 2 da (rB m6 m7) b)) (kc + 1) (ns + c + 1) 79 [(0, .ref (s 0)), (1, .int (nI p)), (2, .ref nm), (3, .ref am), (4, .int (nI q)), (5, .ref nq2), (6, .int (nI i))] [] := by
                intro mu_CP
                induction mu_CP with
                | zero => intro i e2 he2 hi0 hmu_CP; exact absurd hmu_CP (Nat.not_lt_zero _)
                | succ mu_CP ih_CP =>
                  intro i e2 he2 hi0 hmu_CP
                  refine zv_iload C dX2_arguers_79 81 rfl 6 rfl ?_
                  refine zv_aload_n C dX2_arguers_81 82 rfl 3 rfl ?_
                  refine zv_alen (v := (nI c)) C dX2_arguers_82 83 rfl 1 0 rfl rfl rfl ?_
                  refine zv_icmp_ge C dX2_arguers_83 86 101 rfl (by decide) (fun hi => ?_) (fun hi => ?_)
                  ·
                    have e3 : i = c := by have := zn_le (by omega) (by omega) hi; omega
                    subst e3
                    refine zv_aload C dX2_arguers_101 103 rfl 5 rfl ?_
                    refine zv_aload_n C dX2_arguers_103 104 rfl 3 rfl ?_
                    refine zv_alen (v := (nI i)) C dX2_arguers_104 105 rfl 1 0 rfl rfl rfl ?_
                    refine zv_iload C dX2_arguers_105 107 rfl 4 rfl ?_
                    refine zn_iast (x' := (nI q)) C dX2_arguers_107 108 rfl 0 0 i rfl fA_nq2 rfl rfl (by omega) (by omega) rfl ((nq2, .inl (cI, i + 1, .inl (upd e2 i (nI q)))) :: (am, .inl (cI, i, .inl e)) :: (nm, .inl (cI, n, .inl g)) :: (s 0, .inr (2, [.int r, .int y, .ref (s 1), .ref (s 2)])) :: (s 1, .inl (cA, n, aq pa)) :: (s 2, .inl (cA, b, aq da)) :: (sR cI 6 pa (rP m0 m1 m2 m3 m4 m5) n ++ sR cI 2 da (rB m6 m7) b)) rfl ?_
                    refine zv_aload C dX2_arguers_108 110 rfl 5 rfl ?_
                    refine zv_astore_n C dX2_arguers_110 111 rfl [(3, .ref nq2), (0, .ref (s 0)), (1, .int (nI p)), (2, .ref nm), (4, .int (nI q)), (5, .ref nq2), (6, .int (nI i))] (by decide) rfl ?_
                    refine zv_iinc (v := (nI (q + 1))) C dX2_arguers_111 114 rfl [(4, .int (nI (q + 1))), (3, .ref nq2), (0, .ref (s 0)), (1, .int (nI p)), (2, .ref nm), (5, .ref nq2), (6, .int (nI i))] 4 rfl (nI_1 q) (by decide) rfl ?_
                    refine zv_goto C dX2_arguers_114 7 (by decide) ?_
                    refine zn_part (ws' := ((nq2, .inl (cI, i + 1, .inl (upd e2 i (nI q)))) :: (nm, .inl (cI, n, .inl g)) :: (s 0, .inr (2, [.int r, .int y, .ref (s 1), .ref (s 2)])) :: (s 1, .inl (cA, n, aq pa)) :: (s 2, .inl (cA, b, aq da)) :: (sR cI 6 pa (rP m0 m1 m2 m3 m4 m5) n ++ sR cI 2 da (rB m6 m7) b))) (List.Sublist.cons_cons _ (List.Sublist.cons _ (List.Sublist.refl _))) ?_
                    refine zv_sub [2, 3, 4, 1, 0] (lv' := [(0, .ref (s 0)), (1, .int (nI p)), (2, .ref nm), (3, .ref nq2), (4, .int (nI (q + 1)))]) rfl ?_
                    exact ih_LP nq2 (q + 1) (i + 1) _ _ _ _ (hAO.yes hyes he2) (by omega) fr_nq2 (by omega) (by omega) (by omega)
                  ·
                    have hi2 : i < c := zn_le' (by omega) (by omega) hi
                    refine zv_aload C dX2_arguers_86 88 rfl 5 rfl ?_
                    refine zv_iload C dX2_arguers_88 90 rfl 6 rfl ?_
                    refine zv_aload_n C dX2_arguers_90 91 rfl 3 rfl ?_
                    refine zv_iload C dX2_arguers_91 93 rfl 6 rfl ?_
                    refine zv_iald (v := (e i)) C dX2_arguers_93 94 rfl 1 0 i rfl rfl rfl (by omega) (by omega) rfl ?_
                    refine zn_iast (x' := (e i)) C dX2_arguers_94 95 rfl 0 0 i rfl fA_nq2 rfl rfl (by omega) (by omega) rfl ((nq2, .inl (cI, c + 1, .inl (upd e2 i (e i)))) :: (am, .inl (cI, c, .inl e)) :: (nm, .inl (cI, n, .inl g)) :: (s 0, .inr (2, [.int r, .int y, .ref (s 1), .ref (s 2)])) :: (s 1, .inl (cA, n, aq pa)) :: (s 2, .inl (cA, b, aq da)) :: (sR cI 6 pa (rP m0 m1 m2 m3 m4 m5) n ++ sR cI 2 da (rB m6 m7) b)) rfl ?_
                    refine zv_iinc (v := (nI (i + 1))) C dX2_arguers_95 98 rfl [(6, .int (nI (i + 1))), (0, .ref (s 0)), (1, .int (nI p)), (2, .ref nm), (3, .ref am), (4, .int (nI q)), (5, .ref nq2)] 6 rfl (nI_1 i) (by decide) rfl ?_
                    refine zv_goto C dX2_arguers_98 79 (by decide) ?_
                    refine zv_sub [1, 2, 3, 4, 5, 6, 0] (lv' := [(0, .ref (s 0)), (1, .int (nI p)), (2, .ref nm), (3, .ref am), (4, .int (nI q)), (5, .ref nq2), (6, .int (nI (i + 1)))]) rfl ?_
                    exact ih_CP (i + 1) _ (fun j hj => by
                      by_cases z : j = i
                      · subst z; exact upd_at _ _ _
                      · rw [upd_ne _ _ _ z]; exact he2 j (by omega)) (by omega) (by omega)
              refine zv_go rfl (lv' := [(6, .int (nI 0)), (5, .ref nq2), (0, .ref (s 0)), (1, .int (nI p)), (2, .ref nm), (3, .ref am), (4, .int (nI q))]) rfl rfl rfl rfl ?_
              refine zv_sub [2, 3, 4, 5, 6, 1, 0] (lv' := [(0, .ref (s 0)), (1, .int (nI p)), (2, .ref nm), (3, .ref am), (4, .int (nI q)), (5, .ref nq2), (6, .int (nI 0))]) rfl ?_
              exact CP (c + 1) 0 z0 (fun j hj => absurd hj (Nat.not_lt_zero j)) (by omega) (by omega)
            ·
              have hno : arB m0 m1 m3 m5 g p q = false := (by simp [arB, heq]; intro _; exact zb_eq0.mp cz)
              refine zv_goto C dX2_arguers_42 111 (by decide) ?_
              refine zv_iinc (v := (nI (q + 1))) C dX2_arguers_111 114 rfl [(4, .int (nI (q + 1))), (0, .ref (s 0)), (1, .int (nI p)), (2, .ref nm), (3, .ref am)] 4 rfl (nI_1 q) (by decide) rfl ?_
              refine zv_goto C dX2_arguers_114 7 (by decide) ?_
              refine zv_sub [1, 2, 3, 4, 0] (lv' := [(0, .ref (s 0)), (1, .int (nI p)), (2, .ref nm), (3, .ref am), (4, .int (nI (q + 1)))]) rfl ?_
              exact ih_LP am (q + 1) c e o kc ns (hAO.no hno) (by omega) fr (by omega) (by omega) (by omega)
  refine zv_iconst (v := 0) C dX2_arguers_0 1 rfl (by decide) ?_
  refine zn_newa (atype := .int) C (fun _ _ => trivial) arint rfl dX2_arguers_1 3 rfl (N' := 0) (a0 := (0, .inl z0)) (fun cA => rfl) 0 rfl (fun h => h) (by decide) (by decide) (by decide) (by show 0 + 1 ≤ 17; omega) (by show 0 + 0 ≤ 272; omega) (fun nq3 fr_nq3 => ?_)
  refine zv_go rfl rfl (st' := [.ref nq3]) rfl (kc' := 1) rfl (ns' := 0) rfl ?_
  have fA_nq3 := hAq nq3 fr_nq3
  refine zv_astore_n C dX2_arguers_3 4 rfl [(3, .ref nq3), (0, .ref (s 0)), (1, .int (nI p)), (2, .ref nm)] (by decide) rfl ?_
  refine zv_iconst (v := 0) C dX2_arguers_4 5 rfl (by decide) ?_
  refine zv_istore C dX2_arguers_5 7 rfl [(4, .int 0), (3, .ref nq3), (0, .ref (s 0)), (1, .int (nI p)), (2, .ref nm)] (by decide) rfl ?_
  refine zv_go rfl (lv' := [(4, .int (nI 0)), (3, .ref nq3), (0, .ref (s 0)), (1, .int (nI p)), (2, .ref nm)]) rfl rfl rfl rfl ?_
  refine zv_sub [2, 3, 4, 1, 0] (lv' := [(0, .ref (s 0)), (1, .int (nI p)), (2, .ref nm), (3, .ref nq3), (4, .int (nI 0))]) rfl ?_
  exact LP (n + 1) nq3 0 0 z0 (fun _ => 0) _ _ AO.zero (by omega) fr_nq3 (by show 0 + 1 + (n - 0) ≤ 17; omega) (by show 0 + 0 + 17 * (n - 0) ≤ 272; omega) (by omega)
