/-! ===== isSame ===== -/
theorem zb_or0 (b c : Bool) (h : c = false) : zb b ||| 0 = zb (b || c) := by subst h; cases b <;> decide
theorem zb_or1 (b c : Bool) (h : c = true) : zb b ||| 1 = zb (b || c) := by subst h; cases b <;> decide
theorem arB_arf {m0 m1 m3 m5 g : Nat → Int32} {p q : Nat} (h5 : m5 p = 0) (hv : g q = -1 ∨ ∃ a, a ≤ 9 ∧ g q = nI a) : arB m0 m1 m3 m5 g p q = true ↔ arf m0 m1 m3 g p q := by
  by_cases e : q = p
  · subst e; unfold arB arf; simp [h5]
  · have ea : arB m0 m1 m3 m5 g p q = (decide (m0 q = nI p) && !decide (g q < 0)) := by
      unfold arB
      rw [decide_eq_true h5, Bool.true_and, if_neg e]
    rw [ea, Bool.and_eq_true, decide_eq_true_eq, Bool.not_eq_true', decide_eq_false_iff_not]
    constructor
    · rintro ⟨x1, x2⟩
      exact Or.inr ⟨e, x1, fun z => x2 (by rw [z]; decide)⟩
    · rintro (⟨z, _⟩ | ⟨_, x1, x2⟩)
      · exact absurd z e
      · exact ⟨x1, fun z => x2 ((nm_lt0 hv).mp z)⟩
theorem dd_eq {n b : Nat} {r : Int32} {m0 m1 m2 m3 m4 m5 m6 m7 : Nat → Int32} (hV : LV n b r m0 m1 m2 m3 m4 m5 m6 m7) {p c : Nat} (hp : p < n) {g2 e : Nat → Int32} {o : Nat → Nat} (hg : ∀ q, q < n → g2 q = nmS n m0 m1 m2 m3 m5 r q) (hA : AO (arB m0 m1 m3 m5 g2 p) n c e o) : anb (fun j => !decide (nmf m2 g2 p (o j) = nmf m2 g2 p (o 0))) c = agD m0 m1 m2 m3 m5 (nmS n m0 m1 m2 m3 m5 r) p n := by
  obtain ⟨d, s, hD⟩ := hV.dep
  have hn := hV.n16
  have hv : ∀ q, q < n → g2 q = -1 ∨ ∃ a, a ≤ 9 ∧ g2 q = nI a := fun q hq => by rw [hg q hq]; exact hV.nv hq
  have hfe : ∀ i, i < n → nmf m2 g2 p i = nmf m2 (nmS n m0 m1 m2 m3 m5 r) p i := fun i hi => by unfold nmf; split <;> first | rfl | exact hg i hi
  have hma := (hV.ma hp).2.2
  have hpos : ∀ j, j < n → arf m0 m1 m3 (nmS n m0 m1 m2 m3 m5 r) p j → -1 < stf m3 (sol n m0 m1 m2 m3 m5 r).1 (sol n m0 m1 m2 m3 m5 r).2.1 r p j := fun j hj _ => by
    unfold stf wor
    by_cases e : j = p
    · rw [if_pos e]
      by_cases z : r = 0
      · rw [if_pos z]
        obtain ⟨_, a, ha2, e2⟩ := hV.wat p hp
        rw [e2]; exact m1_lt_nI (by omega)
      · rw [if_neg z]; decide
    · rw [if_neg e]
      obtain ⟨x1, hx1, ex1⟩ := hV.wv hj
      obtain ⟨x2, hx2, ex2⟩ := hV.lv hj
      split
      · rw [ex1]; exact m1_lt_nI (by omega)
      · rw [ex2]; exact m1_lt_nI (by omega)
  rw [← agD_congr (g := g2) hp (fun i hi => hg i hi)]
  rw [Bool.eq_iff_iff, anb_iff, agD_iff hD hn hp]
  by_cases h5 : m5 p = 0
  · unfold nmd at hma
    rw [if_neg (fun z => z h5)] at hma
    have har : ∀ q, q < n → (arB m0 m1 m3 m5 g2 p q = true ↔ arf m0 m1 m3 g2 p q) := fun q hq => arB_arf h5 (hv q hq)
    have harN : ∀ q, q < n → (arf m0 m1 m3 g2 p q ↔ arf m0 m1 m3 (nmS n m0 m1 m2 m3 m5 r) p q) := fun q hq => by unfold arf; rw [hg q hq]
    rcases mN_MI (nm := m2) hD hn hp hpos n (Nat.le_refl n) with ⟨k1, k2⟩ | ⟨i', k1, k2⟩
    · constructor
      · rintro ⟨j, hj, -⟩
        have := hA.2.1 j hj
        exact absurd ((harN _ this.2.1).mp ((har _ this.2.1).mp this.2.2)) (k1 _ this.2.1)
      · rintro ⟨-, i, hi, ha, -⟩
        exact absurd ((harN _ hi).mp ha) (k1 i hi)
    · have hi' : i' < n := k1.1
      have hai : arB m0 m1 m3 m5 g2 p i' = true := (har i' hi').mpr ((harN i' hi').mpr k1.2.1)
      have e1 : g2 p = nmf m2 g2 p i' := by
        rw [hg p hp, hma, k2, hfe i' hi']
      obtain ⟨ki, hki, eki⟩ := hA.2.2.1 i' hi' hai
      have h0 : 0 < c := by omega
      have ho0 := hA.2.1 0 h0
      constructor
      · rintro ⟨j, hj, hne⟩
        simp only [Bool.not_eq_true', decide_eq_false_iff_not] at hne
        have hoj := hA.2.1 j hj
        refine ⟨h5, ?_⟩
        by_cases z : nmf m2 g2 p (o j) = g2 p
        · exact ⟨o 0, ho0.2.1, (har _ ho0.2.1).mp ho0.2.2, fun y => hne (z.trans y.symm)⟩
        · exact ⟨o j, hoj.2.1, (har _ hoj.2.1).mp hoj.2.2, z⟩
      · rintro ⟨-, i, hi, ha, hne⟩
        obtain ⟨k, hk, ek⟩ := hA.2.2.1 i hi ((har i hi).mpr ha)
        by_cases z : nmf m2 g2 p (o 0) = g2 p
        · refine ⟨k, hk, ?_⟩
          simp only [Bool.not_eq_true', decide_eq_false_iff_not]
          rw [ek, z]; exact hne
        · refine ⟨ki, hki, ?_⟩
          simp only [Bool.not_eq_true', decide_eq_false_iff_not]
          rw [eki, ← e1]; exact fun y => z y.symm
  · constructor
    · rintro ⟨j, hj, -⟩
      have := (hA.2.1 j hj).2.2
      unfold arB at this
      rw [decide_eq_false h5] at this
      cases this
    · rintro ⟨z, -⟩; exact absurd z h5
abbrev rmX2_isSame : Room := { frames := 8, cells := 4700, slots := 75000, locals := 200 }
set_option maxHeartbeats 4000000 in
set_option maxRecDepth 100000 in
theorem k_X2_isSame (l : Launch) (D : va_G) (cI cZ cA : ClassId) {a n b : Nat} {r y : Int32} {m0 m1 m2 m3 m4 m5 m6 m7 : Nat → Int32} {w : va_W} (hR : zR cI cZ a n b r y m0 m1 m2 m3 m4 m5 m6 m7 w) (s pa da : Nat → Nat) : zv_RX (va_AOA .int) l yX2_isSame wsX2_isSame rmX2_isSame D vwCl (tyS cI cZ cA) [.ref (s 0), .ref a] ((s 0, .inr (2, [.int r, .int y, .ref (s 1), .ref (s 2)])) :: (s 1, .inl (cA, n, aq pa)) :: (s 2, .inl (cA, b, aq da)) :: (sR cI 6 pa (rP m0 m1 m2 m3 m4 m5) n ++ (sR cI 2 da (rB m6 m7) b ++ w))) (fun v => v = some (.int 1)) := by
  refine zv_RX.of cX2_isSame 19 (some .boolean) (by decide) rfl (Nat.le_of_ble_eq_true rfl) ?_
  intro pP eE sS mM aA bB mT cD A C hr hlk hA hO Q hQ
  have hAq : ∀ q : Nat, sS.heap.size ≤ q → A q := C.2
  have inX2 : ∀ w ∈ u_ws RX2 TX2 4, w ∈ wsX2_isSame := by decide +kernel
  have lk9 : Cond.fieldLink RX2 9 "RiverNamesLaw$Sim" "places" "[[I" ∈ wsX2_isSame := by decide +kernel
  have arint : Cond.arrayClass .int ∈ wsX2_isSame := by decide +kernel
  have lk15 : Cond.fieldLink RX2 15 "RiverNamesLaw$Sim" "bridges" "[[I" ∈ wsX2_isSame := by decide +kernel
  have lk23 : Cond.fieldLink RX2 23 "RiverNamesLaw$Sim" "year" "I" ∈ wsX2_isSame := by decide +kernel
  refine zv_go (pc' := 0) rfl (lv' := [(0, .ref (s 0)), (1, .ref a)]) rfl rfl rfl rfl ?_
  have hV := hR.lv
  have hn16 : n ≤ 16 := hV.n16
  have hb16 : b ≤ 16 := hV.b16
  obtain ⟨fs, hrc⟩ := hR.recv
  obtain ⟨d, sD, hD⟩ := hV.dep
  refine zv_aload_n C dX2_isSame_0 1 rfl 0 rfl ?_
  refine zn_callNV (rest := []) C zn_OB (zn_OE hO) (k_X2_flow l D cI cZ cA y hV s pa da) (cwV 0 C.1.2.2.2.2 gX2_isSame_X2_flow rfl rfl rfl (by decide +kernel) ⟨Nat.le_of_ble_eq_true rfl, Nat.le_of_ble_eq_true rfl⟩) dX2_isSame_1 4 rfl (ci := 2) rfl 0 rfl rfl rfl (Nat.le_of_ble_eq_true rfl) ⟨(by show 0 + 4400 ≤ 4700; omega), (by show 0 + 70000 ≤ 75000; omega)⟩ [0, 1, 2] rfl (List.Sublist.cons_cons _ (List.Sublist.cons_cons _ (List.Sublist.cons_cons _ (List.Sublist.append (List.Sublist.refl _) (List.sublist_append_left _ _))))) (fun _ _ => trivial) (fun v w1 hv hw1 => ?_)
  obtain ⟨fo, g0, g1, g2, rfl, rfl, hg⟩ := hv
  refine zv_wd (ws' := ((fo, .inl (cA, 3, aq (fun i => fo + 1 + i))) :: (fo + 1, .inl (cI, n, .inl g0)) :: (fo + 2, .inl (cI, n, .inl g1)) :: (fo + 3, .inl (cI, n, .inl g2)) :: (s 0, .inr (2, [.int r, .int y, .ref (s 1), .ref (s 2)])) :: (s 1, .inl (cA, n, aq pa)) :: (s 2, .inl (cA, b, aq da)) :: (sR cI 6 pa (rP m0 m1 m2 m3 m4 m5) n ++ (sR cI 2 da (rB m6 m7) b ++ w)))) rfl ?_
  refine zv_go rfl rfl (st' := [.ref fo]) rfl (kc' := 4400) rfl (ns' := 70000) rfl ?_
  refine zv_astore_n C dX2_isSame_4 5 rfl [(2, .ref fo), (0, .ref (s 0)), (1, .ref a)] (by decide) rfl ?_
  refine zv_aload_n C dX2_isSame_5 6 rfl 0 rfl ?_
  refine zv_iconst (v := 2) C dX2_isSame_6 7 rfl (by decide) ?_
  refine zn_aald (r := fo + 3) C dX2_isSame_7 8 rfl 0 2 2 rfl rfl (by decide) (by omega) (by omega) rfl ?_
  refine zv_astore_n C dX2_isSame_8 9 rfl [(3, .ref (fo + 3)), (2, .ref fo), (0, .ref (s 0)), (1, .ref a)] (by decide) rfl ?_
  refine zv_aload_n C dX2_isSame_9 10 rfl 2 rfl ?_
  refine zv_get (ci := 2) C inX2 rfl dX2_isSame_10 13 rfl 4 2 rfl (by decide) lk9 rfl ?_
  refine zv_alen (v := (nI n)) C dX2_isSame_13 14 rfl 5 2 rfl rfl rfl ?_
  refine zv_istore C dX2_isSame_14 16 rfl [(4, .int (nI n)), (3, .ref (fo + 3)), (2, .ref fo), (0, .ref (s 0)), (1, .ref a)] (by decide) rfl ?_
  refine zv_bipush (v := 10) C dX2_isSame_16 18 rfl (by decide) ?_
  refine zn_newa (atype := .int) C (fun _ _ => trivial) arint rfl dX2_isSame_18 20 rfl (N' := 10) (a0 := (10, .inl z0)) (fun cA => rfl) 0 rfl (fun h => h) (by decide) (by decide) (by decide) (by show 4400 + 1 ≤ 4700; omega) (by show 70000 + 10 ≤ 75000; omega) (fun my fr_my => ?_)
  refine zv_go rfl rfl (st' := [.ref my]) rfl (kc' := 4401) rfl (ns' := 70010) rfl ?_
  have fA_my := hAq my fr_my
  refine zv_astore C dX2_isSame_20 22 rfl [(5, .ref my), (4, .int (nI n)), (3, .ref (fo + 3)), (2, .ref fo), (0, .ref (s 0)), (1, .ref a)] (by decide) rfl ?_
  refine zv_iconst (v := 0) C dX2_isSame_22 23 rfl (by decide) ?_
  refine zv_istore C dX2_isSame_23 25 rfl [(6, .int 0), (5, .ref my), (4, .int (nI n)), (3, .ref (fo + 3)), (2, .ref fo), (0, .ref (s 0)), (1, .ref a)] (by decide) rfl ?_
  refine zv_iconst (v := 0) C dX2_isSame_25 26 rfl (by decide) ?_
  refine zv_istore C dX2_isSame_26 28 rfl [(7, .int 0), (6, .int 0), (5, .ref my), (4, .int (nI n)), (3, .ref (fo + 3)), (2, .ref fo), (0, .ref (s 0)), (1, .ref a)] (by decide) rfl ?_
  refine zv_iconst (v := 0) C dX2_isSame_28 29 rfl (by decide) ?_
  refine zv_istore C dX2_isSame_29 31 rfl [(8, .int 0), (7, .int 0), (6, .int 0), (5, .ref my), (4, .int (nI n)), (3, .ref (fo + 3)), (2, .ref fo), (0, .ref (s 0)), (1, .ref a)] (by decide) rfl ?_
  refine zv_iconst (v := 0) C dX2_isSame_31 32 rfl (by decide) ?_
  refine zv_istore C dX2_isSame_32 34 rfl [(9, .int 0), (8, .int 0), (7, .int 0), (6, .int 0), (5, .ref my), (4, .int (nI n)), (3, .ref (fo + 3)), (2, .ref fo), (0, .ref (s 0)), (1, .ref a)] (by decide) rfl ?_
  have hinN : inN m6 m7 g2 b = inN m6 m7 (nmS n m0 m1 m2 m3 m5 r) b := inN_congr hn16 hV.brg (fun i hi => (hg i hi).2.2)
  have PL : ∀ (mu_PL : Nat), ∀ (p : Nat) (gm : Nat → Int32) (mc : Nat) (ms : Int32) (kc ns : Nat), (∀ k, k < 10 → gm k = nI (cnt (nmS n m0 m1 m2 m3 m5 r) (nI k) p)) → (mmS m0 (sol n m0 m1 m2 m3 m5 r).1 p = (mc, ms)) → (p ≤ n) → (kc + 17 * (n - p) ≤ 4700) → (ns + 272 * (n - p) ≤ 75000) → n - p < mu_PL → zv_V pP l eE rmX2_isSame sS mM aA bB mT cD Q 19 D vwCl A (fun _ => True) (tyS cI cZ cA) ((my, .inl (cI, 10, .inl gm)) :: (fo, .inl (cA, 3, aq (fun i => fo + 1 + i))) :: (fo + 1, .inl (cI, n, .inl g0)) :: (fo + 2, .inl (cI, n, .inl g1)) :: (fo + 3, .inl (cI, n, .inl g2)) :: (s 0, .inr (2, [.int r, .int y, .ref (s 1), .ref (s 2)])) :: (s 1, .inl (cA, n, aq pa)) :: (s 2, .inl (cA, b, aq da)) :: (sR cI 6 pa (rP m0 m1 m2 m3 m4 m5) n ++ (sR cI 2 da (rB m6 m7) b ++ w))) kc ns 34 [(0, .ref (s 0)), (1, .ref a), (2, .ref fo), (3, .ref (fo + 3)), (4, .int (nI n)), (5, .ref my), (6, .int (nI (cnt (nmS n m0 m1 m2 m3 m5 r) (-1) p))), (7, .int (nI mc)), (8, .int ms), (9, .int (nI p))] [] := by
    intro mu_PL
    induction mu_PL with
    | zero => intro p gm mc ms kc ns hgm hms hp hkc hns hmu_PL; exact absurd hmu_PL (Nat.not_lt_zero _)
    | succ mu_PL ih_PL =>
      intro p gm mc ms kc ns hgm hms hp hkc hns hmu_PL
      refine zv_iload C dX2_isSame_34 36 rfl 9 rfl ?_
      refine zv_iload C dX2_isSame_36 38 rfl 4 rfl ?_
      refine zv_icmp_ge C dX2_isSame_38 41 485 rfl (by decide) (fun cp => ?_) (fun cp => ?_)
      ·
        have e1 : n = p := by have := zn_le (by omega) (by omega) cp; omega
        subst e1
        clear ih_PL
        refine zv_iconst (v := (-1 : Int32)) C dX2_isSame_485 486 rfl (by decide) ?_
        refine zv_istore C dX2_isSame_486 488 rfl [(9, .int (-1 : Int32)), (0, .ref (s 0)), (1, .ref a), (2, .ref fo), (3, .ref (fo + 3)), (4, .int (nI n)), (5, .ref my), (6, .int (nI (cnt (nmS n m0 m1 m2 m3 m5 r) (-1) n))), (7, .int (nI mc)), (8, .int ms)] (by decide) rfl ?_
        refine zv_bipush (v := 9) C dX2_isSame_488 490 rfl (by decide) ?_
        refine zv_istore C dX2_isSame_490 492 rfl [(10, .int 9), (9, .int (-1 : Int32)), (0, .ref (s 0)), (1, .ref a), (2, .ref fo), (3, .ref (fo + 3)), (4, .int (nI n)), (5, .ref my), (6, .int (nI (cnt (nmS n m0 m1 m2 m3 m5 r) (-1) n))), (7, .int (nI mc)), (8, .int ms)] (by decide) rfl ?_
        have GL : ∀ (mu_GL : Nat), ∀ (j : Nat) (gr : Int32), (GR (nmS n m0 m1 m2 m3 m5 r) n j gr) → (j ≤ 10) → j < mu_GL → zv_V pP l eE rmX2_isSame sS mM aA bB mT cD Q 19 D vwCl A (fun _ => True) (tyS cI cZ cA) ((my, .inl (cI, 10, .inl gm)) :: (fo, .inl (cA, 3, aq (fun i => fo + 1 + i))) :: (fo + 1, .inl (cI, n, .inl g0)) :: (fo + 2, .inl (cI, n, .inl g1)) :: (fo + 3, .inl (cI, n, .inl g2)) :: (s 0, .inr (2, [.int r, .int y, .ref (s 1), .ref (s 2)])) :: (s 1, .inl (cA, n, aq pa)) :: (s 2, .inl (cA, b, aq da)) :: (sR cI 6 pa (rP m0 m1 m2 m3 m4 m5) n ++ (sR cI 2 da (rB m6 m7) b ++ w))) kc ns 492 [(0, .ref (s 0)), (1, .ref a), (2, .ref fo), (3, .ref (fo + 3)), (4, .int (nI n)), (5, .ref my), (6, .int (nI (cnt (nmS n m0 m1 m2 m3 m5 r) (-1) n))), (7, .int (nI mc)), (8, .int ms), (9, .int gr), (10, .int (nI j - 1))] [] := by
          intro mu_GL
          induction mu_GL with
          | zero => intro j gr hG hj hmu_GL; exact absurd hmu_GL (Nat.not_lt_zero _)
          | succ mu_GL ih_GL =>
            intro j gr hG hj hmu_GL
            refine zv_iload C dX2_isSame_492 494 rfl 10 rfl ?_
            cases j with
            | zero =>
              refine zv_if_lt C dX2_isSame_494 497 549 rfl (by decide) (fun _ => ?_) (fun c => absurd (by decide) c)
              have heqG := hG.last
              refine zv_iconst (v := 0) C dX2_isSame_549 550 rfl (by decide) ?_
              refine zv_istore C dX2_isSame_550 552 rfl [(10, .int 0), (0, .ref (s 0)), (1, .ref a), (2, .ref fo), (3, .ref (fo + 3)), (4, .int (nI n)), (5, .ref my), (6, .int (nI (cnt (nmS n m0 m1 m2 m3 m5 r) (-1) n))), (7, .int (nI mc)), (8, .int ms), (9, .int gr)] (by decide) rfl ?_
              have HL : ∀ (mu_HL : Nat), ∀ (k : Nat), (k ≤ b) → b - k < mu_HL → zv_V pP l eE rmX2_isSame sS mM aA bB mT cD Q 19 D vwCl A (fun _ => True) (tyS cI cZ cA) ((my, .inl (cI, 10, .inl gm)) :: (fo, .inl (cA, 3, aq (fun i => fo + 1 + i))) :: (fo + 1, .inl (cI, n, .inl g0)) :: (fo + 2, .inl (cI, n, .inl g1)) :: (fo + 3, .inl (cI, n, .inl g2)) :: (s 0, .inr (2, [.int r, .int y, .ref (s 1), .ref (s 2)])) :: (s 1, .inl (cA, n, aq pa)) :: (s 2, .inl (cA, b, aq da)) :: (sR cI 6 pa (rP m0 m1 m2 m3 m4 m5) n ++ (sR cI 2 da (rB m6 m7) b ++ w))) kc ns 552 [(0, .ref (s 0)), (1, .ref a), (2, .ref fo), (3, .ref (fo + 3)), (4, .int (nI n)), (5, .ref my), (6, .int (nI (cnt (nmS n m0 m1 m2 m3 m5 r) (-1) n))), (7, .int (nI mc)), (8, .int ms), (9, .int gr), (10, .int (nI k))] [] := by
                intro mu_HL
                induction mu_HL with
                | zero => intro k hk hmu_HL; exact absurd hmu_HL (Nat.not_lt_zero _)
                | succ mu_HL ih_HL =>
                  intro k hk hmu_HL
                  refine zv_iload C dX2_isSame_552 554 rfl 10 rfl ?_
                  refine zv_aload_n C dX2_isSame_554 555 rfl 0 rfl ?_
                  refine zv_get (ci := 2) C inX2 rfl dX2_isSame_555 558 rfl 5 3 rfl (by decide) lk15 rfl ?_
                  refine zv_alen (v := (nI b)) C dX2_isSame_558 559 rfl 7 2 rfl rfl rfl ?_
                  refine zv_icmp_ge C dX2_isSame_559 562 655 rfl (by decide) (fun ck => ?_) (fun ck => ?_)
                  ·
                    have e1 : b = k := by have := zn_le (by omega) (by omega) ck; omega
                    subst e1
                    refine zv_aload_n C dX2_isSame_655 656 rfl 1 rfl ?_
                    refine zn_callRV (rest := []) C zn_TB zn_TE (zn_ofR (w_year l D hR)) (cwV 0 C.1.2.2.2.2 gX2_isSame_X1_year rfl rfl rfl (by decide +kernel) ⟨Nat.le_of_ble_eq_true rfl, Nat.le_of_ble_eq_true rfl⟩) dX2_isSame_656 659 rfl (ci := 1) rfl 0 hrc rfl rfl (Nat.le_of_ble_eq_true rfl) ⟨(by show kc + 0 ≤ 4700; omega), (by show ns + 0 ≤ 75000; omega)⟩ [0, 1] rfl (List.Sublist.cons _ (List.Sublist.cons _ (List.Sublist.cons _ (List.Sublist.cons _ (List.Sublist.cons _ (List.Sublist.cons _ (List.Sublist.cons _ (List.Sublist.cons _ ((List.sublist_append_right _ _).trans (List.sublist_append_right _ _)))))))))) (fun v hv => ?_)
                    subst hv
                    refine zv_go rfl rfl (st' := [.int y]) rfl (kc' := kc) rfl (ns' := ns) rfl ?_
                    refine zv_aload_n C dX2_isSame_659 660 rfl 0 rfl ?_
                    refine zv_get (ci := 2) C inX2 rfl dX2_isSame_660 663 rfl 5 1 rfl (by decide) lk23 rfl ?_
                    refine zv_icmp_ne C dX2_isSame_663 666 745 rfl (by decide) (fun c => absurd c (fun c => c rfl)) (fun _ => ?_)
                    refine zv_aload_n C dX2_isSame_666 667 rfl 1 rfl ?_
                    refine zn_callRV (rest := []) C zn_TB zn_TE (zn_ofR (w_places l D hR)) (cwV 0 C.1.2.2.2.2 gX2_isSame_X1_places rfl rfl rfl (by decide +kernel) ⟨Nat.le_of_ble_eq_true rfl, Nat.le_of_ble_eq_true rfl⟩) dX2_isSame_667 670 rfl (ci := 1) rfl 0 hrc rfl rfl (Nat.le_of_ble_eq_true rfl) ⟨(by show kc + 0 ≤ 4700; omega), (by show ns + 0 ≤ 75000; omega)⟩ [0, 1] rfl (List.Sublist.cons _ (List.Sublist.cons _ (List.Sublist.cons _ (List.Sublist.cons _ (List.Sublist.cons _ (List.Sublist.cons _ (List.Sublist.cons _ (List.Sublist.cons _ ((List.sublist_append_right _ _).trans (List.sublist_append_right _ _)))))))))) (fun v hv => ?_)
                    subst hv
                    refine zv_go rfl rfl (st' := [.int (nI n)]) rfl (kc' := kc) rfl (ns' := ns) rfl ?_
                    refine zv_iload C dX2_isSame_670 672 rfl 4 rfl ?_
                    refine zv_icmp_ne C dX2_isSame_672 675 745 rfl (by decide) (fun c => absurd c (fun c => c rfl)) (fun _ => ?_)
                    refine zv_aload_n C dX2_isSame_675 676 rfl 1 rfl ?_
                    refine zn_callRV (rest := []) C zn_TB zn_TE (zn_ofR (w_bridges l D hR)) (cwV 0 C.1.2.2.2.2 gX2_isSame_X1_bridges rfl rfl rfl (by decide +kernel) ⟨Nat.le_of_ble_eq_true rfl, Nat.le_of_ble_eq_true rfl⟩) dX2_isSame_676 679 rfl (ci := 1) rfl 0 hrc rfl rfl (Nat.le_of_ble_eq_true rfl) ⟨(by show kc + 0 ≤ 4700; omega), (by show ns + 0 ≤ 75000; omega)⟩ [0, 1] rfl (List.Sublist.cons _ (List.Sublist.cons _ (List.Sublist.cons _ (List.Sublist.cons _ (List.Sublist.cons _ (List.Sublist.cons _ (List.Sublist.cons _ (List.Sublist.cons _ ((List.sublist_append_right _ _).trans (List.sublist_append_right _ _)))))))))) (fun v hv => ?_)
                    subst hv
                    refine zv_go rfl rfl (st' := [.int (nI b)]) rfl (kc' := kc) rfl (ns' := ns) rfl ?_
                    refine zv_aload_n C dX2_isSame_679 680 rfl 0 rfl ?_
                    refine zv_get (ci := 2) C inX2 rfl dX2_isSame_680 683 rfl 5 3 rfl (by decide) lk15 rfl ?_
                    refine zv_alen (v := (nI b)) C dX2_isSame_683 684 rfl 7 2 rfl rfl rfl ?_
                    refine zv_icmp_ne C dX2_isSame_684 687 745 rfl (by decide) (fun c => absurd c (fun c => c rfl)) (fun _ => ?_)
                    refine zv_aload_n C dX2_isSame_687 688 rfl 1 rfl ?_
                    refine zn_callRV (rest := []) C zn_TB zn_TE (zn_ofR (w_insults l D hR)) (cwV 0 C.1.2.2.2.2 gX2_isSame_X1_insults rfl rfl rfl (by decide +kernel) ⟨Nat.le_of_ble_eq_true rfl, Nat.le_of_ble_eq_true rfl⟩) dX2_isSame_688 691 rfl (ci := 1) rfl 0 hrc rfl rfl (Nat.le_of_ble_eq_true rfl) ⟨(by show kc + 0 ≤ 4700; omega), (by show ns + 0 ≤ 75000; omega)⟩ [0, 1] rfl (List.Sublist.cons _ (List.Sublist.cons _ (List.Sublist.cons _ (List.Sublist.cons _ (List.Sublist.cons _ (List.Sublist.cons _ (List.Sublist.cons _ (List.Sublist.cons _ ((List.sublist_append_right _ _).trans (List.sublist_append_right _ _)))))))))) (fun v hv => ?_)
                    subst hv
                    refine zv_go rfl rfl (st' := [.int (nI (inN m6 m7 (nmS n m0 m1 m2 m3 m5 r) b))]) rfl (kc' := kc) rfl (ns' := ns) rfl ?_
                    refine zv_aload_n C dX2_isSame_691 692 rfl 0 rfl ?_
                    refine zv_aload_n C dX2_isSame_692 693 rfl 3 rfl ?_
                    refine zn_callRV (rest := [.int (nI (inN m6 m7 (nmS n m0 m1 m2 m3 m5 r) b))]) C zn_TB zn_TE (zn_ofR (k_X2_insults l D cI cZ cA y hV s pa da (fo + 3) g2)) (cwV 1 C.1.2.2.2.2 gX2_isSame_X2_insults rfl rfl rfl (by decide +kernel) ⟨Nat.le_of_ble_eq_true rfl, Nat.le_of_ble_eq_true rfl⟩) dX2_isSame_693 696 rfl (ci := 2) rfl 1 rfl rfl rfl (Nat.le_of_ble_eq_true rfl) ⟨(by show kc + 0 ≤ 4700; omega), (by show ns + 0 ≤ 75000; omega)⟩ [0, 1, 2] rfl (List.Sublist.cons _ (List.Sublist.cons _ (List.Sublist.cons _ (List.Sublist.cons _ (List.Sublist.cons_cons _ (List.Sublist.cons_cons _ (List.Sublist.cons_cons _ (List.Sublist.cons_cons _ (List.Sublist.append (List.Sublist.refl _) (List.sublist_append_left _ _)))))))))) (fun v hv => ?_)
                    subst hv
                    refine zv_go rfl rfl (st' := [.int (nI (inN m6 m7 g2 b)), .int (nI (inN m6 m7 (nmS n m0 m1 m2 m3 m5 r) b))]) rfl (kc' := kc) rfl (ns' := ns) rfl ?_
                    refine zv_icmp_ne C dX2_isSame_696 699 745 rfl (by decide) (fun c => absurd c (fun c => c (by rw [hinN]))) (fun _ => ?_)
                    refine zv_aload_n C dX2_isSame_699 700 rfl 1 rfl ?_
                    refine zn_callRV (rest := []) C zn_TB zn_TE (zn_ofR (w_greatestName l D hR)) (cwV 0 C.1.2.2.2.2 gX2_isSame_X1_greatestName rfl rfl rfl (by decide +kernel) ⟨Nat.le_of_ble_eq_true rfl, Nat.le_of_ble_eq_true rfl⟩) dX2_isSame_700 703 rfl (ci := 1) rfl 0 hrc rfl rfl (Nat.le_of_ble_eq_true rfl) ⟨(by show kc + 0 ≤ 4700; omega), (by show ns + 0 ≤ 75000; omega)⟩ [0, 1] rfl (List.Sublist.cons _ (List.Sublist.cons _ (List.Sublist.cons _ (List.Sublist.cons _ (List.Sublist.cons _ (List.Sublist.cons _ (List.Sublist.cons _ (List.Sublist.cons _ ((List.sublist_append_right _ _).trans (List.sublist_append_right _ _)))))))))) (fun v hv => ?_)
                    subst hv
                    refine zv_go rfl rfl (st' := [.int (gst (nmS n m0 m1 m2 m3 m5 r) n 10)]) rfl (kc' := kc) rfl (ns' := ns) rfl ?_
                    refine zv_iload C dX2_isSame_703 705 rfl 9 rfl ?_
                    refine zv_icmp_ne C dX2_isSame_705 708 745 rfl (by decide) (fun c => absurd c (fun c => c heqG)) (fun _ => ?_)
                    refine zv_aload_n C dX2_isSame_708 709 rfl 1 rfl ?_
                    refine zn_callRV (rest := []) C zn_TB zn_TE (zn_ofR (w_nameless l D hR)) (cwV 0 C.1.2.2.2.2 gX2_isSame_X1_nameless rfl rfl rfl (by decide +kernel) ⟨Nat.le_of_ble_eq_true rfl, Nat.le_of_ble_eq_true rfl⟩) dX2_isSame_709 712 rfl (ci := 1) rfl 0 hrc rfl rfl (Nat.le_of_ble_eq_true rfl) ⟨(by show kc + 0 ≤ 4700; omega), (by show ns + 0 ≤ 75000; omega)⟩ [0, 1] rfl (List.Sublist.cons _ (List.Sublist.cons _ (List.Sublist.cons _ (List.Sublist.cons _ (List.Sublist.cons _ (List.Sublist.cons _ (List.Sublist.cons _ (List.Sublist.cons _ ((List.sublist_append_right _ _).trans (List.sublist_append_right _ _)))))))))) (fun v hv => ?_)
                    subst hv
                    refine zv_go rfl rfl (st' := [.int (nI (cnt (nmS n m0 m1 m2 m3 m5 r) (-1) n))]) rfl (kc' := kc) rfl (ns' := ns) rfl ?_
                    refine zv_iload C dX2_isSame_712 714 rfl 6 rfl ?_
                    refine zv_icmp_ne C dX2_isSame_714 717 745 rfl (by decide) (fun c => absurd c (fun c => c rfl)) (fun _ => ?_)
                    refine zv_aload_n C dX2_isSame_717 718 rfl 1 rfl ?_
                    refine zn_callRV (rest := []) C zn_TB zn_TE (zn_ofR (w_meanMouth l D hR)) (cwV 0 C.1.2.2.2.2 gX2_isSame_X1_meanMouth rfl rfl rfl (by decide +kernel) ⟨Nat.le_of_ble_eq_true rfl, Nat.le_of_ble_eq_true rfl⟩) dX2_isSame_718 721 rfl (ci := 1) rfl 0 hrc rfl rfl (Nat.le_of_ble_eq_true rfl) ⟨(by show kc + 0 ≤ 4700; omega), (by show ns + 0 ≤ 75000; omega)⟩ [0, 1] rfl (List.Sublist.cons _ (List.Sublist.cons _ (List.Sublist.cons _ (List.Sublist.cons _ (List.Sublist.cons _ (List.Sublist.cons _ (List.Sublist.cons _ (List.Sublist.cons _ ((List.sublist_append_right _ _).trans (List.sublist_append_right _ _)))))))))) (fun v hv => ?_)
                    subst hv
                    refine zv_go rfl rfl (st' := [.double (mmV m0 (sol n m0 m1 m2 m3 m5 r).1 n)]) rfl (kc' := kc) rfl (ns' := ns) rfl ?_
                    refine zv_iload C dX2_isSame_721 723 rfl 7 rfl ?_
                    have hmc := mmS_le m0 (sol n m0 m1 m2 m3 m5 r).1 n
                    rw [hms] at hmc
                    have K : zv_V pP l eE rmX2_isSame sS mM aA bB mT cD Q 19 D vwCl A (fun _ => True) (tyS cI cZ cA) ((my, .inl (cI, 10, .inl gm)) :: (fo, .inl (cA, 3, aq (fun i => fo + 1 + i))) :: (fo + 1, .inl (cI, n, .inl g0)) :: (fo + 2, .inl (cI, n, .inl g1)) :: (fo + 3, .inl (cI, n, .inl g2)) :: (s 0, .inr (2, [.int r, .int y, .ref (s 1), .ref (s 2)])) :: (s 1, .inl (cA, n, aq pa)) :: (s 2, .inl (cA, b, aq da)) :: (sR cI 6 pa (rP m0 m1 m2 m3 m4 m5) n ++ (sR cI 2 da (rB m6 m7) b ++ w))) kc ns 737 [(0, .ref (s 0)), (1, .ref a), (2, .ref fo), (3, .ref (fo + 3)), (4, .int (nI n)), (5, .ref my), (6, .int (nI (cnt (nmS n m0 m1 m2 m3 m5 r) (-1) n))), (7, .int (nI mc)), (8, .int ms), (9, .int gr), (10, .int (nI b))] [.double (mmV m0 (sol n m0 m1 m2 m3 m5 r).1 n), .double (mmV m0 (sol n m0 m1 m2 m3 m5 r).1 n)] := by
                      refine zv_dcmp C dX2_isSame_737 738 rfl ?_
                      refine zv_if_ne C dX2_isSame_738 741 745 rfl (by decide) (fun c => absurd c (fun c => c (mmV_self hn16))) (fun _ => ?_)
                      refine zv_iconst (v := 1) C dX2_isSame_741 742 rfl (by decide) ?_
                      refine zv_goto C dX2_isSame_742 746 (by decide) ?_
                      refine zv_widen (k' := 4700) (n' := 75000) (by omega) (by omega) ?_
                      exact zv_zretR C (by decide) hr hlk hA hQ dX2_isSame_746 rfl
                    refine zv_if_ne C dX2_isSame_723 726 730 rfl (by decide) (fun cm => ?_) (fun cm => ?_)
                    ·
                      have hm0 : ¬ mc = 0 := fun z => cm (by rw [z]; rfl)
                      refine zv_iload C dX2_isSame_730 732 rfl 8 rfl ?_
                      refine zv_i2d C dX2_isSame_732 733 rfl ?_
                      refine zv_iload C dX2_isSame_733 735 rfl 7 rfl ?_
                      refine zv_i2d C dX2_isSame_735 736 rfl ?_
                      refine zv_ddiv C dX2_isSame_736 737 rfl (fq_div ms mc (by have : mc ≤ n := hmc; omega) hm0) ?_
                      refine zv_go rfl rfl (st' := [.double (mmV m0 (sol n m0 m1 m2 m3 m5 r).1 n), .double (mmV m0 (sol n m0 m1 m2 m3 m5 r).1 n)]) (by rw [mmV_q hms hm0]) rfl rfl ?_
                      exact K
                    ·
                      have hm0 : mc = 0 := zn_eq (by have : mc ≤ n := hmc; omega) (by omega) cm
                      refine zv_dconst0 C dX2_isSame_726 727 rfl ?_
                      refine zv_goto C dX2_isSame_727 737 (by decide) ?_
                      refine zv_go rfl rfl (st' := [.double (mmV m0 (sol n m0 m1 m2 m3 m5 r).1 n), .double (mmV m0 (sol n m0 m1 m2 m3 m5 r).1 n)]) (by rw [mmV_0 hms hm0]) rfl rfl ?_
                      exact K
                  ·
                    have hk2 : k < b := zn_le' (by omega) (by omega) ck
                    obtain ⟨q, hq, eq⟩ := hV.brg k hk2
                    refine zv_aload_n C dX2_isSame_562 563 rfl 1 rfl ?_
                    refine zv_iload C dX2_isSame_563 565 rfl 10 rfl ?_
                    refine zn_callRV (rest := []) C zn_TB zn_TE (zn_ofR (w_placeOf l D hR k hk2)) (cwV 1 C.1.2.2.2.2 gX2_isSame_X1_placeOf rfl rfl rfl (by decide +kernel) ⟨Nat.le_of_ble_eq_true rfl, Nat.le_of_ble_eq_true rfl⟩) dX2_isSame_565 568 rfl (ci := 1) rfl 0 hrc rfl rfl (Nat.le_of_ble_eq_true rfl) ⟨(by show kc + 0 ≤ 4700; omega), (by show ns + 0 ≤ 75000; omega)⟩ [0, 1] rfl (List.Sublist.cons _ (List.Sublist.cons _ (List.Sublist.cons _ (List.Sublist.cons _ (List.Sublist.cons _ (List.Sublist.cons _ (List.Sublist.cons _ (List.Sublist.cons _ ((List.sublist_append_right _ _).trans (List.sublist_append_right _ _)))))))))) (fun v hv => ?_)
                    subst hv
                    refine zv_go rfl rfl (st' := [.int (m6 k)]) rfl (kc' := kc) rfl (ns' := ns) rfl ?_
                    refine zv_aload_n C dX2_isSame_568 569 rfl 0 rfl ?_
                    refine zv_get (ci := 2) C inX2 rfl dX2_isSame_569 572 rfl 5 3 rfl (by decide) lk15 rfl ?_
                    refine zv_iload C dX2_isSame_572 574 rfl 10 rfl ?_
                    refine zn_aald (r := da k) C dX2_isSame_574 575 rfl 7 2 k rfl rfl rfl (by omega) (by omega) rfl ?_
                    refine zv_iconst (v := 0) C dX2_isSame_575 576 rfl (by decide) ?_
                    refine zv_iald (v := (m6 k)) C dX2_isSame_576 577 rfl (k + n + 8) 0 0 (zr_p1 (by omega)) rfl (by decide) (by omega) (by omega) rfl ?_
                    refine zv_icmp_ne C dX2_isSame_577 580 647 rfl (by decide) (fun c => absurd c (fun c => c rfl)) (fun _ => ?_)
                    refine zv_aload_n C dX2_isSame_580 581 rfl 1 rfl ?_
                    refine zv_iload C dX2_isSame_581 583 rfl 10 rfl ?_
                    refine zn_callRV (rest := []) C zn_TB zn_TE (zn_ofR (w_keeps l D hR k hk2)) (cwV 1 C.1.2.2.2.2 gX2_isSame_X1_keeps rfl rfl rfl (by decide +kernel) ⟨Nat.le_of_ble_eq_true rfl, Nat.le_of_ble_eq_true rfl⟩) dX2_isSame_583 586 rfl (ci := 1) rfl 0 hrc rfl rfl (Nat.le_of_ble_eq_true rfl) ⟨(by show kc + 0 ≤ 4700; omega), (by show ns + 0 ≤ 75000; omega)⟩ [0, 1] rfl (List.Sublist.cons _ (List.Sublist.cons _ (List.Sublist.cons _ (List.Sublist.cons _ (List.Sublist.cons _ (List.Sublist.cons _ (List.Sublist.cons _ (List.Sublist.cons _ ((List.sublist_append_right _ _).trans (List.sublist_append_right _ _)))))))))) (fun v hv => ?_)
                    subst hv
                    refine zv_go rfl rfl (st' := [.int (m7 k)]) rfl (kc' := kc) rfl (ns' := ns) rfl ?_
                    refine zv_aload_n C dX2_isSame_586 587 rfl 0 rfl ?_
                    refine zv_get (ci := 2) C inX2 rfl dX2_isSame_587 590 rfl 5 3 rfl (by decide) lk15 rfl ?_
                    refine zv_iload C dX2_isSame_590 592 rfl 10 rfl ?_
                    refine zn_aald (r := da k) C dX2_isSame_592 593 rfl 7 2 k rfl rfl rfl (by omega) (by omega) rfl ?_
                    refine zv_iconst (v := 1) C dX2_isSame_593 594 rfl (by decide) ?_
                    refine zv_iald (v := (m7 k)) C dX2_isSame_594 595 rfl (k + n + 8) 0 1 (zr_p1 (by omega)) rfl (by decide) (by omega) (by omega) rfl ?_
                    refine zv_icmp_ne C dX2_isSame_595 598 647 rfl (by decide) (fun c => absurd c (fun c => c rfl)) (fun _ => ?_)
                    refine zv_aload_n C dX2_isSame_598 599 rfl 1 rfl ?_
                    refine zv_iload C dX2_isSame_599 601 rfl 10 rfl ?_
                    refine zn_callRV (rest := []) C zn_TB zn_TE (zn_ofR (w_isInsulted l D hR k hk2)) (cwV 1 C.1.2.2.2.2 gX2_isSame_X1_isInsulted rfl rfl rfl (by decide +kernel) ⟨Nat.le_of_ble_eq_true rfl, Nat.le_of_ble_eq_true rfl⟩) dX2_isSame_601 604 rfl (ci := 1) rfl 0 hrc rfl rfl (Nat.le_of_ble_eq_true rfl) ⟨(by show kc + 0 ≤ 4700; omega), (by show ns + 0 ≤ 75000; omega)⟩ [0, 1] rfl (List.Sublist.cons _ (List.Sublist.cons _ (List.Sublist.cons _ (List.Sublist.cons _ (List.Sublist.cons _ (List.Sublist.cons _ (List.Sublist.cons _ (List.Sublist.cons _ ((List.sublist_append_right _ _).trans (List.sublist_append_right _ _)))))))))) (fun v hv => ?_)
                    subst hv
                    refine zv_go rfl rfl (st' := [.int (zb (insd (m7 k) (nmS n m0 m1 m2 m3 m5 r (m6 k).toNatClampNeg)))]) rfl (kc' := kc) rfl (ns' := ns) rfl ?_
                    refine zv_aload_n C dX2_isSame_604 605 rfl 0 rfl ?_
                    refine zv_get (ci := 2) C inX2 rfl dX2_isSame_605 608 rfl 5 3 rfl (by decide) lk15 rfl ?_
                    refine zv_iload C dX2_isSame_608 610 rfl 10 rfl ?_
                    refine zn_aald (r := da k) C dX2_isSame_610 611 rfl 7 2 k rfl rfl rfl (by omega) (by omega) rfl ?_
                    refine zv_iconst (v := 1) C dX2_isSame_611 612 rfl (by decide) ?_
                    refine zv_iald (v := (m7 k)) C dX2_isSame_612 613 rfl (k + n + 8) 0 1 (zr_p1 (by omega)) rfl (by decide) (by omega) (by omega) rfl ?_
                    refine zv_if_lt C dX2_isSame_613 616 643 rfl (by decide) (fun c2 => ?_) (fun c2 => ?_)
                    ·
                      refine zv_iconst (v := 0) C dX2_isSame_643 644 rfl (by decide) ?_
                      refine zv_icmp_eq C dX2_isSame_644 647 649 rfl (by decide) (fun _ => ?_) (fun c => absurd (by rw [ins_m1 (hV.2.2 k hk2) c2]; rfl) c)
                      refine zv_iinc (v := (nI (k + 1))) C dX2_isSame_649 652 rfl [(10, .int (nI (k + 1))), (0, .ref (s 0)), (1, .ref a), (2, .ref fo), (3, .ref (fo + 3)), (4, .int (nI n)), (5, .ref my), (6, .int (nI (cnt (nmS n m0 m1 m2 m3 m5 r) (-1) n))), (7, .int (nI mc)), (8, .int ms), (9, .int gr)] 10 rfl (nI_1 k) (by decide) rfl ?_
                      refine zv_goto C dX2_isSame_652 552 (by decide) ?_
                      refine zv_sub [1, 2, 3, 4, 5, 6, 7, 8, 9, 10, 0] (lv' := [(0, .ref (s 0)), (1, .ref a), (2, .ref fo), (3, .ref (fo + 3)), (4, .int (nI n)), (5, .ref my), (6, .int (nI (cnt (nmS n m0 m1 m2 m3 m5 r) (-1) n))), (7, .int (nI mc)), (8, .int ms), (9, .int gr), (10, .int (nI (k + 1)))]) rfl ?_
                      exact ih_HL (k + 1) (by omega) (by omega)
                    ·
                      refine zv_aload_n C dX2_isSame_616 617 rfl 3 rfl ?_
                      refine zv_aload_n C dX2_isSame_617 618 rfl 0 rfl ?_
                      refine zv_get (ci := 2) C inX2 rfl dX2_isSame_618 621 rfl 5 3 rfl (by decide) lk15 rfl ?_
                      refine zv_iload C dX2_isSame_621 623 rfl 10 rfl ?_
                      refine zn_aald (r := da k) C dX2_isSame_623 624 rfl 7 2 k rfl rfl rfl (by omega) (by omega) rfl ?_
                      refine zv_iconst (v := 0) C dX2_isSame_624 625 rfl (by decide) ?_
                      refine zv_iald (v := (nI q)) C dX2_isSame_625 626 rfl (k + n + 8) 0 0 (zr_p1 (by omega)) rfl (by decide) (by omega) (by omega) eq ?_
                      refine zv_iald (v := (nmS n m0 m1 m2 m3 m5 r q)) C dX2_isSame_626 627 rfl 4 0 q rfl rfl rfl (by omega) (by omega) (hg q hq).2.2 ?_
                      refine zv_aload_n C dX2_isSame_627 628 rfl 0 rfl ?_
                      refine zv_get (ci := 2) C inX2 rfl dX2_isSame_628 631 rfl 5 3 rfl (by decide) lk15 rfl ?_
                      refine zv_iload C dX2_isSame_631 633 rfl 10 rfl ?_
                      refine zn_aald (r := da k) C dX2_isSame_633 634 rfl 7 2 k rfl rfl rfl (by omega) (by omega) rfl ?_
                      refine zv_iconst (v := 1) C dX2_isSame_634 635 rfl (by decide) ?_
                      refine zv_iald (v := (m7 k)) C dX2_isSame_635 636 rfl (k + n + 8) 0 1 (zr_p1 (by omega)) rfl (by decide) (by omega) (by omega) rfl ?_
                      refine zv_icmp_eq C dX2_isSame_636 639 643 rfl (by decide) (fun c3 => ?_) (fun c3 => ?_)
                      ·
                        refine zv_iconst (v := 0) C dX2_isSame_643 644 rfl (by decide) ?_
                        refine zv_icmp_eq C dX2_isSame_644 647 649 rfl (by decide) (fun _ => ?_) (fun c => absurd (by rw [show insd (m7 k) (nmS n m0 m1 m2 m3 m5 r (m6 k).toNatClampNeg) = false from (by rw [eq, nI_clamp (by omega)]; simp [insd, c3])]; rfl) c)
                        refine zv_iinc (v := (nI (k + 1))) C dX2_isSame_649 652 rfl [(10, .int (nI (k + 1))), (0, .ref (s 0)), (1, .ref a), (2, .ref fo), (3, .ref (fo + 3)), (4, .int (nI n)), (5, .ref my), (6, .int (nI (cnt (nmS n m0 m1 m2 m3 m5 r) (-1) n))), (7, .int (nI mc)), (8, .int ms), (9, .int gr)] 10 rfl (nI_1 k) (by decide) rfl ?_
                        refine zv_goto C dX2_isSame_652 552 (by decide) ?_
                        refine zv_sub [1, 2, 3, 4, 5, 6, 7, 8, 9, 10, 0] (lv' := [(0, .ref (s 0)), (1, .ref a), (2, .ref fo), (3, .ref (fo + 3)), (4, .int (nI n)), (5, .ref my), (6, .int (nI (cnt (nmS n m0 m1 m2 m3 m5 r) (-1) n))), (7, .int (nI mc)), (8, .int ms), (9, .int gr), (10, .int (nI (k + 1)))]) rfl ?_
                        exact ih_HL (k + 1) (by omega) (by omega)
                      ·
                        refine zv_iconst (v := 1) C dX2_isSame_639 640 rfl (by decide) ?_
                        refine zv_goto C dX2_isSame_640 644 (by decide) ?_
                        refine zv_icmp_eq C dX2_isSame_644 647 649 rfl (by decide) (fun _ => ?_) (fun c => absurd (by rw [show insd (m7 k) (nmS n m0 m1 m2 m3 m5 r (m6 k).toNatClampNeg) = true from (by rw [eq, nI_clamp (by omega)]; simp [insd, c3, ins_m2 c2])]; rfl) c)
                        refine zv_iinc (v := (nI (k + 1))) C dX2_isSame_649 652 rfl [(10, .int (nI (k + 1))), (0, .ref (s 0)), (1, .ref a), (2, .ref fo), (3, .ref (fo + 3)), (4, .int (nI n)), (5, .ref my), (6, .int (nI (cnt (nmS n m0 m1 m2 m3 m5 r) (-1) n))), (7, .int (nI mc)), (8, .int ms), (9, .int gr)] 10 rfl (nI_1 k) (by decide) rfl ?_
                        refine zv_goto C dX2_isSame_652 552 (by decide) ?_
                        refine zv_sub [1, 2, 3, 4, 5, 6, 7, 8, 9, 10, 0] (lv' := [(0, .ref (s 0)), (1, .ref a), (2, .ref fo), (3, .ref (fo + 3)), (4, .int (nI n)), (5, .ref my), (6, .int (nI (cnt (nmS n m0 m1 m2 m3 m5 r) (-1) n))), (7, .int (nI mc)), (8, .int ms), (9, .int gr), (10, .int (nI (k + 1)))]) rfl ?_
                        exact ih_HL (k + 1) (by omega) (by omega)
              refine zv_go rfl (lv' := [(10, .int (nI 0)), (0, .ref (s 0)), (1, .ref a), (2, .ref fo), (3, .ref (fo + 3)), (4, .int (nI n)), (5, .ref my), (6, .int (nI (cnt (nmS n m0 m1 m2 m3 m5 r) (-1) n))), (7, .int (nI mc)), (8, .int ms), (9, .int gr)]) rfl rfl rfl rfl ?_
              refine zv_sub [1, 2, 3, 4, 5, 6, 7, 8, 9, 10, 0] (lv' := [(0, .ref (s 0)), (1, .ref a), (2, .ref fo), (3, .ref (fo + 3)), (4, .int (nI n)), (5, .ref my), (6, .int (nI (cnt (nmS n m0 m1 m2 m3 m5 r) (-1) n))), (7, .int (nI mc)), (8, .int ms), (9, .int gr), (10, .int (nI 0))]) rfl ?_
              exact HL (b + 1) 0 (by omega) (by omega)
            | succ j =>
              refine zv_go rfl (lv' := [(0, .ref (s 0)), (1, .ref a), (2, .ref fo), (3, .ref (fo + 3)), (4, .int (nI n)), (5, .ref my), (6, .int (nI (cnt (nmS n m0 m1 m2 m3 m5 r) (-1) n))), (7, .int (nI mc)), (8, .int ms), (9, .int gr), (10, .int (nI j))]) (by rw [nI_pred]) (st' := [.int (nI j)]) (by rw [nI_pred]) rfl rfl ?_
              refine zv_if_lt C dX2_isSame_494 497 549 rfl (by decide) (fun c => absurd c (nI_nneg (by omega))) (fun _ => ?_)
              have hcl := cnt_le (nmS n m0 m1 m2 m3 m5 r) (nI j) n
              refine zv_aload_n C dX2_isSame_497 498 rfl 1 rfl ?_
              refine zv_iload C dX2_isSame_498 500 rfl 10 rfl ?_
              refine zn_callRV (rest := []) C zn_TB zn_TE (zn_ofR (w_placesNamed l D hR (nI j) (isI_nI (lo := 0) (hi := 9) (Nat.zero_le _) (by omega) (by omega)))) (cwV 1 C.1.2.2.2.2 gX2_isSame_X1_placesNamed rfl rfl rfl (by decide +kernel) ⟨Nat.le_of_ble_eq_true rfl, Nat.le_of_ble_eq_true rfl⟩) dX2_isSame_500 503 rfl (ci := 1) rfl 0 hrc rfl rfl (Nat.le_of_ble_eq_true rfl) ⟨(by show kc + 0 ≤ 4700; omega), (by show ns + 0 ≤ 75000; omega)⟩ [0, 1] rfl (List.Sublist.cons _ (List.Sublist.cons _ (List.Sublist.cons _ (List.Sublist.cons _ (List.Sublist.cons _ (List.Sublist.cons _ (List.Sublist.cons _ (List.Sublist.cons _ ((List.sublist_append_right _ _).trans (List.sublist_append_right _ _)))))))))) (fun v hv => ?_)
              subst hv
              refine zv_go rfl rfl (st' := [.int (nI (cnt (nmS n m0 m1 m2 m3 m5 r) (nI j) n))]) rfl (kc' := kc) rfl (ns' := ns) rfl ?_
              refine zv_aload C dX2_isSame_503 505 rfl 5 rfl ?_
              refine zv_iload C dX2_isSame_505 507 rfl 10 rfl ?_
              refine zv_iald (v := (nI (cnt (nmS n m0 m1 m2 m3 m5 r) (nI j) n))) C dX2_isSame_507 508 rfl 0 0 j rfl rfl rfl (by omega) (by omega) (hgm j (by omega)) ?_
              refine zv_icmp_eq C dX2_isSame_508 511 513 rfl (by decide) (fun _ => ?_) (fun c => absurd rfl c)
              refine zv_aload C dX2_isSame_513 515 rfl 5 rfl ?_
              refine zv_iload C dX2_isSame_515 517 rfl 10 rfl ?_
              refine zv_iald (v := (nI (cnt (nmS n m0 m1 m2 m3 m5 r) (nI j) n))) C dX2_isSame_517 518 rfl 0 0 j rfl rfl rfl (by omega) (by omega) (hgm j (by omega)) ?_
              refine zv_if_le C dX2_isSame_518 521 543 rfl (by decide) (fun cz => ?_) (fun cz => ?_)
              ·
                refine zv_iinc (v := (nI j - 1)) C dX2_isSame_543 546 rfl [(10, .int (nI j - 1)), (0, .ref (s 0)), (1, .ref a), (2, .ref fo), (3, .ref (fo + 3)), (4, .int (nI n)), (5, .ref my), (6, .int (nI (cnt (nmS n m0 m1 m2 m3 m5 r) (-1) n))), (7, .int (nI mc)), (8, .int ms), (9, .int gr)] 10 rfl (by rw [Int32.sub_eq_add_neg]; rfl) (by decide) rfl ?_
                refine zv_goto C dX2_isSame_546 492 (by decide) ?_
                refine zv_sub [1, 2, 3, 4, 5, 6, 7, 8, 9, 10, 0] (lv' := [(0, .ref (s 0)), (1, .ref a), (2, .ref fo), (3, .ref (fo + 3)), (4, .int (nI n)), (5, .ref my), (6, .int (nI (cnt (nmS n m0 m1 m2 m3 m5 r) (-1) n))), (7, .int (nI mc)), (8, .int ms), (9, .int gr), (10, .int (nI j - 1))]) rfl ?_
                exact ih_GL j gr (hG.zero ((nI_le0 (by omega)).mp cz)) (by omega) (by omega)
              ·
                have hz : ¬ cnt (nmS n m0 m1 m2 m3 m5 r) (nI j) n = 0 := fun z => cz ((nI_le0 (by omega)).mpr z)
                refine zv_iload C dX2_isSame_521 523 rfl 9 rfl ?_
                refine zv_if_lt C dX2_isSame_523 526 539 rfl (by decide) (fun cg => ?_) (fun cg => ?_)
                ·
                  refine zv_iload C dX2_isSame_539 541 rfl 10 rfl ?_
                  refine zv_istore C dX2_isSame_541 543 rfl [(9, .int (nI j)), (0, .ref (s 0)), (1, .ref a), (2, .ref fo), (3, .ref (fo + 3)), (4, .int (nI n)), (5, .ref my), (6, .int (nI (cnt (nmS n m0 m1 m2 m3 m5 r) (-1) n))), (7, .int (nI mc)), (8, .int ms), (10, .int (nI j))] (by decide) rfl ?_
                  refine zv_iinc (v := (nI j - 1)) C dX2_isSame_543 546 rfl [(10, .int (nI j - 1)), (9, .int (nI j)), (0, .ref (s 0)), (1, .ref a), (2, .ref fo), (3, .ref (fo + 3)), (4, .int (nI n)), (5, .ref my), (6, .int (nI (cnt (nmS n m0 m1 m2 m3 m5 r) (-1) n))), (7, .int (nI mc)), (8, .int ms)] 10 rfl (by rw [Int32.sub_eq_add_neg]; rfl) (by decide) rfl ?_
                  refine zv_goto C dX2_isSame_546 492 (by decide) ?_
                  refine zv_sub [2, 3, 4, 5, 6, 7, 8, 9, 10, 1, 0] (lv' := [(0, .ref (s 0)), (1, .ref a), (2, .ref fo), (3, .ref (fo + 3)), (4, .int (nI n)), (5, .ref my), (6, .int (nI (cnt (nmS n m0 m1 m2 m3 m5 r) (-1) n))), (7, .int (nI mc)), (8, .int ms), (9, .int (nI j)), (10, .int (nI j - 1))]) rfl ?_
                  exact ih_GL j (nI j) (hG.take (by omega) hz (Or.inl cg)) (by omega) (by omega)
                ·
                  obtain ⟨a9, ha9, rfl⟩ := hG.is cg
                  have hcl9 := cnt_le (nmS n m0 m1 m2 m3 m5 r) (nI a9) n
                  refine zv_aload C dX2_isSame_526 528 rfl 5 rfl ?_
                  refine zv_iload C dX2_isSame_528 530 rfl 10 rfl ?_
                  refine zv_iald (v := (nI (cnt (nmS n m0 m1 m2 m3 m5 r) (nI j) n))) C dX2_isSame_530 531 rfl 0 0 j rfl rfl rfl (by omega) (by omega) (hgm j (by omega)) ?_
                  refine zv_aload C dX2_isSame_531 533 rfl 5 rfl ?_
                  refine zv_iload C dX2_isSame_533 535 rfl 9 rfl ?_
                  refine zv_iald (v := (nI (cnt (nmS n m0 m1 m2 m3 m5 r) (nI a9) n))) C dX2_isSame_535 536 rfl 0 0 a9 rfl rfl rfl (by omega) (by omega) (hgm a9 (by omega)) ?_
                  refine zv_icmp_lt C dX2_isSame_536 539 543 rfl (by decide) (fun ct => ?_) (fun ct => ?_)
                  ·
                    refine zv_iinc (v := (nI j - 1)) C dX2_isSame_543 546 rfl [(10, .int (nI j - 1)), (0, .ref (s 0)), (1, .ref a), (2, .ref fo), (3, .ref (fo + 3)), (4, .int (nI n)), (5, .ref my), (6, .int (nI (cnt (nmS n m0 m1 m2 m3 m5 r) (-1) n))), (7, .int (nI mc)), (8, .int ms), (9, .int (nI a9))] 10 rfl (by rw [Int32.sub_eq_add_neg]; rfl) (by decide) rfl ?_
                    refine zv_goto C dX2_isSame_546 492 (by decide) ?_
                    refine zv_sub [1, 2, 3, 4, 5, 6, 7, 8, 9, 10, 0] (lv' := [(0, .ref (s 0)), (1, .ref a), (2, .ref fo), (3, .ref (fo + 3)), (4, .int (nI n)), (5, .ref my), (6, .int (nI (cnt (nmS n m0 m1 m2 m3 m5 r) (-1) n))), (7, .int (nI mc)), (8, .int ms), (9, .int (nI a9)), (10, .int (nI j - 1))]) rfl ?_
                    exact ih_GL j (nI a9) (hG.less rfl ha9 (zn_lt (by omega) (by omega) ct)) (by omega) (by omega)
                  ·
                    refine zv_iload C dX2_isSame_539 541 rfl 10 rfl ?_
                    refine zv_istore C dX2_isSame_541 543 rfl [(9, .int (nI j)), (0, .ref (s 0)), (1, .ref a), (2, .ref fo), (3, .ref (fo + 3)), (4, .int (nI n)), (5, .ref my), (6, .int (nI (cnt (nmS n m0 m1 m2 m3 m5 r) (-1) n))), (7, .int (nI mc)), (8, .int ms), (10, .int (nI j))] (by decide) rfl ?_
                    refine zv_iinc (v := (nI j - 1)) C dX2_isSame_543 546 rfl [(10, .int (nI j - 1)), (9, .int (nI j)), (0, .ref (s 0)), (1, .ref a), (2, .ref fo), (3, .ref (fo + 3)), (4, .int (nI n)), (5, .ref my), (6, .int (nI (cnt (nmS n m0 m1 m2 m3 m5 r) (-1) n))), (7, .int (nI mc)), (8, .int ms)] 10 rfl (by rw [Int32.sub_eq_add_neg]; rfl) (by decide) rfl ?_
                    refine zv_goto C dX2_isSame_546 492 (by decide) ?_
                    refine zv_sub [2, 3, 4, 5, 6, 7, 8, 9, 10, 1, 0] (lv' := [(0, .ref (s 0)), (1, .ref a), (2, .ref fo), (3, .ref (fo + 3)), (4, .int (nI n)), (5, .ref my), (6, .int (nI (cnt (nmS n m0 m1 m2 m3 m5 r) (-1) n))), (7, .int (nI mc)), (8, .int ms), (9, .int (nI j)), (10, .int (nI j - 1))]) rfl ?_
                    exact ih_GL j (nI j) (hG.take (by omega) hz (Or.inr ⟨a9, ha9, rfl, zn_lt' (by omega) (by omega) ct⟩)) (by omega) (by omega)
        refine zv_go rfl (lv' := [(10, .int (nI 10 - 1)), (9, .int (-1 : Int32)), (0, .ref (s 0)), (1, .ref a), (2, .ref fo), (3, .ref (fo + 3)), (4, .int (nI n)), (5, .ref my), (6, .int (nI (cnt (nmS n m0 m1 m2 m3 m5 r) (-1) n))), (7, .int (nI mc)), (8, .int ms)]) (by rfl) rfl rfl rfl ?_
        refine zv_sub [2, 3, 4, 5, 6, 7, 8, 9, 10, 1, 0] (lv' := [(0, .ref (s 0)), (1, .ref a), (2, .ref fo), (3, .ref (fo + 3)), (4, .int (nI n)), (5, .ref my), (6, .int (nI (cnt (nmS n m0 m1 m2 m3 m5 r) (-1) n))), (7, .int (nI mc)), (8, .int ms), (9, .int (-1 : Int32)), (10, .int (nI 10 - 1))]) rfl ?_
        exact GL 11 10 (-1) GR.start (by omega) (by omega)
      ·
        have hp2 : p < n := zn_le' (by omega) (by omega) cp
        refine zv_iconst (v := 0) C dX2_isSame_41 42 rfl (by decide) ?_
        refine zv_istore C dX2_isSame_42 44 rfl [(10, .int 0), (0, .ref (s 0)), (1, .ref a), (2, .ref fo), (3, .ref (fo + 3)), (4, .int (nI n)), (5, .ref my), (6, .int (nI (cnt (nmS n m0 m1 m2 m3 m5 r) (-1) p))), (7, .int (nI mc)), (8, .int ms), (9, .int (nI p))] (by decide) rfl ?_
        refine zv_iconst (v := 0) C dX2_isSame_44 45 rfl (by decide) ?_
        refine zv_istore C dX2_isSame_45 47 rfl [(11, .int 0), (10, .int 0), (0, .ref (s 0)), (1, .ref a), (2, .ref fo), (3, .ref (fo + 3)), (4, .int (nI n)), (5, .ref my), (6, .int (nI (cnt (nmS n m0 m1 m2 m3 m5 r) (-1) p))), (7, .int (nI mc)), (8, .int ms), (9, .int (nI p))] (by decide) rfl ?_
        have AL : ∀ (mu_AL : Nat), ∀ (j : Nat), (j ≤ n) → n - j < mu_AL → zv_V pP l eE rmX2_isSame sS mM aA bB mT cD Q 19 D vwCl A (fun _ => True) (tyS cI cZ cA) ((my, .inl (cI, 10, .inl gm)) :: (fo, .inl (cA, 3, aq (fun i => fo + 1 + i))) :: (fo + 1, .inl (cI, n, .inl g0)) :: (fo + 2, .inl (cI, n, .inl g1)) :: (fo + 3, .inl (cI, n, .inl g2)) :: (s 0, .inr (2, [.int r, .int y, .ref (s 1), .ref (s 2)])) :: (s 1, .inl (cA, n, aq pa)) :: (s 2, .inl (cA, b, aq da)) :: (sR cI 6 pa (rP m0 m1 m2 m3 m4 m5) n ++ (sR cI 2 da (rB m6 m7) b ++ w))) kc ns 47 [(0, .ref (s 0)), (1, .ref a), (2, .ref fo), (3, .ref (fo + 3)), (4, .int (nI n)), (5, .ref my), (6, .int (nI (cnt (nmS n m0 m1 m2 m3 m5 r) (-1) p))), (7, .int (nI mc)), (8, .int ms), (9, .int (nI p)), (10, .int (nI (cnb (fun q => fl m0 (nI p) 16 (m0 q)) j))), (11, .int (nI j))] [] := by
          intro mu_AL
          induction mu_AL with
          | zero => intro j hj hmu_AL; exact absurd hmu_AL (Nat.not_lt_zero _)
          | succ mu_AL ih_AL =>
            intro j hj hmu_AL
            refine zv_iload C dX2_isSame_47 49 rfl 11 rfl ?_
            refine zv_iload C dX2_isSame_49 51 rfl 4 rfl ?_
            refine zv_icmp_ge C dX2_isSame_51 54 81 rfl (by decide) (fun cj => ?_) (fun cj => ?_)
            ·
              have e1 : n = j := by have := zn_le (by omega) (by omega) cj; omega
              subst e1
              refine zv_iload C dX2_isSame_81 83 rfl 9 rfl ?_
              refine zv_istore C dX2_isSame_83 85 rfl [(11, .int (nI p)), (0, .ref (s 0)), (1, .ref a), (2, .ref fo), (3, .ref (fo + 3)), (4, .int (nI n)), (5, .ref my), (6, .int (nI (cnt (nmS n m0 m1 m2 m3 m5 r) (-1) p))), (7, .int (nI mc)), (8, .int ms), (9, .int (nI p)), (10, .int (nI (cnb (fun q => fl m0 (nI p) 16 (m0 q)) n)))] (by decide) rfl ?_
              have ML : ∀ (mu_ML : Nat), ∀ (x k : Nat), (x < n) → (d x ≤ k) → (mo m0 16 p = mo m0 k x) → k < mu_ML → zv_V pP l eE rmX2_isSame sS mM aA bB mT cD Q 19 D vwCl A (fun _ => True) (tyS cI cZ cA) ((my, .inl (cI, 10, .inl gm)) :: (fo, .inl (cA, 3, aq (fun i => fo + 1 + i))) :: (fo + 1, .inl (cI, n, .inl g0)) :: (fo + 2, .inl (cI, n, .inl g1)) :: (fo + 3, .inl (cI, n, .inl g2)) :: (s 0, .inr (2, [.int r, .int y, .ref (s 1), .ref (s 2)])) :: (s 1, .inl (cA, n, aq pa)) :: (s 2, .inl (cA, b, aq da)) :: (sR cI 6 pa (rP m0 m1 m2 m3 m4 m5) n ++ (sR cI 2 da (rB m6 m7) b ++ w))) kc ns 85 [(0, .ref (s 0)), (1, .ref a), (2, .ref fo), (3, .ref (fo + 3)), (4, .int (nI n)), (5, .ref my), (6, .int (nI (cnt (nmS n m0 m1 m2 m3 m5 r) (-1) p))), (7, .int (nI mc)), (8, .int ms), (9, .int (nI p)), (10, .int (nI (cnb (fun q => fl m0 (nI p) 16 (m0 q)) n))), (11, .int (nI x))] [] := by
                intro mu_ML
                induction mu_ML with
                | zero => intro x k hx hdx he hmu_ML; exact absurd hmu_ML (Nat.not_lt_zero _)
                | succ mu_ML ih_ML =>
                  intro x k hx hdx he hmu_ML
                  refine zv_aload_n C dX2_isSame_85 86 rfl 0 rfl ?_
                  refine zv_get (ci := 2) C inX2 rfl dX2_isSame_86 89 rfl 5 2 rfl (by decide) lk9 rfl ?_
                  refine zv_iload C dX2_isSame_89 91 rfl 11 rfl ?_
                  refine zn_aald (r := pa x) C dX2_isSame_91 92 rfl 6 2 x rfl rfl rfl (by omega) (by omega) rfl ?_
                  refine zv_iconst (v := 0) C dX2_isSame_92 93 rfl (by decide) ?_
                  refine zv_iald (v := (m0 x)) C dX2_isSame_93 94 rfl (x + 8) 0 0 (zr_p0 (by omega)) rfl (by decide) (by omega) (by omega) rfl ?_
                  refine zv_if_lt C dX2_isSame_94 97 111 rfl (by decide) (fun cm => ?_) (fun cm => ?_)
                  ·
                    have he2 : mo m0 16 p = x := he.trans (mo_neg _ _ cm)
                    refine zv_aload_n C dX2_isSame_111 112 rfl 0 rfl ?_
                    refine zv_iload C dX2_isSame_112 114 rfl 9 rfl ?_
                    refine zv_aload_n C dX2_isSame_114 115 rfl 3 rfl ?_
                    refine zn_callNV (rest := []) C zn_OB (zn_OE hO) (k_X2_arguers l D cI cZ cA y hV s pa da p (fo + 3) g2 hp2) (cwV 2 C.1.2.2.2.2 gX2_isSame_X2_arguers rfl rfl rfl (by decide +kernel) ⟨Nat.le_of_ble_eq_true rfl, Nat.le_of_ble_eq_true rfl⟩) dX2_isSame_115 118 rfl (ci := 2) rfl 1 rfl rfl rfl (Nat.le_of_ble_eq_true rfl) ⟨(by show kc + 17 ≤ 4700; omega), (by show ns + 272 ≤ 75000; omega)⟩ [0, 1, 2] rfl (List.Sublist.cons _ (List.Sublist.cons _ (List.Sublist.cons _ (List.Sublist.cons _ (List.Sublist.cons_cons _ (List.Sublist.cons_cons _ (List.Sublist.cons_cons _ (List.Sublist.cons_cons _ (List.Sublist.append (List.Sublist.refl _) (List.sublist_append_left _ _)))))))))) (fun _ _ => trivial) (fun v w2 hv hw2 => ?_)
                    obtain ⟨am, c, e, o, rfl, rfl, hAO⟩ := hv
                    have hc16 := hAO.c_le
                    have hg2 : ∀ q, q < n → g2 q = nmS n m0 m1 m2 m3 m5 r q := fun q hq => (hg q hq).2.2
                    have hdd := dd_eq hV hp2 hg2 hAO
                    have hcA : c = agA m0 m1 m3 m5 (nmS n m0 m1 m2 m3 m5 r) p n := by
                      rw [← agA_congr (g := g2) hg2, ← agA_arB hD hn16 hp2 (fun q hq => by rw [hg2 q hq]; exact hV.nv hq)]
                      exact hAO.1
                    refine zv_wd (ws' := ((am, .inl (cI, c, .inl e)) :: (my, .inl (cI, 10, .inl gm)) :: (fo, .inl (cA, 3, aq (fun i => fo + 1 + i))) :: (fo + 1, .inl (cI, n, .inl g0)) :: (fo + 2, .inl (cI, n, .inl g1)) :: (fo + 3, .inl (cI, n, .inl g2)) :: (s 0, .inr (2, [.int r, .int y, .ref (s 1), .ref (s 2)])) :: (s 1, .inl (cA, n, aq pa)) :: (s 2, .inl (cA, b, aq da)) :: (sR cI 6 pa (rP m0 m1 m2 m3 m4 m5) n ++ (sR cI 2 da (rB m6 m7) b ++ w)))) rfl ?_
                    refine zv_go rfl rfl (st' := [.ref am]) rfl (kc' := (kc + 17)) rfl (ns' := (ns + 272)) rfl ?_
                    refine zv_astore C dX2_isSame_118 120 rfl [(12, .ref am), (0, .ref (s 0)), (1, .ref a), (2, .ref fo), (3, .ref (fo + 3)), (4, .int (nI n)), (5, .ref my), (6, .int (nI (cnt (nmS n m0 m1 m2 m3 m5 r) (-1) p))), (7, .int (nI mc)), (8, .int ms), (9, .int (nI p)), (10, .int (nI (cnb (fun q => fl m0 (nI p) 16 (m0 q)) n))), (11, .int (nI x))] (by decide) rfl ?_
                    refine zv_iconst (v := 0) C dX2_isSame_120 121 rfl (by decide) ?_
                    refine zv_istore C dX2_isSame_121 123 rfl [(13, .int 0), (12, .ref am), (0, .ref (s 0)), (1, .ref a), (2, .ref fo), (3, .ref (fo + 3)), (4, .int (nI n)), (5, .ref my), (6, .int (nI (cnt (nmS n m0 m1 m2 m3 m5 r) (-1) p))), (7, .int (nI mc)), (8, .int ms), (9, .int (nI p)), (10, .int (nI (cnb (fun q => fl m0 (nI p) 16 (m0 q)) n))), (11, .int (nI x))] (by decide) rfl ?_
                    refine zv_aload C dX2_isSame_123 125 rfl 1 rfl ?_
                    refine zv_astore C dX2_isSame_125 127 rfl [(14, .ref am), (13, .int 0), (12, .ref am), (0, .ref (s 0)), (1, .ref a), (2, .ref fo), (3, .ref (fo + 3)), (4, .int (nI n)), (5, .ref my), (6, .int (nI (cnt (nmS n m0 m1 m2 m3 m5 r) (-1) p))), (7, .int (nI mc)), (8, .int ms), (9, .int (nI p)), (10, .int (nI (cnb (fun q => fl m0 (nI p) 16 (m0 q)) n))), (11, .int (nI x))] (by decide) rfl ?_
                    refine zv_aload C dX2_isSame_127 129 rfl 0 rfl ?_
                    refine zv_alen (v := (nI c)) C dX2_isSame_129 130 rfl 0 0 rfl rfl rfl ?_
                    refine zv_istore C dX2_isSame_130 132 rfl [(15, .int (nI c)), (14, .ref am), (13, .int 0), (12, .ref am), (0, .ref (s 0)), (1, .ref a), (2, .ref fo), (3, .ref (fo + 3)), (4, .int (nI n)), (5, .ref my), (6, .int (nI (cnt (nmS n m0 m1 m2 m3 m5 r) (-1) p))), (7, .int (nI mc)), (8, .int ms), (9, .int (nI p)), (10, .int (nI (cnb (fun q => fl m0 (nI p) 16 (m0 q)) n))), (11, .int (nI x))] (by decide) rfl ?_
                    refine zv_iconst (v := 0) C dX2_isSame_132 133 rfl (by decide) ?_
                    refine zv_istore C dX2_isSame_133 135 rfl [(16, .int 0), (15, .int (nI c)), (14, .ref am), (13, .int 0), (12, .ref am), (0, .ref (s 0)), (1, .ref a), (2, .ref fo), (3, .ref (fo + 3)), (4, .int (nI n)), (5, .ref my), (6, .int (nI (cnt (nmS n m0 m1 m2 m3 m5 r) (-1) p))), (7, .int (nI mc)), (8, .int ms), (9, .int (nI p)), (10, .int (nI (cnb (fun q => fl m0 (nI p) 16 (m0 q)) n))), (11, .int (nI x))] (by decide) rfl ?_
                    have DL : ∀ (mu_DL : Nat), ∀ (k : Nat), (k ≤ c) → c - k < mu_DL → zv_V pP l eE rmX2_isSame sS mM aA bB mT cD Q 19 D vwCl A (fun _ => True) (tyS cI cZ cA) ((am, .inl (cI, c, .inl e)) :: (my, .inl (cI, 10, .inl gm)) :: (fo, .inl (cA, 3, aq (fun i => fo + 1 + i))) :: (fo + 1, .inl (cI, n, .inl g0)) :: (fo + 2, .inl (cI, n, .inl g1)) :: (fo + 3, .inl (cI, n, .inl g2)) :: (s 0, .inr (2, [.int r, .int y, .ref (s 1), .ref (s 2)])) :: (s 1, .inl (cA, n, aq pa)) :: (s 2, .inl (cA, b, aq da)) :: (sR cI 6 pa (rP m0 m1 m2 m3 m4 m5) n ++ (sR cI 2 da (rB m6 m7) b ++ w))) (kc + 17) (ns + 272) 135 [(0, .ref (s 0)), (1, .ref a), (2, .ref fo), (3, .ref (fo + 3)), (4, .int (nI n)), (5, .ref my), (6, .int (nI (cnt (nmS n m0 m1 m2 m3 m5 r) (-1) p))), (7, .int (nI mc)), (8, .int ms), (9, .int (nI p)), (10, .int (nI (cnb (fun q => fl m0 (nI p) 16 (m0 q)) n))), (11, .int (nI x)), (12, .ref am), (13, .int (zb (anb (fun j => !decide (nmf m2 g2 p (o j) = nmf m2 g2 p (o 0))) k))), (14, .ref am), (15, .int (nI c)), (16, .int (nI k))] [] := by
                      intro mu_DL
                      induction mu_DL with
                      | zero => intro k hk hmu_DL; exact absurd hmu_DL (Nat.not_lt_zero _)
                      | succ mu_DL ih_DL =>
                        intro k hk hmu_DL
                        refine zv_iload C dX2_isSame_135 137 rfl 16 rfl ?_
                        refine zv_iload C dX2_isSame_137 139 rfl 15 rfl ?_
                        refine zv_icmp_ge C dX2_isSame_139 142 188 rfl (by decide) (fun ck => ?_) (fun ck => ?_)
                        ·
                          have e1 : c = k := by have := zn_le (by omega) (by omega) ck; omega
                          subst e1
                          refine zv_iconst (v := 0) C dX2_isSame_188 189 rfl (by decide) ?_
                          refine zv_istore C dX2_isSame_189 191 rfl [(14, .int 0), (0, .ref (s 0)), (1, .ref a), (2, .ref fo), (3, .ref (fo + 3)), (4, .int (nI n)), (5, .ref my), (6, .int (nI (cnt (nmS n m0 m1 m2 m3 m5 r) (-1) p))), (7, .int (nI mc)), (8, .int ms), (9, .int (nI p)), (10, .int (nI (cnb (fun q => fl m0 (nI p) 16 (m0 q)) n))), (11, .int (nI x)), (12, .ref am), (13, .int (zb (anb (fun j => !decide (nmf m2 g2 p (o j) = nmf m2 g2 p (o 0))) c))), (15, .int (nI c)), (16, .int (nI c))] (by decide) rfl ?_
                          refine zv_aload_n C dX2_isSame_191 192 rfl 1 rfl ?_
                          refine zv_get (ci := 2) C inX2 rfl dX2_isSame_192 195 rfl 6 3 rfl (by decide) lk15 rfl ?_
                          refine zv_astore C dX2_isSame_195 197 rfl [(15, .ref (s 2)), (14, .int 0), (0, .ref (s 0)), (1, .ref a), (2, .ref fo), (3, .ref (fo + 3)), (4, .int (nI n)), (5, .ref my), (6, .int (nI (cnt (nmS n m0 m1 m2 m3 m5 r) (-1) p))), (7, .int (nI mc)), (8, .int ms), (9, .int (nI p)), (10, .int (nI (cnb (fun q => fl m0 (nI p) 16 (m0 q)) n))), (11, .int (nI x)), (12, .ref am), (13, .int (zb (anb (fun j => !decide (nmf m2 g2 p (o j) = nmf m2 g2 p (o 0))) c))), (16, .int (nI c))] (by decide) rfl ?_
                          refine zv_aload C dX2_isSame_197 199 rfl 0 rfl ?_
                          refine zv_alen (v := (nI b)) C dX2_isSame_199 200 rfl 8 2 rfl rfl rfl ?_
                          refine zv_istore C dX2_isSame_200 202 rfl [(16, .int (nI b)), (15, .ref (s 2)), (14, .int 0), (0, .ref (s 0)), (1, .ref a), (2, .ref fo), (3, .ref (fo + 3)), (4, .int (nI n)), (5, .ref my), (6, .int (nI (cnt (nmS n m0 m1 m2 m3 m5 r) (-1) p))), (7, .int (nI mc)), (8, .int ms), (9, .int (nI p)), (10, .int (nI (cnb (fun q => fl m0 (nI p) 16 (m0 q)) n))), (11, .int (nI x)), (12, .ref am), (13, .int (zb (anb (fun j => !decide (nmf m2 g2 p (o j) = nmf m2 g2 p (o 0))) c)))] (by decide) rfl ?_
                          refine zv_iconst (v := 0) C dX2_isSame_202 203 rfl (by decide) ?_
                          refine zv_istore C dX2_isSame_203 205 rfl [(17, .int 0), (16, .int (nI b)), (15, .ref (s 2)), (14, .int 0), (0, .ref (s 0)), (1, .ref a), (2, .ref fo), (3, .ref (fo + 3)), (4, .int (nI n)), (5, .ref my), (6, .int (nI (cnt (nmS n m0 m1 m2 m3 m5 r) (-1) p))), (7, .int (nI mc)), (8, .int ms), (9, .int (nI p)), (10, .int (nI (cnb (fun q => fl m0 (nI p) 16 (m0 q)) n))), (11, .int (nI x)), (12, .ref am), (13, .int (zb (anb (fun j => !decide (nmf m2 g2 p (o j) = nmf m2 g2 p (o 0))) c)))] (by decide) rfl ?_
                          have BL : ∀ (mu_BL : Nat), ∀ (k : Nat), (k ≤ b) → b - k < mu_BL → zv_V pP l eE rmX2_isSame sS mM aA bB mT cD Q 19 D vwCl A (fun _ => True) (tyS cI cZ cA) ((am, .inl (cI, c, .inl e)) :: (my, .inl (cI, 10, .inl gm)) :: (fo, .inl (cA, 3, aq (fun i => fo + 1 + i))) :: (fo + 1, .inl (cI, n, .inl g0)) :: (fo + 2, .inl (cI, n, .inl g1)) :: (fo + 3, .inl (cI, n, .inl g2)) :: (s 0, .inr (2, [.int r, .int y, .ref (s 1), .ref (s 2)])) :: (s 1, .inl (cA, n, aq pa)) :: (s 2, .inl (cA, b, aq da)) :: (sR cI 6 pa (rP m0 m1 m2 m3 m4 m5) n ++ (sR cI 2 da (rB m6 m7) b ++ w))) (kc + 17) (ns + 272) 205 [(0, .ref (s 0)), (1, .ref a), (2, .ref fo), (3, .ref (fo + 3)), (4, .int (nI n)), (5, .ref my), (6, .int (nI (cnt (nmS n m0 m1 m2 m3 m5 r) (-1) p))), (7, .int (nI mc)), (8, .int ms), (9, .int (nI p)), (10, .int (nI (cnb (fun q => fl m0 (nI p) 16 (m0 q)) n))), (11, .int (nI x)), (12, .ref am), (13, .int (zb (anb (fun j => !decide (nmf m2 g2 p (o j) = nmf m2 g2 p (o 0))) c))), (14, .int (nI (inP m6 m7 g2 p k))), (15, .ref (s 2)), (16, .int (nI b)), (17, .int (nI k))] [] := by
                            intro mu_BL
                            induction mu_BL with
                            | zero => intro k hk hmu_BL; exact absurd hmu_BL (Nat.not_lt_zero _)
                            | succ mu_BL ih_BL =>
                              intro k hk hmu_BL
                              refine zv_iload C dX2_isSame_205 207 rfl 17 rfl ?_
                              refine zv_iload C dX2_isSame_207 209 rfl 16 rfl ?_
                              refine zv_icmp_ge C dX2_isSame_209 212 262 rfl (by decide) (fun ck => ?_) (fun ck => ?_)
                              ·
                                have e1 : b = k := by have := zn_le (by omega) (by omega) ck; omega
                                subst e1
                                have hinP : inP m6 m7 g2 p b = inP m6 m7 (nmS n m0 m1 m2 m3 m5 r) p b := inP_congr hn16 hV.brg hg2
                                refine zv_aload_n C dX2_isSame_262 263 rfl 1 rfl ?_
                                refine zv_iload C dX2_isSame_263 265 rfl 9 rfl ?_
                                refine zn_callRV (rest := []) C zn_TB zn_TE (zn_ofR (w_leadsTo l D hR p hp2)) (cwV 1 C.1.2.2.2.2 gX2_isSame_X1_leadsTo rfl rfl rfl (by decide +kernel) ⟨Nat.le_of_ble_eq_true rfl, Nat.le_of_ble_eq_true rfl⟩) dX2_isSame_265 268 rfl (ci := 1) rfl 0 hrc rfl rfl (Nat.le_of_ble_eq_true rfl) ⟨(by show kc + 17 + 0 ≤ 4700; omega), (by show ns + 272 + 0 ≤ 75000; omega)⟩ [0, 1] rfl (List.Sublist.cons _ (List.Sublist.cons _ (List.Sublist.cons _ (List.Sublist.cons _ (List.Sublist.cons _ (List.Sublist.cons _ (List.Sublist.cons _ (List.Sublist.cons _ (List.Sublist.cons _ ((List.sublist_append_right _ _).trans (List.sublist_append_right _ _))))))))))) (fun v hv => ?_)
                                subst hv
                                refine zv_go rfl rfl (st' := [.int (m0 p)]) rfl (kc' := (kc + 17)) rfl (ns' := (ns + 272)) rfl ?_
                                refine zv_aload_n C dX2_isSame_268 269 rfl 0 rfl ?_
                                refine zv_get (ci := 2) C inX2 rfl dX2_isSame_269 272 rfl 6 2 rfl (by decide) lk9 rfl ?_
                                refine zv_iload C dX2_isSame_272 274 rfl 9 rfl ?_
                                refine zn_aald (r := pa p) C dX2_isSame_274 275 rfl 7 2 p rfl rfl rfl (by omega) (by omega) rfl ?_
                                refine zv_iconst (v := 0) C dX2_isSame_275 276 rfl (by decide) ?_
                                refine zv_iald (v := (m0 p)) C dX2_isSame_276 277 rfl (p + 9) 0 0 (zr_p0 (by omega)) rfl (by decide) (by omega) (by omega) rfl ?_
                                refine zv_icmp_ne C dX2_isSame_277 280 424 rfl (by decide) (fun c => absurd c (fun c => c rfl)) (fun _ => ?_)
                                refine zv_aload_n C dX2_isSame_280 281 rfl 1 rfl ?_
                                refine zv_iload C dX2_isSame_281 283 rfl 9 rfl ?_
                                refine zn_callRV (rest := []) C zn_TB zn_TE (zn_ofR (w_hasSpring l D hR p hp2)) (cwV 1 C.1.2.2.2.2 gX2_isSame_X1_hasSpring rfl rfl rfl (by decide +kernel) ⟨Nat.le_of_ble_eq_true rfl, Nat.le_of_ble_eq_true rfl⟩) dX2_isSame_283 286 rfl (ci := 1) rfl 0 hrc rfl rfl (Nat.le_of_ble_eq_true rfl) ⟨(by show kc + 17 + 0 ≤ 4700; omega), (by show ns + 272 + 0 ≤ 75000; omega)⟩ [0, 1] rfl (List.Sublist.cons _ (List.Sublist.cons _ (List.Sublist.cons _ (List.Sublist.cons _ (List.Sublist.cons _ (List.Sublist.cons _ (List.Sublist.cons _ (List.Sublist.cons _ (List.Sublist.cons _ ((List.sublist_append_right _ _).trans (List.sublist_append_right _ _))))))))))) (fun v hv => ?_)
                                subst hv
                                refine zv_go rfl rfl (st' := [.int (m1 p)]) rfl (kc' := (kc + 17)) rfl (ns' := (ns + 272)) rfl ?_
                                refine zv_aload_n C dX2_isSame_286 287 rfl 0 rfl ?_
                                refine zv_get (ci := 2) C inX2 rfl dX2_isSame_287 290 rfl 6 2 rfl (by decide) lk9 rfl ?_
                                refine zv_iload C dX2_isSame_290 292 rfl 9 rfl ?_
                                refine zn_aald (r := pa p) C dX2_isSame_292 293 rfl 7 2 p rfl rfl rfl (by omega) (by omega) rfl ?_
                                refine zv_iconst (v := 1) C dX2_isSame_293 294 rfl (by decide) ?_
                                refine zv_iald (v := (m1 p)) C dX2_isSame_294 295 rfl (p + 9) 0 1 (zr_p0 (by omega)) rfl (by decide) (by omega) (by omega) rfl ?_
                                refine zv_iconst (v := 1) C dX2_isSame_295 296 rfl (by decide) ?_
                                have K7 : zv_V pP l eE rmX2_isSame sS mM aA bB mT cD Q 19 D vwCl A (fun _ => True) (tyS cI cZ cA) ((am, .inl (cI, c, .inl e)) :: (my, .inl (cI, 10, .inl gm)) :: (fo, .inl (cA, 3, aq (fun i => fo + 1 + i))) :: (fo + 1, .inl (cI, n, .inl g0)) :: (fo + 2, .inl (cI, n, .inl g1)) :: (fo + 3, .inl (cI, n, .inl g2)) :: (s 0, .inr (2, [.int r, .int y, .ref (s 1), .ref (s 2)])) :: (s 1, .inl (cA, n, aq pa)) :: (s 2, .inl (cA, b, aq da)) :: (sR cI 6 pa (rP m0 m1 m2 m3 m4 m5) n ++ (sR cI 2 da (rB m6 m7) b ++ w))) (kc + 17) (ns + 272) 307 [(0, .ref (s 0)), (1, .ref a), (2, .ref fo), (3, .ref (fo + 3)), (4, .int (nI n)), (5, .ref my), (6, .int (nI (cnt (nmS n m0 m1 m2 m3 m5 r) (-1) p))), (7, .int (nI mc)), (8, .int ms), (9, .int (nI p)), (10, .int (nI (cnb (fun q => fl m0 (nI p) 16 (m0 q)) n))), (11, .int (nI x)), (12, .ref am), (13, .int (zb (anb (fun j => !decide (nmf m2 g2 p (o j) = nmf m2 g2 p (o 0))) c))), (14, .int (nI (inP m6 m7 g2 p b))), (15, .ref (s 2)), (16, .int (nI b)), (17, .int (nI b))] [] := by
                                  refine zv_aload_n C dX2_isSame_307 308 rfl 1 rfl ?_
                                  refine zv_iload C dX2_isSame_308 310 rfl 9 rfl ?_
                                  refine zn_callRV (rest := []) C zn_TB zn_TE (zn_ofR (w_springOf l D hR p hp2)) (cwV 1 C.1.2.2.2.2 gX2_isSame_X1_springOf rfl rfl rfl (by decide +kernel) ⟨Nat.le_of_ble_eq_true rfl, Nat.le_of_ble_eq_true rfl⟩) dX2_isSame_310 313 rfl (ci := 1) rfl 0 hrc rfl rfl (Nat.le_of_ble_eq_true rfl) ⟨(by show kc + 17 + 0 ≤ 4700; omega), (by show ns + 272 + 0 ≤ 75000; omega)⟩ [0, 1] rfl (List.Sublist.cons _ (List.Sublist.cons _ (List.Sublist.cons _ (List.Sublist.cons _ (List.Sublist.cons _ (List.Sublist.cons _ (List.Sublist.cons _ (List.Sublist.cons _ (List.Sublist.cons _ ((List.sublist_append_right _ _).trans (List.sublist_append_right _ _))))))))))) (fun v hv => ?_)
                                  subst hv
                                  refine zv_go rfl rfl (st' := [.int (m3 p)]) rfl (kc' := (kc + 17)) rfl (ns' := (ns + 272)) rfl ?_
                                  refine zv_aload_n C dX2_isSame_313 314 rfl 0 rfl ?_
                                  refine zv_get (ci := 2) C inX2 rfl dX2_isSame_314 317 rfl 6 2 rfl (by decide) lk9 rfl ?_
                                  refine zv_iload C dX2_isSame_317 319 rfl 9 rfl ?_
                                  refine zn_aald (r := pa p) C dX2_isSame_319 320 rfl 7 2 p rfl rfl rfl (by omega) (by omega) rfl ?_
                                  refine zv_iconst (v := 3) C dX2_isSame_320 321 rfl (by decide) ?_
                                  refine zv_iald (v := (m3 p)) C dX2_isSame_321 322 rfl (p + 9) 0 3 (zr_p0 (by omega)) rfl (by decide) (by omega) (by omega) rfl ?_
                                  refine zv_icmp_ne C dX2_isSame_322 325 424 rfl (by decide) (fun c => absurd c (fun c => c rfl)) (fun _ => ?_)
                                  refine zv_aload_n C dX2_isSame_325 326 rfl 1 rfl ?_
                                  refine zv_iload C dX2_isSame_326 328 rfl 9 rfl ?_
                                  refine zn_callRV (rest := []) C zn_TB zn_TE (zn_ofR (w_waterAt l D hR p hp2)) (cwV 1 C.1.2.2.2.2 gX2_isSame_X1_waterAt rfl rfl rfl (by decide +kernel) ⟨Nat.le_of_ble_eq_true rfl, Nat.le_of_ble_eq_true rfl⟩) dX2_isSame_328 331 rfl (ci := 1) rfl 0 hrc rfl rfl (Nat.le_of_ble_eq_true rfl) ⟨(by show kc + 17 + 0 ≤ 4700; omega), (by show ns + 272 + 0 ≤ 75000; omega)⟩ [0, 1] rfl (List.Sublist.cons _ (List.Sublist.cons _ (List.Sublist.cons _ (List.Sublist.cons _ (List.Sublist.cons _ (List.Sublist.cons _ (List.Sublist.cons _ (List.Sublist.cons _ (List.Sublist.cons _ ((List.sublist_append_right _ _).trans (List.sublist_append_right _ _))))))))))) (fun v hv => ?_)
                                  subst hv
                                  refine zv_go rfl rfl (st' := [.int ((sol n m0 m1 m2 m3 m5 r).1 p)]) rfl (kc' := (kc + 17)) rfl (ns' := (ns + 272)) rfl ?_
                                  refine zv_aload_n C dX2_isSame_331 332 rfl 2 rfl ?_
                                  refine zv_iconst (v := 0) C dX2_isSame_332 333 rfl (by decide) ?_
                                  refine zn_aald (r := fo + 1) C dX2_isSame_333 334 rfl 2 2 0 rfl rfl (by decide) (by omega) (by omega) rfl ?_
                                  refine zv_iload C dX2_isSame_334 336 rfl 9 rfl ?_
                                  refine zv_iald (v := ((sol n m0 m1 m2 m3 m5 r).1 p)) C dX2_isSame_336 337 rfl 3 0 p rfl rfl rfl (by omega) (by omega) (hg p hp2).1 ?_
                                  refine zv_icmp_ne C dX2_isSame_337 340 424 rfl (by decide) (fun c => absurd c (fun c => c rfl)) (fun _ => ?_)
                                  refine zv_aload_n C dX2_isSame_340 341 rfl 1 rfl ?_
                                  refine zv_iload C dX2_isSame_341 343 rfl 9 rfl ?_
                                  refine zn_callRV (rest := []) C zn_TB zn_TE (zn_ofR (w_lengthAt l D hR p hp2)) (cwV 1 C.1.2.2.2.2 gX2_isSame_X1_lengthAt rfl rfl rfl (by decide +kernel) ⟨Nat.le_of_ble_eq_true rfl, Nat.le_of_ble_eq_true rfl⟩) dX2_isSame_343 346 rfl (ci := 1) rfl 0 hrc rfl rfl (Nat.le_of_ble_eq_true rfl) ⟨(by show kc + 17 + 0 ≤ 4700; omega), (by show ns + 272 + 0 ≤ 75000; omega)⟩ [0, 1] rfl (List.Sublist.cons _ (List.Sublist.cons _ (List.Sublist.cons _ (List.Sublist.cons _ (List.Sublist.cons _ (List.Sublist.cons _ (List.Sublist.cons _ (List.Sublist.cons _ (List.Sublist.cons _ ((List.sublist_append_right _ _).trans (List.sublist_append_right _ _))))))))))) (fun v hv => ?_)
                                  subst hv
                                  refine zv_go rfl rfl (st' := [.int ((sol n m0 m1 m2 m3 m5 r).2.1 p)]) rfl (kc' := (kc + 17)) rfl (ns' := (ns + 272)) rfl ?_
                                  refine zv_aload_n C dX2_isSame_346 347 rfl 2 rfl ?_
                                  refine zv_iconst (v := 1) C dX2_isSame_347 348 rfl (by decide) ?_
                                  refine zn_aald (r := fo + 2) C dX2_isSame_348 349 rfl 2 2 1 rfl rfl (by decide) (by omega) (by omega) rfl ?_
                                  refine zv_iload C dX2_isSame_349 351 rfl 9 rfl ?_
                                  refine zv_iald (v := ((sol n m0 m1 m2 m3 m5 r).2.1 p)) C dX2_isSame_351 352 rfl 4 0 p rfl rfl rfl (by omega) (by omega) (hg p hp2).2.1 ?_
                                  refine zv_icmp_ne C dX2_isSame_352 355 424 rfl (by decide) (fun c => absurd c (fun c => c rfl)) (fun _ => ?_)
                                  refine zv_aload_n C dX2_isSame_355 356 rfl 1 rfl ?_
                                  refine zv_iload C dX2_isSame_356 358 rfl 9 rfl ?_
                                  refine zn_callRV (rest := []) C zn_TB zn_TE (zn_ofR (w_mouthOf l D hR p hp2)) (cwV 1 C.1.2.2.2.2 gX2_isSame_X1_mouthOf rfl rfl rfl (by decide +kernel) ⟨Nat.le_of_ble_eq_true rfl, Nat.le_of_ble_eq_true rfl⟩) dX2_isSame_358 361 rfl (ci := 1) rfl 0 hrc rfl rfl (Nat.le_of_ble_eq_true rfl) ⟨(by show kc + 17 + 0 ≤ 4700; omega), (by show ns + 272 + 0 ≤ 75000; omega)⟩ [0, 1] rfl (List.Sublist.cons _ (List.Sublist.cons _ (List.Sublist.cons _ (List.Sublist.cons _ (List.Sublist.cons _ (List.Sublist.cons _ (List.Sublist.cons _ (List.Sublist.cons _ (List.Sublist.cons _ ((List.sublist_append_right _ _).trans (List.sublist_append_right _ _))))))))))) (fun v hv => ?_)
                                  subst hv
                                  refine zv_go rfl rfl (st' := [.int (nI (mo m0 16 p))]) rfl (kc' := (kc + 17)) rfl (ns' := (ns + 272)) rfl ?_
                                  refine zv_iload C dX2_isSame_361 363 rfl 11 rfl ?_
                                  refine zv_icmp_ne C dX2_isSame_363 366 424 rfl (by decide) (fun c => absurd c (fun c => c (by rw [he2]))) (fun _ => ?_)
                                  refine zv_aload_n C dX2_isSame_366 367 rfl 1 rfl ?_
                                  refine zv_iload C dX2_isSame_367 369 rfl 9 rfl ?_
                                  refine zn_callRV (rest := []) C zn_TB zn_TE (zn_ofR (w_placesAbove l D hR p hp2)) (cwV 1 C.1.2.2.2.2 gX2_isSame_X1_placesAbove rfl rfl rfl (by decide +kernel) ⟨Nat.le_of_ble_eq_true rfl, Nat.le_of_ble_eq_true rfl⟩) dX2_isSame_369 372 rfl (ci := 1) rfl 0 hrc rfl rfl (Nat.le_of_ble_eq_true rfl) ⟨(by show kc + 17 + 0 ≤ 4700; omega), (by show ns + 272 + 0 ≤ 75000; omega)⟩ [0, 1] rfl (List.Sublist.cons _ (List.Sublist.cons _ (List.Sublist.cons _ (List.Sublist.cons _ (List.Sublist.cons _ (List.Sublist.cons _ (List.Sublist.cons _ (List.Sublist.cons _ (List.Sublist.cons _ ((List.sublist_append_right _ _).trans (List.sublist_append_right _ _))))))))))) (fun v hv => ?_)
                                  subst hv
                                  refine zv_go rfl rfl (st' := [.int (nI (ao n m0 p))]) rfl (kc' := (kc + 17)) rfl (ns' := (ns + 272)) rfl ?_
                                  refine zv_iload C dX2_isSame_372 374 rfl 10 rfl ?_
                                  refine zv_icmp_ne C dX2_isSame_374 377 424 rfl (by decide) (fun c => absurd c (fun c => c rfl)) (fun _ => ?_)
                                  refine zv_aload_n C dX2_isSame_377 378 rfl 1 rfl ?_
                                  refine zv_iload C dX2_isSame_378 380 rfl 9 rfl ?_
                                  refine zn_callRV (rest := []) C zn_TB zn_TE (zn_ofR (w_nameAt l D hR p hp2)) (cwV 1 C.1.2.2.2.2 gX2_isSame_X1_nameAt rfl rfl rfl (by decide +kernel) ⟨Nat.le_of_ble_eq_true rfl, Nat.le_of_ble_eq_true rfl⟩) dX2_isSame_380 383 rfl (ci := 1) rfl 0 hrc rfl rfl (Nat.le_of_ble_eq_true rfl) ⟨(by show kc + 17 + 0 ≤ 4700; omega), (by show ns + 272 + 0 ≤ 75000; omega)⟩ [0, 1] rfl (List.Sublist.cons _ (List.Sublist.cons _ (List.Sublist.cons _ (List.Sublist.cons _ (List.Sublist.cons _ (List.Sublist.cons _ (List.Sublist.cons _ (List.Sublist.cons _ (List.Sublist.cons _ ((List.sublist_append_right _ _).trans (List.sublist_append_right _ _))))))))))) (fun v hv => ?_)
                                  subst hv
                                  refine zv_go rfl rfl (st' := [.int (nmS n m0 m1 m2 m3 m5 r p)]) rfl (kc' := (kc + 17)) rfl (ns' := (ns + 272)) rfl ?_
                                  refine zv_aload_n C dX2_isSame_383 384 rfl 3 rfl ?_
                                  refine zv_iload C dX2_isSame_384 386 rfl 9 rfl ?_
                                  refine zv_iald (v := (nmS n m0 m1 m2 m3 m5 r p)) C dX2_isSame_386 387 rfl 5 0 p rfl rfl rfl (by omega) (by omega) (hg p hp2).2.2 ?_
                                  refine zv_icmp_ne C dX2_isSame_387 390 424 rfl (by decide) (fun c => absurd c (fun c => c rfl)) (fun _ => ?_)
                                  refine zv_aload_n C dX2_isSame_390 391 rfl 1 rfl ?_
                                  refine zv_iload C dX2_isSame_391 393 rfl 9 rfl ?_
                                  refine zn_callRV (rest := []) C zn_TB zn_TE (zn_ofR (w_arguing l D hR p hp2)) (cwV 1 C.1.2.2.2.2 gX2_isSame_X1_arguing rfl rfl rfl (by decide +kernel) ⟨Nat.le_of_ble_eq_true rfl, Nat.le_of_ble_eq_true rfl⟩) dX2_isSame_393 396 rfl (ci := 1) rfl 0 hrc rfl rfl (Nat.le_of_ble_eq_true rfl) ⟨(by show kc + 17 + 0 ≤ 4700; omega), (by show ns + 272 + 0 ≤ 75000; omega)⟩ [0, 1] rfl (List.Sublist.cons _ (List.Sublist.cons _ (List.Sublist.cons _ (List.Sublist.cons _ (List.Sublist.cons _ (List.Sublist.cons _ (List.Sublist.cons _ (List.Sublist.cons _ (List.Sublist.cons _ ((List.sublist_append_right _ _).trans (List.sublist_append_right _ _))))))))))) (fun v hv => ?_)
                                  subst hv
                                  refine zv_go rfl rfl (st' := [.int (nI (agA m0 m1 m3 m5 (nmS n m0 m1 m2 m3 m5 r) p n))]) rfl (kc' := (kc + 17)) rfl (ns' := (ns + 272)) rfl ?_
                                  refine zv_aload C dX2_isSame_396 398 rfl 12 rfl ?_
                                  refine zv_alen (v := (nI c)) C dX2_isSame_398 399 rfl 0 0 rfl rfl rfl ?_
                                  refine zv_icmp_ne C dX2_isSame_399 402 424 rfl (by decide) (fun c => absurd c (fun c9 => c9 (by rw [← hcA]))) (fun _ => ?_)
                                  refine zv_aload_n C dX2_isSame_402 403 rfl 1 rfl ?_
                                  refine zv_iload C dX2_isSame_403 405 rfl 9 rfl ?_
                                  refine zn_callRV (rest := []) C zn_TB zn_TE (zn_ofR (w_isArgued l D hR p hp2)) (cwV 1 C.1.2.2.2.2 gX2_isSame_X1_isArgued rfl rfl rfl (by decide +kernel) ⟨Nat.le_of_ble_eq_true rfl, Nat.le_of_ble_eq_true rfl⟩) dX2_isSame_405 408 rfl (ci := 1) rfl 0 hrc rfl rfl (Nat.le_of_ble_eq_true rfl) ⟨(by show kc + 17 + 0 ≤ 4700; omega), (by show ns + 272 + 0 ≤ 75000; omega)⟩ [0, 1] rfl (List.Sublist.cons _ (List.Sublist.cons _ (List.Sublist.cons _ (List.Sublist.cons _ (List.Sublist.cons _ (List.Sublist.cons _ (List.Sublist.cons _ (List.Sublist.cons _ (List.Sublist.cons _ ((List.sublist_append_right _ _).trans (List.sublist_append_right _ _))))))))))) (fun v hv => ?_)
                                  subst hv
                                  refine zv_go rfl rfl (st' := [.int (zb (agD m0 m1 m2 m3 m5 (nmS n m0 m1 m2 m3 m5 r) p n))]) rfl (kc' := (kc + 17)) rfl (ns' := (ns + 272)) rfl ?_
                                  refine zv_iload C dX2_isSame_408 410 rfl 13 rfl ?_
                                  refine zv_icmp_ne C dX2_isSame_410 413 424 rfl (by decide) (fun c => absurd c (fun c => c (by rw [hdd]))) (fun _ => ?_)
                                  refine zv_aload_n C dX2_isSame_413 414 rfl 1 rfl ?_
                                  refine zv_iload C dX2_isSame_414 416 rfl 9 rfl ?_
                                  refine zn_callRV (rest := []) C zn_TB zn_TE (zn_ofR (w_insultsAt l D hR p hp2)) (cwV 1 C.1.2.2.2.2 gX2_isSame_X1_insultsAt rfl rfl rfl (by decide +kernel) ⟨Nat.le_of_ble_eq_true rfl, Nat.le_of_ble_eq_true rfl⟩) dX2_isSame_416 419 rfl (ci := 1) rfl 0 hrc rfl rfl (Nat.le_of_ble_eq_true rfl) ⟨(by show kc + 17 + 0 ≤ 4700; omega), (by show ns + 272 + 0 ≤ 75000; omega)⟩ [0, 1] rfl (List.Sublist.cons _ (List.Sublist.cons _ (List.Sublist.cons _ (List.Sublist.cons _ (List.Sublist.cons _ (List.Sublist.cons _ (List.Sublist.cons _ (List.Sublist.cons _ (List.Sublist.cons _ ((List.sublist_append_right _ _).trans (List.sublist_append_right _ _))))))))))) (fun v hv => ?_)
                                  subst hv
                                  refine zv_go rfl rfl (st' := [.int (nI (inP m6 m7 (nmS n m0 m1 m2 m3 m5 r) p b))]) rfl (kc' := (kc + 17)) rfl (ns' := (ns + 272)) rfl ?_
                                  refine zv_iload C dX2_isSame_419 421 rfl 14 rfl ?_
                                  refine zv_icmp_eq C dX2_isSame_421 424 426 rfl (by decide) (fun _ => ?_) (fun c => absurd (by rw [hinP]) c)
                                  refine zv_aload_n C dX2_isSame_426 427 rfl 3 rfl ?_
                                  refine zv_iload C dX2_isSame_427 429 rfl 9 rfl ?_
                                  refine zv_iald (v := (nmS n m0 m1 m2 m3 m5 r p)) C dX2_isSame_429 430 rfl 5 0 p rfl rfl rfl (by omega) (by omega) (hg p hp2).2.2 ?_
                                  have K45 : ∀ gh : Nat → Int32, (∀ k, k < 10 → gh k = nI (cnt (nmS n m0 m1 m2 m3 m5 r) (nI k) (p + 1))) → zv_V pP l eE rmX2_isSame sS mM aA bB mT cD Q 19 D vwCl A (fun _ => True) (tyS cI cZ cA) ((am, .inl (cI, c, .inl e)) :: (my, .inl (cI, 10, .inl gh)) :: (fo, .inl (cA, 3, aq (fun i => fo + 1 + i))) :: (fo + 1, .inl (cI, n, .inl g0)) :: (fo + 2, .inl (cI, n, .inl g1)) :: (fo + 3, .inl (cI, n, .inl g2)) :: (s 0, .inr (2, [.int r, .int y, .ref (s 1), .ref (s 2)])) :: (s 1, .inl (cA, n, aq pa)) :: (s 2, .inl (cA, b, aq da)) :: (sR cI 6 pa (rP m0 m1 m2 m3 m4 m5) n ++ (sR cI 2 da (rB m6 m7) b ++ w))) (kc + 17) (ns + 272) 450 [(0, .ref (s 0)), (1, .ref a), (2, .ref fo), (3, .ref (fo + 3)), (4, .int (nI n)), (5, .ref my), (6, .int (nI (cnt (nmS n m0 m1 m2 m3 m5 r) (-1) (p + 1)))), (7, .int (nI mc)), (8, .int ms), (9, .int (nI p)), (10, .int (nI (cnb (fun q => fl m0 (nI p) 16 (m0 q)) n))), (11, .int (nI x)), (12, .ref am), (13, .int (zb (anb (fun j => !decide (nmf m2 g2 p (o j) = nmf m2 g2 p (o 0))) c))), (14, .int (nI (inP m6 m7 g2 p b))), (15, .ref (s 2)), (16, .int (nI b)), (17, .int (nI b))] [] := by
                                    intro gh hgh
                                    refine zn_part (ws' := ((my, .inl (cI, 10, .inl gh)) :: (fo, .inl (cA, 3, aq (fun i => fo + 1 + i))) :: (fo + 1, .inl (cI, n, .inl g0)) :: (fo + 2, .inl (cI, n, .inl g1)) :: (fo + 3, .inl (cI, n, .inl g2)) :: (s 0, .inr (2, [.int r, .int y, .ref (s 1), .ref (s 2)])) :: (s 1, .inl (cA, n, aq pa)) :: (s 2, .inl (cA, b, aq da)) :: (sR cI 6 pa (rP m0 m1 m2 m3 m4 m5) n ++ (sR cI 2 da (rB m6 m7) b ++ w)))) (List.Sublist.cons _ (List.Sublist.refl _)) ?_
                                    refine zv_aload_n C dX2_isSame_450 451 rfl 0 rfl ?_
                                    refine zv_get (ci := 2) C inX2 rfl dX2_isSame_451 454 rfl 5 2 rfl (by decide) lk9 rfl ?_
                                    refine zv_iload C dX2_isSame_454 456 rfl 9 rfl ?_
                                    refine zn_aald (r := pa p) C dX2_isSame_456 457 rfl 6 2 p rfl rfl rfl (by omega) (by omega) rfl ?_
                                    refine zv_iconst (v := 0) C dX2_isSame_457 458 rfl (by decide) ?_
                                    refine zv_iald (v := (m0 p)) C dX2_isSame_458 459 rfl (p + 8) 0 0 (zr_p0 (by omega)) rfl (by decide) (by omega) (by omega) rfl ?_
                                    refine zv_if_lt C dX2_isSame_459 462 465 rfl (by decide) (fun cl => ?_) (fun cl => ?_)
                                    ·
                                      have hm1 : m0 p = -1 := by
                                        rcases hD.vw p hp2 with z | ⟨q, hq, eq⟩
                                        · exact z
                                        · rw [eq] at cl; exact absurd cl (nI_nneg (by omega))
                                      refine zv_iinc (v := (nI (mc + 1))) C dX2_isSame_465 468 rfl [(7, .int (nI (mc + 1))), (0, .ref (s 0)), (1, .ref a), (2, .ref fo), (3, .ref (fo + 3)), (4, .int (nI n)), (5, .ref my), (6, .int (nI (cnt (nmS n m0 m1 m2 m3 m5 r) (-1) (p + 1)))), (8, .int ms), (9, .int (nI p)), (10, .int (nI (cnb (fun q => fl m0 (nI p) 16 (m0 q)) n))), (11, .int (nI x)), (12, .ref am), (13, .int (zb (anb (fun j => !decide (nmf m2 g2 p (o j) = nmf m2 g2 p (o 0))) c))), (14, .int (nI (inP m6 m7 g2 p b))), (15, .ref (s 2)), (16, .int (nI b)), (17, .int (nI b))] 7 rfl (nI_1 mc) (by decide) rfl ?_
                                      refine zv_iload C dX2_isSame_468 470 rfl 8 rfl ?_
                                      refine zv_aload_n C dX2_isSame_470 471 rfl 3 rfl ?_
                                      refine zv_iconst (v := 0) C dX2_isSame_471 472 rfl (by decide) ?_
                                      refine zn_aald (r := fo + 1) C dX2_isSame_472 473 rfl 1 2 0 rfl rfl (by decide) (by omega) (by omega) rfl ?_
                                      refine zv_iload C dX2_isSame_473 475 rfl 9 rfl ?_
                                      refine zv_iald (v := ((sol n m0 m1 m2 m3 m5 r).1 p)) C dX2_isSame_475 476 rfl 2 0 p rfl rfl rfl (by omega) (by omega) (hg p hp2).1 ?_
                                      refine zv_iadd (v := (ms + ((sol n m0 m1 m2 m3 m5 r).1 p))) C dX2_isSame_476 477 rfl rfl ?_
                                      refine zv_istore C dX2_isSame_477 479 rfl [(8, .int (ms + ((sol n m0 m1 m2 m3 m5 r).1 p))), (7, .int (nI (mc + 1))), (0, .ref (s 0)), (1, .ref a), (2, .ref fo), (3, .ref (fo + 3)), (4, .int (nI n)), (5, .ref my), (6, .int (nI (cnt (nmS n m0 m1 m2 m3 m5 r) (-1) (p + 1)))), (9, .int (nI p)), (10, .int (nI (cnb (fun q => fl m0 (nI p) 16 (m0 q)) n))), (11, .int (nI x)), (12, .ref am), (13, .int (zb (anb (fun j => !decide (nmf m2 g2 p (o j) = nmf m2 g2 p (o 0))) c))), (14, .int (nI (inP m6 m7 g2 p b))), (15, .ref (s 2)), (16, .int (nI b)), (17, .int (nI b))] (by decide) rfl ?_
                                      refine zv_iinc (v := (nI (p + 1))) C dX2_isSame_479 482 rfl [(9, .int (nI (p + 1))), (8, .int (ms + ((sol n m0 m1 m2 m3 m5 r).1 p))), (7, .int (nI (mc + 1))), (0, .ref (s 0)), (1, .ref a), (2, .ref fo), (3, .ref (fo + 3)), (4, .int (nI n)), (5, .ref my), (6, .int (nI (cnt (nmS n m0 m1 m2 m3 m5 r) (-1) (p + 1)))), (10, .int (nI (cnb (fun q => fl m0 (nI p) 16 (m0 q)) n))), (11, .int (nI x)), (12, .ref am), (13, .int (zb (anb (fun j => !decide (nmf m2 g2 p (o j) = nmf m2 g2 p (o 0))) c))), (14, .int (nI (inP m6 m7 g2 p b))), (15, .ref (s 2)), (16, .int (nI b)), (17, .int (nI b))] 9 rfl (nI_1 p) (by decide) rfl ?_
                                      refine zv_goto C dX2_isSame_482 34 (by decide) ?_
                                      refine zv_sub [3, 4, 5, 6, 7, 8, 9, 2, 1, 0] (lv' := [(0, .ref (s 0)), (1, .ref a), (2, .ref fo), (3, .ref (fo + 3)), (4, .int (nI n)), (5, .ref my), (6, .int (nI (cnt (nmS n m0 m1 m2 m3 m5 r) (-1) (p + 1)))), (7, .int (nI (mc + 1))), (8, .int (ms + ((sol n m0 m1 m2 m3 m5 r).1 p))), (9, .int (nI (p + 1)))]) rfl ?_
                                      exact ih_PL (p + 1) gh _ _ _ _ hgh (mmS_y _ _ hms hm1) (by omega) (by omega) (by omega) (by omega)
                                    ·
                                      have hm1 : ¬ m0 p = -1 := fun z => cl (by rw [z]; decide)
                                      refine zv_goto C dX2_isSame_462 479 (by decide) ?_
                                      refine zv_iinc (v := (nI (p + 1))) C dX2_isSame_479 482 rfl [(9, .int (nI (p + 1))), (0, .ref (s 0)), (1, .ref a), (2, .ref fo), (3, .ref (fo + 3)), (4, .int (nI n)), (5, .ref my), (6, .int (nI (cnt (nmS n m0 m1 m2 m3 m5 r) (-1) (p + 1)))), (7, .int (nI mc)), (8, .int ms), (10, .int (nI (cnb (fun q => fl m0 (nI p) 16 (m0 q)) n))), (11, .int (nI x)), (12, .ref am), (13, .int (zb (anb (fun j => !decide (nmf m2 g2 p (o j) = nmf m2 g2 p (o 0))) c))), (14, .int (nI (inP m6 m7 g2 p b))), (15, .ref (s 2)), (16, .int (nI b)), (17, .int (nI b))] 9 rfl (nI_1 p) (by decide) rfl ?_
                                      refine zv_goto C dX2_isSame_482 34 (by decide) ?_
                                      refine zv_sub [1, 2, 3, 4, 5, 6, 7, 8, 9, 0] (lv' := [(0, .ref (s 0)), (1, .ref a), (2, .ref fo), (3, .ref (fo + 3)), (4, .int (nI n)), (5, .ref my), (6, .int (nI (cnt (nmS n m0 m1 m2 m3 m5 r) (-1) (p + 1)))), (7, .int (nI mc)), (8, .int ms), (9, .int (nI (p + 1)))]) rfl ?_
                                      exact ih_PL (p + 1) gh _ _ _ _ hgh (mmS_n _ _ hms hm1) (by omega) (by omega) (by omega) (by omega)
                                  refine zv_if_ge C dX2_isSame_430 433 439 rfl (by decide) (fun cn => ?_) (fun cn => ?_)
                                  ·
                                    obtain ⟨v, hv9, ev⟩ : ∃ v, v ≤ 9 ∧ nmS n m0 m1 m2 m3 m5 r p = nI v := by
                                      rcases hV.nv hp2 with z | z
                                      · rw [z] at cn; exact absurd cn (by decide)
                                      · exact z
                                    refine zv_aload C dX2_isSame_439 441 rfl 5 rfl ?_
                                    refine zv_aload_n C dX2_isSame_441 442 rfl 3 rfl ?_
                                    refine zv_iload C dX2_isSame_442 444 rfl 9 rfl ?_
                                    refine zv_iald (v := (nI v)) C dX2_isSame_444 445 rfl 5 0 p rfl rfl rfl (by omega) (by omega) ((hg p hp2).2.2.trans ev) ?_
                                    refine zv_dup2 C dX2_isSame_445 446 rfl rfl rfl ?_
                                    refine zv_iald (v := (nI (cnt (nmS n m0 m1 m2 m3 m5 r) (nI v) p))) C dX2_isSame_446 447 rfl 1 0 v rfl rfl rfl (by omega) (by omega) (hgm v (by omega)) ?_
                                    refine zv_iconst (v := 1) C dX2_isSame_447 448 rfl (by decide) ?_
                                    refine zv_iadd (v := (nI (cnt (nmS n m0 m1 m2 m3 m5 r) (nI v) p + 1))) C dX2_isSame_448 449 rfl (nI_1 (cnt (nmS n m0 m1 m2 m3 m5 r) (nI v) p)) ?_
                                    refine zn_iast (x' := (nI (cnt (nmS n m0 m1 m2 m3 m5 r) (nI v) p + 1))) C dX2_isSame_449 450 rfl 1 0 v rfl fA_my rfl rfl (by omega) (by omega) rfl ((am, .inl (cI, c, .inl e)) :: (my, .inl (cI, 10, .inl (upd gm v (nI (cnt (nmS n m0 m1 m2 m3 m5 r) (nI v) p + 1))))) :: (fo, .inl (cA, 3, aq (fun i => fo + 1 + i))) :: (fo + 1, .inl (cI, n, .inl g0)) :: (fo + 2, .inl (cI, n, .inl g1)) :: (fo + 3, .inl (cI, n, .inl g2)) :: (s 0, .inr (2, [.int r, .int y, .ref (s 1), .ref (s 2)])) :: (s 1, .inl (cA, n, aq pa)) :: (s 2, .inl (cA, b, aq da)) :: (sR cI 6 pa (rP m0 m1 m2 m3 m4 m5) n ++ (sR cI 2 da (rB m6 m7) b ++ w))) rfl ?_
                                    refine zv_go rfl (lv' := [(0, .ref (s 0)), (1, .ref a), (2, .ref fo), (3, .ref (fo + 3)), (4, .int (nI n)), (5, .ref my), (6, .int (nI (cnt (nmS n m0 m1 m2 m3 m5 r) (-1) (p + 1)))), (7, .int (nI mc)), (8, .int ms), (9, .int (nI p)), (10, .int (nI (cnb (fun q => fl m0 (nI p) 16 (m0 q)) n))), (11, .int (nI x)), (12, .ref am), (13, .int (zb (anb (fun j => !decide (nmf m2 g2 p (o j) = nmf m2 g2 p (o 0))) c))), (14, .int (nI (inP m6 m7 g2 p b))), (15, .ref (s 2)), (16, .int (nI b)), (17, .int (nI b))]) (by rw [cnt_n (nmS n m0 m1 m2 m3 m5 r) (-1) (by rw [ev]; exact ne_m1 (by omega))]) rfl rfl rfl ?_
                                    exact K45 _ (fun k hk => by
                                      by_cases z : k = v
                                      · subst z; rw [upd_at, cnt_y (nmS n m0 m1 m2 m3 m5 r) _ ev]
                                      · rw [upd_ne _ _ _ z, cnt_n (nmS n m0 m1 m2 m3 m5 r) _ (fun y => z (nI_inj (by omega) (by omega) (ev.symm.trans y)).symm)]; exact hgm k hk)
                                  ·
                                    have ev : nmS n m0 m1 m2 m3 m5 r p = -1 := by
                                      rcases hV.nv hp2 with z | ⟨v, hv9, z⟩
                                      · exact z
                                      · rw [z] at cn; exact absurd (Int32.not_lt.mp (nI_nneg (by omega))) cn
                                    refine zv_iinc (v := (nI (cnt (nmS n m0 m1 m2 m3 m5 r) (-1) (p + 1)))) C dX2_isSame_433 436 rfl [(6, .int (nI (cnt (nmS n m0 m1 m2 m3 m5 r) (-1) (p + 1)))), (0, .ref (s 0)), (1, .ref a), (2, .ref fo), (3, .ref (fo + 3)), (4, .int (nI n)), (5, .ref my), (7, .int (nI mc)), (8, .int ms), (9, .int (nI p)), (10, .int (nI (cnb (fun q => fl m0 (nI p) 16 (m0 q)) n))), (11, .int (nI x)), (12, .ref am), (13, .int (zb (anb (fun j => !decide (nmf m2 g2 p (o j) = nmf m2 g2 p (o 0))) c))), (14, .int (nI (inP m6 m7 g2 p b))), (15, .ref (s 2)), (16, .int (nI b)), (17, .int (nI b))] 6 rfl (by rw [cnt_y (nmS n m0 m1 m2 m3 m5 r) _ ev]; exact nI_1 _) (by decide) rfl ?_
                                    refine zv_goto C dX2_isSame_436 450 (by decide) ?_
                                    refine zv_sub [1, 2, 3, 4, 5, 6, 0, 7, 8, 9, 10, 11, 12, 13, 14, 15, 16, 17] (lv' := [(0, .ref (s 0)), (1, .ref a), (2, .ref fo), (3, .ref (fo + 3)), (4, .int (nI n)), (5, .ref my), (6, .int (nI (cnt (nmS n m0 m1 m2 m3 m5 r) (-1) (p + 1)))), (7, .int (nI mc)), (8, .int ms), (9, .int (nI p)), (10, .int (nI (cnb (fun q => fl m0 (nI p) 16 (m0 q)) n))), (11, .int (nI x)), (12, .ref am), (13, .int (zb (anb (fun j => !decide (nmf m2 g2 p (o j) = nmf m2 g2 p (o 0))) c))), (14, .int (nI (inP m6 m7 g2 p b))), (15, .ref (s 2)), (16, .int (nI b)), (17, .int (nI b))]) rfl ?_
                                    exact K45 gm (fun k hk => by rw [cnt_n (nmS n m0 m1 m2 m3 m5 r) _ (by rw [ev]; exact fun y => ne_m1 (by omega) y.symm)]; exact hgm k hk)
                                refine zv_icmp_ne C dX2_isSame_296 299 303 rfl (by decide) (fun ch => ?_) (fun ch => ?_)
                                ·
                                  have hz0 : m1 p = 0 := (hV.zm1 p).resolve_right ch
                                  refine zv_iconst (v := 0) C dX2_isSame_303 304 rfl (by decide) ?_
                                  refine zv_icmp_ne C dX2_isSame_304 307 424 rfl (by decide) (fun c => absurd c (fun c => c hz0)) (fun _ => ?_)
                                  exact K7
                                ·
                                  refine zv_iconst (v := 1) C dX2_isSame_299 300 rfl (by decide) ?_
                                  refine zv_goto C dX2_isSame_300 304 (by decide) ?_
                                  refine zv_icmp_ne C dX2_isSame_304 307 424 rfl (by decide) (fun c => absurd c (fun c => c ch)) (fun _ => ?_)
                                  exact K7
                              ·
                                have hk2 : k < b := zn_le' (by omega) (by omega) ck
                                obtain ⟨q, hq, eq⟩ := hV.brg k hk2
                                refine zv_aload C dX2_isSame_212 214 rfl 15 rfl ?_
                                refine zv_iload C dX2_isSame_214 216 rfl 17 rfl ?_
                                refine zn_aald (r := da k) C dX2_isSame_216 217 rfl 8 2 k rfl rfl rfl (by omega) (by omega) rfl ?_
                                refine zv_astore C dX2_isSame_217 219 rfl [(18, .ref (da k)), (0, .ref (s 0)), (1, .ref a), (2, .ref fo), (3, .ref (fo + 3)), (4, .int (nI n)), (5, .ref my), (6, .int (nI (cnt (nmS n m0 m1 m2 m3 m5 r) (-1) p))), (7, .int (nI mc)), (8, .int ms), (9, .int (nI p)), (10, .int (nI (cnb (fun q => fl m0 (nI p) 16 (m0 q)) n))), (11, .int (nI x)), (12, .ref am), (13, .int (zb (anb (fun j => !decide (nmf m2 g2 p (o j) = nmf m2 g2 p (o 0))) c))), (14, .int (nI (inP m6 m7 g2 p k))), (15, .ref (s 2)), (16, .int (nI b)), (17, .int (nI k))] (by decide) rfl ?_
                                refine zv_iload C dX2_isSame_219 221 rfl 15 rfl ?_
                                refine zv_aload C dX2_isSame_221 223 rfl 0 rfl ?_
                                refine zv_iconst (v := 0) C dX2_isSame_223 224 rfl (by decide) ?_
                                refine zv_iald (v := (nI q)) C dX2_isSame_224 225 rfl (k + n + 9) 0 0 (zr_p1 (by omega)) rfl (by decide) (by omega) (by omega) eq ?_
                                refine zv_iload C dX2_isSame_225 227 rfl 10 rfl ?_
                                refine zv_icmp_ne C dX2_isSame_227 230 252 rfl (by decide) (fun cb => ?_) (fun cb => ?_)
                                ·
                                  refine zv_iconst (v := 0) C dX2_isSame_252 253 rfl (by decide) ?_
                                  refine zv_iadd (v := (nI (inP m6 m7 g2 p (k + 1)))) C dX2_isSame_253 254 rfl (by unfold inP; rw [cnb_n (fun i => decide (m6 i = nI p) && insd (m7 i) (g2 (m6 i).toNatClampNeg)) (by show (decide (m6 k = nI p) && insd (m7 k) (g2 (m6 k).toNatClampNeg)) = false; rw [eq, decide_eq_false cb]; rfl)]; exact Int32.add_zero _) ?_
                                  refine zv_istore C dX2_isSame_254 256 rfl [(14, .int (nI (inP m6 m7 g2 p (k + 1)))), (18, .ref (da k)), (0, .ref (s 0)), (1, .ref a), (2, .ref fo), (3, .ref (fo + 3)), (4, .int (nI n)), (5, .ref my), (6, .int (nI (cnt (nmS n m0 m1 m2 m3 m5 r) (-1) p))), (7, .int (nI mc)), (8, .int ms), (9, .int (nI p)), (10, .int (nI (cnb (fun q => fl m0 (nI p) 16 (m0 q)) n))), (11, .int (nI x)), (12, .ref am), (13, .int (zb (anb (fun j => !decide (nmf m2 g2 p (o j) = nmf m2 g2 p (o 0))) c))), (15, .ref (s 2)), (16, .int (nI b)), (17, .int (nI k))] (by decide) rfl ?_
                                  refine zv_iinc (v := (nI (k + 1))) C dX2_isSame_256 259 rfl [(17, .int (nI (k + 1))), (14, .int (nI (inP m6 m7 g2 p (k + 1)))), (18, .ref (da k)), (0, .ref (s 0)), (1, .ref a), (2, .ref fo), (3, .ref (fo + 3)), (4, .int (nI n)), (5, .ref my), (6, .int (nI (cnt (nmS n m0 m1 m2 m3 m5 r) (-1) p))), (7, .int (nI mc)), (8, .int ms), (9, .int (nI p)), (10, .int (nI (cnb (fun q => fl m0 (nI p) 16 (m0 q)) n))), (11, .int (nI x)), (12, .ref am), (13, .int (zb (anb (fun j => !decide (nmf m2 g2 p (o j) = nmf m2 g2 p (o 0))) c))), (15, .ref (s 2)), (16, .int (nI b))] 18 rfl (nI_1 k) (by decide) rfl ?_
                                  refine zv_goto C dX2_isSame_259 205 (by decide) ?_
                                  refine zv_sub [3, 4, 5, 6, 7, 8, 9, 10, 11, 12, 13, 14, 15, 16, 1, 17, 18, 0] (lv' := [(0, .ref (s 0)), (1, .ref a), (2, .ref fo), (3, .ref (fo + 3)), (4, .int (nI n)), (5, .ref my), (6, .int (nI (cnt (nmS n m0 m1 m2 m3 m5 r) (-1) p))), (7, .int (nI mc)), (8, .int ms), (9, .int (nI p)), (10, .int (nI (cnb (fun q => fl m0 (nI p) 16 (m0 q)) n))), (11, .int (nI x)), (12, .ref am), (13, .int (zb (anb (fun j => !decide (nmf m2 g2 p (o j) = nmf m2 g2 p (o 0))) c))), (14, .int (nI (inP m6 m7 g2 p (k + 1)))), (15, .ref (s 2)), (16, .int (nI b)), (17, .int (nI (k + 1)))]) rfl ?_
                                  exact ih_BL (k + 1) (by omega) (by omega)
                                ·
                                  refine zv_aload C dX2_isSame_230 232 rfl 0 rfl ?_
                                  refine zv_iconst (v := 1) C dX2_isSame_232 233 rfl (by decide) ?_
                                  refine zv_iald (v := (m7 k)) C dX2_isSame_233 234 rfl (k + n + 9) 0 1 (zr_p1 (by omega)) rfl (by decide) (by omega) (by omega) rfl ?_
                                  refine zv_if_lt C dX2_isSame_234 237 252 rfl (by decide) (fun c2 => ?_) (fun c2 => ?_)
                                  ·
                                    refine zv_iconst (v := 0) C dX2_isSame_252 253 rfl (by decide) ?_
                                    refine zv_iadd (v := (nI (inP m6 m7 g2 p (k + 1)))) C dX2_isSame_253 254 rfl (by unfold inP; rw [cnb_n (fun i => decide (m6 i = nI p) && insd (m7 i) (g2 (m6 i).toNatClampNeg)) (by show (decide (m6 k = nI p) && insd (m7 k) (g2 (m6 k).toNatClampNeg)) = false; rw [ins_m1 (hV.2.2 k hk2) c2, Bool.and_false])]; exact Int32.add_zero _) ?_
                                    refine zv_istore C dX2_isSame_254 256 rfl [(14, .int (nI (inP m6 m7 g2 p (k + 1)))), (18, .ref (da k)), (0, .ref (s 0)), (1, .ref a), (2, .ref fo), (3, .ref (fo + 3)), (4, .int (nI n)), (5, .ref my), (6, .int (nI (cnt (nmS n m0 m1 m2 m3 m5 r) (-1) p))), (7, .int (nI mc)), (8, .int ms), (9, .int (nI p)), (10, .int (nI (cnb (fun q => fl m0 (nI p) 16 (m0 q)) n))), (11, .int (nI x)), (12, .ref am), (13, .int (zb (anb (fun j => !decide (nmf m2 g2 p (o j) = nmf m2 g2 p (o 0))) c))), (15, .ref (s 2)), (16, .int (nI b)), (17, .int (nI k))] (by decide) rfl ?_
                                    refine zv_iinc (v := (nI (k + 1))) C dX2_isSame_256 259 rfl [(17, .int (nI (k + 1))), (14, .int (nI (inP m6 m7 g2 p (k + 1)))), (18, .ref (da k)), (0, .ref (s 0)), (1, .ref a), (2, .ref fo), (3, .ref (fo + 3)), (4, .int (nI n)), (5, .ref my), (6, .int (nI (cnt (nmS n m0 m1 m2 m3 m5 r) (-1) p))), (7, .int (nI mc)), (8, .int ms), (9, .int (nI p)), (10, .int (nI (cnb (fun q => fl m0 (nI p) 16 (m0 q)) n))), (11, .int (nI x)), (12, .ref am), (13, .int (zb (anb (fun j => !decide (nmf m2 g2 p (o j) = nmf m2 g2 p (o 0))) c))), (15, .ref (s 2)), (16, .int (nI b))] 18 rfl (nI_1 k) (by decide) rfl ?_
                                    refine zv_goto C dX2_isSame_259 205 (by decide) ?_
                                    refine zv_sub [3, 4, 5, 6, 7, 8, 9, 10, 11, 12, 13, 14, 15, 16, 1, 17, 18, 0] (lv' := [(0, .ref (s 0)), (1, .ref a), (2, .ref fo), (3, .ref (fo + 3)), (4, .int (nI n)), (5, .ref my), (6, .int (nI (cnt (nmS n m0 m1 m2 m3 m5 r) (-1) p))), (7, .int (nI mc)), (8, .int ms), (9, .int (nI p)), (10, .int (nI (cnb (fun q => fl m0 (nI p) 16 (m0 q)) n))), (11, .int (nI x)), (12, .ref am), (13, .int (zb (anb (fun j => !decide (nmf m2 g2 p (o j) = nmf m2 g2 p (o 0))) c))), (14, .int (nI (inP m6 m7 g2 p (k + 1)))), (15, .ref (s 2)), (16, .int (nI b)), (17, .int (nI (k + 1)))]) rfl ?_
                                    exact ih_BL (k + 1) (by omega) (by omega)
                                  ·
                                    refine zv_aload_n C dX2_isSame_237 238 rfl 4 rfl ?_
                                    refine zv_iload C dX2_isSame_238 240 rfl 10 rfl ?_
                                    refine zv_iald (v := (g2 p)) C dX2_isSame_240 241 rfl 5 0 p rfl rfl rfl (by omega) (by omega) rfl ?_
                                    refine zv_aload C dX2_isSame_241 243 rfl 0 rfl ?_
                                    refine zv_iconst (v := 1) C dX2_isSame_243 244 rfl (by decide) ?_
                                    refine zv_iald (v := (m7 k)) C dX2_isSame_244 245 rfl (k + n + 9) 0 1 (zr_p1 (by omega)) rfl (by decide) (by omega) (by omega) rfl ?_
                                    refine zv_icmp_eq C dX2_isSame_245 248 252 rfl (by decide) (fun c3 => ?_) (fun c3 => ?_)
                                    ·
                                      refine zv_iconst (v := 0) C dX2_isSame_252 253 rfl (by decide) ?_
                                      refine zv_iadd (v := (nI (inP m6 m7 g2 p (k + 1)))) C dX2_isSame_253 254 rfl (by unfold inP; rw [cnb_n (fun i => decide (m6 i = nI p) && insd (m7 i) (g2 (m6 i).toNatClampNeg)) (by show (decide (m6 k = nI p) && insd (m7 k) (g2 (m6 k).toNatClampNeg)) = false; rw [eq, cb, nI_clamp (by omega)]; simp [insd, c3])]; exact Int32.add_zero _) ?_
                                      refine zv_istore C dX2_isSame_254 256 rfl [(14, .int (nI (inP m6 m7 g2 p (k + 1)))), (18, .ref (da k)), (0, .ref (s 0)), (1, .ref a), (2, .ref fo), (3, .ref (fo + 3)), (4, .int (nI n)), (5, .ref my), (6, .int (nI (cnt (nmS n m0 m1 m2 m3 m5 r) (-1) p))), (7, .int (nI mc)), (8, .int ms), (9, .int (nI p)), (10, .int (nI (cnb (fun q => fl m0 (nI p) 16 (m0 q)) n))), (11, .int (nI x)), (12, .ref am), (13, .int (zb (anb (fun j => !decide (nmf m2 g2 p (o j) = nmf m2 g2 p (o 0))) c))), (15, .ref (s 2)), (16, .int (nI b)), (17, .int (nI k))] (by decide) rfl ?_
                                      refine zv_iinc (v := (nI (k + 1))) C dX2_isSame_256 259 rfl [(17, .int (nI (k + 1))), (14, .int (nI (inP m6 m7 g2 p (k + 1)))), (18, .ref (da k)), (0, .ref (s 0)), (1, .ref a), (2, .ref fo), (3, .ref (fo + 3)), (4, .int (nI n)), (5, .ref my), (6, .int (nI (cnt (nmS n m0 m1 m2 m3 m5 r) (-1) p))), (7, .int (nI mc)), (8, .int ms), (9, .int (nI p)), (10, .int (nI (cnb (fun q => fl m0 (nI p) 16 (m0 q)) n))), (11, .int (nI x)), (12, .ref am), (13, .int (zb (anb (fun j => !decide (nmf m2 g2 p (o j) = nmf m2 g2 p (o 0))) c))), (15, .ref (s 2)), (16, .int (nI b))] 18 rfl (nI_1 k) (by decide) rfl ?_
                                      refine zv_goto C dX2_isSame_259 205 (by decide) ?_
                                      refine zv_sub [3, 4, 5, 6, 7, 8, 9, 10, 11, 12, 13, 14, 15, 16, 1, 17, 18, 0] (lv' := [(0, .ref (s 0)), (1, .ref a), (2, .ref fo), (3, .ref (fo + 3)), (4, .int (nI n)), (5, .ref my), (6, .int (nI (cnt (nmS n m0 m1 m2 m3 m5 r) (-1) p))), (7, .int (nI mc)), (8, .int ms), (9, .int (nI p)), (10, .int (nI (cnb (fun q => fl m0 (nI p) 16 (m0 q)) n))), (11, .int (nI x)), (12, .ref am), (13, .int (zb (anb (fun j => !decide (nmf m2 g2 p (o j) = nmf m2 g2 p (o 0))) c))), (14, .int (nI (inP m6 m7 g2 p (k + 1)))), (15, .ref (s 2)), (16, .int (nI b)), (17, .int (nI (k + 1)))]) rfl ?_
                                      exact ih_BL (k + 1) (by omega) (by omega)
                                    ·
                                      refine zv_iconst (v := 1) C dX2_isSame_248 249 rfl (by decide) ?_
                                      refine zv_goto C dX2_isSame_249 253 (by decide) ?_
                                      refine zv_iadd (v := (nI (inP m6 m7 g2 p (k + 1)))) C dX2_isSame_253 254 rfl (by unfold inP; rw [cnb_y (fun i => decide (m6 i = nI p) && insd (m7 i) (g2 (m6 i).toNatClampNeg)) (by show (decide (m6 k = nI p) && insd (m7 k) (g2 (m6 k).toNatClampNeg)) = true; rw [eq, cb, nI_clamp (by omega)]; simp [insd, c3, ins_m2 c2])]; exact nI_1 _) ?_
                                      refine zv_istore C dX2_isSame_254 256 rfl [(14, .int (nI (inP m6 m7 g2 p (k + 1)))), (18, .ref (da k)), (0, .ref (s 0)), (1, .ref a), (2, .ref fo), (3, .ref (fo + 3)), (4, .int (nI n)), (5, .ref my), (6, .int (nI (cnt (nmS n m0 m1 m2 m3 m5 r) (-1) p))), (7, .int (nI mc)), (8, .int ms), (9, .int (nI p)), (10, .int (nI (cnb (fun q => fl m0 (nI p) 16 (m0 q)) n))), (11, .int (nI x)), (12, .ref am), (13, .int (zb (anb (fun j => !decide (nmf m2 g2 p (o j) = nmf m2 g2 p (o 0))) c))), (15, .ref (s 2)), (16, .int (nI b)), (17, .int (nI k))] (by decide) rfl ?_
                                      refine zv_iinc (v := (nI (k + 1))) C dX2_isSame_256 259 rfl [(17, .int (nI (k + 1))), (14, .int (nI (inP m6 m7 g2 p (k + 1)))), (18, .ref (da k)), (0, .ref (s 0)), (1, .ref a), (2, .ref fo), (3, .ref (fo + 3)), (4, .int (nI n)), (5, .ref my), (6, .int (nI (cnt (nmS n m0 m1 m2 m3 m5 r) (-1) p))), (7, .int (nI mc)), (8, .int ms), (9, .int (nI p)), (10, .int (nI (cnb (fun q => fl m0 (nI p) 16 (m0 q)) n))), (11, .int (nI x)), (12, .ref am), (13, .int (zb (anb (fun j => !decide (nmf m2 g2 p (o j) = nmf m2 g2 p (o 0))) c))), (15, .ref (s 2)), (16, .int (nI b))] 18 rfl (nI_1 k) (by decide) rfl ?_
                                      refine zv_goto C dX2_isSame_259 205 (by decide) ?_
                                      refine zv_sub [3, 4, 5, 6, 7, 8, 9, 10, 11, 12, 13, 14, 15, 16, 1, 17, 18, 0] (lv' := [(0, .ref (s 0)), (1, .ref a), (2, .ref fo), (3, .ref (fo + 3)), (4, .int (nI n)), (5, .ref my), (6, .int (nI (cnt (nmS n m0 m1 m2 m3 m5 r) (-1) p))), (7, .int (nI mc)), (8, .int ms), (9, .int (nI p)), (10, .int (nI (cnb (fun q => fl m0 (nI p) 16 (m0 q)) n))), (11, .int (nI x)), (12, .ref am), (13, .int (zb (anb (fun j => !decide (nmf m2 g2 p (o j) = nmf m2 g2 p (o 0))) c))), (14, .int (nI (inP m6 m7 g2 p (k + 1)))), (15, .ref (s 2)), (16, .int (nI b)), (17, .int (nI (k + 1)))]) rfl ?_
                                      exact ih_BL (k + 1) (by omega) (by omega)
                          refine zv_go rfl (lv' := [(17, .int (nI 0)), (16, .int (nI b)), (15, .ref (s 2)), (14, .int (nI (inP m6 m7 g2 p 0))), (0, .ref (s 0)), (1, .ref a), (2, .ref fo), (3, .ref (fo + 3)), (4, .int (nI n)), (5, .ref my), (6, .int (nI (cnt (nmS n m0 m1 m2 m3 m5 r) (-1) p))), (7, .int (nI mc)), (8, .int ms), (9, .int (nI p)), (10, .int (nI (cnb (fun q => fl m0 (nI p) 16 (m0 q)) n))), (11, .int (nI x)), (12, .ref am), (13, .int (zb (anb (fun j => !decide (nmf m2 g2 p (o j) = nmf m2 g2 p (o 0))) c)))]) rfl rfl rfl rfl ?_
                          refine zv_sub [4, 5, 6, 7, 8, 9, 10, 11, 12, 13, 14, 15, 16, 17, 3, 2, 1, 0] (lv' := [(0, .ref (s 0)), (1, .ref a), (2, .ref fo), (3, .ref (fo + 3)), (4, .int (nI n)), (5, .ref my), (6, .int (nI (cnt (nmS n m0 m1 m2 m3 m5 r) (-1) p))), (7, .int (nI mc)), (8, .int ms), (9, .int (nI p)), (10, .int (nI (cnb (fun q => fl m0 (nI p) 16 (m0 q)) n))), (11, .int (nI x)), (12, .ref am), (13, .int (zb (anb (fun j => !decide (nmf m2 g2 p (o j) = nmf m2 g2 p (o 0))) c))), (14, .int (nI (inP m6 m7 g2 p 0))), (15, .ref (s 2)), (16, .int (nI b)), (17, .int (nI 0))]) rfl ?_
                          exact BL (b + 1) 0 (by omega) (by omega)
                        ·
                          have hk2 : k < c := zn_le' (by omega) (by omega) ck
                          obtain ⟨ek, hok, -⟩ := hAO.2.1 k hk2
                          obtain ⟨e00, ho0, -⟩ := hAO.2.1 0 (by omega)
                          refine zv_aload C dX2_isSame_142 144 rfl 14 rfl ?_
                          refine zv_iload C dX2_isSame_144 146 rfl 16 rfl ?_
                          refine zv_iald (v := (nI (o k))) C dX2_isSame_146 147 rfl 0 0 k rfl rfl rfl (by omega) (by omega) ek ?_
                          refine zv_istore C dX2_isSame_147 149 rfl [(17, .int (nI (o k))), (0, .ref (s 0)), (1, .ref a), (2, .ref fo), (3, .ref (fo + 3)), (4, .int (nI n)), (5, .ref my), (6, .int (nI (cnt (nmS n m0 m1 m2 m3 m5 r) (-1) p))), (7, .int (nI mc)), (8, .int ms), (9, .int (nI p)), (10, .int (nI (cnb (fun q => fl m0 (nI p) 16 (m0 q)) n))), (11, .int (nI x)), (12, .ref am), (13, .int (zb (anb (fun j => !decide (nmf m2 g2 p (o j) = nmf m2 g2 p (o 0))) k))), (14, .ref am), (15, .int (nI c)), (16, .int (nI k))] (by decide) rfl ?_
                          refine zv_iload C dX2_isSame_149 151 rfl 14 rfl ?_
                          refine zv_aload_n C dX2_isSame_151 152 rfl 1 rfl ?_
                          refine zv_iload C dX2_isSame_152 154 rfl 10 rfl ?_
                          refine zv_iload C dX2_isSame_154 156 rfl 0 rfl ?_
                          refine zv_aload_n C dX2_isSame_156 157 rfl 4 rfl ?_
                          refine zn_callRV (rest := [.int (zb (anb (fun j => !decide (nmf m2 g2 p (o j) = nmf m2 g2 p (o 0))) k))]) C zn_TB zn_TE (zn_ofR (k_X2_called l D cI cZ cA y hV s pa da p (o k) (fo + 3) g2 hp2 hok)) (cwV 3 C.1.2.2.2.2 gX2_isSame_X2_called rfl rfl rfl (by decide +kernel) ⟨Nat.le_of_ble_eq_true rfl, Nat.le_of_ble_eq_true rfl⟩) dX2_isSame_157 160 rfl (ci := 2) rfl 1 rfl rfl rfl (Nat.le_of_ble_eq_true rfl) ⟨(by show kc + 17 + 0 ≤ 4700; omega), (by show ns + 272 + 0 ≤ 75000; omega)⟩ [0, 1, 2] rfl (List.Sublist.cons _ (List.Sublist.cons _ (List.Sublist.cons _ (List.Sublist.cons _ (List.Sublist.cons _ (List.Sublist.cons_cons _ (List.Sublist.cons_cons _ (List.Sublist.cons_cons _ (List.Sublist.cons_cons _ (List.Sublist.append (List.Sublist.refl _) (List.sublist_append_left _ _))))))))))) (fun v hv => ?_)
                          subst hv
                          refine zv_go rfl rfl (st' := [.int (nmf m2 g2 p (o k)), .int (zb (anb (fun j => !decide (nmf m2 g2 p (o j) = nmf m2 g2 p (o 0))) k))]) rfl (kc' := (kc + 17)) rfl (ns' := (ns + 272)) rfl ?_
                          refine zv_aload_n C dX2_isSame_160 161 rfl 1 rfl ?_
                          refine zv_iload C dX2_isSame_161 163 rfl 10 rfl ?_
                          refine zv_aload C dX2_isSame_163 165 rfl 13 rfl ?_
                          refine zv_iconst (v := 0) C dX2_isSame_165 166 rfl (by decide) ?_
                          refine zv_iald (v := (nI (o 0))) C dX2_isSame_166 167 rfl 0 0 0 rfl rfl (by decide) (by omega) (by omega) e00 ?_
                          refine zv_aload_n C dX2_isSame_167 168 rfl 4 rfl ?_
                          refine zn_callRV (rest := [.int (nmf m2 g2 p (o k)), .int (zb (anb (fun j => !decide (nmf m2 g2 p (o j) = nmf m2 g2 p (o 0))) k))]) C zn_TB zn_TE (zn_ofR (k_X2_called l D cI cZ cA y hV s pa da p (o 0) (fo + 3) g2 hp2 ho0)) (cwV 3 C.1.2.2.2.2 gX2_isSame_X2_called rfl rfl rfl (by decide +kernel) ⟨Nat.le_of_ble_eq_true rfl, Nat.le_of_ble_eq_true rfl⟩) dX2_isSame_168 171 rfl (ci := 2) rfl 1 rfl rfl rfl (Nat.le_of_ble_eq_true rfl) ⟨(by show kc + 17 + 0 ≤ 4700; omega), (by show ns + 272 + 0 ≤ 75000; omega)⟩ [0, 1, 2] rfl (List.Sublist.cons _ (List.Sublist.cons _ (List.Sublist.cons _ (List.Sublist.cons _ (List.Sublist.cons _ (List.Sublist.cons_cons _ (List.Sublist.cons_cons _ (List.Sublist.cons_cons _ (List.Sublist.cons_cons _ (List.Sublist.append (List.Sublist.refl _) (List.sublist_append_left _ _))))))))))) (fun v hv => ?_)
                          subst hv
                          refine zv_go rfl rfl (st' := [.int (nmf m2 g2 p (o 0)), .int (nmf m2 g2 p (o k)), .int (zb (anb (fun j => !decide (nmf m2 g2 p (o j) = nmf m2 g2 p (o 0))) k))]) rfl (kc' := (kc + 17)) rfl (ns' := (ns + 272)) rfl ?_
                          refine zv_icmp_eq C dX2_isSame_171 174 178 rfl (by decide) (fun cq => ?_) (fun cq => ?_)
                          ·
                            refine zv_iconst (v := 0) C dX2_isSame_178 179 rfl (by decide) ?_
                            refine zn_ior (v := (zb (anb (fun j => !decide (nmf m2 g2 p (o j) = nmf m2 g2 p (o 0))) (k + 1)))) C dX2_isSame_179 180 rfl (zb_or0 _ _ (by show (!decide (nmf m2 g2 p (o k) = nmf m2 g2 p (o 0))) = false; rw [decide_eq_true cq]; rfl)) ?_
                            refine zv_istore C dX2_isSame_180 182 rfl [(13, .int (zb (anb (fun j => !decide (nmf m2 g2 p (o j) = nmf m2 g2 p (o 0))) (k + 1)))), (17, .int (nI (o k))), (0, .ref (s 0)), (1, .ref a), (2, .ref fo), (3, .ref (fo + 3)), (4, .int (nI n)), (5, .ref my), (6, .int (nI (cnt (nmS n m0 m1 m2 m3 m5 r) (-1) p))), (7, .int (nI mc)), (8, .int ms), (9, .int (nI p)), (10, .int (nI (cnb (fun q => fl m0 (nI p) 16 (m0 q)) n))), (11, .int (nI x)), (12, .ref am), (14, .ref am), (15, .int (nI c)), (16, .int (nI k))] (by decide) rfl ?_
                            refine zv_iinc (v := (nI (k + 1))) C dX2_isSame_182 185 rfl [(16, .int (nI (k + 1))), (13, .int (zb (anb (fun j => !decide (nmf m2 g2 p (o j) = nmf m2 g2 p (o 0))) (k + 1)))), (17, .int (nI (o k))), (0, .ref (s 0)), (1, .ref a), (2, .ref fo), (3, .ref (fo + 3)), (4, .int (nI n)), (5, .ref my), (6, .int (nI (cnt (nmS n m0 m1 m2 m3 m5 r) (-1) p))), (7, .int (nI mc)), (8, .int ms), (9, .int (nI p)), (10, .int (nI (cnb (fun q => fl m0 (nI p) 16 (m0 q)) n))), (11, .int (nI x)), (12, .ref am), (14, .ref am), (15, .int (nI c))] 17 rfl (nI_1 k) (by decide) rfl ?_
                            refine zv_goto C dX2_isSame_185 135 (by decide) ?_
                            refine zv_sub [3, 4, 5, 6, 7, 8, 9, 10, 11, 12, 13, 14, 15, 1, 16, 17, 0] (lv' := [(0, .ref (s 0)), (1, .ref a), (2, .ref fo), (3, .ref (fo + 3)), (4, .int (nI n)), (5, .ref my), (6, .int (nI (cnt (nmS n m0 m1 m2 m3 m5 r) (-1) p))), (7, .int (nI mc)), (8, .int ms), (9, .int (nI p)), (10, .int (nI (cnb (fun q => fl m0 (nI p) 16 (m0 q)) n))), (11, .int (nI x)), (12, .ref am), (13, .int (zb (anb (fun j => !decide (nmf m2 g2 p (o j) = nmf m2 g2 p (o 0))) (k + 1)))), (14, .ref am), (15, .int (nI c)), (16, .int (nI (k + 1)))]) rfl ?_
                            exact ih_DL (k + 1) (by omega) (by omega)
                          ·
                            refine zv_iconst (v := 1) C dX2_isSame_174 175 rfl (by decide) ?_
                            refine zv_goto C dX2_isSame_175 179 (by decide) ?_
                            refine zn_ior (v := (zb (anb (fun j => !decide (nmf m2 g2 p (o j) = nmf m2 g2 p (o 0))) (k + 1)))) C dX2_isSame_179 180 rfl (zb_or1 _ _ (by show (!decide (nmf m2 g2 p (o k) = nmf m2 g2 p (o 0))) = true; rw [decide_eq_false cq]; rfl)) ?_
                            refine zv_istore C dX2_isSame_180 182 rfl [(13, .int (zb (anb (fun j => !decide (nmf m2 g2 p (o j) = nmf m2 g2 p (o 0))) (k + 1)))), (17, .int (nI (o k))), (0, .ref (s 0)), (1, .ref a), (2, .ref fo), (3, .ref (fo + 3)), (4, .int (nI n)), (5, .ref my), (6, .int (nI (cnt (nmS n m0 m1 m2 m3 m5 r) (-1) p))), (7, .int (nI mc)), (8, .int ms), (9, .int (nI p)), (10, .int (nI (cnb (fun q => fl m0 (nI p) 16 (m0 q)) n))), (11, .int (nI x)), (12, .ref am), (14, .ref am), (15, .int (nI c)), (16, .int (nI k))] (by decide) rfl ?_
                            refine zv_iinc (v := (nI (k + 1))) C dX2_isSame_182 185 rfl [(16, .int (nI (k + 1))), (13, .int (zb (anb (fun j => !decide (nmf m2 g2 p (o j) = nmf m2 g2 p (o 0))) (k + 1)))), (17, .int (nI (o k))), (0, .ref (s 0)), (1, .ref a), (2, .ref fo), (3, .ref (fo + 3)), (4, .int (nI n)), (5, .ref my), (6, .int (nI (cnt (nmS n m0 m1 m2 m3 m5 r) (-1) p))), (7, .int (nI mc)), (8, .int ms), (9, .int (nI p)), (10, .int (nI (cnb (fun q => fl m0 (nI p) 16 (m0 q)) n))), (11, .int (nI x)), (12, .ref am), (14, .ref am), (15, .int (nI c))] 17 rfl (nI_1 k) (by decide) rfl ?_
                            refine zv_goto C dX2_isSame_185 135 (by decide) ?_
                            refine zv_sub [3, 4, 5, 6, 7, 8, 9, 10, 11, 12, 13, 14, 15, 1, 16, 17, 0] (lv' := [(0, .ref (s 0)), (1, .ref a), (2, .ref fo), (3, .ref (fo + 3)), (4, .int (nI n)), (5, .ref my), (6, .int (nI (cnt (nmS n m0 m1 m2 m3 m5 r) (-1) p))), (7, .int (nI mc)), (8, .int ms), (9, .int (nI p)), (10, .int (nI (cnb (fun q => fl m0 (nI p) 16 (m0 q)) n))), (11, .int (nI x)), (12, .ref am), (13, .int (zb (anb (fun j => !decide (nmf m2 g2 p (o j) = nmf m2 g2 p (o 0))) (k + 1)))), (14, .ref am), (15, .int (nI c)), (16, .int (nI (k + 1)))]) rfl ?_
                            exact ih_DL (k + 1) (by omega) (by omega)
                    refine zv_go rfl (lv' := [(16, .int (nI 0)), (15, .int (nI c)), (14, .ref am), (13, .int (zb (anb (fun j => !decide (nmf m2 g2 p (o j) = nmf m2 g2 p (o 0))) 0))), (12, .ref am), (0, .ref (s 0)), (1, .ref a), (2, .ref fo), (3, .ref (fo + 3)), (4, .int (nI n)), (5, .ref my), (6, .int (nI (cnt (nmS n m0 m1 m2 m3 m5 r) (-1) p))), (7, .int (nI mc)), (8, .int ms), (9, .int (nI p)), (10, .int (nI (cnb (fun q => fl m0 (nI p) 16 (m0 q)) n))), (11, .int (nI x))]) rfl rfl rfl rfl ?_
                    refine zv_sub [5, 6, 7, 8, 9, 10, 11, 12, 13, 14, 15, 16, 4, 3, 2, 1, 0] (lv' := [(0, .ref (s 0)), (1, .ref a), (2, .ref fo), (3, .ref (fo + 3)), (4, .int (nI n)), (5, .ref my), (6, .int (nI (cnt (nmS n m0 m1 m2 m3 m5 r) (-1) p))), (7, .int (nI mc)), (8, .int ms), (9, .int (nI p)), (10, .int (nI (cnb (fun q => fl m0 (nI p) 16 (m0 q)) n))), (11, .int (nI x)), (12, .ref am), (13, .int (zb (anb (fun j => !decide (nmf m2 g2 p (o j) = nmf m2 g2 p (o 0))) 0))), (14, .ref am), (15, .int (nI c)), (16, .int (nI 0))]) rfl ?_
                    exact DL (c + 1) 0 (by omega) (by omega)
                  ·
                    rcases hD.vw x hx with z | ⟨q, hq, eq⟩
                    · exact absurd (by rw [z]; decide) cm
                    have hd1 := hD.to hn16 hx hq eq
                    obtain ⟨k9, rfl⟩ : ∃ k9, k = k9 + 1 := ⟨k - 1, by omega⟩
                    refine zv_aload_n C dX2_isSame_97 98 rfl 0 rfl ?_
                    refine zv_get (ci := 2) C inX2 rfl dX2_isSame_98 101 rfl 5 2 rfl (by decide) lk9 rfl ?_
                    refine zv_iload C dX2_isSame_101 103 rfl 11 rfl ?_
                    refine zn_aald (r := pa x) C dX2_isSame_103 104 rfl 6 2 x rfl rfl rfl (by omega) (by omega) rfl ?_
                    refine zv_iconst (v := 0) C dX2_isSame_104 105 rfl (by decide) ?_
                    refine zv_iald (v := (nI q)) C dX2_isSame_105 106 rfl (x + 8) 0 0 (zr_p0 (by omega)) rfl (by decide) (by omega) (by omega) eq ?_
                    refine zv_istore C dX2_isSame_106 108 rfl [(11, .int (nI q)), (0, .ref (s 0)), (1, .ref a), (2, .ref fo), (3, .ref (fo + 3)), (4, .int (nI n)), (5, .ref my), (6, .int (nI (cnt (nmS n m0 m1 m2 m3 m5 r) (-1) p))), (7, .int (nI mc)), (8, .int ms), (9, .int (nI p)), (10, .int (nI (cnb (fun q => fl m0 (nI p) 16 (m0 q)) n)))] (by decide) rfl ?_
                    refine zv_goto C dX2_isSame_108 85 (by decide) ?_
                    refine zv_sub [1, 2, 3, 4, 5, 6, 7, 8, 9, 10, 11, 0] (lv' := [(0, .ref (s 0)), (1, .ref a), (2, .ref fo), (3, .ref (fo + 3)), (4, .int (nI n)), (5, .ref my), (6, .int (nI (cnt (nmS n m0 m1 m2 m3 m5 r) (-1) p))), (7, .int (nI mc)), (8, .int ms), (9, .int (nI p)), (10, .int (nI (cnb (fun q => fl m0 (nI p) 16 (m0 q)) n))), (11, .int (nI q))]) rfl ?_
                    exact ih_ML q k9 hq (by omega) (he.trans (mo_go _ (by omega) eq)) (by omega)
              refine zv_sub [1, 2, 3, 4, 5, 6, 7, 8, 9, 10, 11, 0] (lv' := [(0, .ref (s 0)), (1, .ref a), (2, .ref fo), (3, .ref (fo + 3)), (4, .int (nI n)), (5, .ref my), (6, .int (nI (cnt (nmS n m0 m1 m2 m3 m5 r) (-1) p))), (7, .int (nI mc)), (8, .int ms), (9, .int (nI p)), (10, .int (nI (cnb (fun q => fl m0 (nI p) 16 (m0 q)) n))), (11, .int (nI p))]) rfl ?_
              exact ML 17 p 16 hp2 (by have := (hD p hp2).1; omega) rfl (by omega)
            ·
              have hj2 : j < n := zn_le' (by omega) (by omega) cj
              refine zv_iload C dX2_isSame_54 56 rfl 10 rfl ?_
              refine zv_aload_n C dX2_isSame_56 57 rfl 0 rfl ?_
              refine zv_iload C dX2_isSame_57 59 rfl 11 rfl ?_
              refine zv_iload C dX2_isSame_59 61 rfl 9 rfl ?_
              refine zn_callRV (rest := [.int (nI (cnb (fun q => fl m0 (nI p) 16 (m0 q)) j))]) C zn_TB zn_TE (zn_ofR (k_X2_isAbove l D cI cZ cA y hV s pa da j p hj2 hp2)) (cwV 2 C.1.2.2.2.2 gX2_isSame_X2_isAbove rfl rfl rfl (by decide +kernel) ⟨Nat.le_of_ble_eq_true rfl, Nat.le_of_ble_eq_true rfl⟩) dX2_isSame_61 64 rfl (ci := 2) rfl 0 rfl rfl rfl (Nat.le_of_ble_eq_true rfl) ⟨(by show kc + 0 ≤ 4700; omega), (by show ns + 0 ≤ 75000; omega)⟩ [0, 1, 2] rfl (List.Sublist.cons _ (List.Sublist.cons _ (List.Sublist.cons _ (List.Sublist.cons _ (List.Sublist.cons _ (List.Sublist.cons_cons _ (List.Sublist.cons_cons _ (List.Sublist.cons_cons _ (List.Sublist.append (List.Sublist.refl _) (List.sublist_append_left _ _)))))))))) (fun v hv => ?_)
              subst hv
              refine zv_go rfl rfl (st' := [.int (zb (fl m0 (nI p) 16 (m0 j))), .int (nI (cnb (fun q => fl m0 (nI p) 16 (m0 q)) j))]) rfl (kc' := kc) rfl (ns' := ns) rfl ?_
              refine zv_if_eq C dX2_isSame_64 67 71 rfl (by decide) (fun cf => ?_) (fun cf => ?_)
              ·
                refine zv_iconst (v := 0) C dX2_isSame_71 72 rfl (by decide) ?_
                refine zv_iadd (v := (nI (cnb (fun q => fl m0 (nI p) 16 (m0 q)) (j + 1)))) C dX2_isSame_72 73 rfl (by rw [cnb_n (fun q => fl m0 (nI p) 16 (m0 q)) (zb_eq0.mp cf)]; exact Int32.add_zero _) ?_
                refine zv_istore C dX2_isSame_73 75 rfl [(10, .int (nI (cnb (fun q => fl m0 (nI p) 16 (m0 q)) (j + 1)))), (0, .ref (s 0)), (1, .ref a), (2, .ref fo), (3, .ref (fo + 3)), (4, .int (nI n)), (5, .ref my), (6, .int (nI (cnt (nmS n m0 m1 m2 m3 m5 r) (-1) p))), (7, .int (nI mc)), (8, .int ms), (9, .int (nI p)), (11, .int (nI j))] (by decide) rfl ?_
                refine zv_iinc (v := (nI (j + 1))) C dX2_isSame_75 78 rfl [(11, .int (nI (j + 1))), (10, .int (nI (cnb (fun q => fl m0 (nI p) 16 (m0 q)) (j + 1)))), (0, .ref (s 0)), (1, .ref a), (2, .ref fo), (3, .ref (fo + 3)), (4, .int (nI n)), (5, .ref my), (6, .int (nI (cnt (nmS n m0 m1 m2 m3 m5 r) (-1) p))), (7, .int (nI mc)), (8, .int ms), (9, .int (nI p))] 11 rfl (nI_1 j) (by decide) rfl ?_
                refine zv_goto C dX2_isSame_78 47 (by decide) ?_
                refine zv_sub [2, 3, 4, 5, 6, 7, 8, 9, 10, 11, 1, 0] (lv' := [(0, .ref (s 0)), (1, .ref a), (2, .ref fo), (3, .ref (fo + 3)), (4, .int (nI n)), (5, .ref my), (6, .int (nI (cnt (nmS n m0 m1 m2 m3 m5 r) (-1) p))), (7, .int (nI mc)), (8, .int ms), (9, .int (nI p)), (10, .int (nI (cnb (fun q => fl m0 (nI p) 16 (m0 q)) (j + 1)))), (11, .int (nI (j + 1)))]) rfl ?_
                exact ih_AL (j + 1) (by omega) (by omega)
              ·
                refine zv_iconst (v := 1) C dX2_isSame_67 68 rfl (by decide) ?_
                refine zv_goto C dX2_isSame_68 72 (by decide) ?_
                refine zv_iadd (v := (nI (cnb (fun q => fl m0 (nI p) 16 (m0 q)) (j + 1)))) C dX2_isSame_72 73 rfl (by rw [cnb_y (fun q => fl m0 (nI p) 16 (m0 q)) (zb_ne0.mp cf)]; exact nI_1 _) ?_
                refine zv_istore C dX2_isSame_73 75 rfl [(10, .int (nI (cnb (fun q => fl m0 (nI p) 16 (m0 q)) (j + 1)))), (0, .ref (s 0)), (1, .ref a), (2, .ref fo), (3, .ref (fo + 3)), (4, .int (nI n)), (5, .ref my), (6, .int (nI (cnt (nmS n m0 m1 m2 m3 m5 r) (-1) p))), (7, .int (nI mc)), (8, .int ms), (9, .int (nI p)), (11, .int (nI j))] (by decide) rfl ?_
                refine zv_iinc (v := (nI (j + 1))) C dX2_isSame_75 78 rfl [(11, .int (nI (j + 1))), (10, .int (nI (cnb (fun q => fl m0 (nI p) 16 (m0 q)) (j + 1)))), (0, .ref (s 0)), (1, .ref a), (2, .ref fo), (3, .ref (fo + 3)), (4, .int (nI n)), (5, .ref my), (6, .int (nI (cnt (nmS n m0 m1 m2 m3 m5 r) (-1) p))), (7, .int (nI mc)), (8, .int ms), (9, .int (nI p))] 11 rfl (nI_1 j) (by decide) rfl ?_
                refine zv_goto C dX2_isSame_78 47 (by decide) ?_
                refine zv_sub [2, 3, 4, 5, 6, 7, 8, 9, 10, 11, 1, 0] (lv' := [(0, .ref (s 0)), (1, .ref a), (2, .ref fo), (3, .ref (fo + 3)), (4, .int (nI n)), (5, .ref my), (6, .int (nI (cnt (nmS n m0 m1 m2 m3 m5 r) (-1) p))), (7, .int (nI mc)), (8, .int ms), (9, .int (nI p)), (10, .int (nI (cnb (fun q => fl m0 (nI p) 16 (m0 q)) (j + 1)))), (11, .int (nI (j + 1)))]) rfl ?_
                exact ih_AL (j + 1) (by omega) (by omega)
        refine zv_go rfl (lv' := [(11, .int (nI 0)), (10, .int (nI (cnb (fun q => fl m0 (nI p) 16 (m0 q)) 0))), (0, .ref (s 0)), (1, .ref a), (2, .ref fo), (3, .ref (fo + 3)), (4, .int (nI n)), (5, .ref my), (6, .int (nI (cnt (nmS n m0 m1 m2 m3 m5 r) (-1) p))), (7, .int (nI mc)), (8, .int ms), (9, .int (nI p))]) rfl rfl rfl rfl ?_
        refine zv_sub [2, 3, 4, 5, 6, 7, 8, 9, 10, 11, 1, 0] (lv' := [(0, .ref (s 0)), (1, .ref a), (2, .ref fo), (3, .ref (fo + 3)), (4, .int (nI n)), (5, .ref my), (6, .int (nI (cnt (nmS n m0 m1 m2 m3 m5 r) (-1) p))), (7, .int (nI mc)), (8, .int ms), (9, .int (nI p)), (10, .int (nI (cnb (fun q => fl m0 (nI p) 16 (m0 q)) 0))), (11, .int (nI 0))]) rfl ?_
        exact AL (n + 1) 0 (by omega) (by omega)
  refine zv_go rfl (lv' := [(9, .int (nI 0)), (8, .int 0), (7, .int (nI 0)), (6, .int (nI (cnt (nmS n m0 m1 m2 m3 m5 r) (-1) 0))), (5, .ref my), (4, .int (nI n)), (3, .ref (fo + 3)), (2, .ref fo), (0, .ref (s 0)), (1, .ref a)]) rfl rfl rfl rfl ?_
  refine zv_sub [8, 9, 7, 6, 5, 4, 3, 2, 1, 0] (lv' := [(0, .ref (s 0)), (1, .ref a), (2, .ref fo), (3, .ref (fo + 3)), (4, .int (nI n)), (5, .ref my), (6, .int (nI (cnt (nmS n m0 m1 m2 m3 m5 r) (-1) 0))), (7, .int (nI 0)), (8, .int 0), (9, .int (nI 0))]) rfl ?_
  exact PL (n + 1) 0 z0 0 0 4401 70010 (fun k hk => rfl) rfl (by omega) (by omega) (by omega) (by omega)
