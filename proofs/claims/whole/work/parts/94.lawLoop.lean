theorem law_in {i L : Nat} (hi : i ≤ 2052) (hL : L ≤ 2048) (c : ¬ nI L - 4 < nI i) : i + 4 ≤ L := by
  rw [Int32.lt_iff_toInt_lt, nI_toInt (by omega)] at c
  have e : (nI L - 4).toInt = (L : Int) - 4 := by
    rw [Int32.toInt_sub, nI_toInt (by omega), show (4 : Int32).toInt = 4 from rfl]
    simp only [Int.bmod]
    omega
  rw [e] at c
  omega
theorem tab_at {x : Int32} {k : Nat} (e : x.toInt = (k : Int)) {offs : Array Int} {off : Int} (h : offs[k]? = some off) : offs[(x.toInt - 0).toNat]? = some off := by
  rw [e]; simpa using h
set_option maxHeartbeats 4000000 in
set_option maxRecDepth 100000 in
theorem lc_loop {pP : Program} {l : Launch} {eE : Env} {sS : State} {mM : MethodId} {aA : Array Value} {bB : List Frame} {mT : Method} {cD : Code} {Q : State → Prop} {D : va_G} {cI cZ cJ : ClassId} {A : Nat → Prop} {sc L : Nat} {xs : Nat → Int32} {q h k mh : Nat → Nat} {o : Nat} (hl : l.stackTraces = false) (C : zv_C pP mM cD cL_law 9 sS aA wsL_law "RiverNamesLaw" A) (hA : A = fun q => sS.heap.size ≤ q) (hE : zx_E sS) (hX : va_X sc L xs sS sS.heap) (hsc : sc < sS.heap.size) (hL : L ≤ 2048) (KF : ∀ (ws : va_W) (lv : List (Nat × Value)), zv_V pP l eE room_1 sS mM aA bB mT cD Q 9 D vwCl A A (tyJ cI cZ cJ) ws 601024 7293034 1972 lv []) : ∀ (mu i kc ns : Nat) (n b : Nat) (y r t : Int32) (d : Nat → Nat) (f0 f1 f2 f3 f4 f5 f6 f7 f8 f9 f10 f11 f12 f13 : Nat → Int32) (n1 : Nat) (r1 : Int32) (g0 g1 g2 g3 g4 g5 g6 g7 g8 g9 g10 g11 g12 g13 bp bn : Nat → Int32) (u : Nat → Int64) (m0 m1 m2 m3 m4 m5 m6 m7 m8 m9 m10 m11 m12 m13 : Nat → Int32), LI n b r d f0 f1 f2 f3 f4 f5 f6 f7 f8 f9 f10 f11 f12 f13 bp bn m0 m1 m2 m3 m4 m5 m6 m7 → L - i < mu → i ≤ 2052 → kc + 17 * ((L - i) / 4) ≤ 601024 → ns + 168 * ((L - i) / 4) ≤ 7293034 → zv_V pP l eE room_1 sS mM aA bB mT cD Q 9 D vwCl A A (tyJ cI cZ cJ) ((cR cI cZ q h k (nI b) y (nI n) r f0 f1 f2 f3 f4 f5 f6 f7 f8 f9 f10 f11 f12 f13 (nI n1) r1 g0 g1 g2 g3 g4 g5 g6 g7 g8 g9 g10 g11 g12 g13 bp bn) ++ ((cM cI cZ mh t (nI n) r y (nI b) m0 m1 m2 m3 m4 m5 m6 m7 m8 m9 m10 m11 m12 m13) ++ [(o, .inl (cJ, 1, .inr (.inl u)))])) kc ns 23 [(0, .ref sc), (1, .ref (q 0)), (2, .ref (mh 0)), (3, .ref o), (4, .int (nI i))] [] := by
  intro mu
  induction mu with
  | zero => intro i kc ns n b y r t d f0 f1 f2 f3 f4 f5 f6 f7 f8 f9 f10 f11 f12 f13 n1 r1 g0 g1 g2 g3 g4 g5 g6 g7 g8 g9 g10 g11 g12 g13 bp bn u m0 m1 m2 m3 m4 m5 m6 m7 m8 m9 m10 m11 m12 m13 hI hmu; exact absurd hmu (Nat.not_lt_zero _)
  | succ mu ih =>
    intro i kc ns n b y r t d f0 f1 f2 f3 f4 f5 f6 f7 f8 f9 f10 f11 f12 f13 n1 r1 g0 g1 g2 g3 g4 g5 g6 g7 g8 g9 g10 g11 g12 g13 bp bn u m0 m1 m2 m3 m4 m5 m6 m7 m8 m9 m10 m11 m12 m13 hI hmu hib hkc hns
    refine zv_iload C dL_law_23 25 rfl 4 rfl ?_
    refine zv_aload_n C dL_law_25 26 rfl 0 rfl ?_
    refine zv_slen C hA hX hsc dL_law_26 27 rfl ?_
    refine zv_iconst (v := 4) C dL_law_27 28 rfl (by decide) ?_
    refine zv_isub (v := (nI L - 4)) C dL_law_28 29 rfl rfl ?_
    refine zv_icmp_gt C dL_law_29 32 1972 rfl (by decide) (fun c => ?_) (fun c => ?_)
    · refine zv_widen (k' := 601024) (n' := 7293034) (by omega) (by omega) ?_
      exact KF _ _
    · have hi4 : i + 4 ≤ L := law_in hib hL c
      refine zv_aload_n C dL_law_32 33 rfl 0 rfl ?_
      refine zv_iload C dL_law_33 35 rfl 4 rfl ?_
      refine zv_sld C hA hX hsc dL_law_35 36 rfl i rfl (by omega) hL (v := (xs i)) rfl ?_
      refine zv_bipush (v := 63) C dL_law_36 38 rfl (by decide) ?_
      refine zv_iand (v := (xs i &&& 63)) C dL_law_38 39 rfl rfl ?_
      have K : LK pP l eE sS mM aA bB mT cD Q D cI cZ cJ A sc q h k mh o i kc ns := by
        intro n b y r t d f0 f1 f2 f3 f4 f5 f6 f7 f8 f9 f10 f11 f12 f13 n1 r1 g0 g1 g2 g3 g4 g5 g6 g7 g8 g9 g10 g11 g12 g13 bp bn u m0 m1 m2 m3 m4 m5 m6 m7 m8 m9 m10 m11 m12 m13 hI
        refine zv_iinc (v := (nI (i + 4))) C dL_law_1966 1969 rfl [(4, .int (nI (i + 4))), (0, .ref sc), (1, .ref (q 0)), (2, .ref (mh 0)), (3, .ref o)] 4 rfl (nI_c i 4 4 rfl) (by decide) rfl ?_
        refine zv_goto C dL_law_1969 23 (by decide) ?_
        refine zv_sub [1, 2, 3, 4, 0] (lv' := [(0, .ref sc), (1, .ref (q 0)), (2, .ref (mh 0)), (3, .ref o), (4, .int (nI (i + 4)))]) rfl ?_
        exact ih (i + 4) (kc + 17) (ns + 168) n b y r t d f0 f1 f2 f3 f4 f5 f6 f7 f8 f9 f10 f11 f12 f13 n1 r1 g0 g1 g2 g3 g4 g5 g6 g7 g8 g9 g10 g11 g12 g13 bp bn u m0 m1 m2 m3 m4 m5 m6 m7 m8 m9 m10 m11 m12 m13 hI (by omega) (by omega) (by omega) (by omega)
      by_cases ho : (xs i &&& 63).toInt < 0 ∨ 36 < (xs i &&& 63).toInt
      · refine zv_tabOut C dL_law_39 ho (tgt := 1966) (by decide) ?_
        refine zv_widen (k' := kc + 17) (n' := ns + 168) (by omega) (by omega) ?_
        exact K n b y r t d f0 f1 f2 f3 f4 f5 f6 f7 f8 f9 f10 f11 f12 f13 n1 r1 g0 g1 g2 g3 g4 g5 g6 g7 g8 g9 g10 g11 g12 g13 bp bn u m0 m1 m2 m3 m4 m5 m6 m7 m8 m9 m10 m11 m12 m13 hI
      obtain ⟨k0, hk0, e⟩ : ∃ k0 : Nat, k0 < 37 ∧ (xs i &&& 63).toInt = (k0 : Int) := ⟨(xs i &&& 63).toInt.toNat, by omega, by omega⟩
      have hk1 : k0 = 0 ∨ k0 = 1 ∨ k0 = 2 ∨ k0 = 3 ∨ k0 = 4 ∨ k0 = 5 ∨ k0 = 6 ∨ k0 = 7 ∨ k0 = 8 ∨ k0 = 9 ∨ k0 = 10 ∨ k0 = 11 ∨ k0 = 12 ∨ k0 = 13 ∨ k0 = 14 ∨ k0 = 15 ∨ k0 = 16 ∨ k0 = 17 ∨ k0 = 18 ∨ k0 = 19 ∨ k0 = 20 ∨ k0 = 21 ∨ k0 = 22 ∨ k0 = 23 ∨ k0 = 24 ∨ k0 = 25 ∨ k0 = 26 ∨ k0 = 27 ∨ k0 = 28 ∨ k0 = 29 ∨ k0 = 30 ∨ k0 = 31 ∨ k0 = 32 ∨ k0 = 33 ∨ k0 = 34 ∨ k0 = 35 ∨ k0 = 36 := by omega
      rcases hk1 with h | h | h | h | h | h | h | h | h | h | h | h | h | h | h | h | h | h | h | h | h | h | h | h | h | h | h | h | h | h | h | h | h | h | h | h | h
      · subst h
        exact zv_tabIn C dL_law_39 (by omega) (by omega) (off := 161) (tgt := 200) (tab_at e rfl) (by decide) (lc_addPlace hl C hA hE hX hsc hi4 hL (by omega) (by omega) hI K)
      · subst h
        exact zv_tabIn C dL_law_39 (by omega) (by omega) (off := 205) (tgt := 244) (tab_at e rfl) (by decide) (lc_addSpring hl C hA hE hX hsc hi4 hL (by omega) (by omega) hI K)
      · subst h
        exact zv_tabIn C dL_law_39 (by omega) (by omega) (off := 285) (tgt := 324) (tab_at e rfl) (by decide) (lc_lead hl C hA hE hX hsc hi4 hL (by omega) (by omega) hI K)
      · subst h
        exact zv_tabIn C dL_law_39 (by omega) (by omega) (off := 353) (tgt := 392) (tab_at e rfl) (by decide) (lc_turnDelta hl C hA hE hX hsc hi4 hL (by omega) (by omega) hI K)
      · subst h
        exact zv_tabIn C dL_law_39 (by omega) (by omega) (off := 416) (tgt := 455) (tab_at e rfl) (by decide) (lc_setRule hl C hA hE hX hsc hi4 hL (by omega) (by omega) hI K)
      · subst h
        exact zv_tabIn C dL_law_39 (by omega) (by omega) (off := 472) (tgt := 511) (tab_at e rfl) (by decide) (lc_build hl C hA hE hX hsc hi4 hL (by omega) (by omega) hI K)
      · subst h
        exact zv_tabIn C dL_law_39 (by omega) (by omega) (off := 528) (tgt := 567) (tab_at e rfl) (by decide) (lc_pass hl C hA hE hX hsc hi4 hL (by omega) (by omega) hI K)
      · subst h
        exact zv_tabIn C dL_law_39 (by omega) (by omega) (off := 584) (tgt := 623) (tab_at e rfl) (by decide) (lc_year hl C hA hE hX hsc hi4 hL (by omega) (by omega) hI K)
      · subst h
        exact zv_tabIn C dL_law_39 (by omega) (by omega) (off := 597) (tgt := 636) (tab_at e rfl) (by decide) (lc_places hl C hA hE hX hsc hi4 hL (by omega) (by omega) hI K)
      · subst h
        exact zv_tabIn C dL_law_39 (by omega) (by omega) (off := 610) (tgt := 649) (tab_at e rfl) (by decide) (lc_leadsTo hl C hA hE hX hsc hi4 hL (by omega) (by omega) hI K)
      · subst h
        exact zv_tabIn C dL_law_39 (by omega) (by omega) (off := 666) (tgt := 705) (tab_at e rfl) (by decide) (lc_hasSpring hl C hA hE hX hsc hi4 hL (by omega) (by omega) hI K)
      · subst h
        exact zv_tabIn C dL_law_39 (by omega) (by omega) (off := 729) (tgt := 768) (tab_at e rfl) (by decide) (lc_springOf hl C hA hE hX hsc hi4 hL (by omega) (by omega) hI K)
      · subst h
        exact zv_tabIn C dL_law_39 (by omega) (by omega) (off := 785) (tgt := 824) (tab_at e rfl) (by decide) (lc_waterAt hl C hA hE hX hsc hi4 hL (by omega) (by omega) hI K)
      · subst h
        exact zv_tabIn C dL_law_39 (by omega) (by omega) (off := 841) (tgt := 880) (tab_at e rfl) (by decide) (lc_lengthAt hl C hA hE hX hsc hi4 hL (by omega) (by omega) hI K)
      · subst h
        exact zv_tabIn C dL_law_39 (by omega) (by omega) (off := 897) (tgt := 936) (tab_at e rfl) (by decide) (lc_mouthOf hl C hA hE hX hsc hi4 hL (by omega) (by omega) hI K)
      · subst h
        exact zv_tabIn C dL_law_39 (by omega) (by omega) (off := 953) (tgt := 992) (tab_at e rfl) (by decide) (lc_isAbove hl C hA hE hX hsc hi4 hL (by omega) (by omega) hI K)
      · subst h
        exact zv_tabIn C dL_law_39 (by omega) (by omega) (off := 1028) (tgt := 1067) (tab_at e rfl) (by decide) (lc_placesAbove hl C hA hE hX hsc hi4 hL (by omega) (by omega) hI K)
      · subst h
        exact zv_tabIn C dL_law_39 (by omega) (by omega) (off := 1084) (tgt := 1123) (tab_at e rfl) (by decide) (lc_meeting hl C hA hE hX hsc hi4 hL (by omega) (by omega) hI K)
      · subst h
        exact zv_tabIn C dL_law_39 (by omega) (by omega) (off := 1152) (tgt := 1191) (tab_at e rfl) (by decide) (lc_nameAt hl C hA hE hX hsc hi4 hL (by omega) (by omega) hI K)
      · subst h
        exact zv_tabIn C dL_law_39 (by omega) (by omega) (off := 1208) (tgt := 1247) (tab_at e rfl) (by decide) (lc_arguing hl C hA hE hX hsc hi4 hL (by omega) (by omega) hI K)
      · subst h
        exact zv_tabIn C dL_law_39 (by omega) (by omega) (off := 1264) (tgt := 1303) (tab_at e rfl) (by decide) (lc_isArgued hl C hA hE hX hsc hi4 hL (by omega) (by omega) hI K)
      · subst h
        exact zv_tabIn C dL_law_39 (by omega) (by omega) (off := 1327) (tgt := 1366) (tab_at e rfl) (by decide) (lc_placesNamed hl C hA hE hX hsc hi4 hL (by omega) (by omega) hI K)
      · subst h
        exact zv_tabIn C dL_law_39 (by omega) (by omega) (off := 1383) (tgt := 1422) (tab_at e rfl) (by decide) (lc_greatestName hl C hA hE hX hsc hi4 hL (by omega) (by omega) hI K)
      · subst h
        exact zv_tabIn C dL_law_39 (by omega) (by omega) (off := 1396) (tgt := 1435) (tab_at e rfl) (by decide) (lc_nameless hl C hA hE hX hsc hi4 hL (by omega) (by omega) hI K)
      · subst h
        exact zv_tabIn C dL_law_39 (by omega) (by omega) (off := 1409) (tgt := 1448) (tab_at e rfl) (by decide) (lc_bridges hl C hA hE hX hsc hi4 hL (by omega) (by omega) hI K)
      · subst h
        exact zv_tabIn C dL_law_39 (by omega) (by omega) (off := 1422) (tgt := 1461) (tab_at e rfl) (by decide) (lc_placeOf hl C hA hE hX hsc hi4 hL (by omega) (by omega) hI K)
      · subst h
        exact zv_tabIn C dL_law_39 (by omega) (by omega) (off := 1478) (tgt := 1517) (tab_at e rfl) (by decide) (lc_keeps hl C hA hE hX hsc hi4 hL (by omega) (by omega) hI K)
      · subst h
        exact zv_tabIn C dL_law_39 (by omega) (by omega) (off := 1534) (tgt := 1573) (tab_at e rfl) (by decide) (lc_isInsulted hl C hA hE hX hsc hi4 hL (by omega) (by omega) hI K)
      · subst h
        exact zv_tabIn C dL_law_39 (by omega) (by omega) (off := 1597) (tgt := 1636) (tab_at e rfl) (by decide) (lc_insults hl C hA hE hX hsc hi4 hL (by omega) (by omega) hI K)
      · subst h
        exact zv_tabIn C dL_law_39 (by omega) (by omega) (off := 1610) (tgt := 1649) (tab_at e rfl) (by decide) (lc_insultsAt hl C hA hE hX hsc hi4 hL (by omega) (by omega) hI K)
      · subst h
        exact zv_tabIn C dL_law_39 (by omega) (by omega) (off := 1666) (tgt := 1705) (tab_at e rfl) (by decide) (lc_nameIn hl C hA hE hX hsc hi4 hL (by omega) (by omega) hI K)
      · subst h
        exact zv_tabIn C dL_law_39 (by omega) (by omega) (off := 1734) (tgt := 1773) (tab_at e rfl) (by decide) (lc_yearsUntilRenamed hl C hA hE hX hsc hi4 hL (by omega) (by omega) hI K)
      · subst h
        exact zv_tabIn C dL_law_39 (by omega) (by omega) (off := 1790) (tgt := 1829) (tab_at e rfl) (by decide) (lc_weightiestSpring hl C hA hE hX hsc hi4 hL (by omega) (by omega) hI K)
      · subst h
        exact zv_tabIn C dL_law_39 (by omega) (by omega) (off := 1803) (tgt := 1842) (tab_at e rfl) (by decide) (lc_renamedByDelta hl C hA hE hX hsc hi4 hL (by omega) (by omega) hI K)
      · subst h
        exact zv_tabIn C dL_law_39 (by omega) (by omega) (off := 1859) (tgt := 1898) (tab_at e rfl) (by decide) (lc_renamedByRule hl C hA hE hX hsc hi4 hL (by omega) (by omega) hI K)
      · subst h
        exact zv_tabIn C dL_law_39 (by omega) (by omega) (off := 1872) (tgt := 1911) (tab_at e rfl) (by decide) (lc_meanMouth hl C hA hE hX hsc hi4 hL (by omega) (by omega) hI K)
      · subst h
        exact zv_tabIn C dL_law_39 (by omega) (by omega) (off := 1913) (tgt := 1952) (tab_at e rfl) (by decide) (lc_digest hl C hA hE hX hsc hi4 hL (by omega) (by omega) hI K)
