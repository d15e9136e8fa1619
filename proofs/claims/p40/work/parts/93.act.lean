/-! ===== something that a number chooses, done to both ===== -/
theorem zp_with {na nr s0 s2 : Nat × va_E} {R Y : va_W} : (na :: nr :: s0 :: s2 :: (R ++ Y)).Perm (s0 :: na :: s2 :: ((R ++ [nr]) ++ Y)) := by
  rw [List.append_assoc]
  have h1 : (R ++ ([nr] ++ Y)).Perm (nr :: (R ++ Y)) := List.perm_middle
  have h2 : (s0 :: na :: s2 :: (R ++ ([nr] ++ Y))).Perm (s0 :: na :: s2 :: nr :: (R ++ Y)) := ((h1.cons s2).cons na).cons s0
  refine List.Perm.trans ?_ h2.symm
  have h3 : (na :: nr :: s0 :: s2 :: (R ++ Y)).Perm (na :: s0 :: nr :: s2 :: (R ++ Y)) := (List.Perm.swap _ _ _).cons na
  have h4 : (na :: s0 :: nr :: s2 :: (R ++ Y)).Perm (s0 :: na :: nr :: s2 :: (R ++ Y)) := List.Perm.swap _ _ _
  have h5 : (s0 :: na :: nr :: s2 :: (R ++ Y)).Perm (s0 :: na :: s2 :: nr :: (R ++ Y)) := ((List.Perm.swap _ _ _).cons na).cons s0
  exact h3.trans (h4.trans h5)
theorem zp_with2 {nb nr s0 s1 : Nat × va_E} {R Rb Y : va_W} : (nb :: nr :: s0 :: s1 :: (R ++ (Rb ++ Y))).Perm (s0 :: s1 :: nb :: (R ++ ((Rb ++ [nr]) ++ Y))) := by
  have e : R ++ ((Rb ++ [nr]) ++ Y) = (R ++ Rb) ++ (nr :: Y) := by simp [List.append_assoc]
  have e2 : R ++ (Rb ++ Y) = (R ++ Rb) ++ Y := by simp [List.append_assoc]
  rw [e, e2]
  have h1 : ((R ++ Rb) ++ (nr :: Y)).Perm (nr :: ((R ++ Rb) ++ Y)) := List.perm_middle
  refine List.Perm.trans ?_ (((h1.cons nb).cons s1).cons s0).symm
  have h3 : (nb :: nr :: s0 :: s1 :: ((R ++ Rb) ++ Y)).Perm (nb :: s0 :: nr :: s1 :: ((R ++ Rb) ++ Y)) := (List.Perm.swap _ _ _).cons nb
  have h4 : (nb :: s0 :: nr :: s1 :: ((R ++ Rb) ++ Y)).Perm (s0 :: nb :: nr :: s1 :: ((R ++ Rb) ++ Y)) := List.Perm.swap _ _ _
  have h5 : (s0 :: nb :: nr :: s1 :: ((R ++ Rb) ++ Y)).Perm (s0 :: nb :: s1 :: nr :: ((R ++ Rb) ++ Y)) := ((List.Perm.swap _ _ _).cons nb).cons s0
  have h6 : (s0 :: nb :: s1 :: nr :: ((R ++ Rb) ++ Y)).Perm (s0 :: s1 :: nb :: nr :: ((R ++ Rb) ++ Y)) := (List.Perm.swap _ _ _).cons s0
  exact h3.trans (h4.trans (h5.trans h6))
theorem r6_new (a b c d e f : Int32) : upd (upd (upd (upd (upd (upd z0 0 a) 1 b) 2 c) 3 d) 4 e) 5 f = r6 a b c d e f := funext (fun j => by
  match j with
  | 0 => rfl
  | 1 => rfl
  | 2 => rfl
  | 3 => rfl
  | 4 => rfl
  | 5 => rfl
  | j + 6 => simp [upd, r6, z0])
theorem r2_new (a b : Int32) : upd (upd z0 0 a) 1 b = r2 a b := funext (fun j => by
  match j with
  | 0 => rfl
  | 1 => rfl
  | j + 2 => simp [upd, r2, z0])
/-- the class's world and the land by hand, as one -/
def zB (cI cZ cA : ClassId) (a s0 n b : Nat) (r y : Int32) (m0 m1 m2 m3 m4 m5 m6 m7 : Nat → Int32) (ws : va_W) : Prop := ∃ (s pa da : Nat → Nat) (w : va_W), s 0 = s0 ∧ ws = cS cI cA s r y n b pa da m0 m1 m2 m3 m4 m5 m6 m7 ++ w ∧ zR cI cZ a n b r y m0 m1 m2 m3 m4 m5 m6 m7 w
theorem sh_lt (x : Int32) {n : Nat} (h : 0 < n) : bl x n < n := bl_lt x h
/-- the number chooses what throws -/
def acT (x : Int32) (n b : Nat) (m0 : Nat → Int32) : Prop :=
  (bl x 14 ≤ 2 ∧ n = 16) ∨ (3 ≤ bl x 14 ∧ bl x 14 ≤ 5 ∧ (bl (x >>> ((3 : Int32) &&& 31)) n = bl (x >>> ((6 : Int32) &&& 31)) n ∨ fl m0 (nI (bl (x >>> ((3 : Int32) &&& 31)) n)) 16 (m0 (bl (x >>> ((6 : Int32) &&& 31)) n)) = true)) ∨ (8 ≤ bl x 14 ∧ bl x 14 ≤ 9 ∧ b = 16)
theorem isI_sw {k : Nat} (h : k < 19) : isI (nI k - 9) (-9) 9 = true := by
  have : ∀ k, k < 19 → isI (nI k - 9) (-9) 9 = true := by decide +kernel
  exact this k h
theorem tg_sub {x : Int32} (h : zo x) : 1 - x = tg x := by
  rcases h with h | h <;> subst h <;> decide
abbrev rmL_act : Room := { frames := 8, cells := 4500, slots := 71000, locals := 190 }
theorem zR_m5 {cI cZ : ClassId} {a n b : Nat} {r y : Int32} {m0 m1 m2 m3 m4 m5 m6 m7 : Nat → Int32} {w : va_W} (h : zR cI cZ a n b r y m0 m1 m2 m3 m4 m5 m6 m7 w) : m5 n = 0 := by
  obtain ⟨⟨q, hh, k, d, f0, f1, f2, f3, f4, f5, f6, f7, f8, f9, f10, f11, f12, f13, n1, r1, g0, g1, g2, g3, g4, g5, g6, g7, g8, g9, g10, g11, g12, g13, bp, bn, -, -, hI⟩, -, -⟩ := h
  exact (hI.Z n (Nat.le_refl n)).2.2.2.2.2
set_option maxHeartbeats 4000000 in
set_option maxRecDepth 100000 in
theorem ac_add {pP : Program} {l : Launch} {eE : Env} {sS : State} {mM : MethodId} {aA : Array Value} {bB : List Frame} {mT : Method} {cD : Code} {Q : State → Prop} {D : va_G} {cI cZ cA : ClassId} {A : Nat → Prop} {a n b : Nat} {r y : Int32} {m0 m1 m2 m3 m4 m5 m6 m7 : Nat → Int32} {w : va_W} (hR : zR cI cZ a n b r y m0 m1 m2 m3 m4 m5 m6 m7 w) {s pa da : Nat → Nat} {x : Int32} (hn0 : 0 < n) (C : zv_C pP mM cD cL_act 9 sS aA wsL_act yL_act.cls A) (hr : mT.sig.returnType = (some .boolean)) (hlk : mT.locks = false) (hO : va_AOA .int sS) (hQ : Q = MQ bB (zv_q D vwCl A (fun v u => v = some (.int 1) ∧ ∃ (n' b' : Nat) (r' y' : Int32) (m0' m1' m2' m3' m4' m5' m6' m7' : Nat → Int32), n ≤ n' ∧ zB cI cZ cA a (s 0) n' b' r' y' m0' m1' m2' m3' m4' m5' m6' m7' u)) aA sS rmL_act.cells rmL_act.slots A) (hn : n < 16) : zv_V pP l eE rmL_act sS mM aA bB mT cD Q 9 D vwCl A A (tyS cI cZ cA) ((s 0, .inr (2, [.int r, .int y, .ref (s 1), .ref (s 2)])) :: (s 1, .inl (cA, n, aq pa)) :: (s 2, .inl (cA, b, aq da)) :: (sR cI 6 pa (rP m0 m1 m2 m3 m4 m5) n ++ (sR cI 2 da (rB m6 m7) b ++ w))) 0 0 96 [(0, .ref a), (1, .ref (s 0)), (2, .int x), (3, .int (nI n)), (4, .int (nI (bl (x >>> ((3 : Int32) &&& 31)) n))), (5, .int 1)] [] := by
  have inX2 : ∀ w ∈ u_ws RX2 TX2 4, w ∈ wsL_act := by decide +kernel
  have lk9 : Cond.fieldLink RL 9 "RiverNamesLaw$Sim" "places" "[[I" ∈ wsL_act := by decide +kernel
  have arint : Cond.arrayClass .int ∈ wsL_act := by decide +kernel
  have hV := hR.lv
  have hn16 : n ≤ 16 := hV.n16
  have hb16 : b ≤ 16 := hV.b16
  obtain ⟨fs, hrc⟩ := hR.recv
  have hp : bl (x >>> ((3 : Int32) &&& 31)) n < n := bl_lt _ hn0
  have hn1 : n < 16 := hn
  refine zv_iload C dL_act_96 98 rfl 5 rfl ?_
  refine zv_if_eq C dL_act_98 101 140 rfl (by decide) (fun c => absurd c (by decide)) (fun _ => ?_)
  refine zv_aload_n C dL_act_101 102 rfl 1 rfl ?_
  refine zv_aload_n C dL_act_102 103 rfl 1 rfl ?_
  refine zv_get (ci := 2) C inX2 rfl dL_act_103 106 rfl 0 2 rfl (by decide) lk9 rfl ?_
  refine zv_bipush (v := 6) C dL_act_106 108 rfl (by decide) ?_
  refine zn_newa (atype := .int) C C.2 arint rfl dL_act_108 110 rfl (N' := 6) (a0 := (6, .inl z0)) (fun cA => rfl) 0 rfl (fun h => h) (by decide) (by decide) (by decide) (by show 0 + 1 ≤ 4500; omega) (by show 0 + 6 ≤ 71000; omega) (fun nq1 fr_nq1 => ?_)
  refine zv_go rfl rfl (st' := [.ref nq1, .ref (s 1), .ref (s 0)]) rfl (kc' := 1) rfl (ns' := 6) rfl ?_
  have fA_nq1 := C.2 nq1 fr_nq1
  refine zv_dup C dL_act_110 111 rfl rfl ?_
  refine zv_iconst (v := 0) C dL_act_111 112 rfl (by decide) ?_
  refine zv_iconst (v := (-1 : Int32)) C dL_act_112 113 rfl (by decide) ?_
  refine zn_iast (x' := (-1 : Int32)) C dL_act_113 114 rfl 0 0 0 rfl fA_nq1 rfl (by decide) (by omega) (by omega) rfl ((nq1, .inl (cI, 6, .inl (upd z0 0 (-1 : Int32)))) :: (s 0, .inr (2, [.int r, .int y, .ref (s 1), .ref (s 2)])) :: (s 1, .inl (cA, n, aq pa)) :: (s 2, .inl (cA, b, aq da)) :: (sR cI 6 pa (rP m0 m1 m2 m3 m4 m5) n ++ (sR cI 2 da (rB m6 m7) b ++ w))) rfl ?_
  refine zv_dup C dL_act_114 115 rfl rfl ?_
  refine zv_iconst (v := 1) C dL_act_115 116 rfl (by decide) ?_
  refine zv_iconst (v := 0) C dL_act_116 117 rfl (by decide) ?_
  refine zn_iast (x' := 0) C dL_act_117 118 rfl 0 0 1 rfl fA_nq1 rfl (by decide) (by omega) (by omega) rfl ((nq1, .inl (cI, 6, .inl (upd (upd z0 0 (-1 : Int32)) 1 0))) :: (s 0, .inr (2, [.int r, .int y, .ref (s 1), .ref (s 2)])) :: (s 1, .inl (cA, n, aq pa)) :: (s 2, .inl (cA, b, aq da)) :: (sR cI 6 pa (rP m0 m1 m2 m3 m4 m5) n ++ (sR cI 2 da (rB m6 m7) b ++ w))) rfl ?_
  refine zv_dup C dL_act_118 119 rfl rfl ?_
  refine zv_iconst (v := 2) C dL_act_119 120 rfl (by decide) ?_
  refine zv_iconst (v := (-1 : Int32)) C dL_act_120 121 rfl (by decide) ?_
  refine zn_iast (x' := (-1 : Int32)) C dL_act_121 122 rfl 0 0 2 rfl fA_nq1 rfl (by decide) (by omega) (by omega) rfl ((nq1, .inl (cI, 6, .inl (upd (upd (upd z0 0 (-1 : Int32)) 1 0) 2 (-1 : Int32)))) :: (s 0, .inr (2, [.int r, .int y, .ref (s 1), .ref (s 2)])) :: (s 1, .inl (cA, n, aq pa)) :: (s 2, .inl (cA, b, aq da)) :: (sR cI 6 pa (rP m0 m1 m2 m3 m4 m5) n ++ (sR cI 2 da (rB m6 m7) b ++ w))) rfl ?_
  refine zv_dup C dL_act_122 123 rfl rfl ?_
  refine zv_iconst (v := 3) C dL_act_123 124 rfl (by decide) ?_
  refine zv_iconst (v := 0) C dL_act_124 125 rfl (by decide) ?_
  refine zn_iast (x' := 0) C dL_act_125 126 rfl 0 0 3 rfl fA_nq1 rfl (by decide) (by omega) (by omega) rfl ((nq1, .inl (cI, 6, .inl (upd (upd (upd (upd z0 0 (-1 : Int32)) 1 0) 2 (-1 : Int32)) 3 0))) :: (s 0, .inr (2, [.int r, .int y, .ref (s 1), .ref (s 2)])) :: (s 1, .inl (cA, n, aq pa)) :: (s 2, .inl (cA, b, aq da)) :: (sR cI 6 pa (rP m0 m1 m2 m3 m4 m5) n ++ (sR cI 2 da (rB m6 m7) b ++ w))) rfl ?_
  refine zv_dup C dL_act_126 127 rfl rfl ?_
  refine zv_iconst (v := 4) C dL_act_127 128 rfl (by decide) ?_
  refine zv_iconst (v := 0) C dL_act_128 129 rfl (by decide) ?_
  refine zn_iast (x' := 0) C dL_act_129 130 rfl 0 0 4 rfl fA_nq1 rfl (by decide) (by omega) (by omega) rfl ((nq1, .inl (cI, 6, .inl (upd (upd (upd (upd (upd z0 0 (-1 : Int32)) 1 0) 2 (-1 : Int32)) 3 0) 4 0))) :: (s 0, .inr (2, [.int r, .int y, .ref (s 1), .ref (s 2)])) :: (s 1, .inl (cA, n, aq pa)) :: (s 2, .inl (cA, b, aq da)) :: (sR cI 6 pa (rP m0 m1 m2 m3 m4 m5) n ++ (sR cI 2 da (rB m6 m7) b ++ w))) rfl ?_
  refine zv_dup C dL_act_130 131 rfl rfl ?_
  refine zv_iconst (v := 5) C dL_act_131 132 rfl (by decide) ?_
  refine zv_iconst (v := 0) C dL_act_132 133 rfl (by decide) ?_
  refine zn_iast (x' := 0) C dL_act_133 134 rfl 0 0 5 rfl fA_nq1 rfl (by decide) (by omega) (by omega) rfl ((nq1, .inl (cI, 6, .inl (upd (upd (upd (upd (upd (upd z0 0 (-1 : Int32)) 1 0) 2 (-1 : Int32)) 3 0) 4 0) 5 0))) :: (s 0, .inr (2, [.int r, .int y, .ref (s 1), .ref (s 2)])) :: (s 1, .inl (cA, n, aq pa)) :: (s 2, .inl (cA, b, aq da)) :: (sR cI 6 pa (rP m0 m1 m2 m3 m4 m5) n ++ (sR cI 2 da (rB m6 m7) b ++ w))) rfl ?_
  refine zn_callNS (rest := [.ref (s 0)]) C zn_OB (zn_OE hO) (k_X2_with l D cI cZ cA n 6 nq1 (s 1) hn16 pa (rP m0 m1 m2 m3 m4 m5) (upd (upd (upd (upd (upd (upd z0 0 (-1 : Int32)) 1 0) 2 (-1 : Int32)) 3 0) 4 0) 5 0)) (va_cwS 2 C.1.2.2.2.2 gL_act_X2_with rfl rfl rfl (by decide +kernel) ⟨Nat.le_of_ble_eq_true rfl, Nat.le_of_ble_eq_true rfl⟩) dL_act_134 137 rfl rfl rfl (Nat.le_of_ble_eq_true rfl) ⟨(by show 1 + 1 ≤ 4500; omega), (by show 6 + 17 ≤ 71000; omega)⟩ [0, 1, 2] rfl (List.Sublist.cons_cons _ (List.Sublist.cons _ (List.Sublist.cons_cons _ (List.Sublist.cons _ (List.sublist_append_left _ _))))) C.2 (fun v w9 hv hw9 => ?_)
  obtain ⟨no, rfl, rfl⟩ := hv
  refine zv_wd (ws' := ((no, .inl (cA, (n + 1), aq (fun i => if i = n then nq1 else pa i))) :: (nq1, .inl (cI, 6, .inl (upd (upd (upd (upd (upd (upd z0 0 (-1 : Int32)) 1 0) 2 (-1 : Int32)) 3 0) 4 0) 5 0))) :: (s 0, .inr (2, [.int r, .int y, .ref (s 1), .ref (s 2)])) :: (s 1, .inl (cA, n, aq pa)) :: (s 2, .inl (cA, b, aq da)) :: (sR cI 6 pa (rP m0 m1 m2 m3 m4 m5) n ++ (sR cI 2 da (rB m6 m7) b ++ w)))) rfl ?_
  refine zv_go rfl rfl (st' := [.ref no, .ref (s 0)]) rfl (kc' := 2) rfl (ns' := 23) rfl ?_
  refine zv_put (ci := 2) C inX2 rfl tyX2_ok nmX2 dL_act_137 140 rfl 2 2 rfl (by decide) lk9 rfl rfl rfl (Nat.le_of_ble_eq_true rfl) ((no, .inl (cA, (n + 1), aq (fun i => if i = n then nq1 else pa i))) :: (nq1, .inl (cI, 6, .inl (upd (upd (upd (upd (upd (upd z0 0 (-1 : Int32)) 1 0) 2 (-1 : Int32)) 3 0) 4 0) 5 0))) :: (s 0, .inr (2, [.int r, .int y, .ref no, .ref (s 2)])) :: (s 1, .inl (cA, n, aq pa)) :: (s 2, .inl (cA, b, aq da)) :: (sR cI 6 pa (rP m0 m1 m2 m3 m4 m5) n ++ (sR cI 2 da (rB m6 m7) b ++ w))) rfl ?_
  refine zv_aload_n C dL_act_140 141 rfl 0 rfl ?_
  refine zv_wd (ws' := ((no, .inl (cA, (n + 1), aq (fun i => if i = n then nq1 else pa i))) :: (nq1, .inl (cI, 6, .inl (upd (upd (upd (upd (upd (upd z0 0 (-1 : Int32)) 1 0) 2 (-1 : Int32)) 3 0) 4 0) 5 0))) :: (s 0, .inr (2, [.int r, .int y, .ref no, .ref (s 2)])) :: (s 1, .inl (cA, n, aq pa)) :: (s 2, .inl (cA, b, aq da)) :: (sR cI 6 pa (rP m0 m1 m2 m3 m4 m5) n ++ sR cI 2 da (rB m6 m7) b)) ++ (w ++ [])) (by simp only [List.append_assoc, List.cons_append, List.append_nil, List.nil_append] <;> rfl) ?_
  refine zn_callMV (a := ((no, .inl (cA, (n + 1), aq (fun i => if i = n then nq1 else pa i))) :: (nq1, .inl (cI, 6, .inl (upd (upd (upd (upd (upd (upd z0 0 (-1 : Int32)) 1 0) 2 (-1 : Int32)) 3 0) 4 0) 5 0))) :: (s 0, .inr (2, [.int r, .int y, .ref no, .ref (s 2)])) :: (s 1, .inl (cA, n, aq pa)) :: (s 2, .inl (cA, b, aq da)) :: (sR cI 6 pa (rP m0 m1 m2 m3 m4 m5) n ++ sR cI 2 da (rB m6 m7) b))) (bb := []) (rest := []) C zn_TB zn_TE (zn_ofM (w_addPlace l D hR hn1)) (cwV 0 C.1.2.2.2.2 gL_act_X1_addPlace rfl rfl rfl (by decide +kernel) ⟨Nat.le_of_ble_eq_true rfl, Nat.le_of_ble_eq_true rfl⟩) dL_act_141 144 rfl (ci := 1) rfl 0 hrc rfl rfl (Nat.le_of_ble_eq_true rfl) ⟨(by show 2 + 0 ≤ 4500; omega), (by show 23 + 0 ≤ 71000; omega)⟩ [0, 1] rfl (fun v w' hv => ?_)
  obtain ⟨rfl, hR2⟩ := hv
  refine zv_wd (ws' := ((no, .inl (cA, (n + 1), aq (fun i => if i = n then nq1 else pa i))) :: (nq1, .inl (cI, 6, .inl (upd (upd (upd (upd (upd (upd z0 0 (-1 : Int32)) 1 0) 2 (-1 : Int32)) 3 0) 4 0) 5 0))) :: (s 0, .inr (2, [.int r, .int y, .ref no, .ref (s 2)])) :: (s 1, .inl (cA, n, aq pa)) :: (s 2, .inl (cA, b, aq da)) :: (sR cI 6 pa (rP m0 m1 m2 m3 m4 m5) n ++ (sR cI 2 da (rB m6 m7) b ++ w')))) (by simp only [List.append_assoc, List.cons_append, List.append_nil, List.nil_append] <;> rfl) ?_
  refine zv_go rfl rfl (st' := [.int (nI n)]) rfl (kc' := 2) rfl (ns' := 23) rfl ?_
  refine zv_iload_n C dL_act_144 145 rfl 3 rfl ?_
  refine zv_icmp_ne C dL_act_145 148 157 rfl (by decide) (fun c => absurd c (fun c => c rfl)) (fun _ => ?_)
  refine zv_iload C dL_act_148 150 rfl 5 rfl ?_
  refine zv_if_eq C dL_act_150 153 157 rfl (by decide) (fun c => absurd c (by decide)) (fun _ => ?_)
  refine zv_iconst (v := 1) C dL_act_153 154 rfl (by decide) ?_
  refine zv_goto C dL_act_154 158 (by decide) ?_
  have h5n : m5 n = 0 := zR_m5 hR
  refine zn_part (ws' := ((no, .inl (cA, (n + 1), aq (fun i => if i = n then nq1 else pa i))) :: (nq1, .inl (cI, 6, .inl (upd (upd (upd (upd (upd (upd z0 0 (-1 : Int32)) 1 0) 2 (-1 : Int32)) 3 0) 4 0) 5 0))) :: (s 0, .inr (2, [.int r, .int y, .ref no, .ref (s 2)])) :: (s 2, .inl (cA, b, aq da)) :: (sR cI 6 pa (rP m0 m1 m2 m3 m4 m5) n ++ (sR cI 2 da (rB m6 m7) b ++ w')))) (List.Sublist.cons_cons _ (List.Sublist.cons_cons _ (List.Sublist.cons_cons _ (List.Sublist.cons _ (List.Sublist.cons_cons _ (List.Sublist.refl _)))))) ?_
  refine zn_perm zp_with ?_
  have hrow : sR cI 6 pa (rP m0 m1 m2 m3 m4 m5) n ++ [(nq1, .inl (cI, 6, .inl (upd (upd (upd (upd (upd (upd z0 0 (-1 : Int32)) 1 0) 2 (-1 : Int32)) 3 0) 4 0) 5 0)))] = sR cI 6 (fun i => if i = n then nq1 else pa i) (rP (upd m0 n (-1)) (upd m1 n 0) (upd m2 n (-1)) (upd m3 n 0) (upd m4 n 0) m5) (n + 1) := by
    rw [sR_succ, if_pos rfl]
    refine congr (congrArg _ (sR_congr (fun j hj => ⟨?_, ?_⟩)).symm) (congrArg (fun z => [z]) ?_)
    · rw [if_neg (by omega)]
    · show r6 (upd m0 n (-1) j) (upd m1 n 0 j) (upd m2 n (-1) j) (upd m3 n 0 j) (upd m4 n 0 j) (m5 j) = r6 (m0 j) (m1 j) (m2 j) (m3 j) (m4 j) (m5 j)
      simp only [upd_ne _ _ _ (show ¬ j = n by omega)]
    · show (nq1, _) = (nq1, _)
      rw [r6_new]
      simp only [rP, upd_at]
      try (rw [h5n])
  rw [hrow]
  refine zv_wd (ws' := cS cI cA (ad3 (s 0) no (s 2)) r y (n + 1) b (fun i => if i = n then nq1 else pa i) da (upd m0 n (-1)) (upd m1 n 0) (upd m2 n (-1)) (upd m3 n 0) (upd m4 n 0) m5 m6 m7 ++ w') (by simp only [List.append_assoc, List.cons_append, List.append_nil, List.nil_append] <;> rfl) ?_
  refine zv_widen (k' := 4500) (n' := 71000) (by omega) (by omega) ?_
  exact zv_zret C (by decide) hr hlk hQ dL_act_158 ⟨rfl, (n + 1), b, r, y, upd m0 n (-1), upd m1 n 0, upd m2 n (-1), upd m3 n 0, upd m4 n 0, m5, m6, m7, (by omega), ad3 (s 0) no (s 2), (fun i => if i = n then nq1 else pa i), da, w', rfl, rfl, hR2⟩
set_option maxHeartbeats 4000000 in
set_option maxRecDepth 100000 in
theorem ac_spring {pP : Program} {l : Launch} {eE : Env} {sS : State} {mM : MethodId} {aA : Array Value} {bB : List Frame} {mT : Method} {cD : Code} {Q : State → Prop} {D : va_G} {cI cZ cA : ClassId} {A : Nat → Prop} {a n b : Nat} {r y : Int32} {m0 m1 m2 m3 m4 m5 m6 m7 : Nat → Int32} {w : va_W} (hR : zR cI cZ a n b r y m0 m1 m2 m3 m4 m5 m6 m7 w) {s pa da : Nat → Nat} {x : Int32} (hn0 : 0 < n) (C : zv_C pP mM cD cL_act 9 sS aA wsL_act yL_act.cls A) (hr : mT.sig.returnType = (some .boolean)) (hlk : mT.locks = false) (hO : va_AOA .int sS) (hQ : Q = MQ bB (zv_q D vwCl A (fun v u => v = some (.int 1) ∧ ∃ (n' b' : Nat) (r' y' : Int32) (m0' m1' m2' m3' m4' m5' m6' m7' : Nat → Int32), n ≤ n' ∧ zB cI cZ cA a (s 0) n' b' r' y' m0' m1' m2' m3' m4' m5' m6' m7' u)) aA sS rmL_act.cells rmL_act.slots A) (hn : n < 16) : zv_V pP l eE rmL_act sS mM aA bB mT cD Q 9 D vwCl A A (tyS cI cZ cA) ((s 0, .inr (2, [.int r, .int y, .ref (s 1), .ref (s 2)])) :: (s 1, .inl (cA, n, aq pa)) :: (s 2, .inl (cA, b, aq da)) :: (sR cI 6 pa (rP m0 m1 m2 m3 m4 m5) n ++ (sR cI 2 da (rB m6 m7) b ++ w))) 0 0 159 [(0, .ref a), (1, .ref (s 0)), (2, .int x), (3, .int (nI n)), (4, .int (nI (bl (x >>> ((3 : Int32) &&& 31)) n))), (5, .int 1)] [] := by
  have inX2 : ∀ w ∈ u_ws RX2 TX2 4, w ∈ wsL_act := by decide +kernel
  have lk9 : Cond.fieldLink RL 9 "RiverNamesLaw$Sim" "places" "[[I" ∈ wsL_act := by decide +kernel
  have arint : Cond.arrayClass .int ∈ wsL_act := by decide +kernel
  have hV := hR.lv
  have hn16 : n ≤ 16 := hV.n16
  have hb16 : b ≤ 16 := hV.b16
  obtain ⟨fs, hrc⟩ := hR.recv
  have hp : bl (x >>> ((3 : Int32) &&& 31)) n < n := bl_lt _ hn0
  have hn1 : n < 16 := hn
  refine zv_iload_n C dL_act_159 160 rfl 2 rfl ?_
  refine zv_iconst (v := 4) C dL_act_160 161 rfl (by decide) ?_
  refine zn_ishr C dL_act_161 162 rfl ?_
  refine zv_bipush (v := 10) C dL_act_162 164 rfl (by decide) ?_
  refine zv_go rfl rfl (st' := [.int (nI 10), .int (x >>> (4 &&& 31))]) (by rfl) rfl rfl ?_
  refine zn_callRS (rest := []) C zn_TB zn_TE (zn_ofR (k_L_below l D cI cZ cA (x >>> ((4 : Int32) &&& 31)) 10 (by omega) (by omega))) (va_cwS 2 C.1.2.2.2.2 gL_act_L_below rfl rfl rfl (by decide +kernel) ⟨Nat.le_of_ble_eq_true rfl, Nat.le_of_ble_eq_true rfl⟩) dL_act_164 167 rfl rfl rfl (Nat.le_of_ble_eq_true rfl) ⟨(by show 0 + 0 ≤ 4500; omega), (by show 0 + 0 ≤ 71000; omega)⟩ [0, 1] rfl (List.nil_sublist _) (fun v hv => ?_)
  subst hv
  refine zv_go rfl rfl (st' := [.int (nI (bl (x >>> ((4 : Int32) &&& 31)) 10))]) rfl (kc' := 0) rfl (ns' := 0) rfl ?_
  refine zv_istore C dL_act_167 169 rfl [(6, .int (nI (bl (x >>> ((4 : Int32) &&& 31)) 10))), (0, .ref a), (1, .ref (s 0)), (2, .int x), (3, .int (nI n)), (4, .int (nI (bl (x >>> ((3 : Int32) &&& 31)) n))), (5, .int 1)] (by decide) rfl ?_
  refine zv_iload_n C dL_act_169 170 rfl 3 rfl ?_
  refine zv_bipush (v := 6) C dL_act_170 172 rfl (by decide) ?_
  refine zn_ishr C dL_act_172 173 rfl ?_
  refine zv_bipush (v := 100) C dL_act_173 175 rfl (by decide) ?_
  refine zv_go rfl rfl (st' := [.int (nI 100), .int (x >>> (6 &&& 31))]) (by rfl) rfl rfl ?_
  refine zn_callRS (rest := []) C zn_TB zn_TE (zn_ofR (k_L_below l D cI cZ cA (x >>> ((6 : Int32) &&& 31)) 100 (by omega) (by omega))) (va_cwS 2 C.1.2.2.2.2 gL_act_L_below rfl rfl rfl (by decide +kernel) ⟨Nat.le_of_ble_eq_true rfl, Nat.le_of_ble_eq_true rfl⟩) dL_act_175 178 rfl rfl rfl (Nat.le_of_ble_eq_true rfl) ⟨(by show 0 + 0 ≤ 4500; omega), (by show 0 + 0 ≤ 71000; omega)⟩ [0, 1] rfl (List.nil_sublist _) (fun v hv => ?_)
  subst hv
  refine zv_go rfl rfl (st' := [.int (nI (bl (x >>> ((6 : Int32) &&& 31)) 100))]) rfl (kc' := 0) rfl (ns' := 0) rfl ?_
  refine zv_istore C dL_act_178 180 rfl [(7, .int (nI (bl (x >>> ((6 : Int32) &&& 31)) 100))), (6, .int (nI (bl (x >>> ((4 : Int32) &&& 31)) 10))), (0, .ref a), (1, .ref (s 0)), (2, .int x), (3, .int (nI n)), (4, .int (nI (bl (x >>> ((3 : Int32) &&& 31)) n))), (5, .int 1)] (by decide) rfl ?_
  refine zv_iload_n C dL_act_180 181 rfl 4 rfl ?_
  refine zv_iconst (v := 5) C dL_act_181 182 rfl (by decide) ?_
  refine zn_ishr C dL_act_182 183 rfl ?_
  refine zv_bipush (v := 19) C dL_act_183 185 rfl (by decide) ?_
  refine zv_go rfl rfl (st' := [.int (nI 19), .int (x >>> (5 &&& 31))]) (by rfl) rfl rfl ?_
  refine zn_callRS (rest := []) C zn_TB zn_TE (zn_ofR (k_L_below l D cI cZ cA (x >>> ((5 : Int32) &&& 31)) 19 (by omega) (by omega))) (va_cwS 2 C.1.2.2.2.2 gL_act_L_below rfl rfl rfl (by decide +kernel) ⟨Nat.le_of_ble_eq_true rfl, Nat.le_of_ble_eq_true rfl⟩) dL_act_185 188 rfl rfl rfl (Nat.le_of_ble_eq_true rfl) ⟨(by show 0 + 0 ≤ 4500; omega), (by show 0 + 0 ≤ 71000; omega)⟩ [0, 1] rfl (List.nil_sublist _) (fun v hv => ?_)
  subst hv
  refine zv_go rfl rfl (st' := [.int (nI (bl (x >>> ((5 : Int32) &&& 31)) 19))]) rfl (kc' := 0) rfl (ns' := 0) rfl ?_
  refine zv_bipush (v := 9) C dL_act_188 190 rfl (by decide) ?_
  refine zv_isub (v := ((nI (bl (x >>> ((5 : Int32) &&& 31)) 19)) - 9)) C dL_act_190 191 rfl rfl ?_
  refine zv_istore C dL_act_191 193 rfl [(8, .int ((nI (bl (x >>> ((5 : Int32) &&& 31)) 19)) - 9)), (7, .int (nI (bl (x >>> ((6 : Int32) &&& 31)) 100))), (6, .int (nI (bl (x >>> ((4 : Int32) &&& 31)) 10))), (0, .ref a), (1, .ref (s 0)), (2, .int x), (3, .int (nI n)), (4, .int (nI (bl (x >>> ((3 : Int32) &&& 31)) n))), (5, .int 1)] (by decide) rfl ?_
  refine zv_iload C dL_act_193 195 rfl 8 rfl ?_
  refine zv_if_eq C dL_act_195 198 240 rfl (by decide) (fun c => absurd c (by decide)) (fun _ => ?_)
  refine zv_aload_n C dL_act_198 199 rfl 4 rfl ?_
  refine zv_aload_n C dL_act_199 200 rfl 4 rfl ?_
  refine zv_get (ci := 2) C inX2 rfl dL_act_200 203 rfl 0 2 rfl (by decide) lk9 rfl ?_
  refine zv_bipush (v := 6) C dL_act_203 205 rfl (by decide) ?_
  refine zn_newa (atype := .int) C C.2 arint rfl dL_act_205 207 rfl (N' := 6) (a0 := (6, .inl z0)) (fun cA => rfl) 0 rfl (fun h => h) (by decide) (by decide) (by decide) (by show 0 + 1 ≤ 4500; omega) (by show 0 + 6 ≤ 71000; omega) (fun nq1 fr_nq1 => ?_)
  refine zv_go rfl rfl (st' := [.ref nq1, .ref (s 1), .ref (s 0)]) rfl (kc' := 1) rfl (ns' := 6) rfl ?_
  have fA_nq1 := C.2 nq1 fr_nq1
  refine zv_dup C dL_act_207 208 rfl rfl ?_
  refine zv_iconst (v := 0) C dL_act_208 209 rfl (by decide) ?_
  refine zv_iconst (v := (-1 : Int32)) C dL_act_209 210 rfl (by decide) ?_
  refine zn_iast (x' := (-1 : Int32)) C dL_act_210 211 rfl 0 0 0 rfl fA_nq1 rfl (by decide) (by omega) (by omega) rfl ((nq1, .inl (cI, 6, .inl (upd z0 0 (-1 : Int32)))) :: (s 0, .inr (2, [.int r, .int y, .ref (s 1), .ref (s 2)])) :: (s 1, .inl (cA, n, aq pa)) :: (s 2, .inl (cA, b, aq da)) :: (sR cI 6 pa (rP m0 m1 m2 m3 m4 m5) n ++ (sR cI 2 da (rB m6 m7) b ++ w))) rfl ?_
  refine zv_dup C dL_act_211 212 rfl rfl ?_
  refine zv_iconst (v := 1) C dL_act_212 213 rfl (by decide) ?_
  refine zv_iconst (v := 1) C dL_act_213 214 rfl (by decide) ?_
  refine zn_iast (x' := 1) C dL_act_214 215 rfl 0 0 1 rfl fA_nq1 rfl (by decide) (by omega) (by omega) rfl ((nq1, .inl (cI, 6, .inl (upd (upd z0 0 (-1 : Int32)) 1 1))) :: (s 0, .inr (2, [.int r, .int y, .ref (s 1), .ref (s 2)])) :: (s 1, .inl (cA, n, aq pa)) :: (s 2, .inl (cA, b, aq da)) :: (sR cI 6 pa (rP m0 m1 m2 m3 m4 m5) n ++ (sR cI 2 da (rB m6 m7) b ++ w))) rfl ?_
  refine zv_dup C dL_act_215 216 rfl rfl ?_
  refine zv_iconst (v := 2) C dL_act_216 217 rfl (by decide) ?_
  refine zv_iload C dL_act_217 219 rfl 2 rfl ?_
  refine zn_iast (x' := (nI (bl (x >>> ((4 : Int32) &&& 31)) 10))) C dL_act_219 220 rfl 0 0 2 rfl fA_nq1 rfl (by decide) (by omega) (by omega) rfl ((nq1, .inl (cI, 6, .inl (upd (upd (upd z0 0 (-1 : Int32)) 1 1) 2 (nI (bl (x >>> ((4 : Int32) &&& 31)) 10))))) :: (s 0, .inr (2, [.int r, .int y, .ref (s 1), .ref (s 2)])) :: (s 1, .inl (cA, n, aq pa)) :: (s 2, .inl (cA, b, aq da)) :: (sR cI 6 pa (rP m0 m1 m2 m3 m4 m5) n ++ (sR cI 2 da (rB m6 m7) b ++ w))) rfl ?_
  refine zv_dup C dL_act_220 221 rfl rfl ?_
  refine zv_iconst (v := 3) C dL_act_221 222 rfl (by decide) ?_
  refine zv_iload C dL_act_222 224 rfl 1 rfl ?_
  refine zn_iast (x' := (nI (bl (x >>> ((6 : Int32) &&& 31)) 100))) C dL_act_224 225 rfl 0 0 3 rfl fA_nq1 rfl (by decide) (by omega) (by omega) rfl ((nq1, .inl (cI, 6, .inl (upd (upd (upd (upd z0 0 (-1 : Int32)) 1 1) 2 (nI (bl (x >>> ((4 : Int32) &&& 31)) 10))) 3 (nI (bl (x >>> ((6 : Int32) &&& 31)) 100))))) :: (s 0, .inr (2, [.int r, .int y, .ref (s 1), .ref (s 2)])) :: (s 1, .inl (cA, n, aq pa)) :: (s 2, .inl (cA, b, aq da)) :: (sR cI 6 pa (rP m0 m1 m2 m3 m4 m5) n ++ (sR cI 2 da (rB m6 m7) b ++ w))) rfl ?_
  refine zv_dup C dL_act_225 226 rfl rfl ?_
  refine zv_iconst (v := 4) C dL_act_226 227 rfl (by decide) ?_
  refine zv_iload C dL_act_227 229 rfl 0 rfl ?_
  refine zn_iast (x' := ((nI (bl (x >>> ((5 : Int32) &&& 31)) 19)) - 9)) C dL_act_229 230 rfl 0 0 4 rfl fA_nq1 rfl (by decide) (by omega) (by omega) rfl ((nq1, .inl (cI, 6, .inl (upd (upd (upd (upd (upd z0 0 (-1 : Int32)) 1 1) 2 (nI (bl (x >>> ((4 : Int32) &&& 31)) 10))) 3 (nI (bl (x >>> ((6 : Int32) &&& 31)) 100))) 4 ((nI (bl (x >>> ((5 : Int32) &&& 31)) 19)) - 9)))) :: (s 0, .inr (2, [.int r, .int y, .ref (s 1), .ref (s 2)])) :: (s 1, .inl (cA, n, aq pa)) :: (s 2, .inl (cA, b, aq da)) :: (sR cI 6 pa (rP m0 m1 m2 m3 m4 m5) n ++ (sR cI 2 da (rB m6 m7) b ++ w))) rfl ?_
  refine zv_dup C dL_act_230 231 rfl rfl ?_
  refine zv_iconst (v := 5) C dL_act_231 232 rfl (by decide) ?_
  refine zv_iconst (v := 0) C dL_act_232 233 rfl (by decide) ?_
  refine zn_iast (x' := 0) C dL_act_233 234 rfl 0 0 5 rfl fA_nq1 rfl (by decide) (by omega) (by omega) rfl ((nq1, .inl (cI, 6, .inl (upd (upd (upd (upd (upd (upd z0 0 (-1 : Int32)) 1 1) 2 (nI (bl (x >>> ((4 : Int32) &&& 31)) 10))) 3 (nI (bl (x >>> ((6 : Int32) &&& 31)) 100))) 4 ((nI (bl (x >>> ((5 : Int32) &&& 31)) 19)) - 9)) 5 0))) :: (s 0, .inr (2, [.int r, .int y, .ref (s 1), .ref (s 2)])) :: (s 1, .inl (cA, n, aq pa)) :: (s 2, .inl (cA, b, aq da)) :: (sR cI 6 pa (rP m0 m1 m2 m3 m4 m5) n ++ (sR cI 2 da (rB m6 m7) b ++ w))) rfl ?_
  refine zn_callNS (rest := [.ref (s 0)]) C zn_OB (zn_OE hO) (k_X2_with l D cI cZ cA n 6 nq1 (s 1) hn16 pa (rP m0 m1 m2 m3 m4 m5) (upd (upd (upd (upd (upd (upd z0 0 (-1 : Int32)) 1 1) 2 (nI (bl (x >>> ((4 : Int32) &&& 31)) 10))) 3 (nI (bl (x >>> ((6 : Int32) &&& 31)) 100))) 4 ((nI (bl (x >>> ((5 : Int32) &&& 31)) 19)) - 9)) 5 0)) (va_cwS 2 C.1.2.2.2.2 gL_act_X2_with rfl rfl rfl (by decide +kernel) ⟨Nat.le_of_ble_eq_true rfl, Nat.le_of_ble_eq_true rfl⟩) dL_act_234 237 rfl rfl rfl (Nat.le_of_ble_eq_true rfl) ⟨(by show 1 + 1 ≤ 4500; omega), (by show 6 + 17 ≤ 71000; omega)⟩ [0, 1, 2] rfl (List.Sublist.cons_cons _ (List.Sublist.cons _ (List.Sublist.cons_cons _ (List.Sublist.cons _ (List.sublist_append_left _ _))))) C.2 (fun v w9 hv hw9 => ?_)
  obtain ⟨no, rfl, rfl⟩ := hv
  refine zv_wd (ws' := ((no, .inl (cA, (n + 1), aq (fun i => if i = n then nq1 else pa i))) :: (nq1, .inl (cI, 6, .inl (upd (upd (upd (upd (upd (upd z0 0 (-1 : Int32)) 1 1) 2 (nI (bl (x >>> ((4 : Int32) &&& 31)) 10))) 3 (nI (bl (x >>> ((6 : Int32) &&& 31)) 100))) 4 ((nI (bl (x >>> ((5 : Int32) &&& 31)) 19)) - 9)) 5 0))) :: (s 0, .inr (2, [.int r, .int y, .ref (s 1), .ref (s 2)])) :: (s 1, .inl (cA, n, aq pa)) :: (s 2, .inl (cA, b, aq da)) :: (sR cI 6 pa (rP m0 m1 m2 m3 m4 m5) n ++ (sR cI 2 da (rB m6 m7) b ++ w)))) rfl ?_
  refine zv_go rfl rfl (st' := [.ref no, .ref (s 0)]) rfl (kc' := 2) rfl (ns' := 23) rfl ?_
  refine zv_put (ci := 2) C inX2 rfl tyX2_ok nmX2 dL_act_237 240 rfl 2 2 rfl (by decide) lk9 rfl rfl rfl (Nat.le_of_ble_eq_true rfl) ((no, .inl (cA, (n + 1), aq (fun i => if i = n then nq1 else pa i))) :: (nq1, .inl (cI, 6, .inl (upd (upd (upd (upd (upd (upd z0 0 (-1 : Int32)) 1 1) 2 (nI (bl (x >>> ((4 : Int32) &&& 31)) 10))) 3 (nI (bl (x >>> ((6 : Int32) &&& 31)) 100))) 4 ((nI (bl (x >>> ((5 : Int32) &&& 31)) 19)) - 9)) 5 0))) :: (s 0, .inr (2, [.int r, .int y, .ref no, .ref (s 2)])) :: (s 1, .inl (cA, n, aq pa)) :: (s 2, .inl (cA, b, aq da)) :: (sR cI 6 pa (rP m0 m1 m2 m3 m4 m5) n ++ (sR cI 2 da (rB m6 m7) b ++ w))) rfl ?_
  refine zv_aload_n C dL_act_240 241 rfl 3 rfl ?_
  refine zv_iload C dL_act_241 243 rfl 2 rfl ?_
  refine zv_iload C dL_act_243 245 rfl 1 rfl ?_
  refine zv_iload C dL_act_245 247 rfl 0 rfl ?_
  refine zv_wd (ws' := ((no, .inl (cA, (n + 1), aq (fun i => if i = n then nq1 else pa i))) :: (nq1, .inl (cI, 6, .inl (upd (upd (upd (upd (upd (upd z0 0 (-1 : Int32)) 1 1) 2 (nI (bl (x >>> ((4 : Int32) &&& 31)) 10))) 3 (nI (bl (x >>> ((6 : Int32) &&& 31)) 100))) 4 ((nI (bl (x >>> ((5 : Int32) &&& 31)) 19)) - 9)) 5 0))) :: (s 0, .inr (2, [.int r, .int y, .ref no, .ref (s 2)])) :: (s 1, .inl (cA, n, aq pa)) :: (s 2, .inl (cA, b, aq da)) :: (sR cI 6 pa (rP m0 m1 m2 m3 m4 m5) n ++ sR cI 2 da (rB m6 m7) b)) ++ (w ++ [])) (by simp only [List.append_assoc, List.cons_append, List.append_nil, List.nil_append] <;> rfl) ?_
  refine zn_callMV (a := ((no, .inl (cA, (n + 1), aq (fun i => if i = n then nq1 else pa i))) :: (nq1, .inl (cI, 6, .inl (upd (upd (upd (upd (upd (upd z0 0 (-1 : Int32)) 1 1) 2 (nI (bl (x >>> ((4 : Int32) &&& 31)) 10))) 3 (nI (bl (x >>> ((6 : Int32) &&& 31)) 100))) 4 ((nI (bl (x >>> ((5 : Int32) &&& 31)) 19)) - 9)) 5 0))) :: (s 0, .inr (2, [.int r, .int y, .ref no, .ref (s 2)])) :: (s 1, .inl (cA, n, aq pa)) :: (s 2, .inl (cA, b, aq da)) :: (sR cI 6 pa (rP m0 m1 m2 m3 m4 m5) n ++ sR cI 2 da (rB m6 m7) b))) (bb := []) (rest := []) C zn_TB zn_TE (zn_ofM (w_addSpring l D hR (nI (bl (x >>> ((4 : Int32) &&& 31)) 10)) (nI (bl (x >>> ((6 : Int32) &&& 31)) 100)) (nI (bl (x >>> ((5 : Int32) &&& 31)) 19) - 9) hn1 (isI_nI (lo := 0) (hi := 9) (Nat.zero_le _) (by have := bl_lt (x >>> ((4 : Int32) &&& 31)) (N := 10) (by omega); omega) (by omega)) (isI_nI (lo := 0) (hi := 99) (Nat.zero_le _) (by have := bl_lt (x >>> ((6 : Int32) &&& 31)) (N := 100) (by omega); omega) (by omega)) (isI_sw (bl_lt _ (by omega))))) (cwV 3 C.1.2.2.2.2 gL_act_X1_addSpring rfl rfl rfl (by decide +kernel) ⟨Nat.le_of_ble_eq_true rfl, Nat.le_of_ble_eq_true rfl⟩) dL_act_247 250 rfl (ci := 1) rfl 0 hrc rfl rfl (Nat.le_of_ble_eq_true rfl) ⟨(by show 2 + 0 ≤ 4500; omega), (by show 23 + 0 ≤ 71000; omega)⟩ [0, 1] rfl (fun v w' hv => ?_)
  obtain ⟨rfl, hR2⟩ := hv
  refine zv_wd (ws' := ((no, .inl (cA, (n + 1), aq (fun i => if i = n then nq1 else pa i))) :: (nq1, .inl (cI, 6, .inl (upd (upd (upd (upd (upd (upd z0 0 (-1 : Int32)) 1 1) 2 (nI (bl (x >>> ((4 : Int32) &&& 31)) 10))) 3 (nI (bl (x >>> ((6 : Int32) &&& 31)) 100))) 4 ((nI (bl (x >>> ((5 : Int32) &&& 31)) 19)) - 9)) 5 0))) :: (s 0, .inr (2, [.int r, .int y, .ref no, .ref (s 2)])) :: (s 1, .inl (cA, n, aq pa)) :: (s 2, .inl (cA, b, aq da)) :: (sR cI 6 pa (rP m0 m1 m2 m3 m4 m5) n ++ (sR cI 2 da (rB m6 m7) b ++ w')))) (by simp only [List.append_assoc, List.cons_append, List.append_nil, List.nil_append] <;> rfl) ?_
  refine zv_go rfl rfl (st' := [.int (nI n)]) rfl (kc' := 2) rfl (ns' := 23) rfl ?_
  refine zv_iload_n C dL_act_250 251 rfl 6 rfl ?_
  refine zv_icmp_ne C dL_act_251 254 263 rfl (by decide) (fun c => absurd c (fun c => c rfl)) (fun _ => ?_)
  refine zv_iload C dL_act_254 256 rfl 8 rfl ?_
  refine zv_if_eq C dL_act_256 259 263 rfl (by decide) (fun c => absurd c (by decide)) (fun _ => ?_)
  refine zv_iconst (v := 1) C dL_act_259 260 rfl (by decide) ?_
  refine zv_goto C dL_act_260 264 (by decide) ?_
  have h5n : m5 n = 0 := zR_m5 hR
  refine zn_part (ws' := ((no, .inl (cA, (n + 1), aq (fun i => if i = n then nq1 else pa i))) :: (nq1, .inl (cI, 6, .inl (upd (upd (upd (upd (upd (upd z0 0 (-1 : Int32)) 1 1) 2 (nI (bl (x >>> ((4 : Int32) &&& 31)) 10))) 3 (nI (bl (x >>> ((6 : Int32) &&& 31)) 100))) 4 ((nI (bl (x >>> ((5 : Int32) &&& 31)) 19)) - 9)) 5 0))) :: (s 0, .inr (2, [.int r, .int y, .ref no, .ref (s 2)])) :: (s 2, .inl (cA, b, aq da)) :: (sR cI 6 pa (rP m0 m1 m2 m3 m4 m5) n ++ (sR cI 2 da (rB m6 m7) b ++ w')))) (List.Sublist.cons_cons _ (List.Sublist.cons_cons _ (List.Sublist.cons_cons _ (List.Sublist.cons _ (List.Sublist.cons_cons _ (List.Sublist.refl _)))))) ?_
  refine zn_perm zp_with ?_
  have hrow : sR cI 6 pa (rP m0 m1 m2 m3 m4 m5) n ++ [(nq1, .inl (cI, 6, .inl (upd (upd (upd (upd (upd (upd z0 0 (-1 : Int32)) 1 1) 2 (nI (bl (x >>> ((4 : Int32) &&& 31)) 10))) 3 (nI (bl (x >>> ((6 : Int32) &&& 31)) 100))) 4 ((nI (bl (x >>> ((5 : Int32) &&& 31)) 19)) - 9)) 5 0)))] = sR cI 6 (fun i => if i = n then nq1 else pa i) (rP (upd m0 n (-1)) (upd m1 n 1) (upd m2 n (nI (bl (x >>> ((4 : Int32) &&& 31)) 10))) (upd m3 n (nI (bl (x >>> ((6 : Int32) &&& 31)) 100))) (upd m4 n (nI (bl (x >>> ((5 : Int32) &&& 31)) 19) - 9)) m5) (n + 1) := by
    rw [sR_succ, if_pos rfl]
    refine congr (congrArg _ (sR_congr (fun j hj => ⟨?_, ?_⟩)).symm) (congrArg (fun z => [z]) ?_)
    · rw [if_neg (by omega)]
    · show r6 (upd m0 n (-1) j) (upd m1 n 1 j) (upd m2 n (nI (bl (x >>> ((4 : Int32) &&& 31)) 10)) j) (upd m3 n (nI (bl (x >>> ((6 : Int32) &&& 31)) 100)) j) (upd m4 n (nI (bl (x >>> ((5 : Int32) &&& 31)) 19) - 9) j) (m5 j) = r6 (m0 j) (m1 j) (m2 j) (m3 j) (m4 j) (m5 j)
      simp only [upd_ne _ _ _ (show ¬ j = n by omega)]
    · show (nq1, _) = (nq1, _)
      rw [r6_new]
      simp only [rP, upd_at]
      try (rw [h5n])
  rw [hrow]
  refine zv_wd (ws' := cS cI cA (ad3 (s 0) no (s 2)) r y (n + 1) b (fun i => if i = n then nq1 else pa i) da (upd m0 n (-1)) (upd m1 n 1) (upd m2 n (nI (bl (x >>> ((4 : Int32) &&& 31)) 10))) (upd m3 n (nI (bl (x >>> ((6 : Int32) &&& 31)) 100))) (upd m4 n (nI (bl (x >>> ((5 : Int32) &&& 31)) 19) - 9)) m5 m6 m7 ++ w') (by simp only [List.append_assoc, List.cons_append, List.append_nil, List.nil_append] <;> rfl) ?_
  refine zv_widen (k' := 4500) (n' := 71000) (by omega) (by omega) ?_
  exact zv_zret C (by decide) hr hlk hQ dL_act_264 ⟨rfl, (n + 1), b, r, y, upd m0 n (-1), upd m1 n 1, upd m2 n (nI (bl (x >>> ((4 : Int32) &&& 31)) 10)), upd m3 n (nI (bl (x >>> ((6 : Int32) &&& 31)) 100)), upd m4 n (nI (bl (x >>> ((5 : Int32) &&& 31)) 19) - 9), m5, m6, m7, (by omega), ad3 (s 0) no (s 2), (fun i => if i = n then nq1 else pa i), da, w', rfl, rfl, hR2⟩
set_option maxHeartbeats 4000000 in
set_option maxRecDepth 100000 in
theorem ac_lead {pP : Program} {l : Launch} {eE : Env} {sS : State} {mM : MethodId} {aA : Array Value} {bB : List Frame} {mT : Method} {cD : Code} {Q : State → Prop} {D : va_G} {cI cZ cA : ClassId} {A : Nat → Prop} {a n b : Nat} {r y : Int32} {m0 m1 m2 m3 m4 m5 m6 m7 : Nat → Int32} {w : va_W} (hR : zR cI cZ a n b r y m0 m1 m2 m3 m4 m5 m6 m7 w) {s pa da : Nat → Nat} {x cn : Int32} (hn0 : 0 < n) (C : zv_C pP mM cD cL_act 9 sS aA wsL_act yL_act.cls A) (hr : mT.sig.returnType = (some .boolean)) (hlk : mT.locks = false) (hO : va_AOA .int sS) (hQ : Q = MQ bB (zv_q D vwCl A (fun v u => v = some (.int 1) ∧ ∃ (n' b' : Nat) (r' y' : Int32) (m0' m1' m2' m3' m4' m5' m6' m7' : Nat → Int32), n ≤ n' ∧ zB cI cZ cA a (s 0) n' b' r' y' m0' m1' m2' m3' m4' m5' m6' m7' u)) aA sS rmL_act.cells rmL_act.slots A) (hne : ¬ bl (x >>> ((3 : Int32) &&& 31)) n = bl (x >>> ((6 : Int32) &&& 31)) n) (hfl : fl m0 (nI (bl (x >>> ((3 : Int32) &&& 31)) n)) 16 (m0 (bl (x >>> ((6 : Int32) &&& 31)) n)) = false) : zv_V pP l eE rmL_act sS mM aA bB mT cD Q 9 D vwCl A A (tyS cI cZ cA) ((s 0, .inr (2, [.int r, .int y, .ref (s 1), .ref (s 2)])) :: (s 1, .inl (cA, n, aq pa)) :: (s 2, .inl (cA, b, aq da)) :: (sR cI 6 pa (rP m0 m1 m2 m3 m4 m5) n ++ (sR cI 2 da (rB m6 m7) b ++ w))) 0 0 265 [(0, .ref a), (1, .ref (s 0)), (2, .int x), (3, .int (nI n)), (4, .int (nI (bl (x >>> ((3 : Int32) &&& 31)) n))), (5, .int cn)] [] := by
  have inX2 : ∀ w ∈ u_ws RX2 TX2 4, w ∈ wsL_act := by decide +kernel
  have lk9 : Cond.fieldLink RL 9 "RiverNamesLaw$Sim" "places" "[[I" ∈ wsL_act := by decide +kernel
  have hV := hR.lv
  have hn16 : n ≤ 16 := hV.n16
  have hb16 : b ≤ 16 := hV.b16
  obtain ⟨fs, hrc⟩ := hR.recv
  have hp : bl (x >>> ((3 : Int32) &&& 31)) n < n := bl_lt _ hn0
  refine zv_iload_n C dL_act_265 266 rfl 3 rfl ?_
  refine zv_if_ne C dL_act_266 269 271 rfl (by decide) (fun _ => ?_) (fun c => absurd c (bl_0 hn0 (by omega)))
  refine zv_iload_n C dL_act_271 272 rfl 2 rfl ?_
  refine zv_bipush (v := 6) C dL_act_272 274 rfl (by decide) ?_
  refine zn_ishr C dL_act_274 275 rfl ?_
  refine zv_iload_n C dL_act_275 276 rfl 3 rfl ?_
  refine zn_callRS (rest := []) C zn_TB zn_TE (zn_ofR (k_L_below l D cI cZ cA (x >>> ((6 : Int32) &&& 31)) n (by omega) (by omega))) (va_cwS 2 C.1.2.2.2.2 gL_act_L_below rfl rfl rfl (by decide +kernel) ⟨Nat.le_of_ble_eq_true rfl, Nat.le_of_ble_eq_true rfl⟩) dL_act_276 279 rfl rfl rfl (Nat.le_of_ble_eq_true rfl) ⟨(by show 0 + 0 ≤ 4500; omega), (by show 0 + 0 ≤ 71000; omega)⟩ [0, 1] rfl (List.nil_sublist _) (fun v hv => ?_)
  subst hv
  refine zv_go rfl rfl (st' := [.int (nI (bl (x >>> ((6 : Int32) &&& 31)) n))]) rfl (kc' := 0) rfl (ns' := 0) rfl ?_
  have ht : bl (x >>> ((6 : Int32) &&& 31)) n < n := bl_lt _ hn0
  refine zv_istore C dL_act_279 281 rfl [(6, .int (nI (bl (x >>> ((6 : Int32) &&& 31)) n))), (0, .ref a), (1, .ref (s 0)), (2, .int x), (3, .int (nI n)), (4, .int (nI (bl (x >>> ((3 : Int32) &&& 31)) n))), (5, .int cn)] (by decide) rfl ?_
  refine zv_iload C dL_act_281 283 rfl 5 rfl ?_
  refine zv_iload C dL_act_283 285 rfl 0 rfl ?_
  refine zv_icmp_eq C dL_act_285 288 303 rfl (by decide) (fun c => absurd c (fun c => hne (zn_eq (by omega) (by omega) c))) (fun _ => ?_)
  refine zv_aload_n C dL_act_288 289 rfl 2 rfl ?_
  refine zv_iload C dL_act_289 291 rfl 0 rfl ?_
  refine zv_iload C dL_act_291 293 rfl 5 rfl ?_
  refine zn_callRV (rest := []) C zn_TB zn_TE (zn_ofR (k_X2_isAbove l D cI cZ cA y hV s pa da (bl (x >>> ((6 : Int32) &&& 31)) n) (bl (x >>> ((3 : Int32) &&& 31)) n) ht hp)) (cwV 2 C.1.2.2.2.2 gL_act_X2_isAbove rfl rfl rfl (by decide +kernel) ⟨Nat.le_of_ble_eq_true rfl, Nat.le_of_ble_eq_true rfl⟩) dL_act_293 296 rfl (ci := 2) rfl 0 rfl rfl rfl (Nat.le_of_ble_eq_true rfl) ⟨(by show 0 + 0 ≤ 4500; omega), (by show 0 + 0 ≤ 71000; omega)⟩ [0, 1, 2] rfl (List.Sublist.cons_cons _ (List.Sublist.cons_cons _ (List.Sublist.cons_cons _ (List.Sublist.append (List.Sublist.refl _) (List.sublist_append_left _ _))))) (fun v hv => ?_)
  subst hv
  rw [hfl]
  refine zv_go rfl rfl (st' := [.int (zb false)]) rfl (kc' := 0) rfl (ns' := 0) rfl ?_
  refine zv_if_ne C dL_act_296 299 303 rfl (by decide) (fun c => absurd c (by decide)) (fun _ => ?_)
  refine zv_iconst (v := 1) C dL_act_299 300 rfl (by decide) ?_
  refine zv_goto C dL_act_300 304 (by decide) ?_
  refine zv_istore C dL_act_304 306 rfl [(5, .int 1), (6, .int (nI (bl (x >>> ((6 : Int32) &&& 31)) n))), (0, .ref a), (1, .ref (s 0)), (2, .int x), (3, .int (nI n)), (4, .int (nI (bl (x >>> ((3 : Int32) &&& 31)) n)))] (by decide) rfl ?_
  refine zv_aload_n C dL_act_306 307 rfl 3 rfl ?_
  refine zv_get (ci := 2) C inX2 rfl dL_act_307 310 rfl 0 2 rfl (by decide) lk9 rfl ?_
  refine zv_iload C dL_act_310 312 rfl 6 rfl ?_
  refine zn_aald (r := pa (bl (x >>> ((3 : Int32) &&& 31)) n)) C dL_act_312 313 rfl 1 2 (bl (x >>> ((3 : Int32) &&& 31)) n) rfl rfl rfl (by omega) (by omega) rfl ?_
  refine zv_iconst (v := 0) C dL_act_313 314 rfl (by decide) ?_
  refine zv_iald (v := (m0 (bl (x >>> ((3 : Int32) &&& 31)) n))) C dL_act_314 315 rfl ((bl (x >>> ((3 : Int32) &&& 31)) n) + 3) 0 0 (zr_p0 (by omega)) rfl (by decide) (by omega) (by omega) rfl ?_
  refine zv_istore C dL_act_315 317 rfl [(7, .int (m0 (bl (x >>> ((3 : Int32) &&& 31)) n))), (5, .int 1), (6, .int (nI (bl (x >>> ((6 : Int32) &&& 31)) n))), (0, .ref a), (1, .ref (s 0)), (2, .int x), (3, .int (nI n)), (4, .int (nI (bl (x >>> ((3 : Int32) &&& 31)) n)))] (by decide) rfl ?_
  refine zv_iload C dL_act_317 319 rfl 1 rfl ?_
  refine zv_if_eq C dL_act_319 322 333 rfl (by decide) (fun c => absurd c (by decide)) (fun _ => ?_)
  refine zv_aload_n C dL_act_322 323 rfl 4 rfl ?_
  refine zv_get (ci := 2) C inX2 rfl dL_act_323 326 rfl 0 2 rfl (by decide) lk9 rfl ?_
  refine zv_iload C dL_act_326 328 rfl 7 rfl ?_
  refine zn_aald (r := pa (bl (x >>> ((3 : Int32) &&& 31)) n)) C dL_act_328 329 rfl 1 2 (bl (x >>> ((3 : Int32) &&& 31)) n) rfl rfl rfl (by omega) (by omega) rfl ?_
  refine zv_iconst (v := 0) C dL_act_329 330 rfl (by decide) ?_
  refine zv_iload C dL_act_330 332 rfl 2 rfl ?_
  refine zv_iast (x' := (nI (bl (x >>> ((6 : Int32) &&& 31)) n))) C dL_act_332 333 rfl ((bl (x >>> ((3 : Int32) &&& 31)) n) + 3) 0 0 (zr_p0 (by omega)) rfl (by decide) (by omega) (by omega) rfl ((s 0, .inr (2, [.int r, .int y, .ref (s 1), .ref (s 2)])) :: (s 1, .inl (cA, n, aq pa)) :: (s 2, .inl (cA, b, aq da)) :: (sR cI 6 pa (rP (upd m0 (bl (x >>> ((3 : Int32) &&& 31)) n) (nI (bl (x >>> ((6 : Int32) &&& 31)) n))) m1 m2 m3 m4 m5) n ++ (sR cI 2 da (rB m6 m7) b ++ w))) (congrArg (List.cons _) (congrArg (List.cons _) (congrArg (List.cons _) (zr_set0 (G := rP (upd m0 (bl (x >>> ((3 : Int32) &&& 31)) n) (nI (bl (x >>> ((6 : Int32) &&& 31)) n))) m1 m2 m3 m4 m5) (by omega) (by show r6 ((upd m0 (bl (x >>> ((3 : Int32) &&& 31)) n) (nI (bl (x >>> ((6 : Int32) &&& 31)) n))) (bl (x >>> ((3 : Int32) &&& 31)) n)) (m1 (bl (x >>> ((3 : Int32) &&& 31)) n)) (m2 (bl (x >>> ((3 : Int32) &&& 31)) n)) (m3 (bl (x >>> ((3 : Int32) &&& 31)) n)) (m4 (bl (x >>> ((3 : Int32) &&& 31)) n)) (m5 (bl (x >>> ((3 : Int32) &&& 31)) n)) = _; rw [upd_at]; exact r6_u0 _ _ _ _ _ _ _) (fun j9 _ h9 => by show r6 ((upd m0 (bl (x >>> ((3 : Int32) &&& 31)) n) (nI (bl (x >>> ((6 : Int32) &&& 31)) n))) j9) (m1 j9) (m2 j9) (m3 j9) (m4 j9) (m5 j9) = r6 (m0 j9) (m1 j9) (m2 j9) (m3 j9) (m4 j9) (m5 j9); rw [upd_ne _ _ _ h9]))))) ?_
  refine zv_aload_n C dL_act_333 334 rfl 3 rfl ?_
  refine zv_iload C dL_act_334 336 rfl 7 rfl ?_
  refine zv_iload C dL_act_336 338 rfl 2 rfl ?_
  refine zv_wd (ws' := ((s 0, .inr (2, [.int r, .int y, .ref (s 1), .ref (s 2)])) :: (s 1, .inl (cA, n, aq pa)) :: (s 2, .inl (cA, b, aq da)) :: (sR cI 6 pa (rP (upd m0 (bl (x >>> ((3 : Int32) &&& 31)) n) (nI (bl (x >>> ((6 : Int32) &&& 31)) n))) m1 m2 m3 m4 m5) n ++ sR cI 2 da (rB m6 m7) b)) ++ (w ++ [])) (by simp only [List.append_assoc, List.cons_append, List.append_nil, List.nil_append] <;> rfl) ?_
  refine zn_callMV (a := ((s 0, .inr (2, [.int r, .int y, .ref (s 1), .ref (s 2)])) :: (s 1, .inl (cA, n, aq pa)) :: (s 2, .inl (cA, b, aq da)) :: (sR cI 6 pa (rP (upd m0 (bl (x >>> ((3 : Int32) &&& 31)) n) (nI (bl (x >>> ((6 : Int32) &&& 31)) n))) m1 m2 m3 m4 m5) n ++ sR cI 2 da (rB m6 m7) b))) (bb := []) (rest := []) C zn_TB zn_TE (zn_ofM (w_lead l D hR (bl (x >>> ((3 : Int32) &&& 31)) n) (bl (x >>> ((6 : Int32) &&& 31)) n) hp ht hne hfl)) (cwV 2 C.1.2.2.2.2 gL_act_X1_lead rfl rfl rfl (by decide +kernel) ⟨Nat.le_of_ble_eq_true rfl, Nat.le_of_ble_eq_true rfl⟩) dL_act_338 341 rfl (ci := 1) rfl 0 hrc rfl rfl (Nat.le_of_ble_eq_true rfl) ⟨(by show 0 + 0 ≤ 4500; omega), (by show 0 + 0 ≤ 71000; omega)⟩ [0, 1] rfl (fun v w' hv => ?_)
  obtain ⟨rfl, hR2⟩ := hv
  refine zv_wd (ws' := ((s 0, .inr (2, [.int r, .int y, .ref (s 1), .ref (s 2)])) :: (s 1, .inl (cA, n, aq pa)) :: (s 2, .inl (cA, b, aq da)) :: (sR cI 6 pa (rP (upd m0 (bl (x >>> ((3 : Int32) &&& 31)) n) (nI (bl (x >>> ((6 : Int32) &&& 31)) n))) m1 m2 m3 m4 m5) n ++ (sR cI 2 da (rB m6 m7) b ++ w')))) (by simp only [List.append_assoc, List.cons_append, List.append_nil, List.nil_append] <;> rfl) ?_
  refine zv_go rfl rfl (st' := [.int (m0 (bl (x >>> ((3 : Int32) &&& 31)) n))]) rfl (kc' := 0) rfl (ns' := 0) rfl ?_
  refine zv_iload C dL_act_341 343 rfl 0 rfl ?_
  refine zv_icmp_ne C dL_act_343 346 355 rfl (by decide) (fun c => absurd c (fun c => c rfl)) (fun _ => ?_)
  refine zv_iload C dL_act_346 348 rfl 1 rfl ?_
  refine zv_if_eq C dL_act_348 351 355 rfl (by decide) (fun c => absurd c (by decide)) (fun _ => ?_)
  refine zv_iconst (v := 1) C dL_act_351 352 rfl (by decide) ?_
  refine zv_goto C dL_act_352 356 (by decide) ?_
  refine zv_wd (ws' := cS cI cA s r y n b pa da (upd m0 (bl (x >>> ((3 : Int32) &&& 31)) n) (nI (bl (x >>> ((6 : Int32) &&& 31)) n))) m1 m2 m3 m4 m5 m6 m7 ++ w') (by simp only [List.append_assoc, List.cons_append, List.append_nil, List.nil_append] <;> rfl) ?_
  refine zv_widen (k' := 4500) (n' := 71000) (by omega) (by omega) ?_
  exact zv_zret C (by decide) hr hlk hQ dL_act_356 ⟨rfl, n, b, r, y, upd m0 (bl (x >>> ((3 : Int32) &&& 31)) n) (nI (bl (x >>> ((6 : Int32) &&& 31)) n)), m1, m2, m3, m4, m5, m6, m7, (by omega), s, pa, da, w', rfl, rfl, hR2⟩
set_option maxHeartbeats 4000000 in
set_option maxRecDepth 100000 in
theorem ac_turn {pP : Program} {l : Launch} {eE : Env} {sS : State} {mM : MethodId} {aA : Array Value} {bB : List Frame} {mT : Method} {cD : Code} {Q : State → Prop} {D : va_G} {cI cZ cA : ClassId} {A : Nat → Prop} {a n b : Nat} {r y : Int32} {m0 m1 m2 m3 m4 m5 m6 m7 : Nat → Int32} {w : va_W} (hR : zR cI cZ a n b r y m0 m1 m2 m3 m4 m5 m6 m7 w) {s pa da : Nat → Nat} {x cn : Int32} (hn0 : 0 < n) (C : zv_C pP mM cD cL_act 9 sS aA wsL_act yL_act.cls A) (hr : mT.sig.returnType = (some .boolean)) (hlk : mT.locks = false) (hO : va_AOA .int sS) (hQ : Q = MQ bB (zv_q D vwCl A (fun v u => v = some (.int 1) ∧ ∃ (n' b' : Nat) (r' y' : Int32) (m0' m1' m2' m3' m4' m5' m6' m7' : Nat → Int32), n ≤ n' ∧ zB cI cZ cA a (s 0) n' b' r' y' m0' m1' m2' m3' m4' m5' m6' m7' u)) aA sS rmL_act.cells rmL_act.slots A)  : zv_V pP l eE rmL_act sS mM aA bB mT cD Q 9 D vwCl A A (tyS cI cZ cA) ((s 0, .inr (2, [.int r, .int y, .ref (s 1), .ref (s 2)])) :: (s 1, .inl (cA, n, aq pa)) :: (s 2, .inl (cA, b, aq da)) :: (sR cI 6 pa (rP m0 m1 m2 m3 m4 m5) n ++ (sR cI 2 da (rB m6 m7) b ++ w))) 0 0 357 [(0, .ref a), (1, .ref (s 0)), (2, .int x), (3, .int (nI n)), (4, .int (nI (bl (x >>> ((3 : Int32) &&& 31)) n))), (5, .int cn)] [] := by
  have inX2 : ∀ w ∈ u_ws RX2 TX2 4, w ∈ wsL_act := by decide +kernel
  have lk9 : Cond.fieldLink RL 9 "RiverNamesLaw$Sim" "places" "[[I" ∈ wsL_act := by decide +kernel
  have hV := hR.lv
  have hn16 : n ≤ 16 := hV.n16
  have hb16 : b ≤ 16 := hV.b16
  obtain ⟨fs, hrc⟩ := hR.recv
  have hp : bl (x >>> ((3 : Int32) &&& 31)) n < n := bl_lt _ hn0
  refine zv_iload_n C dL_act_357 358 rfl 3 rfl ?_
  refine zv_if_ne C dL_act_358 361 363 rfl (by decide) (fun _ => ?_) (fun c => absurd c (bl_0 hn0 (by omega)))
  refine zv_iconst (v := 1) C dL_act_363 364 rfl (by decide) ?_
  refine zv_istore C dL_act_364 366 rfl [(5, .int 1), (0, .ref a), (1, .ref (s 0)), (2, .int x), (3, .int (nI n)), (4, .int (nI (bl (x >>> ((3 : Int32) &&& 31)) n)))] (by decide) rfl ?_
  refine zv_aload_n C dL_act_366 367 rfl 2 rfl ?_
  refine zv_get (ci := 2) C inX2 rfl dL_act_367 370 rfl 0 2 rfl (by decide) lk9 rfl ?_
  refine zv_iload C dL_act_370 372 rfl 5 rfl ?_
  refine zn_aald (r := pa (bl (x >>> ((3 : Int32) &&& 31)) n)) C dL_act_372 373 rfl 1 2 (bl (x >>> ((3 : Int32) &&& 31)) n) rfl rfl rfl (by omega) (by omega) rfl ?_
  refine zv_iconst (v := 5) C dL_act_373 374 rfl (by decide) ?_
  refine zv_iconst (v := 1) C dL_act_374 375 rfl (by decide) ?_
  refine zv_aload_n C dL_act_375 376 rfl 2 rfl ?_
  refine zv_get (ci := 2) C inX2 rfl dL_act_376 379 rfl 0 2 rfl (by decide) lk9 rfl ?_
  refine zv_iload C dL_act_379 381 rfl 5 rfl ?_
  refine zn_aald (r := pa (bl (x >>> ((3 : Int32) &&& 31)) n)) C dL_act_381 382 rfl 1 2 (bl (x >>> ((3 : Int32) &&& 31)) n) rfl rfl rfl (by omega) (by omega) rfl ?_
  refine zv_iconst (v := 5) C dL_act_382 383 rfl (by decide) ?_
  refine zv_iald (v := (m5 (bl (x >>> ((3 : Int32) &&& 31)) n))) C dL_act_383 384 rfl ((bl (x >>> ((3 : Int32) &&& 31)) n) + 3) 0 5 (zr_p0 (by omega)) rfl (by decide) (by omega) (by omega) rfl ?_
  refine zv_isub (v := (tg (m5 (bl (x >>> ((3 : Int32) &&& 31)) n)))) C dL_act_384 385 rfl (tg_sub (hV.zm5 _)) ?_
  refine zv_iast (x' := (tg (m5 (bl (x >>> ((3 : Int32) &&& 31)) n)))) C dL_act_385 386 rfl ((bl (x >>> ((3 : Int32) &&& 31)) n) + 3) 0 5 (zr_p0 (by omega)) rfl (by decide) (by omega) (by omega) rfl ((s 0, .inr (2, [.int r, .int y, .ref (s 1), .ref (s 2)])) :: (s 1, .inl (cA, n, aq pa)) :: (s 2, .inl (cA, b, aq da)) :: (sR cI 6 pa (rP m0 m1 m2 m3 m4 (upd m5 (bl (x >>> ((3 : Int32) &&& 31)) n) (tg (m5 (bl (x >>> ((3 : Int32) &&& 31)) n))))) n ++ (sR cI 2 da (rB m6 m7) b ++ w))) (congrArg (List.cons _) (congrArg (List.cons _) (congrArg (List.cons _) (zr_set0 (G := rP m0 m1 m2 m3 m4 (upd m5 (bl (x >>> ((3 : Int32) &&& 31)) n) (tg (m5 (bl (x >>> ((3 : Int32) &&& 31)) n))))) (by omega) (by show r6 (m0 (bl (x >>> ((3 : Int32) &&& 31)) n)) (m1 (bl (x >>> ((3 : Int32) &&& 31)) n)) (m2 (bl (x >>> ((3 : Int32) &&& 31)) n)) (m3 (bl (x >>> ((3 : Int32) &&& 31)) n)) (m4 (bl (x >>> ((3 : Int32) &&& 31)) n)) ((upd m5 (bl (x >>> ((3 : Int32) &&& 31)) n) (tg (m5 (bl (x >>> ((3 : Int32) &&& 31)) n)))) (bl (x >>> ((3 : Int32) &&& 31)) n)) = _; rw [upd_at]; exact r6_u5 _ _ _ _ _ _ _) (fun j9 _ h9 => by show r6 (m0 j9) (m1 j9) (m2 j9) (m3 j9) (m4 j9) ((upd m5 (bl (x >>> ((3 : Int32) &&& 31)) n) (tg (m5 (bl (x >>> ((3 : Int32) &&& 31)) n)))) j9) = r6 (m0 j9) (m1 j9) (m2 j9) (m3 j9) (m4 j9) (m5 j9); rw [upd_ne _ _ _ h9]))))) ?_
  refine zv_aload_n C dL_act_386 387 rfl 1 rfl ?_
  refine zv_iload C dL_act_387 389 rfl 5 rfl ?_
  refine zv_wd (ws' := ((s 0, .inr (2, [.int r, .int y, .ref (s 1), .ref (s 2)])) :: (s 1, .inl (cA, n, aq pa)) :: (s 2, .inl (cA, b, aq da)) :: (sR cI 6 pa (rP m0 m1 m2 m3 m4 (upd m5 (bl (x >>> ((3 : Int32) &&& 31)) n) (tg (m5 (bl (x >>> ((3 : Int32) &&& 31)) n))))) n ++ sR cI 2 da (rB m6 m7) b)) ++ (w ++ [])) (by simp only [List.append_assoc, List.cons_append, List.append_nil, List.nil_append] <;> rfl) ?_
  refine zn_callMV (a := ((s 0, .inr (2, [.int r, .int y, .ref (s 1), .ref (s 2)])) :: (s 1, .inl (cA, n, aq pa)) :: (s 2, .inl (cA, b, aq da)) :: (sR cI 6 pa (rP m0 m1 m2 m3 m4 (upd m5 (bl (x >>> ((3 : Int32) &&& 31)) n) (tg (m5 (bl (x >>> ((3 : Int32) &&& 31)) n))))) n ++ sR cI 2 da (rB m6 m7) b))) (bb := []) (rest := []) C zn_TB zn_TE (zn_ofM (w_turnDelta l D hR (bl (x >>> ((3 : Int32) &&& 31)) n) hp)) (cwV 1 C.1.2.2.2.2 gL_act_X1_turnDelta rfl rfl rfl (by decide +kernel) ⟨Nat.le_of_ble_eq_true rfl, Nat.le_of_ble_eq_true rfl⟩) dL_act_389 392 rfl (ci := 1) rfl 0 hrc rfl rfl (Nat.le_of_ble_eq_true rfl) ⟨(by show 0 + 0 ≤ 4500; omega), (by show 0 + 0 ≤ 71000; omega)⟩ [0, 1] rfl (fun v w' hv => ?_)
  obtain ⟨rfl, hR2⟩ := hv
  refine zv_wd (ws' := ((s 0, .inr (2, [.int r, .int y, .ref (s 1), .ref (s 2)])) :: (s 1, .inl (cA, n, aq pa)) :: (s 2, .inl (cA, b, aq da)) :: (sR cI 6 pa (rP m0 m1 m2 m3 m4 (upd m5 (bl (x >>> ((3 : Int32) &&& 31)) n) (tg (m5 (bl (x >>> ((3 : Int32) &&& 31)) n))))) n ++ (sR cI 2 da (rB m6 m7) b ++ w')))) (by simp only [List.append_assoc, List.cons_append, List.append_nil, List.nil_append] <;> rfl) ?_
  refine zv_go rfl rfl (st' := [.int (tg (m5 (bl (x >>> ((3 : Int32) &&& 31)) n)))]) rfl (kc' := 0) rfl (ns' := 0) rfl ?_
  refine zv_aload_n C dL_act_392 393 rfl 2 rfl ?_
  refine zv_get (ci := 2) C inX2 rfl dL_act_393 396 rfl 0 2 rfl (by decide) lk9 rfl ?_
  refine zv_iload C dL_act_396 398 rfl 5 rfl ?_
  refine zn_aald (r := pa (bl (x >>> ((3 : Int32) &&& 31)) n)) C dL_act_398 399 rfl 1 2 (bl (x >>> ((3 : Int32) &&& 31)) n) rfl rfl rfl (by omega) (by omega) rfl ?_
  refine zv_iconst (v := 5) C dL_act_399 400 rfl (by decide) ?_
  refine zv_iald (v := (tg (m5 (bl (x >>> ((3 : Int32) &&& 31)) n)))) C dL_act_400 401 rfl ((bl (x >>> ((3 : Int32) &&& 31)) n) + 3) 0 5 (zr_p0 (by omega)) rfl (by decide) (by omega) (by omega) (upd_at _ _ _) ?_
  refine zv_iconst (v := 1) C dL_act_401 402 rfl (by decide) ?_
  refine zv_icmp_ne C dL_act_402 405 409 rfl (by decide) (fun c1 => ?_) (fun c1 => ?_)
  · have e0 : tg (m5 (bl (x >>> ((3 : Int32) &&& 31)) n)) = 0 := (zo_tg (m5 (bl (x >>> ((3 : Int32) &&& 31)) n))).resolve_right c1
    refine zv_iconst (v := 0) C dL_act_409 410 rfl (by decide) ?_
    refine zv_icmp_ne C dL_act_410 413 417 rfl (by decide) (fun c => absurd c (fun c => c e0)) (fun _ => ?_)
    refine zv_iconst (v := 1) C dL_act_413 414 rfl (by decide) ?_
    refine zv_goto C dL_act_414 418 (by decide) ?_
    refine zv_wd (ws' := cS cI cA s r y n b pa da m0 m1 m2 m3 m4 (upd m5 (bl (x >>> ((3 : Int32) &&& 31)) n) (tg (m5 (bl (x >>> ((3 : Int32) &&& 31)) n)))) m6 m7 ++ w') (by simp only [List.append_assoc, List.cons_append, List.append_nil, List.nil_append] <;> rfl) ?_
    refine zv_widen (k' := 4500) (n' := 71000) (by omega) (by omega) ?_
    exact zv_zret C (by decide) hr hlk hQ dL_act_418 ⟨rfl, n, b, r, y, m0, m1, m2, m3, m4, upd m5 (bl (x >>> ((3 : Int32) &&& 31)) n) (tg (m5 (bl (x >>> ((3 : Int32) &&& 31)) n))), m6, m7, (by omega), s, pa, da, w', rfl, rfl, hR2⟩
  ·
    refine zv_iconst (v := 1) C dL_act_405 406 rfl (by decide) ?_
    refine zv_goto C dL_act_406 410 (by decide) ?_
    refine zv_icmp_ne C dL_act_410 413 417 rfl (by decide) (fun c => absurd c (fun c => c c1)) (fun _ => ?_)
    refine zv_iconst (v := 1) C dL_act_413 414 rfl (by decide) ?_
    refine zv_goto C dL_act_414 418 (by decide) ?_
    refine zv_wd (ws' := cS cI cA s r y n b pa da m0 m1 m2 m3 m4 (upd m5 (bl (x >>> ((3 : Int32) &&& 31)) n) (tg (m5 (bl (x >>> ((3 : Int32) &&& 31)) n)))) m6 m7 ++ w') (by simp only [List.append_assoc, List.cons_append, List.append_nil, List.nil_append] <;> rfl) ?_
    refine zv_widen (k' := 4500) (n' := 71000) (by omega) (by omega) ?_
    exact zv_zret C (by decide) hr hlk hQ dL_act_418 ⟨rfl, n, b, r, y, m0, m1, m2, m3, m4, upd m5 (bl (x >>> ((3 : Int32) &&& 31)) n) (tg (m5 (bl (x >>> ((3 : Int32) &&& 31)) n))), m6, m7, (by omega), s, pa, da, w', rfl, rfl, hR2⟩
set_option maxHeartbeats 4000000 in
set_option maxRecDepth 100000 in
theorem ac_rule {pP : Program} {l : Launch} {eE : Env} {sS : State} {mM : MethodId} {aA : Array Value} {bB : List Frame} {mT : Method} {cD : Code} {Q : State → Prop} {D : va_G} {cI cZ cA : ClassId} {A : Nat → Prop} {a n b : Nat} {r y : Int32} {m0 m1 m2 m3 m4 m5 m6 m7 : Nat → Int32} {w : va_W} (hR : zR cI cZ a n b r y m0 m1 m2 m3 m4 m5 m6 m7 w) {s pa da : Nat → Nat} {x cn : Int32} (hn0 : 0 < n) (C : zv_C pP mM cD cL_act 9 sS aA wsL_act yL_act.cls A) (hr : mT.sig.returnType = (some .boolean)) (hlk : mT.locks = false) (hO : va_AOA .int sS) (hQ : Q = MQ bB (zv_q D vwCl A (fun v u => v = some (.int 1) ∧ ∃ (n' b' : Nat) (r' y' : Int32) (m0' m1' m2' m3' m4' m5' m6' m7' : Nat → Int32), n ≤ n' ∧ zB cI cZ cA a (s 0) n' b' r' y' m0' m1' m2' m3' m4' m5' m6' m7' u)) aA sS rmL_act.cells rmL_act.slots A)  : zv_V pP l eE rmL_act sS mM aA bB mT cD Q 9 D vwCl A A (tyS cI cZ cA) ((s 0, .inr (2, [.int r, .int y, .ref (s 1), .ref (s 2)])) :: (s 1, .inl (cA, n, aq pa)) :: (s 2, .inl (cA, b, aq da)) :: (sR cI 6 pa (rP m0 m1 m2 m3 m4 m5) n ++ (sR cI 2 da (rB m6 m7) b ++ w))) 0 0 419 [(0, .ref a), (1, .ref (s 0)), (2, .int x), (3, .int (nI n)), (4, .int (nI (bl (x >>> ((3 : Int32) &&& 31)) n))), (5, .int cn)] [] := by
  have inX2 : ∀ w ∈ u_ws RX2 TX2 4, w ∈ wsL_act := by decide +kernel
  have lk46 : Cond.fieldLink RL 46 "RiverNamesLaw$Sim" "rule" "I" ∈ wsL_act := by decide +kernel
  have hV := hR.lv
  have hn16 : n ≤ 16 := hV.n16
  have hb16 : b ≤ 16 := hV.b16
  obtain ⟨fs, hrc⟩ := hR.recv
  have hp : bl (x >>> ((3 : Int32) &&& 31)) n < n := bl_lt _ hn0
  refine zv_iconst (v := 1) C dL_act_419 420 rfl (by decide) ?_
  refine zv_istore C dL_act_420 422 rfl [(5, .int 1), (0, .ref a), (1, .ref (s 0)), (2, .int x), (3, .int (nI n)), (4, .int (nI (bl (x >>> ((3 : Int32) &&& 31)) n)))] (by decide) rfl ?_
  refine zv_aload_n C dL_act_422 423 rfl 2 rfl ?_
  refine zv_get (ci := 2) C inX2 rfl dL_act_423 426 rfl 0 0 rfl (by decide) lk46 rfl ?_
  refine zv_istore C dL_act_426 428 rfl [(6, .int r), (5, .int 1), (0, .ref a), (1, .ref (s 0)), (2, .int x), (3, .int (nI n)), (4, .int (nI (bl (x >>> ((3 : Int32) &&& 31)) n)))] (by decide) rfl ?_
  refine zv_aload_n C dL_act_428 429 rfl 3 rfl ?_
  refine zv_iload_n C dL_act_429 430 rfl 4 rfl ?_
  refine zv_iconst (v := 4) C dL_act_430 431 rfl (by decide) ?_
  refine zn_ishr C dL_act_431 432 rfl ?_
  refine zv_iconst (v := 2) C dL_act_432 433 rfl (by decide) ?_
  refine zv_go rfl rfl (st' := [.int (nI 2), .int (x >>> (4 &&& 31)), .ref (s 0)]) (by rfl) rfl rfl ?_
  refine zn_callRS (rest := [.ref (s 0)]) C zn_TB zn_TE (zn_ofR (k_L_below l D cI cZ cA (x >>> ((4 : Int32) &&& 31)) 2 (by omega) (by omega))) (va_cwS 2 C.1.2.2.2.2 gL_act_L_below rfl rfl rfl (by decide +kernel) ⟨Nat.le_of_ble_eq_true rfl, Nat.le_of_ble_eq_true rfl⟩) dL_act_433 436 rfl rfl rfl (Nat.le_of_ble_eq_true rfl) ⟨(by show 0 + 0 ≤ 4500; omega), (by show 0 + 0 ≤ 71000; omega)⟩ [0, 1] rfl (List.nil_sublist _) (fun v hv => ?_)
  subst hv
  refine zv_go rfl rfl (st' := [.int (nI (bl (x >>> ((4 : Int32) &&& 31)) 2)), .ref (s 0)]) rfl (kc' := 0) rfl (ns' := 0) rfl ?_
  refine zv_put (ci := 2) C inX2 rfl tyX2_ok nmX2 dL_act_436 439 rfl 0 0 rfl (by decide) lk46 rfl rfl rfl (Nat.le_of_ble_eq_true rfl) ((s 0, .inr (2, [.int (nI (bl (x >>> ((4 : Int32) &&& 31)) 2)), .int y, .ref (s 1), .ref (s 2)])) :: (s 1, .inl (cA, n, aq pa)) :: (s 2, .inl (cA, b, aq da)) :: (sR cI 6 pa (rP m0 m1 m2 m3 m4 m5) n ++ (sR cI 2 da (rB m6 m7) b ++ w))) rfl ?_
  refine zv_aload_n C dL_act_439 440 rfl 2 rfl ?_
  refine zv_aload_n C dL_act_440 441 rfl 3 rfl ?_
  refine zv_get (ci := 2) C inX2 rfl dL_act_441 444 rfl 0 0 rfl (by decide) lk46 rfl ?_
  refine zv_wd (ws' := ((s 0, .inr (2, [.int (nI (bl (x >>> ((4 : Int32) &&& 31)) 2)), .int y, .ref (s 1), .ref (s 2)])) :: (s 1, .inl (cA, n, aq pa)) :: (s 2, .inl (cA, b, aq da)) :: (sR cI 6 pa (rP m0 m1 m2 m3 m4 m5) n ++ sR cI 2 da (rB m6 m7) b)) ++ (w ++ [])) (by simp only [List.append_assoc, List.cons_append, List.append_nil, List.nil_append] <;> rfl) ?_
  refine zn_callMV (a := ((s 0, .inr (2, [.int (nI (bl (x >>> ((4 : Int32) &&& 31)) 2)), .int y, .ref (s 1), .ref (s 2)])) :: (s 1, .inl (cA, n, aq pa)) :: (s 2, .inl (cA, b, aq da)) :: (sR cI 6 pa (rP m0 m1 m2 m3 m4 m5) n ++ sR cI 2 da (rB m6 m7) b))) (bb := []) (rest := []) C zn_TB zn_TE (zn_ofM (w_setRule l D hR (nI (bl (x >>> ((4 : Int32) &&& 31)) 2)) (isI_nI (lo := 0) (hi := 1) (Nat.zero_le _) (by have := bl_lt (x >>> ((4 : Int32) &&& 31)) (N := 2) (by omega); omega) (by omega)))) (cwV 1 C.1.2.2.2.2 gL_act_X1_setRule rfl rfl rfl (by decide +kernel) ⟨Nat.le_of_ble_eq_true rfl, Nat.le_of_ble_eq_true rfl⟩) dL_act_444 447 rfl (ci := 1) rfl 0 hrc rfl rfl (Nat.le_of_ble_eq_true rfl) ⟨(by show 0 + 0 ≤ 4500; omega), (by show 0 + 0 ≤ 71000; omega)⟩ [0, 1] rfl (fun v w' hv => ?_)
  obtain ⟨rfl, hR2⟩ := hv
  refine zv_wd (ws' := ((s 0, .inr (2, [.int (nI (bl (x >>> ((4 : Int32) &&& 31)) 2)), .int y, .ref (s 1), .ref (s 2)])) :: (s 1, .inl (cA, n, aq pa)) :: (s 2, .inl (cA, b, aq da)) :: (sR cI 6 pa (rP m0 m1 m2 m3 m4 m5) n ++ (sR cI 2 da (rB m6 m7) b ++ w')))) (by simp only [List.append_assoc, List.cons_append, List.append_nil, List.nil_append] <;> rfl) ?_
  refine zv_go rfl rfl (st' := [.int r]) rfl (kc' := 0) rfl (ns' := 0) rfl ?_
  refine zv_iload C dL_act_447 449 rfl 0 rfl ?_
  refine zv_icmp_ne C dL_act_449 452 456 rfl (by decide) (fun c => absurd c (fun c => c rfl)) (fun _ => ?_)
  refine zv_iconst (v := 1) C dL_act_452 453 rfl (by decide) ?_
  refine zv_goto C dL_act_453 457 (by decide) ?_
  refine zv_wd (ws' := cS cI cA s (nI (bl (x >>> ((4 : Int32) &&& 31)) 2)) y n b pa da m0 m1 m2 m3 m4 m5 m6 m7 ++ w') (by simp only [List.append_assoc, List.cons_append, List.append_nil, List.nil_append] <;> rfl) ?_
  refine zv_widen (k' := 4500) (n' := 71000) (by omega) (by omega) ?_
  exact zv_zret C (by decide) hr hlk hQ dL_act_457 ⟨rfl, n, b, (nI (bl (x >>> ((4 : Int32) &&& 31)) 2)), y, m0, m1, m2, m3, m4, m5, m6, m7, (by omega), s, pa, da, w', rfl, rfl, hR2⟩
set_option maxHeartbeats 4000000 in
set_option maxRecDepth 100000 in
theorem ac_build {pP : Program} {l : Launch} {eE : Env} {sS : State} {mM : MethodId} {aA : Array Value} {bB : List Frame} {mT : Method} {cD : Code} {Q : State → Prop} {D : va_G} {cI cZ cA : ClassId} {A : Nat → Prop} {a n b : Nat} {r y : Int32} {m0 m1 m2 m3 m4 m5 m6 m7 : Nat → Int32} {w : va_W} (hR : zR cI cZ a n b r y m0 m1 m2 m3 m4 m5 m6 m7 w) {s pa da : Nat → Nat} {x cn : Int32} (hn0 : 0 < n) (C : zv_C pP mM cD cL_act 9 sS aA wsL_act yL_act.cls A) (hr : mT.sig.returnType = (some .boolean)) (hlk : mT.locks = false) (hO : va_AOA .int sS) (hQ : Q = MQ bB (zv_q D vwCl A (fun v u => v = some (.int 1) ∧ ∃ (n' b' : Nat) (r' y' : Int32) (m0' m1' m2' m3' m4' m5' m6' m7' : Nat → Int32), n ≤ n' ∧ zB cI cZ cA a (s 0) n' b' r' y' m0' m1' m2' m3' m4' m5' m6' m7' u)) aA sS rmL_act.cells rmL_act.slots A) (hbb : b < 16) : zv_V pP l eE rmL_act sS mM aA bB mT cD Q 9 D vwCl A A (tyS cI cZ cA) ((s 0, .inr (2, [.int r, .int y, .ref (s 1), .ref (s 2)])) :: (s 1, .inl (cA, n, aq pa)) :: (s 2, .inl (cA, b, aq da)) :: (sR cI 6 pa (rP m0 m1 m2 m3 m4 m5) n ++ (sR cI 2 da (rB m6 m7) b ++ w))) 0 0 458 [(0, .ref a), (1, .ref (s 0)), (2, .int x), (3, .int (nI n)), (4, .int (nI (bl (x >>> ((3 : Int32) &&& 31)) n))), (5, .int cn)] [] := by
  have inX2 : ∀ w ∈ u_ws RX2 TX2 4, w ∈ wsL_act := by decide +kernel
  have lk54 : Cond.fieldLink RL 54 "RiverNamesLaw$Sim" "bridges" "[[I" ∈ wsL_act := by decide +kernel
  have arint : Cond.arrayClass .int ∈ wsL_act := by decide +kernel
  have hV := hR.lv
  have hn16 : n ≤ 16 := hV.n16
  have hb16 : b ≤ 16 := hV.b16
  obtain ⟨fs, hrc⟩ := hR.recv
  have hp : bl (x >>> ((3 : Int32) &&& 31)) n < n := bl_lt _ hn0
  refine zv_iload_n C dL_act_458 459 rfl 3 rfl ?_
  refine zv_if_ne C dL_act_459 462 464 rfl (by decide) (fun _ => ?_) (fun c => absurd c (bl_0 hn0 (by omega)))
  refine zv_aload_n C dL_act_464 465 rfl 1 rfl ?_
  refine zv_get (ci := 2) C inX2 rfl dL_act_465 468 rfl 0 3 rfl (by decide) lk54 rfl ?_
  refine zv_alen (v := (nI b)) C dL_act_468 469 rfl 2 2 rfl rfl rfl ?_
  refine zv_bipush (v := 16) C dL_act_469 471 rfl (by decide) ?_
  refine zv_icmp_ge C dL_act_471 474 478 rfl (by decide) (fun c => absurd c (fun c => absurd (zn_le (a := 16) (b := b) (by omega) (by omega) c) (by omega))) (fun _ => ?_)
  refine zv_iconst (v := 1) C dL_act_474 475 rfl (by decide) ?_
  refine zv_goto C dL_act_475 479 (by decide) ?_
  refine zv_istore C dL_act_479 481 rfl [(5, .int 1), (0, .ref a), (1, .ref (s 0)), (2, .int x), (3, .int (nI n)), (4, .int (nI (bl (x >>> ((3 : Int32) &&& 31)) n)))] (by decide) rfl ?_
  refine zv_iload C dL_act_481 483 rfl 0 rfl ?_
  refine zv_if_eq C dL_act_483 486 515 rfl (by decide) (fun c => absurd c (by decide)) (fun _ => ?_)
  refine zv_aload_n C dL_act_486 487 rfl 2 rfl ?_
  refine zv_aload_n C dL_act_487 488 rfl 2 rfl ?_
  refine zv_get (ci := 2) C inX2 rfl dL_act_488 491 rfl 0 3 rfl (by decide) lk54 rfl ?_
  refine zv_iconst (v := 2) C dL_act_491 492 rfl (by decide) ?_
  refine zn_newa (atype := .int) C C.2 arint rfl dL_act_492 494 rfl (N' := 2) (a0 := (2, .inl z0)) (fun cA => rfl) 0 rfl (fun h => h) (by decide) (by decide) (by decide) (by show 0 + 1 ≤ 4500; omega) (by show 0 + 2 ≤ 71000; omega) (fun nq1 fr_nq1 => ?_)
  refine zv_go rfl rfl (st' := [.ref nq1, .ref (s 2), .ref (s 0)]) rfl (kc' := 1) rfl (ns' := 2) rfl ?_
  have fA_nq1 := C.2 nq1 fr_nq1
  refine zv_dup C dL_act_494 495 rfl rfl ?_
  refine zv_iconst (v := 0) C dL_act_495 496 rfl (by decide) ?_
  refine zv_iload C dL_act_496 498 rfl 5 rfl ?_
  refine zn_iast (x' := (nI (bl (x >>> ((3 : Int32) &&& 31)) n))) C dL_act_498 499 rfl 0 0 0 rfl fA_nq1 rfl (by decide) (by omega) (by omega) rfl ((nq1, .inl (cI, 2, .inl (upd z0 0 (nI (bl (x >>> ((3 : Int32) &&& 31)) n))))) :: (s 0, .inr (2, [.int r, .int y, .ref (s 1), .ref (s 2)])) :: (s 1, .inl (cA, n, aq pa)) :: (s 2, .inl (cA, b, aq da)) :: (sR cI 6 pa (rP m0 m1 m2 m3 m4 m5) n ++ (sR cI 2 da (rB m6 m7) b ++ w))) rfl ?_
  refine zv_dup C dL_act_499 500 rfl rfl ?_
  refine zv_iconst (v := 1) C dL_act_500 501 rfl (by decide) ?_
  refine zv_aload_n C dL_act_501 502 rfl 2 rfl ?_
  refine zn_callNV (rest := [.int 1, .ref nq1, .ref nq1, .ref (s 2), .ref (s 0)]) C zn_OB (zn_OE hO) (k_X2_names l D cI cZ cA y hV s pa da) (cwV 0 C.1.2.2.2.2 gL_act_X2_names rfl rfl rfl (by decide +kernel) ⟨Nat.le_of_ble_eq_true rfl, Nat.le_of_ble_eq_true rfl⟩) dL_act_502 505 rfl (ci := 2) rfl 0 rfl rfl rfl (Nat.le_of_ble_eq_true rfl) ⟨(by show 1 + 4400 ≤ 4500; omega), (by show 2 + 70000 ≤ 71000; omega)⟩ [0, 1, 2] rfl (List.Sublist.cons _ (List.Sublist.cons_cons _ (List.Sublist.cons_cons _ (List.Sublist.cons_cons _ (List.Sublist.append (List.Sublist.refl _) (List.sublist_append_left _ _)))))) C.2 (fun v w8 hv hw8 => ?_)
  obtain ⟨nm, g, rfl, rfl, hg⟩ := hv
  refine zv_wd (ws' := ((nm, .inl (cI, n, .inl g)) :: (nq1, .inl (cI, 2, .inl (upd z0 0 (nI (bl (x >>> ((3 : Int32) &&& 31)) n))))) :: (s 0, .inr (2, [.int r, .int y, .ref (s 1), .ref (s 2)])) :: (s 1, .inl (cA, n, aq pa)) :: (s 2, .inl (cA, b, aq da)) :: (sR cI 6 pa (rP m0 m1 m2 m3 m4 m5) n ++ (sR cI 2 da (rB m6 m7) b ++ w)))) rfl ?_
  refine zv_go rfl rfl (st' := [.ref nm, .int 1, .ref nq1, .ref nq1, .ref (s 2), .ref (s 0)]) rfl (kc' := 4401) rfl (ns' := 70002) rfl ?_
  refine zv_iload C dL_act_505 507 rfl 5 rfl ?_
  refine zv_iald (v := (nmS n m0 m1 m2 m3 m5 r (bl (x >>> ((3 : Int32) &&& 31)) n))) C dL_act_507 508 rfl 0 0 (bl (x >>> ((3 : Int32) &&& 31)) n) rfl rfl rfl (by omega) (by omega) (hg _ hp) ?_
  refine zn_iast (x' := (nmS n m0 m1 m2 m3 m5 r (bl (x >>> ((3 : Int32) &&& 31)) n))) C dL_act_508 509 rfl 1 0 1 rfl fA_nq1 rfl (by decide) (by omega) (by omega) rfl ((nm, .inl (cI, n, .inl g)) :: (nq1, .inl (cI, 2, .inl (upd (upd z0 0 (nI (bl (x >>> ((3 : Int32) &&& 31)) n))) 1 (nmS n m0 m1 m2 m3 m5 r (bl (x >>> ((3 : Int32) &&& 31)) n))))) :: (s 0, .inr (2, [.int r, .int y, .ref (s 1), .ref (s 2)])) :: (s 1, .inl (cA, n, aq pa)) :: (s 2, .inl (cA, b, aq da)) :: (sR cI 6 pa (rP m0 m1 m2 m3 m4 m5) n ++ (sR cI 2 da (rB m6 m7) b ++ w))) rfl ?_
  refine zn_callNS (rest := [.ref (s 0)]) C zn_OB (zn_OE hO) (k_X2_with l D cI cZ cA b 2 nq1 (s 2) hb16 da (rB m6 m7) (upd (upd z0 0 (nI (bl (x >>> ((3 : Int32) &&& 31)) n))) 1 (nmS n m0 m1 m2 m3 m5 r (bl (x >>> ((3 : Int32) &&& 31)) n)))) (va_cwS 2 C.1.2.2.2.2 gL_act_X2_with rfl rfl rfl (by decide +kernel) ⟨Nat.le_of_ble_eq_true rfl, Nat.le_of_ble_eq_true rfl⟩) dL_act_509 512 rfl rfl rfl (Nat.le_of_ble_eq_true rfl) ⟨(by show 4401 + 1 ≤ 4500; omega), (by show 70002 + 17 ≤ 71000; omega)⟩ [0, 1, 2] rfl (List.Sublist.cons _ (List.Sublist.cons_cons _ (List.Sublist.cons _ (List.Sublist.cons _ (List.Sublist.cons_cons _ ((List.sublist_append_left _ _).trans (List.sublist_append_right _ _))))))) C.2 (fun v w9 hv hw9 => ?_)
  obtain ⟨no, rfl, rfl⟩ := hv
  refine zv_wd (ws' := ((no, .inl (cA, (b + 1), aq (fun i => if i = b then nq1 else da i))) :: (nm, .inl (cI, n, .inl g)) :: (nq1, .inl (cI, 2, .inl (upd (upd z0 0 (nI (bl (x >>> ((3 : Int32) &&& 31)) n))) 1 (nmS n m0 m1 m2 m3 m5 r (bl (x >>> ((3 : Int32) &&& 31)) n))))) :: (s 0, .inr (2, [.int r, .int y, .ref (s 1), .ref (s 2)])) :: (s 1, .inl (cA, n, aq pa)) :: (s 2, .inl (cA, b, aq da)) :: (sR cI 6 pa (rP m0 m1 m2 m3 m4 m5) n ++ (sR cI 2 da (rB m6 m7) b ++ w)))) rfl ?_
  refine zv_go rfl rfl (st' := [.ref no, .ref (s 0)]) rfl (kc' := 4402) rfl (ns' := 70019) rfl ?_
  refine zv_put (ci := 2) C inX2 rfl tyX2_ok nmX2 dL_act_512 515 rfl 3 3 rfl (by decide) lk54 rfl rfl rfl (Nat.le_of_ble_eq_true rfl) ((no, .inl (cA, (b + 1), aq (fun i => if i = b then nq1 else da i))) :: (nm, .inl (cI, n, .inl g)) :: (nq1, .inl (cI, 2, .inl (upd (upd z0 0 (nI (bl (x >>> ((3 : Int32) &&& 31)) n))) 1 (nmS n m0 m1 m2 m3 m5 r (bl (x >>> ((3 : Int32) &&& 31)) n))))) :: (s 0, .inr (2, [.int r, .int y, .ref (s 1), .ref no])) :: (s 1, .inl (cA, n, aq pa)) :: (s 2, .inl (cA, b, aq da)) :: (sR cI 6 pa (rP m0 m1 m2 m3 m4 m5) n ++ (sR cI 2 da (rB m6 m7) b ++ w))) rfl ?_
  refine zv_aload_n C dL_act_515 516 rfl 1 rfl ?_
  refine zv_iload C dL_act_516 518 rfl 5 rfl ?_
  refine zv_wd (ws' := ((no, .inl (cA, (b + 1), aq (fun i => if i = b then nq1 else da i))) :: (nm, .inl (cI, n, .inl g)) :: (nq1, .inl (cI, 2, .inl (upd (upd z0 0 (nI (bl (x >>> ((3 : Int32) &&& 31)) n))) 1 (nmS n m0 m1 m2 m3 m5 r (bl (x >>> ((3 : Int32) &&& 31)) n))))) :: (s 0, .inr (2, [.int r, .int y, .ref (s 1), .ref no])) :: (s 1, .inl (cA, n, aq pa)) :: (s 2, .inl (cA, b, aq da)) :: (sR cI 6 pa (rP m0 m1 m2 m3 m4 m5) n ++ sR cI 2 da (rB m6 m7) b)) ++ (w ++ [])) (by simp only [List.append_assoc, List.cons_append, List.append_nil, List.nil_append] <;> rfl) ?_
  refine zn_callMV (a := ((no, .inl (cA, (b + 1), aq (fun i => if i = b then nq1 else da i))) :: (nm, .inl (cI, n, .inl g)) :: (nq1, .inl (cI, 2, .inl (upd (upd z0 0 (nI (bl (x >>> ((3 : Int32) &&& 31)) n))) 1 (nmS n m0 m1 m2 m3 m5 r (bl (x >>> ((3 : Int32) &&& 31)) n))))) :: (s 0, .inr (2, [.int r, .int y, .ref (s 1), .ref no])) :: (s 1, .inl (cA, n, aq pa)) :: (s 2, .inl (cA, b, aq da)) :: (sR cI 6 pa (rP m0 m1 m2 m3 m4 m5) n ++ sR cI 2 da (rB m6 m7) b))) (bb := []) (rest := []) C zn_TB zn_TE (zn_ofM (w_build l D hR (bl (x >>> ((3 : Int32) &&& 31)) n) hp hbb)) (cwV 1 C.1.2.2.2.2 gL_act_X1_build rfl rfl rfl (by decide +kernel) ⟨Nat.le_of_ble_eq_true rfl, Nat.le_of_ble_eq_true rfl⟩) dL_act_518 521 rfl (ci := 1) rfl 0 hrc rfl rfl (Nat.le_of_ble_eq_true rfl) ⟨(by show 4402 + 0 ≤ 4500; omega), (by show 70019 + 0 ≤ 71000; omega)⟩ [0, 1] rfl (fun v w' hv => ?_)
  obtain ⟨rfl, hR2⟩ := hv
  refine zv_wd (ws' := ((no, .inl (cA, (b + 1), aq (fun i => if i = b then nq1 else da i))) :: (nm, .inl (cI, n, .inl g)) :: (nq1, .inl (cI, 2, .inl (upd (upd z0 0 (nI (bl (x >>> ((3 : Int32) &&& 31)) n))) 1 (nmS n m0 m1 m2 m3 m5 r (bl (x >>> ((3 : Int32) &&& 31)) n))))) :: (s 0, .inr (2, [.int r, .int y, .ref (s 1), .ref no])) :: (s 1, .inl (cA, n, aq pa)) :: (s 2, .inl (cA, b, aq da)) :: (sR cI 6 pa (rP m0 m1 m2 m3 m4 m5) n ++ (sR cI 2 da (rB m6 m7) b ++ w')))) (by simp only [List.append_assoc, List.cons_append, List.append_nil, List.nil_append] <;> rfl) ?_
  refine zv_go rfl rfl (st' := [.int (nI b)]) rfl (kc' := 4402) rfl (ns' := 70019) rfl ?_
  refine zv_aload_n C dL_act_521 522 rfl 2 rfl ?_
  refine zv_get (ci := 2) C inX2 rfl dL_act_522 525 rfl 3 3 rfl (by decide) lk54 rfl ?_
  refine zv_alen (v := (nI (b + 1))) C dL_act_525 526 rfl 0 2 rfl rfl rfl ?_
  refine zv_iconst (v := 1) C dL_act_526 527 rfl (by decide) ?_
  refine zv_isub (v := (nI b)) C dL_act_527 528 rfl (nI_pred b) ?_
  refine zv_icmp_ne C dL_act_528 531 540 rfl (by decide) (fun c => absurd c (fun c => c rfl)) (fun _ => ?_)
  refine zv_iload C dL_act_531 533 rfl 0 rfl ?_
  refine zv_if_eq C dL_act_533 536 540 rfl (by decide) (fun c => absurd c (by decide)) (fun _ => ?_)
  refine zv_iconst (v := 1) C dL_act_536 537 rfl (by decide) ?_
  refine zv_goto C dL_act_537 541 (by decide) ?_
  refine zn_part (ws' := ((no, .inl (cA, (b + 1), aq (fun i => if i = b then nq1 else da i))) :: (nq1, .inl (cI, 2, .inl (upd (upd z0 0 (nI (bl (x >>> ((3 : Int32) &&& 31)) n))) 1 (nmS n m0 m1 m2 m3 m5 r (bl (x >>> ((3 : Int32) &&& 31)) n))))) :: (s 0, .inr (2, [.int r, .int y, .ref (s 1), .ref no])) :: (s 1, .inl (cA, n, aq pa)) :: (sR cI 6 pa (rP m0 m1 m2 m3 m4 m5) n ++ (sR cI 2 da (rB m6 m7) b ++ w')))) (List.Sublist.cons_cons _ (List.Sublist.cons _ (List.Sublist.cons_cons _ (List.Sublist.cons_cons _ (List.Sublist.cons_cons _ (List.Sublist.cons _ (List.Sublist.refl _))))))) ?_
  refine zn_perm zp_with2 ?_
  have hrow : sR cI 2 da (rB m6 m7) b ++ [(nq1, .inl (cI, 2, .inl (upd (upd z0 0 (nI (bl (x >>> ((3 : Int32) &&& 31)) n))) 1 (nmS n m0 m1 m2 m3 m5 r (bl (x >>> ((3 : Int32) &&& 31)) n)))))] = sR cI 2 (fun i => if i = b then nq1 else da i) (rB (upd m6 b (nI (bl (x >>> ((3 : Int32) &&& 31)) n))) (upd m7 b (nmS n m0 m1 m2 m3 m5 r (bl (x >>> ((3 : Int32) &&& 31)) n)))) (b + 1) := by
    rw [sR_succ, if_pos rfl]
    refine congr (congrArg _ (sR_congr (fun j hj => ⟨?_, ?_⟩)).symm) (congrArg (fun z => [z]) ?_)
    · rw [if_neg (by omega)]
    · show r2 (upd m6 b (nI (bl (x >>> ((3 : Int32) &&& 31)) n)) j) (upd m7 b (nmS n m0 m1 m2 m3 m5 r (bl (x >>> ((3 : Int32) &&& 31)) n)) j) = r2 (m6 j) (m7 j)
      simp only [upd_ne _ _ _ (show ¬ j = b by omega)]
    · show (nq1, _) = (nq1, _)
      rw [r2_new]
      simp only [rB, upd_at]
  rw [hrow]
  refine zv_wd (ws' := cS cI cA (ad3 (s 0) (s 1) no) r y n (b + 1) pa (fun i => if i = b then nq1 else da i) m0 m1 m2 m3 m4 m5 (upd m6 b (nI (bl (x >>> ((3 : Int32) &&& 31)) n))) (upd m7 b (nmS n m0 m1 m2 m3 m5 r (bl (x >>> ((3 : Int32) &&& 31)) n))) ++ w') (by simp only [List.append_assoc, List.cons_append, List.append_nil, List.nil_append] <;> rfl) ?_
  refine zv_widen (k' := 4500) (n' := 71000) (by omega) (by omega) ?_
  exact zv_zret C (by decide) hr hlk hQ dL_act_541 ⟨rfl, n, (b + 1), r, y, m0, m1, m2, m3, m4, m5, upd m6 b (nI (bl (x >>> ((3 : Int32) &&& 31)) n)), upd m7 b (nmS n m0 m1 m2 m3 m5 r (bl (x >>> ((3 : Int32) &&& 31)) n)), (by omega), ad3 (s 0) (s 1) no, pa, (fun i => if i = b then nq1 else da i), w', rfl, rfl, hR2⟩
set_option maxHeartbeats 4000000 in
set_option maxRecDepth 100000 in
theorem ac_years {pP : Program} {l : Launch} {eE : Env} {sS : State} {mM : MethodId} {aA : Array Value} {bB : List Frame} {mT : Method} {cD : Code} {Q : State → Prop} {D : va_G} {cI cZ cA : ClassId} {A : Nat → Prop} {a n b : Nat} {r y : Int32} {m0 m1 m2 m3 m4 m5 m6 m7 : Nat → Int32} {w : va_W} (hR : zR cI cZ a n b r y m0 m1 m2 m3 m4 m5 m6 m7 w) {s pa da : Nat → Nat} {x cn : Int32} (hn0 : 0 < n) (C : zv_C pP mM cD cL_act 9 sS aA wsL_act yL_act.cls A) (hr : mT.sig.returnType = (some .boolean)) (hlk : mT.locks = false) (hO : va_AOA .int sS) (hQ : Q = MQ bB (zv_q D vwCl A (fun v u => v = some (.int 1) ∧ ∃ (n' b' : Nat) (r' y' : Int32) (m0' m1' m2' m3' m4' m5' m6' m7' : Nat → Int32), n ≤ n' ∧ zB cI cZ cA a (s 0) n' b' r' y' m0' m1' m2' m3' m4' m5' m6' m7' u)) aA sS rmL_act.cells rmL_act.slots A)  : zv_V pP l eE rmL_act sS mM aA bB mT cD Q 9 D vwCl A A (tyS cI cZ cA) ((s 0, .inr (2, [.int r, .int y, .ref (s 1), .ref (s 2)])) :: (s 1, .inl (cA, n, aq pa)) :: (s 2, .inl (cA, b, aq da)) :: (sR cI 6 pa (rP m0 m1 m2 m3 m4 m5) n ++ (sR cI 2 da (rB m6 m7) b ++ w))) 0 0 542 [(0, .ref a), (1, .ref (s 0)), (2, .int x), (3, .int (nI n)), (4, .int (nI (bl (x >>> ((3 : Int32) &&& 31)) n))), (5, .int cn)] [] := by
  have hV := hR.lv
  have hn16 : n ≤ 16 := hV.n16
  have hb16 : b ≤ 16 := hV.b16
  obtain ⟨fs, hrc⟩ := hR.recv
  have hp : bl (x >>> ((3 : Int32) &&& 31)) n < n := bl_lt _ hn0
  obtain ⟨z, hz1, hz2, hzx⟩ : ∃ z : Nat, 1 ≤ z ∧ z ≤ 50 ∧ True := ⟨1, by omega, by omega, trivial⟩
  clear hzx hz1 hz2 z
  refine zv_iconst (v := 1) C dL_act_542 543 rfl (by decide) ?_
  refine zv_istore C dL_act_543 545 rfl [(5, .int 1), (0, .ref a), (1, .ref (s 0)), (2, .int x), (3, .int (nI n)), (4, .int (nI (bl (x >>> ((3 : Int32) &&& 31)) n)))] (by decide) rfl ?_
  refine zv_iconst (v := 1) C dL_act_545 546 rfl (by decide) ?_
  refine zv_iload_n C dL_act_546 547 rfl 3 rfl ?_
  refine zv_iconst (v := 4) C dL_act_547 548 rfl (by decide) ?_
  refine zn_ishr C dL_act_548 549 rfl ?_
  refine zv_iload_n C dL_act_549 550 rfl 3 rfl ?_
  refine zv_bipush (v := 7) C dL_act_550 552 rfl (by decide) ?_
  refine zn_ishr C dL_act_552 553 rfl ?_
  refine zv_iconst (v := 4) C dL_act_553 554 rfl (by decide) ?_
  refine zv_go rfl rfl (st' := [.int (nI 4), .int (x >>> (7 &&& 31)), .int (x >>> (4 &&& 31)), .int 1]) (by rfl) rfl rfl ?_
  refine zn_callRS (rest := [.int (x >>> (4 &&& 31)), .int 1]) C zn_TB zn_TE (zn_ofR (k_L_below l D cI cZ cA (x >>> ((7 : Int32) &&& 31)) 4 (by omega) (by omega))) (va_cwS 2 C.1.2.2.2.2 gL_act_L_below rfl rfl rfl (by decide +kernel) ⟨Nat.le_of_ble_eq_true rfl, Nat.le_of_ble_eq_true rfl⟩) dL_act_554 557 rfl rfl rfl (Nat.le_of_ble_eq_true rfl) ⟨(by show 0 + 0 ≤ 4500; omega), (by show 0 + 0 ≤ 71000; omega)⟩ [0, 1] rfl (List.nil_sublist _) (fun v hv => ?_)
  subst hv
  refine zv_go rfl rfl (st' := [.int (nI (bl (x >>> ((7 : Int32) &&& 31)) 4)), .int (x >>> (4 &&& 31)), .int 1]) rfl (kc' := 0) rfl (ns' := 0) rfl ?_
  refine zv_if_ne C dL_act_557 560 565 rfl (by decide) (fun c4 => ?_) (fun c4 => ?_)
  ·
    refine zv_bipush (v := 6) C dL_act_565 567 rfl (by decide) ?_
    refine zv_go rfl rfl (st' := [.int (nI 6), .int (x >>> (4 &&& 31)), .int 1]) (by rfl) rfl rfl ?_
    refine zn_callRS (rest := [.int 1]) C zn_TB zn_TE (zn_ofR (k_L_below l D cI cZ cA (x >>> ((4 : Int32) &&& 31)) 6 (by omega) (by omega))) (va_cwS 2 C.1.2.2.2.2 gL_act_L_below rfl rfl rfl (by decide +kernel) ⟨Nat.le_of_ble_eq_true rfl, Nat.le_of_ble_eq_true rfl⟩) dL_act_567 570 rfl rfl rfl (Nat.le_of_ble_eq_true rfl) ⟨(by show 0 + 0 ≤ 4500; omega), (by show 0 + 0 ≤ 71000; omega)⟩ [0, 1] rfl (List.nil_sublist _) (fun v hv => ?_)
    subst hv
    refine zv_go rfl rfl (st' := [.int (nI (bl (x >>> ((4 : Int32) &&& 31)) 6)), .int 1]) rfl (kc' := 0) rfl (ns' := 0) rfl ?_
    have hy := bl_lt (x >>> ((4 : Int32) &&& 31)) (N := 6) (by omega)
    refine zv_iadd (v := (nI (1 + bl (x >>> ((4 : Int32) &&& 31)) 6))) C dL_act_570 571 rfl (nI_add 1 (bl (x >>> ((4 : Int32) &&& 31)) 6)) ?_
    refine zv_istore C dL_act_571 573 rfl [(6, .int (nI (1 + bl (x >>> ((4 : Int32) &&& 31)) 6))), (5, .int 1), (0, .ref a), (1, .ref (s 0)), (2, .int x), (3, .int (nI n)), (4, .int (nI (bl (x >>> ((3 : Int32) &&& 31)) n)))] (by decide) rfl ?_
    refine zv_aload_n C dL_act_573 574 rfl 3 rfl ?_
    refine zv_iload C dL_act_574 576 rfl 0 rfl ?_
    refine zv_wd (ws' := [] ++ (cS cI cA s r y n b pa da m0 m1 m2 m3 m4 m5 m6 m7 ++ w)) (by simp only [List.append_assoc, List.cons_append, List.append_nil, List.nil_append] <;> rfl) ?_
    refine zn_callMV (a := []) (bb := w) (rest := []) C zn_TB zn_TE (zn_ofM (k_X2_pass l D cI cZ cA y hn16 hV.zm1 s pa da (1 + bl (x >>> ((4 : Int32) &&& 31)) 6) (by omega))) (cwV 1 C.1.2.2.2.2 gL_act_X2_pass rfl rfl rfl (by decide +kernel) ⟨Nat.le_of_ble_eq_true rfl, Nat.le_of_ble_eq_true rfl⟩) dL_act_576 579 rfl (ci := 2) rfl 0 rfl rfl rfl (Nat.le_of_ble_eq_true rfl) ⟨(by show 0 + 0 ≤ 4500; omega), (by show 0 + 0 ≤ 71000; omega)⟩ [0, 1, 2] rfl (fun v w' hv => ?_)
    obtain ⟨rfl, rfl⟩ := hv
    refine zv_wd (ws' := ((s 0, .inr (2, [.int r, .int (y + nI (1 + bl (x >>> ((4 : Int32) &&& 31)) 6)), .ref (s 1), .ref (s 2)])) :: (s 1, .inl (cA, n, aq pa)) :: (s 2, .inl (cA, b, aq da)) :: (sR cI 6 pa (rP m0 m1 m2 (swN m1 m3 m4 (1 + bl (x >>> ((4 : Int32) &&& 31)) 6)) m4 m5) n ++ (sR cI 2 da (rB m6 m7) b ++ w)))) (by simp only [List.append_assoc, List.cons_append, List.append_nil, List.nil_append] <;> rfl) ?_
    refine zv_go rfl rfl (st' := []) rfl (kc' := 0) rfl (ns' := 0) rfl ?_
    refine zv_aload_n C dL_act_579 580 rfl 2 rfl ?_
    refine zv_iload C dL_act_580 582 rfl 0 rfl ?_
    refine zv_wd (ws' := ((s 0, .inr (2, [.int r, .int (y + nI (1 + bl (x >>> ((4 : Int32) &&& 31)) 6)), .ref (s 1), .ref (s 2)])) :: (s 1, .inl (cA, n, aq pa)) :: (s 2, .inl (cA, b, aq da)) :: (sR cI 6 pa (rP m0 m1 m2 (swN m1 m3 m4 (1 + bl (x >>> ((4 : Int32) &&& 31)) 6)) m4 m5) n ++ sR cI 2 da (rB m6 m7) b)) ++ (w ++ [])) (by simp only [List.append_assoc, List.cons_append, List.append_nil, List.nil_append] <;> rfl) ?_
    refine zn_callMV (a := ((s 0, .inr (2, [.int r, .int (y + nI (1 + bl (x >>> ((4 : Int32) &&& 31)) 6)), .ref (s 1), .ref (s 2)])) :: (s 1, .inl (cA, n, aq pa)) :: (s 2, .inl (cA, b, aq da)) :: (sR cI 6 pa (rP m0 m1 m2 (swN m1 m3 m4 (1 + bl (x >>> ((4 : Int32) &&& 31)) 6)) m4 m5) n ++ sR cI 2 da (rB m6 m7) b))) (bb := []) (rest := []) C zn_TB zn_TE (zn_ofM (w_pass l D hR (1 + bl (x >>> ((4 : Int32) &&& 31)) 6) (by omega) (by omega))) (cwV 1 C.1.2.2.2.2 gL_act_X1_pass rfl rfl rfl (by decide +kernel) ⟨Nat.le_of_ble_eq_true rfl, Nat.le_of_ble_eq_true rfl⟩) dL_act_582 585 rfl (ci := 1) rfl 0 hrc rfl rfl (Nat.le_of_ble_eq_true rfl) ⟨(by show 0 + 0 ≤ 4500; omega), (by show 0 + 0 ≤ 71000; omega)⟩ [0, 1] rfl (fun v w' hv => ?_)
    obtain ⟨rfl, hR2⟩ := hv
    refine zv_wd (ws' := ((s 0, .inr (2, [.int r, .int (y + nI (1 + bl (x >>> ((4 : Int32) &&& 31)) 6)), .ref (s 1), .ref (s 2)])) :: (s 1, .inl (cA, n, aq pa)) :: (s 2, .inl (cA, b, aq da)) :: (sR cI 6 pa (rP m0 m1 m2 (swN m1 m3 m4 (1 + bl (x >>> ((4 : Int32) &&& 31)) 6)) m4 m5) n ++ (sR cI 2 da (rB m6 m7) b ++ w')))) (by simp only [List.append_assoc, List.cons_append, List.append_nil, List.nil_append] <;> rfl) ?_
    refine zv_go rfl rfl (st' := [.int (nI (inN m6 m7 (nmS n m0 m1 m2 (swN m1 m3 m4 (1 + bl (x >>> ((4 : Int32) &&& 31)) 6)) m5 r) b))]) rfl (kc' := 0) rfl (ns' := 0) rfl ?_
    have hV2 := hR2.lv
    refine zv_aload_n C dL_act_585 586 rfl 3 rfl ?_
    refine zv_aload_n C dL_act_586 587 rfl 3 rfl ?_
    refine zn_callNV (rest := [.ref (s 0), .int (nI (inN m6 m7 (nmS n m0 m1 m2 (swN m1 m3 m4 (1 + bl (x >>> ((4 : Int32) &&& 31)) 6)) m5 r) b))]) C zn_OB (zn_OE hO) (k_X2_names l D cI cZ cA (y + nI (1 + bl (x >>> ((4 : Int32) &&& 31)) 6)) hV2 s pa da) (cwV 0 C.1.2.2.2.2 gL_act_X2_names rfl rfl rfl (by decide +kernel) ⟨Nat.le_of_ble_eq_true rfl, Nat.le_of_ble_eq_true rfl⟩) dL_act_587 590 rfl (ci := 2) rfl 0 rfl rfl rfl (Nat.le_of_ble_eq_true rfl) ⟨(by show 0 + 4400 ≤ 4500; omega), (by show 0 + 70000 ≤ 71000; omega)⟩ [0, 1, 2] rfl (List.Sublist.cons_cons _ (List.Sublist.cons_cons _ (List.Sublist.cons_cons _ (List.Sublist.append (List.Sublist.refl _) (List.sublist_append_left _ _))))) C.2 (fun v w8 hv hw8 => ?_)
    obtain ⟨nm, g, rfl, rfl, hg⟩ := hv
    refine zv_wd (ws' := ((nm, .inl (cI, n, .inl g)) :: (s 0, .inr (2, [.int r, .int (y + nI (1 + bl (x >>> ((4 : Int32) &&& 31)) 6)), .ref (s 1), .ref (s 2)])) :: (s 1, .inl (cA, n, aq pa)) :: (s 2, .inl (cA, b, aq da)) :: (sR cI 6 pa (rP m0 m1 m2 (swN m1 m3 m4 (1 + bl (x >>> ((4 : Int32) &&& 31)) 6)) m4 m5) n ++ (sR cI 2 da (rB m6 m7) b ++ w')))) rfl ?_
    refine zv_go rfl rfl (st' := [.ref nm, .ref (s 0), .int (nI (inN m6 m7 (nmS n m0 m1 m2 (swN m1 m3 m4 (1 + bl (x >>> ((4 : Int32) &&& 31)) 6)) m5 r) b))]) rfl (kc' := 4400) rfl (ns' := 70000) rfl ?_
    refine zn_callRV (rest := [.int (nI (inN m6 m7 (nmS n m0 m1 m2 (swN m1 m3 m4 (1 + bl (x >>> ((4 : Int32) &&& 31)) 6)) m5 r) b))]) C zn_TB zn_TE (zn_ofR (k_X2_insults l D cI cZ cA (y + nI (1 + bl (x >>> ((4 : Int32) &&& 31)) 6)) hV2 s pa da nm g)) (cwV 1 C.1.2.2.2.2 gL_act_X2_insults rfl rfl rfl (by decide +kernel) ⟨Nat.le_of_ble_eq_true rfl, Nat.le_of_ble_eq_true rfl⟩) dL_act_590 593 rfl (ci := 2) rfl 1 rfl rfl rfl (Nat.le_of_ble_eq_true rfl) ⟨(by show 4400 + 0 ≤ 4500; omega), (by show 70000 + 0 ≤ 71000; omega)⟩ [0, 1, 2] rfl (List.Sublist.cons_cons _ (List.Sublist.cons_cons _ (List.Sublist.cons_cons _ (List.Sublist.cons_cons _ (List.Sublist.append (List.Sublist.refl _) (List.sublist_append_left _ _)))))) (fun v hv => ?_)
    subst hv
    refine zv_go rfl rfl (st' := [.int (nI (inN m6 m7 g b)), .int (nI (inN m6 m7 (nmS n m0 m1 m2 (swN m1 m3 m4 (1 + bl (x >>> ((4 : Int32) &&& 31)) 6)) m5 r) b))]) rfl (kc' := 4400) rfl (ns' := 70000) rfl ?_
    have hin : inN m6 m7 g b = inN m6 m7 (nmS n m0 m1 m2 (swN m1 m3 m4 (1 + bl (x >>> ((4 : Int32) &&& 31)) 6)) m5 r) b := inN_congr hn16 hV.brg hg
    refine zv_icmp_ne C dL_act_593 596 600 rfl (by decide) (fun c => absurd c (fun c => c (by rw [hin]))) (fun _ => ?_)
    refine zv_iconst (v := 1) C dL_act_596 597 rfl (by decide) ?_
    refine zv_goto C dL_act_597 601 (by decide) ?_
    refine zn_part (ws' := (cS cI cA s r (y + nI (1 + bl (x >>> ((4 : Int32) &&& 31)) 6)) n b pa da m0 m1 m2 (swN m1 m3 m4 (1 + bl (x >>> ((4 : Int32) &&& 31)) 6)) m4 m5 m6 m7 ++ w')) (List.Sublist.cons _ (by simp only [List.cons_append, List.append_assoc]; exact List.Sublist.refl _)) ?_
    refine zv_widen (k' := 4500) (n' := 71000) (by omega) (by omega) ?_
    exact zv_zret C (by decide) hr hlk hQ dL_act_601 ⟨rfl, n, b, r, y + nI (1 + bl (x >>> ((4 : Int32) &&& 31)) 6), m0, m1, m2, (swN m1 m3 m4 (1 + bl (x >>> ((4 : Int32) &&& 31)) 6)), m4, m5, m6, m7, by omega, s, pa, da, w', rfl, rfl, hR2⟩
  ·
    refine zv_bipush (v := 50) C dL_act_560 562 rfl (by decide) ?_
    refine zv_goto C dL_act_562 567 (by decide) ?_
    refine zv_go rfl rfl (st' := [.int (nI 50), .int (x >>> (4 &&& 31)), .int 1]) (by rfl) rfl rfl ?_
    refine zn_callRS (rest := [.int 1]) C zn_TB zn_TE (zn_ofR (k_L_below l D cI cZ cA (x >>> ((4 : Int32) &&& 31)) 50 (by omega) (by omega))) (va_cwS 2 C.1.2.2.2.2 gL_act_L_below rfl rfl rfl (by decide +kernel) ⟨Nat.le_of_ble_eq_true rfl, Nat.le_of_ble_eq_true rfl⟩) dL_act_567 570 rfl rfl rfl (Nat.le_of_ble_eq_true rfl) ⟨(by show 0 + 0 ≤ 4500; omega), (by show 0 + 0 ≤ 71000; omega)⟩ [0, 1] rfl (List.nil_sublist _) (fun v hv => ?_)
    subst hv
    refine zv_go rfl rfl (st' := [.int (nI (bl (x >>> ((4 : Int32) &&& 31)) 50)), .int 1]) rfl (kc' := 0) rfl (ns' := 0) rfl ?_
    have hy := bl_lt (x >>> ((4 : Int32) &&& 31)) (N := 50) (by omega)
    refine zv_iadd (v := (nI (1 + bl (x >>> ((4 : Int32) &&& 31)) 50))) C dL_act_570 571 rfl (nI_add 1 (bl (x >>> ((4 : Int32) &&& 31)) 50)) ?_
    refine zv_istore C dL_act_571 573 rfl [(6, .int (nI (1 + bl (x >>> ((4 : Int32) &&& 31)) 50))), (5, .int 1), (0, .ref a), (1, .ref (s 0)), (2, .int x), (3, .int (nI n)), (4, .int (nI (bl (x >>> ((3 : Int32) &&& 31)) n)))] (by decide) rfl ?_
    refine zv_aload_n C dL_act_573 574 rfl 3 rfl ?_
    refine zv_iload C dL_act_574 576 rfl 0 rfl ?_
    refine zv_wd (ws' := [] ++ (cS cI cA s r y n b pa da m0 m1 m2 m3 m4 m5 m6 m7 ++ w)) (by simp only [List.append_assoc, List.cons_append, List.append_nil, List.nil_append] <;> rfl) ?_
    refine zn_callMV (a := []) (bb := w) (rest := []) C zn_TB zn_TE (zn_ofM (k_X2_pass l D cI cZ cA y hn16 hV.zm1 s pa da (1 + bl (x >>> ((4 : Int32) &&& 31)) 50) (by omega))) (cwV 1 C.1.2.2.2.2 gL_act_X2_pass rfl rfl rfl (by decide +kernel) ⟨Nat.le_of_ble_eq_true rfl, Nat.le_of_ble_eq_true rfl⟩) dL_act_576 579 rfl (ci := 2) rfl 0 rfl rfl rfl (Nat.le_of_ble_eq_true rfl) ⟨(by show 0 + 0 ≤ 4500; omega), (by show 0 + 0 ≤ 71000; omega)⟩ [0, 1, 2] rfl (fun v w' hv => ?_)
    obtain ⟨rfl, rfl⟩ := hv
    refine zv_wd (ws' := ((s 0, .inr (2, [.int r, .int (y + nI (1 + bl (x >>> ((4 : Int32) &&& 31)) 50)), .ref (s 1), .ref (s 2)])) :: (s 1, .inl (cA, n, aq pa)) :: (s 2, .inl (cA, b, aq da)) :: (sR cI 6 pa (rP m0 m1 m2 (swN m1 m3 m4 (1 + bl (x >>> ((4 : Int32) &&& 31)) 50)) m4 m5) n ++ (sR cI 2 da (rB m6 m7) b ++ w)))) (by simp only [List.append_assoc, List.cons_append, List.append_nil, List.nil_append] <;> rfl) ?_
    refine zv_go rfl rfl (st' := []) rfl (kc' := 0) rfl (ns' := 0) rfl ?_
    refine zv_aload_n C dL_act_579 580 rfl 2 rfl ?_
    refine zv_iload C dL_act_580 582 rfl 0 rfl ?_
    refine zv_wd (ws' := ((s 0, .inr (2, [.int r, .int (y + nI (1 + bl (x >>> ((4 : Int32) &&& 31)) 50)), .ref (s 1), .ref (s 2)])) :: (s 1, .inl (cA, n, aq pa)) :: (s 2, .inl (cA, b, aq da)) :: (sR cI 6 pa (rP m0 m1 m2 (swN m1 m3 m4 (1 + bl (x >>> ((4 : Int32) &&& 31)) 50)) m4 m5) n ++ sR cI 2 da (rB m6 m7) b)) ++ (w ++ [])) (by simp only [List.append_assoc, List.cons_append, List.append_nil, List.nil_append] <;> rfl) ?_
    refine zn_callMV (a := ((s 0, .inr (2, [.int r, .int (y + nI (1 + bl (x >>> ((4 : Int32) &&& 31)) 50)), .ref (s 1), .ref (s 2)])) :: (s 1, .inl (cA, n, aq pa)) :: (s 2, .inl (cA, b, aq da)) :: (sR cI 6 pa (rP m0 m1 m2 (swN m1 m3 m4 (1 + bl (x >>> ((4 : Int32) &&& 31)) 50)) m4 m5) n ++ sR cI 2 da (rB m6 m7) b))) (bb := []) (rest := []) C zn_TB zn_TE (zn_ofM (w_pass l D hR (1 + bl (x >>> ((4 : Int32) &&& 31)) 50) (by omega) (by omega))) (cwV 1 C.1.2.2.2.2 gL_act_X1_pass rfl rfl rfl (by decide +kernel) ⟨Nat.le_of_ble_eq_true rfl, Nat.le_of_ble_eq_true rfl⟩) dL_act_582 585 rfl (ci := 1) rfl 0 hrc rfl rfl (Nat.le_of_ble_eq_true rfl) ⟨(by show 0 + 0 ≤ 4500; omega), (by show 0 + 0 ≤ 71000; omega)⟩ [0, 1] rfl (fun v w' hv => ?_)
    obtain ⟨rfl, hR2⟩ := hv
    refine zv_wd (ws' := ((s 0, .inr (2, [.int r, .int (y + nI (1 + bl (x >>> ((4 : Int32) &&& 31)) 50)), .ref (s 1), .ref (s 2)])) :: (s 1, .inl (cA, n, aq pa)) :: (s 2, .inl (cA, b, aq da)) :: (sR cI 6 pa (rP m0 m1 m2 (swN m1 m3 m4 (1 + bl (x >>> ((4 : Int32) &&& 31)) 50)) m4 m5) n ++ (sR cI 2 da (rB m6 m7) b ++ w')))) (by simp only [List.append_assoc, List.cons_append, List.append_nil, List.nil_append] <;> rfl) ?_
    refine zv_go rfl rfl (st' := [.int (nI (inN m6 m7 (nmS n m0 m1 m2 (swN m1 m3 m4 (1 + bl (x >>> ((4 : Int32) &&& 31)) 50)) m5 r) b))]) rfl (kc' := 0) rfl (ns' := 0) rfl ?_
    have hV2 := hR2.lv
    refine zv_aload_n C dL_act_585 586 rfl 3 rfl ?_
    refine zv_aload_n C dL_act_586 587 rfl 3 rfl ?_
    refine zn_callNV (rest := [.ref (s 0), .int (nI (inN m6 m7 (nmS n m0 m1 m2 (swN m1 m3 m4 (1 + bl (x >>> ((4 : Int32) &&& 31)) 50)) m5 r) b))]) C zn_OB (zn_OE hO) (k_X2_names l D cI cZ cA (y + nI (1 + bl (x >>> ((4 : Int32) &&& 31)) 50)) hV2 s pa da) (cwV 0 C.1.2.2.2.2 gL_act_X2_names rfl rfl rfl (by decide +kernel) ⟨Nat.le_of_ble_eq_true rfl, Nat.le_of_ble_eq_true rfl⟩) dL_act_587 590 rfl (ci := 2) rfl 0 rfl rfl rfl (Nat.le_of_ble_eq_true rfl) ⟨(by show 0 + 4400 ≤ 4500; omega), (by show 0 + 70000 ≤ 71000; omega)⟩ [0, 1, 2] rfl (List.Sublist.cons_cons _ (List.Sublist.cons_cons _ (List.Sublist.cons_cons _ (List.Sublist.append (List.Sublist.refl _) (List.sublist_append_left _ _))))) C.2 (fun v w8 hv hw8 => ?_)
    obtain ⟨nm, g, rfl, rfl, hg⟩ := hv
    refine zv_wd (ws' := ((nm, .inl (cI, n, .inl g)) :: (s 0, .inr (2, [.int r, .int (y + nI (1 + bl (x >>> ((4 : Int32) &&& 31)) 50)), .ref (s 1), .ref (s 2)])) :: (s 1, .inl (cA, n, aq pa)) :: (s 2, .inl (cA, b, aq da)) :: (sR cI 6 pa (rP m0 m1 m2 (swN m1 m3 m4 (1 + bl (x >>> ((4 : Int32) &&& 31)) 50)) m4 m5) n ++ (sR cI 2 da (rB m6 m7) b ++ w')))) rfl ?_
    refine zv_go rfl rfl (st' := [.ref nm, .ref (s 0), .int (nI (inN m6 m7 (nmS n m0 m1 m2 (swN m1 m3 m4 (1 + bl (x >>> ((4 : Int32) &&& 31)) 50)) m5 r) b))]) rfl (kc' := 4400) rfl (ns' := 70000) rfl ?_
    refine zn_callRV (rest := [.int (nI (inN m6 m7 (nmS n m0 m1 m2 (swN m1 m3 m4 (1 + bl (x >>> ((4 : Int32) &&& 31)) 50)) m5 r) b))]) C zn_TB zn_TE (zn_ofR (k_X2_insults l D cI cZ cA (y + nI (1 + bl (x >>> ((4 : Int32) &&& 31)) 50)) hV2 s pa da nm g)) (cwV 1 C.1.2.2.2.2 gL_act_X2_insults rfl rfl rfl (by decide +kernel) ⟨Nat.le_of_ble_eq_true rfl, Nat.le_of_ble_eq_true rfl⟩) dL_act_590 593 rfl (ci := 2) rfl 1 rfl rfl rfl (Nat.le_of_ble_eq_true rfl) ⟨(by show 4400 + 0 ≤ 4500; omega), (by show 70000 + 0 ≤ 71000; omega)⟩ [0, 1, 2] rfl (List.Sublist.cons_cons _ (List.Sublist.cons_cons _ (List.Sublist.cons_cons _ (List.Sublist.cons_cons _ (List.Sublist.append (List.Sublist.refl _) (List.sublist_append_left _ _)))))) (fun v hv => ?_)
    subst hv
    refine zv_go rfl rfl (st' := [.int (nI (inN m6 m7 g b)), .int (nI (inN m6 m7 (nmS n m0 m1 m2 (swN m1 m3 m4 (1 + bl (x >>> ((4 : Int32) &&& 31)) 50)) m5 r) b))]) rfl (kc' := 4400) rfl (ns' := 70000) rfl ?_
    have hin : inN m6 m7 g b = inN m6 m7 (nmS n m0 m1 m2 (swN m1 m3 m4 (1 + bl (x >>> ((4 : Int32) &&& 31)) 50)) m5 r) b := inN_congr hn16 hV.brg hg
    refine zv_icmp_ne C dL_act_593 596 600 rfl (by decide) (fun c => absurd c (fun c => c (by rw [hin]))) (fun _ => ?_)
    refine zv_iconst (v := 1) C dL_act_596 597 rfl (by decide) ?_
    refine zv_goto C dL_act_597 601 (by decide) ?_
    refine zn_part (ws' := (cS cI cA s r (y + nI (1 + bl (x >>> ((4 : Int32) &&& 31)) 50)) n b pa da m0 m1 m2 (swN m1 m3 m4 (1 + bl (x >>> ((4 : Int32) &&& 31)) 50)) m4 m5 m6 m7 ++ w')) (List.Sublist.cons _ (by simp only [List.cons_append, List.append_assoc]; exact List.Sublist.refl _)) ?_
    refine zv_widen (k' := 4500) (n' := 71000) (by omega) (by omega) ?_
    exact zv_zret C (by decide) hr hlk hQ dL_act_601 ⟨rfl, n, b, r, y + nI (1 + bl (x >>> ((4 : Int32) &&& 31)) 50), m0, m1, m2, (swN m1 m3 m4 (1 + bl (x >>> ((4 : Int32) &&& 31)) 50)), m4, m5, m6, m7, by omega, s, pa, da, w', rfl, rfl, hR2⟩
