/-! ===== the class and the reference side by side: words over agreeing ways ===== -/
section LWC
variable {n : Nat} {w w' : Nat → Int32}
theorem fl_congr (e : ∀ i, i < n → w i = w' i) (hw : Vw n w) (hn : n ≤ 16) (o : Int32) : ∀ (k : Nat) (x : Int32), Vx n x → fl w o k x = fl w' o k x
  | 0, _, _ => rfl
  | k + 1, x, hx => by
    rcases hx with h | ⟨q, hq, h⟩
    · subst h; rw [fl_neg _ _ _ (by decide), fl_neg _ _ _ (by decide)]
    · subst h
      by_cases z : nI q = o
      · rw [fl_hit _ _ (by omega) z, fl_hit _ _ (by omega) z]
      · rw [fl_go _ _ (by omega) z, fl_go _ _ (by omega) z, ← e q hq]
        exact fl_congr e hw hn o k _ (hw q hq)
theorem mo_congr (e : ∀ i, i < n → w i = w' i) (hw : Vw n w) (hn : n ≤ 16) : ∀ (k p : Nat), p < n → mo w k p = mo w' k p
  | 0, _, _ => rfl
  | k + 1, p, hp => by
    rcases hw p hp with h | ⟨q, hq, h⟩
    · rw [mo_neg w _ (by rw [h]; decide), mo_neg w' _ (by rw [← e p hp, h]; decide)]
    · rw [mo_go w (by omega) h, mo_go w' (by omega) ((e p hp).symm.trans h)]
      exact mo_congr e hw hn k q hq
theorem fc_congr (e : ∀ i, i < n → w i = w' i) (hw : Vw n w) (hn : n ≤ 16) {z : Nat} (hz : z < n) : ∀ (k : Nat) (x : Int32), Vx n x → fc w z k x = fc w' z k x
  | 0, _, _ => rfl
  | k + 1, x, hx => by
    rcases hx with h | ⟨q, hq, h⟩
    · subst h; rw [fc_neg _ _ _ (by decide), fc_neg _ _ _ (by decide)]
    · subst h
      have e1 : fl w (nI q) 16 (w z) = fl w' (nI q) 16 (w' z) := by rw [← e z hz]; exact fl_congr e hw hn (nI q) 16 _ (hw z hz)
      by_cases c : nI q = nI z ∨ fl w (nI q) 16 (w z) = true
      · rw [fc_hit _ _ (by omega) c, fc_hit _ _ (by omega) (by rw [← e1]; exact c)]
      · have h1 : ¬ nI q = nI z := fun y => c (Or.inl y)
        have h2 : fl w (nI q) 16 (w z) = false := by
          cases hh : fl w (nI q) 16 (w z) with
          | false => rfl
          | true => exact absurd (Or.inr hh) c
        rw [fc_go _ _ (by omega) h1 h2, fc_go _ _ (by omega) h1 (by rw [← e1]; exact h2), ← e q hq]
        exact fc_congr e hw hn hz k _ (hw q hq)
theorem ao_congr (e : ∀ i, i < n → w i = w' i) (hw : Vw n w) (hn : n ≤ 16) (p : Nat) : ao n w p = ao n w' p := cnb_congr n (fun q hq => by
  rw [← e q hq]
  exact fl_congr e hw hn (nI p) 16 _ (hw q hq))
theorem sprg_congr {has wat has' wat' : Nat → Int32} {p : Nat} (h1 : has p = has' p) (h2 : wat p = wat' p) : sprg has wat p = sprg has' wat' p := by simp only [sprg, h1, h2]
theorem agA_dat (e : ∀ i, i < n → w i = w' i) {has wat del has' wat' del' g : Nat → Int32} {p : Nat} (h1 : has p = has' p) (h2 : wat p = wat' p) (h3 : del p = del' p) : agA w has wat del g p n = agA w' has' wat' del' g p n := by
  unfold agA
  rw [sprg_congr h1 h2, h3, cnb_congr (b := fun q => decide (w q = nI p) && !decide (g q = -1)) (c := fun q => decide (w' q = nI p) && !decide (g q = -1)) n (fun i hi => by rw [e i hi])]
theorem agD_dat (e : ∀ i, i < n → w i = w' i) {has nm wat del has' nm' wat' del' g : Nat → Int32} {p : Nat} (h1 : has p = has' p) (h2 : wat p = wat' p) (h3 : del p = del' p) (h4 : ¬ has p = 0 → nm p = nm' p) : agD w has nm wat del g p n = agD w' has' nm' wat' del' g p n := by
  have h5 : (sprg has wat p && !decide (nm p = g p)) = (sprg has' wat' p && !decide (nm' p = g p)) := by
    rw [← sprg_congr h1 h2]
    by_cases hz : has p = 0
    · have : sprg has wat p = false := by simp [sprg, hz]
      rw [this]; rfl
    · rw [h4 hz]
  unfold agD
  rw [h5, h3, anb_congr (b := fun q => decide (w q = nI p) && !decide (g q = -1) && !decide (g q = g p)) (c := fun q => decide (w' q = nI p) && !decide (g q = -1) && !decide (g q = g p)) n (fun i hi => by rw [e i hi])]
theorem swN_congr {f1 f3 f4 e1 e3 e4 : Nat → Int32} {i : Nat} (h1 : f1 i = e1 i) (h3 : f3 i = e3 i) (h4 : f4 i = e4 i) : ∀ k : Nat, swN f1 f3 f4 k i = swN e1 e3 e4 k i
  | 0 => h3
  | k + 1 => swl_congr h1 (swN_congr h1 h3 h4 k) h4
end LWC
def dAdd (n : Nat) (d : Nat → Nat) : Nat → Nat := fun i => if i = n then 0 else d i
theorem dAdd_at (n : Nat) (d : Nat → Nat) : dAdd n d n = 0 := if_pos rfl
theorem dAdd_ne {n i : Nat} (d : Nat → Nat) (h : ¬ i = n) : dAdd n d i = d i := if_neg h
/-- what the class's state is to the reference's -/
def LI (n b : Nat) (r : Int32) (d : Nat → Nat) (f0 f1 f2 f3 f4 f5 f6 f7 f8 f9 f10 f11 f12 f13 bp bn m0 m1 m2 m3 m4 m5 m6 m7 : Nat → Int32) : Prop := n ≤ 16 ∧ b ≤ 16 ∧ (r = 0 ∨ r = 1) ∧ Dep n f0 f1 d ∧ Wat n f2 f4 ∧ Swl n f2 f5 ∧ Stl n f0 f3 f4 f6 r f7 f8 f9 f10 f11 f12 f13 ∧ (∀ i, zo (f2 i)) ∧ (∀ i, zo (f6 i)) ∧ (∀ i, zo (m1 i)) ∧ (∀ i, zo (m5 i)) ∧ Brg n b bp ∧ (∀ i, i < n → m0 i = f0 i ∧ m1 i = f2 i ∧ m3 i = f4 i ∧ m4 i = f5 i ∧ m5 i = f6 i ∧ (¬ f2 i = 0 → m2 i = f3 i)) ∧ (∀ i, i < b → m6 i = bp i ∧ m7 i = bn i) ∧ ∀ i, n ≤ i → f1 i = 0 ∧ f2 i = 0 ∧ f4 i = 0 ∧ f5 i = 0 ∧ f6 i = 0 ∧ m5 i = 0
section LWI
variable {n b : Nat} {r y : Int32} {d : Nat → Nat} {f0 f1 f2 f3 f4 f5 f6 f7 f8 f9 f10 f11 f12 f13 bp bn m0 m1 m2 m3 m4 m5 m6 m7 : Nat → Int32}
theorem LI.n16 (h : LI n b r d f0 f1 f2 f3 f4 f5 f6 f7 f8 f9 f10 f11 f12 f13 bp bn m0 m1 m2 m3 m4 m5 m6 m7) : n ≤ 16 := h.1
theorem LI.b16 (h : LI n b r d f0 f1 f2 f3 f4 f5 f6 f7 f8 f9 f10 f11 f12 f13 bp bn m0 m1 m2 m3 m4 m5 m6 m7) : b ≤ 16 := h.2.1
theorem LI.r01 (h : LI n b r d f0 f1 f2 f3 f4 f5 f6 f7 f8 f9 f10 f11 f12 f13 bp bn m0 m1 m2 m3 m4 m5 m6 m7) : r = 0 ∨ r = 1 := h.2.2.1
theorem LI.dep (h : LI n b r d f0 f1 f2 f3 f4 f5 f6 f7 f8 f9 f10 f11 f12 f13 bp bn m0 m1 m2 m3 m4 m5 m6 m7) : Dep n f0 f1 d := h.2.2.2.1
theorem LI.wat (h : LI n b r d f0 f1 f2 f3 f4 f5 f6 f7 f8 f9 f10 f11 f12 f13 bp bn m0 m1 m2 m3 m4 m5 m6 m7) : Wat n f2 f4 := h.2.2.2.2.1
theorem LI.swlI (h : LI n b r d f0 f1 f2 f3 f4 f5 f6 f7 f8 f9 f10 f11 f12 f13 bp bn m0 m1 m2 m3 m4 m5 m6 m7) : Swl n f2 f5 := h.2.2.2.2.2.1
theorem LI.stl (h : LI n b r d f0 f1 f2 f3 f4 f5 f6 f7 f8 f9 f10 f11 f12 f13 bp bn m0 m1 m2 m3 m4 m5 m6 m7) : Stl n f0 f3 f4 f6 r f7 f8 f9 f10 f11 f12 f13 := h.2.2.2.2.2.2.1
theorem LI.z2 (h : LI n b r d f0 f1 f2 f3 f4 f5 f6 f7 f8 f9 f10 f11 f12 f13 bp bn m0 m1 m2 m3 m4 m5 m6 m7) : ∀ i, zo (f2 i) := h.2.2.2.2.2.2.2.1
theorem LI.z6 (h : LI n b r d f0 f1 f2 f3 f4 f5 f6 f7 f8 f9 f10 f11 f12 f13 bp bn m0 m1 m2 m3 m4 m5 m6 m7) : ∀ i, zo (f6 i) := h.2.2.2.2.2.2.2.2.1
theorem LI.zm1 (h : LI n b r d f0 f1 f2 f3 f4 f5 f6 f7 f8 f9 f10 f11 f12 f13 bp bn m0 m1 m2 m3 m4 m5 m6 m7) : ∀ i, zo (m1 i) := h.2.2.2.2.2.2.2.2.2.1
theorem LI.zm5 (h : LI n b r d f0 f1 f2 f3 f4 f5 f6 f7 f8 f9 f10 f11 f12 f13 bp bn m0 m1 m2 m3 m4 m5 m6 m7) : ∀ i, zo (m5 i) := h.2.2.2.2.2.2.2.2.2.2.1
theorem LI.brg (h : LI n b r d f0 f1 f2 f3 f4 f5 f6 f7 f8 f9 f10 f11 f12 f13 bp bn m0 m1 m2 m3 m4 m5 m6 m7) : Brg n b bp := h.2.2.2.2.2.2.2.2.2.2.2.1
theorem LI.E (h : LI n b r d f0 f1 f2 f3 f4 f5 f6 f7 f8 f9 f10 f11 f12 f13 bp bn m0 m1 m2 m3 m4 m5 m6 m7) : ∀ i, i < n → m0 i = f0 i ∧ m1 i = f2 i ∧ m3 i = f4 i ∧ m4 i = f5 i ∧ m5 i = f6 i ∧ (¬ f2 i = 0 → m2 i = f3 i) := h.2.2.2.2.2.2.2.2.2.2.2.2.1
theorem LI.F (h : LI n b r d f0 f1 f2 f3 f4 f5 f6 f7 f8 f9 f10 f11 f12 f13 bp bn m0 m1 m2 m3 m4 m5 m6 m7) : ∀ i, i < b → m6 i = bp i ∧ m7 i = bn i := h.2.2.2.2.2.2.2.2.2.2.2.2.2.1
theorem LI.Z (h : LI n b r d f0 f1 f2 f3 f4 f5 f6 f7 f8 f9 f10 f11 f12 f13 bp bn m0 m1 m2 m3 m4 m5 m6 m7) : ∀ i, n ≤ i → f1 i = 0 ∧ f2 i = 0 ∧ f4 i = 0 ∧ f5 i = 0 ∧ f6 i = 0 ∧ m5 i = 0 := h.2.2.2.2.2.2.2.2.2.2.2.2.2.2
theorem LI.vw (h : LI n b r d f0 f1 f2 f3 f4 f5 f6 f7 f8 f9 f10 f11 f12 f13 bp bn m0 m1 m2 m3 m4 m5 m6 m7) : Vw n f0 := h.dep.vw
theorem LI.depM (h : LI n b r d f0 f1 f2 f3 f4 f5 f6 f7 f8 f9 f10 f11 f12 f13 bp bn m0 m1 m2 m3 m4 m5 m6 m7) : Dep n m0 f1 d := h.dep.congr (fun i hi => ⟨(h.E i hi).1, rfl⟩)
theorem LI.brgM (h : LI n b r d f0 f1 f2 f3 f4 f5 f6 f7 f8 f9 f10 f11 f12 f13 bp bn m0 m1 m2 m3 m4 m5 m6 m7) : Brg n b m6 := fun i hi => by rw [(h.F i hi).1]; exact h.brg i hi
theorem LI.e0 (h : LI n b r d f0 f1 f2 f3 f4 f5 f6 f7 f8 f9 f10 f11 f12 f13 bp bn m0 m1 m2 m3 m4 m5 m6 m7) : ∀ i, i < n → f0 i = m0 i := fun i hi => (h.E i hi).1.symm
theorem LI.nmX (h : LI n b r d f0 f1 f2 f3 f4 f5 f6 f7 f8 f9 f10 f11 f12 f13 bp bn m0 m1 m2 m3 m4 m5 m6 m7) {w w' dl dl' : Nat → Int32} {r' : Int32} (ew : ∀ i, i < n → w' i = w i) (ed : ∀ i, i < n → dl' i = dl i) : nmS n m0 m1 m2 w' dl' r' = nmS n f0 f2 f3 w dl r' := nmS_congr (fun i hi => ⟨(h.E i hi).1, (h.E i hi).2.1, ew i hi, ed i hi, (h.E i hi).2.2.2.2.2⟩)
theorem LI.nm (h : LI n b r d f0 f1 f2 f3 f4 f5 f6 f7 f8 f9 f10 f11 f12 f13 bp bn m0 m1 m2 m3 m4 m5 m6 m7) (r' : Int32) : nmS n m0 m1 m2 m3 m5 r' = nmS n f0 f2 f3 f4 f6 r' := h.nmX (fun i hi => (h.E i hi).2.2.1) (fun i hi => (h.E i hi).2.2.2.2.1)
theorem LI.solEq (h : LI n b r d f0 f1 f2 f3 f4 f5 f6 f7 f8 f9 f10 f11 f12 f13 bp bn m0 m1 m2 m3 m4 m5 m6 m7) : sol n m0 m1 m2 m3 m5 r = sol n f0 f2 f3 f4 f6 r := sol_congr (fun i hi => ⟨(h.E i hi).1, (h.E i hi).2.1, (h.E i hi).2.2.1, (h.E i hi).2.2.2.2.1, (h.E i hi).2.2.2.2.2⟩)
theorem LI.ms (h : LI n b r d f0 f1 f2 f3 f4 f5 f6 f7 f8 f9 f10 f11 f12 f13 bp bn m0 m1 m2 m3 m4 m5 m6 m7) : ∀ p, p < n → f7 p = (sol n m0 m1 m2 m3 m5 r).1 p ∧ f8 p = (sol n m0 m1 m2 m3 m5 r).2.1 p ∧ f9 p = (sol n m0 m1 m2 m3 m5 r).2.2 p := fun p hp => by
  rw [h.solEq]
  exact MA.sol h.dep h.n16 (Stl.MA h.dep h.n16 h.wat h.stl) p hp
-- GEN
theorem LI.n9 (h : LI n b r d f0 f1 f2 f3 f4 f5 f6 f7 f8 f9 f10 f11 f12 f13 bp bn m0 m1 m2 m3 m4 m5 m6 m7) {p : Nat} (hp : p < n) : f9 p = nmS n m0 m1 m2 m3 m5 r p := (h.ms p hp).2.2
theorem LI.vMouth (h : LI n b r d f0 f1 f2 f3 f4 f5 f6 f7 f8 f9 f10 f11 f12 f13 bp bn m0 m1 m2 m3 m4 m5 m6 m7) {p : Nat} (hp : p < n) : mo f0 16 p = mo m0 16 p := mo_congr h.e0 h.vw h.n16 16 p hp
theorem LI.vAbove (h : LI n b r d f0 f1 f2 f3 f4 f5 f6 f7 f8 f9 f10 f11 f12 f13 bp bn m0 m1 m2 m3 m4 m5 m6 m7) {p z : Nat} (hp : p < n) : fl f0 (nI z) 16 (f0 p) = fl m0 (nI z) 16 (m0 p) := by
  rw [← h.e0 p hp]
  exact fl_congr h.e0 h.vw h.n16 (nI z) 16 _ (h.vw p hp)
theorem LI.vAo (h : LI n b r d f0 f1 f2 f3 f4 f5 f6 f7 f8 f9 f10 f11 f12 f13 bp bn m0 m1 m2 m3 m4 m5 m6 m7) (p : Nat) : ao n f0 p = ao n m0 p := ao_congr h.e0 h.vw h.n16 p
theorem LI.vFc (h : LI n b r d f0 f1 f2 f3 f4 f5 f6 f7 f8 f9 f10 f11 f12 f13 bp bn m0 m1 m2 m3 m4 m5 m6 m7) {p z : Nat} (hp : p < n) (hz : z < n) : fc f0 z 16 (nI p) = fc m0 z 16 (nI p) := fc_congr h.e0 h.vw h.n16 hz 16 _ (Or.inr ⟨p, hp, rfl⟩)
theorem LI.vArg (h : LI n b r d f0 f1 f2 f3 f4 f5 f6 f7 f8 f9 f10 f11 f12 f13 bp bn m0 m1 m2 m3 m4 m5 m6 m7) {p : Nat} (hp : p < n) : f10 p = nI (agA m0 m1 m3 m5 (nmS n m0 m1 m2 m3 m5 r) p n) := by
  rw [Stl.arg h.wat h.stl hp, agA_congr (fun i hi => h.n9 hi), agA_dat h.e0 (h.E p hp).2.1.symm (h.E p hp).2.2.1.symm (h.E p hp).2.2.2.2.1.symm]
theorem LI.vDis (h : LI n b r d f0 f1 f2 f3 f4 f5 f6 f7 f8 f9 f10 f11 f12 f13 bp bn m0 m1 m2 m3 m4 m5 m6 m7) {p : Nat} (hp : p < n) : f11 p = zb (agD m0 m1 m2 m3 m5 (nmS n m0 m1 m2 m3 m5 r) p n) := by
  rw [Stl.dis h.dep h.n16 h.wat h.stl hp, agD_congr hp (fun i hi => h.n9 hi), agD_dat h.e0 (h.E p hp).2.1.symm (h.E p hp).2.2.1.symm (h.E p hp).2.2.2.2.1.symm (fun z => ((h.E p hp).2.2.2.2.2 z).symm)]
theorem LI.z11 (h : LI n b r d f0 f1 f2 f3 f4 f5 f6 f7 f8 f9 f10 f11 f12 f13 bp bn m0 m1 m2 m3 m4 m5 m6 m7) {p : Nat} (hp : p < n) : zo (f11 p) := by
  rw [h.vDis hp]; exact zo_zb _
theorem LI.vCnt (h : LI n b r d f0 f1 f2 f3 f4 f5 f6 f7 f8 f9 f10 f11 f12 f13 bp bn m0 m1 m2 m3 m4 m5 m6 m7) (x : Int32) : cnt f9 x n = cnt (nmS n m0 m1 m2 m3 m5 r) x n := cnt_congr x n (fun i hi => h.n9 hi)
theorem LI.vGst (h : LI n b r d f0 f1 f2 f3 f4 f5 f6 f7 f8 f9 f10 f11 f12 f13 bp bn m0 m1 m2 m3 m4 m5 m6 m7) (k : Nat) : gst f9 n k = gst (nmS n m0 m1 m2 m3 m5 r) n k := gst_congr (fun i hi => h.n9 hi) k
theorem LI.vIns (h : LI n b r d f0 f1 f2 f3 f4 f5 f6 f7 f8 f9 f10 f11 f12 f13 bp bn m0 m1 m2 m3 m4 m5 m6 m7) {i : Nat} (hi : i < b) : insd (bn i) (f9 (bp i).toNatClampNeg) = insd (m7 i) ((nmS n m0 m1 m2 m3 m5 r) (m6 i).toNatClampNeg) := by
  obtain ⟨q, hq, e⟩ := h.brg i hi
  have hn := h.n16
  rw [(h.F i hi).1, (h.F i hi).2, e, nI_clamp (by omega), h.n9 hq]
theorem LI.vInN (h : LI n b r d f0 f1 f2 f3 f4 f5 f6 f7 f8 f9 f10 f11 f12 f13 bp bn m0 m1 m2 m3 m4 m5 m6 m7)  : inN bp bn f9 b = inN m6 m7 (nmS n m0 m1 m2 m3 m5 r) b := cnb_congr b (fun i hi => h.vIns hi)
theorem LI.vInP (h : LI n b r d f0 f1 f2 f3 f4 f5 f6 f7 f8 f9 f10 f11 f12 f13 bp bn m0 m1 m2 m3 m4 m5 m6 m7) (p : Nat) : inP bp bn f9 p b = inP m6 m7 (nmS n m0 m1 m2 m3 m5 r) p b := cnb_congr b (fun i hi => by
  show (decide (bp i = nI p) && insd (bn i) (f9 (bp i).toNatClampNeg)) = (decide (m6 i = nI p) && insd (m7 i) ((nmS n m0 m1 m2 m3 m5 r) (m6 i).toNatClampNeg))
  rw [h.vIns hi, (h.F i hi).1])
theorem LI.swnE (h : LI n b r d f0 f1 f2 f3 f4 f5 f6 f7 f8 f9 f10 f11 f12 f13 bp bn m0 m1 m2 m3 m4 m5 m6 m7) (k : Nat) : ∀ i, i < n → swN m1 m3 m4 k i = swN f2 f4 f5 k i := fun i hi => swN_congr (h.E i hi).2.1 (h.E i hi).2.2.1 (h.E i hi).2.2.2.1 k
theorem LI.nmY (h : LI n b r d f0 f1 f2 f3 f4 f5 f6 f7 f8 f9 f10 f11 f12 f13 bp bn m0 m1 m2 m3 m4 m5 m6 m7) (k : Nat) : nmS n m0 m1 m2 (swN m1 m3 m4 k) m5 r = nmS n f0 f2 f3 (swN f2 f4 f5 k) f6 r := h.nmX (h.swnE k) (fun i hi => (h.E i hi).2.2.2.2.1)
theorem LI.vUtl (h : LI n b r d f0 f1 f2 f3 f4 f5 f6 f7 f8 f9 f10 f11 f12 f13 bp bn m0 m1 m2 m3 m4 m5 m6 m7) (p : Nat) : utl (anY n f0 f2 f3 f4 f5 f6 r p) 50 = utl (anY n m0 m1 m2 m3 m4 m5 r p) 50 := utl_congr 50 (fun k _ => by unfold anY; rw [h.nmY k, h.nm r])
theorem LI.vDel (h : LI n b r d f0 f1 f2 f3 f4 f5 f6 f7 f8 f9 f10 f11 f12 f13 bp bn m0 m1 m2 m3 m4 m5 m6 m7) {p : Nat} (hp : p < n) : cne (nmS n f0 f2 f3 f4 (upd f6 p (tg (f6 p))) r) (nmS n f0 f2 f3 f4 f6 r) n = cne (nmS n m0 m1 m2 m3 (upd m5 p (tg (m5 p))) r) (nmS n m0 m1 m2 m3 m5 r) n := by
  have e1 : nmS n m0 m1 m2 m3 (upd m5 p (tg (m5 p))) r = nmS n f0 f2 f3 f4 (upd f6 p (tg (f6 p))) r := h.nmX (fun i hi => (h.E i hi).2.2.1) (fun i hi => by
    unfold upd
    rw [(h.E p hp).2.2.2.2.1]
    split
    · rfl
    · exact (h.E i hi).2.2.2.2.1)
  rw [e1, h.nm r]
theorem LI.vDry (h : LI n b r d f0 f1 f2 f3 f4 f5 f6 f7 f8 f9 f10 f11 f12 f13 bp bn m0 m1 m2 m3 m4 m5 m6 m7) (p : Nat) : dry n f0 f2 f3 f4 f6 r p = dry n m0 m1 m2 m3 m5 r p := by
  have e1 : nmS n m0 m1 m2 (upd m3 p 0) m5 r = nmS n f0 f2 f3 (upd f4 p 0) f6 r := h.nmX (fun i hi => by
    unfold upd
    split
    · rfl
    · exact (h.E i hi).2.2.1) (fun i hi => (h.E i hi).2.2.2.2.1)
  unfold dry
  rw [e1, h.nm r]
theorem LI.vWst (h : LI n b r d f0 f1 f2 f3 f4 f5 f6 f7 f8 f9 f10 f11 f12 f13 bp bn m0 m1 m2 m3 m4 m5 m6 m7)  : (wst (sprg f2 f4) (dry n f0 f2 f3 f4 f6 r) n).1 = (wst (sprg m1 m3) (dry n m0 m1 m2 m3 m5 r) n).1 := congrArg Prod.fst (wst_congr n (fun p hp => ⟨sprg_congr (h.E p hp).2.1.symm (h.E p hp).2.2.1.symm, h.vDry p⟩))
theorem LI.vRul (h : LI n b r d f0 f1 f2 f3 f4 f5 f6 f7 f8 f9 f10 f11 f12 f13 bp bn m0 m1 m2 m3 m4 m5 m6 m7)  : cne (nmS n f0 f2 f3 f4 f6 (1 - r)) (nmS n f0 f2 f3 f4 f6 r) n = cne (nmS n m0 m1 m2 m3 m5 (1 - r)) (nmS n m0 m1 m2 m3 m5 r) n := by rw [h.nm (1 - r), h.nm r]
theorem LI.vMean (h : LI n b r d f0 f1 f2 f3 f4 f5 f6 f7 f8 f9 f10 f11 f12 f13 bp bn m0 m1 m2 m3 m4 m5 m6 m7)  : mmV f0 f7 n = mmV m0 (sol n m0 m1 m2 m3 m5 r).1 n := mmV_congr (fun i hi => ⟨h.e0 i hi, (h.ms i hi).1⟩)
theorem LI.vDig (h : LI n b r d f0 f1 f2 f3 f4 f5 f6 f7 f8 f9 f10 f11 f12 f13 bp bn m0 m1 m2 m3 m4 m5 m6 m7) (y : Int32) : fdP (brR bp bn f9) b (fdP (plR n f0 f2 f4 f7 f8 f9 f10 f11) n (dg8 y (nI n) (nI b) (nI (inN bp bn f9 b)) (gst f9 n 10) (nI (cnt f9 (-1) n)) ((wst (sprg f2 f4) (dry n f0 f2 f3 f4 f6 r) n).1) (nI (cne (nmS n f0 f2 f3 f4 f6 (1 - r)) (nmS n f0 f2 f3 f4 f6 r) n)))) = dgM n b m0 m1 m2 m3 m5 m6 m7 r y := by
  unfold dgM
  rw [h.vInN, h.vGst 10, h.vCnt (-1), h.vWst, h.vRul]
  rw [fdP_congr _ n (fun i hi x => plR_congr (w' := m0) (has' := m1) (spr' := m3) (wat' := (sol n m0 m1 m2 m3 m5 r).1) (len' := (sol n m0 m1 m2 m3 m5 r).2.1) (nm' := nmS n m0 m1 m2 m3 m5 r) (ag' := fun p => nI (agA m0 m1 m3 m5 (nmS n m0 m1 m2 m3 m5 r) p n)) (ar' := fun p => zb (agD m0 m1 m2 m3 m5 (nmS n m0 m1 m2 m3 m5 r) p n)) (h.vMouth hi) (h.vAo i) (h.e0 i hi) (h.E i hi).2.1.symm (h.E i hi).2.2.1.symm (h.ms i hi).1 (h.ms i hi).2.1 (h.n9 hi) (h.vArg hi) (h.vDis hi))]
  exact fdP_congr _ b (fun i hi x => by
    obtain ⟨q, hq, e⟩ := h.brg i hi
    have hn := h.n16
    exact brR_congr (h.F i hi).1.symm (h.F i hi).2.symm (by rw [(h.F i hi).1, e, nI_clamp (by omega)]; exact h.n9 hq))
theorem LI.depAdd (h : LI n b r d f0 f1 f2 f3 f4 f5 f6 f7 f8 f9 f10 f11 f12 f13 bp bn m0 m1 m2 m3 m4 m5 m6 m7)  : Dep (n + 1) (upd f0 n (-1)) f1 (dAdd n d) := fun p hp => by
  by_cases e : p = n
  · subst e
    refine ⟨by rw [dAdd_at]; omega, by rw [dAdd_at]; exact (h.Z p (Nat.le_refl _)).1, Or.inl ⟨upd_at _ _ _, dAdd_at _ _⟩⟩
  · have hp1 : p < n := by omega
    obtain ⟨a1, a2, a3⟩ := h.dep p hp1
    refine ⟨by rw [dAdd_ne _ e]; omega, by rw [dAdd_ne _ e]; exact a2, ?_⟩
    rcases a3 with ⟨b1, b2⟩ | ⟨q, b1, b2, b3⟩
    · exact Or.inl ⟨(upd_ne _ _ _ e).trans b1, (dAdd_ne _ e).trans b2⟩
    · exact Or.inr ⟨q, by omega, (upd_ne _ _ _ e).trans b2, by rw [dAdd_ne _ e, dAdd_ne _ (show ¬ q = n by omega)]; exact b3⟩
theorem LI.addPlace (h : LI n b r d f0 f1 f2 f3 f4 f5 f6 f7 f8 f9 f10 f11 f12 f13 bp bn m0 m1 m2 m3 m4 m5 m6 m7) {v7 v8 v9 v10 v11 v12 v13 : Nat → Int32} (hs : Stl (n + 1) (upd f0 n (-1)) f3 f4 f6 r v7 v8 v9 v10 v11 v12 v13) (h16 : n < 16) : LI (n + 1) b r (dAdd n d) (upd f0 n (-1)) f1 f2 f3 f4 f5 f6 v7 v8 v9 v10 v11 v12 v13 bp bn (upd m0 n (-1)) (upd m1 n 0) (upd m2 n (-1)) (upd m3 n 0) (upd m4 n 0) m5 m6 m7 := by
  have hz := h.Z n (Nat.le_refl _)
  refine ⟨by omega, h.b16, h.r01, h.depAdd, fun p hp => ?_, fun p hp => ?_, hs, h.z2, h.z6, fun i => ?_, h.zm5, fun i hi => ?_, fun i hi => ?_, h.F, fun i hi => h.Z i (by omega)⟩
  · by_cases e : p = n
    · subst e; exact ⟨fun _ => hz.2.2.1, 0, by omega, hz.2.2.1⟩
    · exact h.wat p (by omega)
  · by_cases e : p = n
    · subst e; exact ⟨fun _ => hz.2.2.2.1, by rw [hz.2.2.2.1]; decide, by rw [hz.2.2.2.1]; decide⟩
    · exact h.swlI p (by omega)
  · by_cases e : i = n
    · subst e; rw [upd_at]; exact zo_0
    · rw [upd_ne _ _ _ e]; exact h.zm1 i
  · obtain ⟨q, hq, e⟩ := h.brg i hi
    exact ⟨q, by omega, e⟩
  · by_cases e : i = n
    · subst e
      refine ⟨by rw [upd_at, upd_at], by rw [upd_at]; exact hz.2.1.symm, by rw [upd_at]; exact hz.2.2.1.symm, by rw [upd_at]; exact hz.2.2.2.1.symm, hz.2.2.2.2.2.trans hz.2.2.2.2.1.symm, fun z => absurd hz.2.1 z⟩
    · rw [upd_ne _ _ _ e, upd_ne _ _ _ e, upd_ne _ _ _ e, upd_ne _ _ _ e, upd_ne _ _ _ e, upd_ne _ _ _ e]
      exact h.E i (by omega)
theorem LI.addSpring (h : LI n b r d f0 f1 f2 f3 f4 f5 f6 f7 f8 f9 f10 f11 f12 f13 bp bn m0 m1 m2 m3 m4 m5 m6 m7) {v7 v8 v9 v10 v11 v12 v13 : Nat → Int32} {nm wa sw : Int32} (hs : Stl (n + 1) (upd f0 n (-1)) (upd f3 n nm) (upd f4 n wa) f6 r v7 v8 v9 v10 v11 v12 v13) (h16 : n < 16) (hwa : isI wa 0 99 = true) (hsw : isI sw (-9) 9 = true) : LI (n + 1) b r (dAdd n d) (upd f0 n (-1)) f1 (upd f2 n 1) (upd f3 n nm) (upd f4 n wa) (upd f5 n sw) f6 v7 v8 v9 v10 v11 v12 v13 bp bn (upd m0 n (-1)) (upd m1 n 1) (upd m2 n nm) (upd m3 n wa) (upd m4 n sw) m5 m6 m7 := by
  have hz := h.Z n (Nat.le_refl _)
  obtain ⟨a, ha, hae⟩ := isI_true (hi := 99) (by omega) hwa
  have hsw1 : -9 ≤ sw.toInt ∧ sw.toInt ≤ 9 := by
    simp only [isI, Bool.and_eq_true, Bool.not_eq_true', decide_eq_false_iff_not, Int32.lt_iff_toInt_lt] at hsw
    have e1 : (-9 : Int32).toInt = -9 := by decide
    have e2 : (9 : Int32).toInt = 9 := by decide
    rw [e1, e2] at hsw
    omega
  refine ⟨by omega, h.b16, h.r01, h.depAdd, fun p hp => ?_, fun p hp => ?_, hs, fun i => ?_, h.z6, fun i => ?_, h.zm5, fun i hi => ?_, fun i hi => ?_, h.F, fun i hi => ?_⟩
  · by_cases e : p = n
    · subst e; rw [upd_at, upd_at]; exact ⟨fun z => absurd z (by decide), a, ha, hae⟩
    · rw [upd_ne _ _ _ e, upd_ne _ _ _ e]; exact h.wat p (by omega)
  · by_cases e : p = n
    · subst e; rw [upd_at, upd_at]; exact ⟨fun z => absurd z (by decide), hsw1⟩
    · rw [upd_ne _ _ _ e, upd_ne _ _ _ e]; exact h.swlI p (by omega)
  · by_cases e : i = n
    · subst e; rw [upd_at]; exact zo_1
    · rw [upd_ne _ _ _ e]; exact h.z2 i
  · by_cases e : i = n
    · subst e; rw [upd_at]; exact zo_1
    · rw [upd_ne _ _ _ e]; exact h.zm1 i
  · obtain ⟨q, hq, e⟩ := h.brg i hi
    exact ⟨q, by omega, e⟩
  · by_cases e : i = n
    · subst e
      simp only [upd_at]
      exact ⟨trivial, trivial, trivial, trivial, hz.2.2.2.2.2.trans hz.2.2.2.2.1.symm, fun _ => trivial⟩
    · simp only [upd_ne _ _ _ e]
      exact h.E i (by omega)
  · have e : ¬ i = n := by omega
    simp only [upd_ne _ _ _ e]
    exact h.Z i (by omega)
theorem LI.turn (h : LI n b r d f0 f1 f2 f3 f4 f5 f6 f7 f8 f9 f10 f11 f12 f13 bp bn m0 m1 m2 m3 m4 m5 m6 m7) {v7 v8 v9 v10 v11 v12 v13 : Nat → Int32} {p : Nat} (hp : p < n) (hs : Stl n f0 f3 f4 (upd f6 p (tg (f6 p))) r v7 v8 v9 v10 v11 v12 v13) : LI n b r d f0 f1 f2 f3 f4 f5 (upd f6 p (tg (f6 p))) v7 v8 v9 v10 v11 v12 v13 bp bn m0 m1 m2 m3 m4 (upd m5 p (tg (m5 p))) m6 m7 := by
  refine ⟨h.n16, h.b16, h.r01, h.dep, h.wat, h.swlI, hs, h.z2, fun i => ?_, h.zm1, fun i => ?_, h.brg, fun i hi => ?_, h.F, fun i hi => ?_⟩
  · unfold upd; split
    · exact zo_tg _
    · exact h.z6 i
  · unfold upd; split
    · exact zo_tg _
    · exact h.zm5 i
  · have e := h.E i hi
    refine ⟨e.1, e.2.1, e.2.2.1, e.2.2.2.1, ?_, e.2.2.2.2.2⟩
    unfold upd
    rw [(h.E p hp).2.2.2.2.1]
    split
    · rfl
    · exact e.2.2.2.2.1
  · have e : ¬ i = p := by omega
    rw [upd_ne _ _ _ e, upd_ne _ _ _ e]
    exact h.Z i hi
theorem LI.rule (h : LI n b r d f0 f1 f2 f3 f4 f5 f6 f7 f8 f9 f10 f11 f12 f13 bp bn m0 m1 m2 m3 m4 m5 m6 m7) {v7 v8 v9 v10 v11 v12 v13 : Nat → Int32} {ru : Int32} (hr : isI ru 0 1 = true) (hs : Stl n f0 f3 f4 f6 ru v7 v8 v9 v10 v11 v12 v13) : LI n b ru d f0 f1 f2 f3 f4 f5 f6 v7 v8 v9 v10 v11 v12 v13 bp bn m0 m1 m2 m3 m4 m5 m6 m7 := by
  refine ⟨h.n16, h.b16, ?_, h.dep, h.wat, h.swlI, hs, h.z2, h.z6, h.zm1, h.zm5, h.brg, h.E, h.F, h.Z⟩
  obtain ⟨a, ha, e⟩ := isI_true (hi := 1) (by omega) hr
  have ha2 : a = 0 ∨ a = 1 := by omega
  rcases ha2 with z | z
  · subst z; exact Or.inl e
  · subst z; exact Or.inr e
theorem LI.build (h : LI n b r d f0 f1 f2 f3 f4 f5 f6 f7 f8 f9 f10 f11 f12 f13 bp bn m0 m1 m2 m3 m4 m5 m6 m7) {p : Nat} (hp : p < n) (hb : b < 16) : LI n (b + 1) r d f0 f1 f2 f3 f4 f5 f6 f7 f8 f9 f10 f11 f12 f13 (upd bp b (nI p)) (upd bn b (f9 p)) m0 m1 m2 m3 m4 m5 (upd m6 b (nI p)) (upd m7 b (nmS n m0 m1 m2 m3 m5 r p)) := by
  refine ⟨h.n16, by omega, h.r01, h.dep, h.wat, h.swlI, h.stl, h.z2, h.z6, h.zm1, h.zm5, fun i hi => ?_, h.E, fun i hi => ?_, h.Z⟩
  · by_cases e : i = b
    · subst e; exact ⟨p, hp, upd_at _ _ _⟩
    · rw [upd_ne _ _ _ e]; exact h.brg i (by omega)
  · by_cases e : i = b
    · subst e
      rw [upd_at, upd_at, upd_at, upd_at]
      exact ⟨rfl, (h.n9 hp).symm⟩
    · rw [upd_ne _ _ _ e, upd_ne _ _ _ e, upd_ne _ _ _ e, upd_ne _ _ _ e]
      exact h.F i (by omega)
theorem LI.keep3 (h : LI n b r d f0 f1 f2 f3 f4 f5 f6 f7 f8 f9 f10 f11 f12 f13 bp bn m0 m1 m2 m3 m4 m5 m6 m7) {g3 : Nat → Int32} (hg : ∀ i, i < 16 → g3 i = m3 i) : LI n b r d f0 f1 f2 f3 f4 f5 f6 f7 f8 f9 f10 f11 f12 f13 bp bn m0 m1 m2 g3 m4 m5 m6 m7 := ⟨h.n16, h.b16, h.r01, h.dep, h.wat, h.swlI, h.stl, h.z2, h.z6, h.zm1, h.zm5, h.brg, fun i hi => (by
  have e := h.E i hi
  have hn := h.n16
  exact ⟨e.1, e.2.1, (hg i (by omega)).trans e.2.2.1, e.2.2.2.1, e.2.2.2.2.1, e.2.2.2.2.2⟩), h.F, h.Z⟩
theorem LI.pass (h : LI n b r d f0 f1 f2 f3 f4 f5 f6 f7 f8 f9 f10 f11 f12 f13 bp bn m0 m1 m2 m3 m4 m5 m6 m7) {v4 g3 : Nat → Int32} {v7 v8 v9 v10 v11 v12 v13 : Nat → Int32} {k : Nat} (hk : k ≤ 50) (e4 : ∀ i, i < n → v4 i = clamp (f4 i + nI k * f5 i)) (o4 : ∀ i, n ≤ i → v4 i = f4 i) (e3 : ∀ i, i < n → g3 i = swN m1 m3 m4 k i) (hs : Stl n f0 f3 v4 f6 r v7 v8 v9 v10 v11 v12 v13) : LI n b r d f0 f1 f2 f3 v4 f5 f6 v7 v8 v9 v10 v11 v12 v13 bp bn m0 m1 m2 g3 m4 m5 m6 m7 := by
  have hv : ∀ i, i < n → v4 i = swN f2 f4 f5 k i := fun i hi => (e4 i hi).trans (sw_iter h.wat h.swlI hk hi)
  refine ⟨h.n16, h.b16, h.r01, h.dep, (swN_wat h.wat k).congr (fun i hi => ⟨rfl, hv i hi⟩), h.swlI, hs, h.z2, h.z6, h.zm1, h.zm5, h.brg, fun i hi => ?_, h.F, fun i hi => ?_⟩
  · have e := h.E i hi
    exact ⟨e.1, e.2.1, by rw [e3 i hi, hv i hi]; exact h.swnE k i hi, e.2.2.2.1, e.2.2.2.2.1, e.2.2.2.2.2⟩
  · have z := h.Z i hi
    exact ⟨z.1, z.2.1, (o4 i hi).trans z.2.2.1, z.2.2.2.1, z.2.2.2.2.1, z.2.2.2.2.2⟩
theorem LI.vPass (h : LI n b r d f0 f1 f2 f3 f4 f5 f6 f7 f8 f9 f10 f11 f12 f13 bp bn m0 m1 m2 m3 m4 m5 m6 m7) {v4 : Nat → Int32} {v7 v8 v9 v10 v11 v12 v13 : Nat → Int32} {k : Nat} (hk : k ≤ 50) (e4 : ∀ i, i < n → v4 i = clamp (f4 i + nI k * f5 i)) (hs : Stl n f0 f3 v4 f6 r v7 v8 v9 v10 v11 v12 v13) : inN bp bn v9 b = inN m6 m7 (nmS n m0 m1 m2 (swN m1 m3 m4 k) m5 r) b := by
  have hv : ∀ i, i < n → v4 i = swN f2 f4 f5 k i := fun i hi => (e4 i hi).trans (sw_iter h.wat h.swlI hk hi)
  have hw : Wat n f2 v4 := (swN_wat h.wat k).congr (fun i hi => ⟨rfl, hv i hi⟩)
  have h9 : ∀ p, p < n → v9 p = nmS n m0 m1 m2 (swN m1 m3 m4 k) m5 r p := fun p hp => by
    rw [h.nmX (w := v4) (dl := f6) (fun i hi => (h.swnE k i hi).trans (hv i hi).symm) (fun i hi => (h.E i hi).2.2.2.2.1)]
    exact (MA.sol h.dep h.n16 (Stl.MA h.dep h.n16 hw hs) p hp).2.2
  refine cnb_congr b (fun i hi => ?_)
  obtain ⟨q, hq, e⟩ := h.brg i hi
  have hn := h.n16
  show insd (bn i) (v9 (bp i).toNatClampNeg) = insd (m7 i) ((nmS n m0 m1 m2 (swN m1 m3 m4 k) m5 r) (m6 i).toNatClampNeg)
  rw [(h.F i hi).1, (h.F i hi).2, e, nI_clamp (by omega), h9 q hq]
end LWI
