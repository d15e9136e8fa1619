/-! ===== the land by hand: what its cells hold ===== -/
def r6 (a b c d e f : Int32) : Nat → Int32
  | 0 => a
  | 1 => b
  | 2 => c
  | 3 => d
  | 4 => e
  | 5 => f
  | _ => 0
def r2 (a b : Int32) : Nat → Int32
  | 0 => a
  | 1 => b
  | _ => 0
abbrev rP (m0 m1 m2 m3 m4 m5 : Nat → Int32) (i : Nat) : Nat → Int32 := r6 (m0 i) (m1 i) (m2 i) (m3 i) (m4 i) (m5 i)
abbrev rB (m6 m7 : Nat → Int32) (i : Nat) : Nat → Int32 := r2 (m6 i) (m7 i)
def sR (cI : ClassId) (k : Nat) (a : Nat → Nat) (F : Nat → Nat → Int32) (n : Nat) : va_W := (List.range n).map (fun i => (a i, .inl (cI, k, .inl (F i))))
theorem sR_len (cI : ClassId) (k : Nat) (a : Nat → Nat) (F : Nat → Nat → Int32) (n : Nat) : (sR cI k a F n).length = n := by simp [sR]
theorem sR_at {cI : ClassId} {k : Nat} {a : Nat → Nat} {F : Nat → Nat → Int32} {n i : Nat} (h : i < n) : (sR cI k a F n)[i]? = some (a i, .inl (cI, k, .inl (F i))) := by
  simp [sR, h]
theorem zr_p0 {cI : ClassId} {k : Nat} {a : Nat → Nat} {F : Nat → Nat → Int32} {n i : Nat} {Y : va_W} (h : i < n) : (sR cI k a F n ++ Y)[i]? = some (a i, .inl (cI, k, .inl (F i))) := by
  rw [List.getElem?_append_left (by rw [sR_len]; exact h)]
  exact sR_at h
theorem zr_p1 {cI : ClassId} {k k2 : Nat} {a a2 : Nat → Nat} {F F2 : Nat → Nat → Int32} {n n2 i : Nat} {Y : va_W} (h : i < n2) : (sR cI k a F n ++ (sR cI k2 a2 F2 n2 ++ Y))[i + n]? = some (a2 i, .inl (cI, k2, .inl (F2 i))) := by
  rw [List.getElem?_append_right (by rw [sR_len]; omega), sR_len, Nat.add_sub_cancel]
  exact zr_p0 h
theorem zr_q1 {cI : ClassId} {k k2 : Nat} {a a2 : Nat → Nat} {F F2 : Nat → Nat → Int32} {n n2 i : Nat} (h : i < n2) : (sR cI k a F n ++ sR cI k2 a2 F2 n2)[i + n]? = some (a2 i, .inl (cI, k2, .inl (F2 i))) := by
  rw [List.getElem?_append_right (by rw [sR_len]; omega), sR_len, Nat.add_sub_cancel]
  exact sR_at h
theorem sR_set {cI : ClassId} {k : Nat} {a : Nat → Nat} {F G : Nat → Nat → Int32} {n i : Nat} {g : Nat → Int32} (h : i < n) (hi : G i = g) (ho : ∀ j, j < n → ¬ j = i → G j = F j) : (sR cI k a F n).set i (a i, .inl (cI, k, .inl g)) = sR cI k a G n := by
  apply List.ext_getElem?
  intro j
  by_cases hj : j < n
  · by_cases e : j = i
    · subst e
      rw [List.getElem?_set_self (by rw [sR_len]; exact hj), sR_at hj, hi]
    · rw [List.getElem?_set_ne (Ne.symm e), sR_at hj, sR_at hj, ho j hj e]
  · rw [List.getElem?_eq_none (by rw [List.length_set, sR_len]; omega), List.getElem?_eq_none (by rw [sR_len]; omega)]
theorem zr_set0 {cI : ClassId} {k : Nat} {a : Nat → Nat} {F G : Nat → Nat → Int32} {n i : Nat} {g : Nat → Int32} {Y : va_W} (h : i < n) (hi : G i = g) (ho : ∀ j, j < n → ¬ j = i → G j = F j) : (sR cI k a F n ++ Y).set i (a i, .inl (cI, k, .inl g)) = sR cI k a G n ++ Y := by
  rw [List.set_append_left _ _ (by rw [sR_len]; exact h), sR_set h hi ho]
theorem sR_congr {cI : ClassId} {k : Nat} {a a' : Nat → Nat} {F G : Nat → Nat → Int32} {n : Nat} (h : ∀ j, j < n → a' j = a j ∧ G j = F j) : sR cI k a' G n = sR cI k a F n := by
  apply List.ext_getElem?
  intro j
  by_cases hj : j < n
  · rw [sR_at hj, sR_at hj, (h j hj).1, (h j hj).2]
  · rw [List.getElem?_eq_none (by rw [sR_len]; omega), List.getElem?_eq_none (by rw [sR_len]; omega)]
theorem sR_succ {cI : ClassId} {k : Nat} {a : Nat → Nat} {F : Nat → Nat → Int32} {n : Nat} : sR cI k a F (n + 1) = sR cI k a F n ++ [(a n, .inl (cI, k, .inl (F n)))] := by
  simp [sR, List.range_succ]
abbrev cS (cI cA : ClassId) (s : Nat → Nat) (r y : Int32) (n b : Nat) (pa da : Nat → Nat) (m0 m1 m2 m3 m4 m5 m6 m7 : Nat → Int32) : va_W := (s 0, .inr (2, [.int r, .int y, .ref (s 1), .ref (s 2)])) :: (s 1, .inl (cA, n, aq pa)) :: (s 2, .inl (cA, b, aq da)) :: (sR cI 6 pa (rP m0 m1 m2 m3 m4 m5) n ++ sR cI 2 da (rB m6 m7) b)
/-! ===== what holds of it ===== -/
def LV (n b : Nat) (r : Int32) (m0 m1 m2 m3 m4 m5 m6 m7 : Nat → Int32) : Prop := (∃ (d : Nat → Nat) (f0 f1 f2 f3 f4 f5 f6 f7 f8 f9 f10 f11 f12 f13 bp bn : Nat → Int32), LI n b r d f0 f1 f2 f3 f4 f5 f6 f7 f8 f9 f10 f11 f12 f13 bp bn m0 m1 m2 m3 m4 m5 m6 m7) ∧ (∀ i, i < n → ¬ m1 i = 0 → ∃ a, a ≤ 9 ∧ m2 i = nI a) ∧ ∀ i, i < b → m7 i = -1 ∨ ∃ a, a ≤ 9 ∧ m7 i = nI a
section SV
variable {n b : Nat} {r : Int32} {m0 m1 m2 m3 m4 m5 m6 m7 : Nat → Int32}
theorem LV.n16 (h : LV n b r m0 m1 m2 m3 m4 m5 m6 m7) : n ≤ 16 := by
  obtain ⟨⟨d, f0, f1, f2, f3, f4, f5, f6, f7, f8, f9, f10, f11, f12, f13, bp, bn, h⟩, -, -⟩ := h
  exact h.n16
theorem LV.b16 (h : LV n b r m0 m1 m2 m3 m4 m5 m6 m7) : b ≤ 16 := by
  obtain ⟨⟨d, f0, f1, f2, f3, f4, f5, f6, f7, f8, f9, f10, f11, f12, f13, bp, bn, h⟩, -, -⟩ := h
  exact h.b16
theorem LV.r01 (h : LV n b r m0 m1 m2 m3 m4 m5 m6 m7) : r = 0 ∨ r = 1 := by
  obtain ⟨⟨d, f0, f1, f2, f3, f4, f5, f6, f7, f8, f9, f10, f11, f12, f13, bp, bn, h⟩, -, -⟩ := h
  exact h.r01
theorem LV.zm1 (h : LV n b r m0 m1 m2 m3 m4 m5 m6 m7) (i : Nat) : zo (m1 i) := by
  obtain ⟨⟨d, f0, f1, f2, f3, f4, f5, f6, f7, f8, f9, f10, f11, f12, f13, bp, bn, h⟩, -, -⟩ := h
  exact h.zm1 i
theorem LV.zm5 (h : LV n b r m0 m1 m2 m3 m4 m5 m6 m7) (i : Nat) : zo (m5 i) := by
  obtain ⟨⟨d, f0, f1, f2, f3, f4, f5, f6, f7, f8, f9, f10, f11, f12, f13, bp, bn, h⟩, -, -⟩ := h
  exact h.zm5 i
theorem LV.brg (h : LV n b r m0 m1 m2 m3 m4 m5 m6 m7) : Brg n b m6 := by
  obtain ⟨⟨d, f0, f1, f2, f3, f4, f5, f6, f7, f8, f9, f10, f11, f12, f13, bp, bn, h⟩, -, -⟩ := h
  exact h.brgM
theorem LV.dep (h : LV n b r m0 m1 m2 m3 m4 m5 m6 m7) : ∃ (d : Nat → Nat) (s : Nat → Int32), Dep n m0 s d := by
  obtain ⟨⟨d, f0, f1, f2, f3, f4, f5, f6, f7, f8, f9, f10, f11, f12, f13, bp, bn, h⟩, -, -⟩ := h
  exact ⟨d, f1, h.depM⟩
theorem LV.wat (h : LV n b r m0 m1 m2 m3 m4 m5 m6 m7) : Wat n m1 m3 := by
  obtain ⟨⟨d, f0, f1, f2, f3, f4, f5, f6, f7, f8, f9, f10, f11, f12, f13, bp, bn, h⟩, -, -⟩ := h
  exact h.wat.congr (fun i hi => ⟨(h.E i hi).2.1, (h.E i hi).2.2.1⟩)
theorem LV.swl (h : LV n b r m0 m1 m2 m3 m4 m5 m6 m7) : Swl n m1 m4 := by
  obtain ⟨⟨d, f0, f1, f2, f3, f4, f5, f6, f7, f8, f9, f10, f11, f12, f13, bp, bn, h⟩, -, -⟩ := h
  intro i hi
  rw [(h.E i hi).2.1, (h.E i hi).2.2.2.1]
  exact h.swlI i hi
theorem LV.ma (h : LV n b r m0 m1 m2 m3 m4 m5 m6 m7) {p : Nat} (hp : p < n) : MA n m0 m1 m2 m3 m5 r (sol n m0 m1 m2 m3 m5 r).1 (sol n m0 m1 m2 m3 m5 r).2.1 (nmS n m0 m1 m2 m3 m5 r) p := by
  obtain ⟨⟨d, f0, f1, f2, f3, f4, f5, f6, f7, f8, f9, f10, f11, f12, f13, bp, bn, h⟩, -, -⟩ := h
  have h1 := Stl.MA h.dep h.n16 h.wat h.stl
  have hx : ∃ g : (Nat → Int32) × (Nat → Int32) × (Nat → Int32), ∀ p, p < n → MA n f0 f2 f3 f4 f6 r g.1 g.2.1 g.2.2 p := ⟨(f7, f8, f9), h1⟩
  have h2 := Classical.epsilon_spec hx
  have e : sol n m0 m1 m2 m3 m5 r = sol n f0 f2 f3 f4 f6 r := sol_congr (fun i hi => by
    have z := h.E i hi
    exact ⟨z.1, z.2.1, z.2.2.1, z.2.2.2.2.1, fun q => z.2.2.2.2.2 q⟩)
  have hx' : ∃ g : (Nat → Int32) × (Nat → Int32) × (Nat → Int32), ∀ p, p < n → MA n m0 m1 m2 m3 m5 r g.1 g.2.1 g.2.2 p := by
    refine ⟨(f7, f8, f9), fun p hp => ?_⟩
    have z := h1 p hp
    unfold MA nmd at z ⊢
    rw [mW_dat (w := m0) (w' := f0) n (fun j hj => (h.E j hj).1), mL_dat (w := m0) (w' := f0) n (fun j hj => (h.E j hj).1), mN_dat (f1 := m1) (e1 := f2) (f3 := m3) (e3 := f4) (h.E p hp).2.1 (h.E p hp).2.2.1 (fun q => (h.E p hp).2.2.2.2.2 q) n (fun j hj => (h.E j hj).1)]
    simp only [mB, sprg, (h.E p hp).2.1, (h.E p hp).2.2.1, (h.E p hp).2.2.2.2.1] at z ⊢
    exact z
  exact Classical.epsilon_spec hx' p hp
theorem LV.wv (h : LV n b r m0 m1 m2 m3 m4 m5 m6 m7) {p : Nat} (hp : p < n) : ∃ o, o ≤ 1584 ∧ (sol n m0 m1 m2 m3 m5 r).1 p = nI o := by
  obtain ⟨⟨d, f0, f1, f2, f3, f4, f5, f6, f7, f8, f9, f10, f11, f12, f13, bp, bn, h⟩, -, -⟩ := h
  rw [← (h.ms p hp).1]
  exact h.stl.water h.dep h.n16 (fun p hp => (h.wat p hp).2) p hp
theorem LV.lv (h : LV n b r m0 m1 m2 m3 m4 m5 m6 m7) {p : Nat} (hp : p < n) : ∃ o, o ≤ 16 ∧ (sol n m0 m1 m2 m3 m5 r).2.1 p = nI o := by
  obtain ⟨⟨d, f0, f1, f2, f3, f4, f5, f6, f7, f8, f9, f10, f11, f12, f13, bp, bn, h⟩, -, -⟩ := h
  rw [← (h.ms p hp).2.1]
  obtain ⟨⟨m, h1, h2⟩, -⟩ := h.stl.len h.dep h.n16 h.wat p hp
  have := h.n16
  exact ⟨m, by omega, h2⟩
theorem LV.nv (h : LV n b r m0 m1 m2 m3 m4 m5 m6 m7) {p : Nat} (hp : p < n) : nmS n m0 m1 m2 m3 m5 r p = -1 ∨ ∃ a, a ≤ 9 ∧ nmS n m0 m1 m2 m3 m5 r p = nI a := by
  obtain ⟨⟨d, f0, f1, f2, f3, f4, f5, f6, f7, f8, f9, f10, f11, f12, f13, bp, bn, h⟩, hb, -⟩ := h
  have key : ∀ (k p : Nat), p < n → n - d p ≤ k → f9 p = -1 ∨ ∃ a, a ≤ 9 ∧ f9 p = nI a := by
    intro k
    induction k with
    | zero => intro p hp hk; have := (h.dep p hp).1; omega
    | succ k ih =>
      intro p hp hk
      by_cases hd : f6 p = 0
      · rcases h.stl.CI h.dep h.n16 h.wat hp hd with ⟨-, h2⟩ | ⟨i, c, bb, h1, h2, -⟩
        · exact Or.inl (congrArg Prod.fst h2)
        · have e : f9 p = nmf f3 f9 p i := congrArg Prod.fst h2
          rw [e]
          unfold nmf
          rcases h1.2.1 with ⟨q1, q2⟩ | ⟨q1, q2, q3⟩
          · rw [if_pos q1]
            have hz : ¬ f2 p = 0 := fun z => by simp [sprg, z] at q2
            obtain ⟨a, h3, h4⟩ := hb p hp (by rw [(h.E p hp).2.1]; exact hz)
            exact Or.inr ⟨a, h3, by rw [← h4]; exact ((h.E p hp).2.2.2.2.2 hz).symm⟩
          · rw [if_neg q1]
            have hi : i < n := h1.1
            exact ih i hi (by have := h.dep.to h.n16 hi hp q2; have := (h.dep i hi).1; omega)
      · have f1' : (f9 p, f10 p, f11 p, f12 p, f13 p) = (fold7 f0 f3 f4 f6 r f7 f8 f9 p n).2.2 := congrArg (fun t : T7 => t.2.2) (h.stl p hp)
        rw [fold7_del hd n] at f1'
        exact Or.inl (congrArg Prod.fst f1')
  rw [← h.n9 hp]
  exact key n p hp (by omega)
end SV
/-! ===== who argues, by numbers ===== -/
def arB (m0 m1 m3 m5 g : Nat → Int32) (p q : Nat) : Bool := decide (m5 p = 0) && (if q = p then sprg m1 m3 p else decide (m0 q = nI p) && !decide (g q < 0))
def AO (B : Nat → Bool) (j c : Nat) (g : Nat → Int32) (o : Nat → Nat) : Prop := c = cnb B j ∧ (∀ k, k < c → g k = nI (o k) ∧ o k < j ∧ B (o k) = true) ∧ (∀ q, q < j → B q = true → ∃ k, k < c ∧ o k = q) ∧ ∀ i k, i < k → k < c → o i < o k
theorem AO.zero {B : Nat → Bool} {g : Nat → Int32} {o : Nat → Nat} : AO B 0 0 g o := ⟨rfl, fun k h => absurd h (Nat.not_lt_zero _), fun k h => absurd h (Nat.not_lt_zero _), fun i k _ h => absurd h (Nat.not_lt_zero _)⟩
theorem AO.no {B : Nat → Bool} {j c : Nat} {g : Nat → Int32} {o : Nat → Nat} (h : AO B j c g o) (hB : B j = false) : AO B (j + 1) c g o := by
  obtain ⟨h1, h2, h3, h4⟩ := h
  refine ⟨by rw [cnb_n _ hB]; exact h1, fun k hk => ⟨(h2 k hk).1, by have := (h2 k hk).2.1; omega, (h2 k hk).2.2⟩, fun q hq hb => ?_, h4⟩
  by_cases e : q = j
  · subst e; rw [hB] at hb; cases hb
  · exact h3 q (by omega) hb
theorem AO.yes {B : Nat → Bool} {j c : Nat} {g e : Nat → Int32} {o : Nat → Nat} (h : AO B j c g o) (hB : B j = true) (he : ∀ i, i < c → e i = g i) : AO B (j + 1) (c + 1) (upd e c (nI j)) (fun k => if k = c then j else o k) := by
  obtain ⟨h1, h2, h3, h4⟩ := h
  refine ⟨by rw [cnb_y _ hB, h1], fun k hk => ?_, fun q hq hb => ?_, fun i k hik hk => ?_⟩
  · by_cases z : k = c
    · subst z; simp only [upd_at, if_pos]; exact ⟨trivial, by omega, hB⟩
    · rw [upd_ne _ _ _ z]; simp only [if_neg z]
      have hz := h2 k (by omega)
      exact ⟨by rw [he k (by omega)]; exact hz.1, by omega, hz.2.2⟩
  · by_cases z : q = j
    · exact ⟨c, by omega, by simp [z]⟩
    · obtain ⟨k, hk, e2⟩ := h3 q (by omega) hb
      exact ⟨k, by omega, by show (if k = c then j else o k) = q; rw [if_neg (by omega)]; exact e2⟩
  · have hi : ¬ i = c := by omega
    simp only [if_neg hi]
    by_cases z : k = c
    · simp only [if_pos z]; exact (h2 i (by omega)).2.1
    · simp only [if_neg z]; exact h4 i k hik (by omega)
theorem cnb_none {B : Nat → Bool} (h : ∀ q, B q = false) : ∀ j : Nat, cnb B j = 0
  | 0 => rfl
  | j + 1 => by rw [cnb_n _ (h j), cnb_none h j]
theorem AO.off {B : Nat → Bool} {j c n : Nat} {g : Nat → Int32} {o : Nat → Nat} (h : AO B j c g o) (hB : ∀ q, B q = false) : AO B n c g o := by
  have hc : c = 0 := by rw [h.1]; exact cnb_none hB j
  subst hc
  exact ⟨(cnb_none hB n).symm, fun k h => absurd h (Nat.not_lt_zero _), fun q _ hb => (by rw [hB] at hb; cases hb), fun i k _ h => absurd h (Nat.not_lt_zero _)⟩
theorem AO.c_le {B : Nat → Bool} {j c : Nat} {g : Nat → Int32} {o : Nat → Nat} (h : AO B j c g o) : c ≤ j := by rw [h.1]; exact cnb_le _ _
/-- the best of those that were looked at -/
def WI (m2 g0 g1 g2 m3 : Nat → Int32) (r : Int32) (p : Nat) (B : Nat → Bool) (o : Nat → Nat) (k : Nat) (best most : Int32) : Prop :=
  (k = 0 ∧ best = -1 ∧ most = 0) ∨ ∃ i, Best (fun q => B q = true) (stf m3 g0 g1 r p) (fun j => ∃ z, z < k ∧ o z = j) i ∧ best = nI i ∧ i < 16 ∧ most = stf m3 g0 g1 r p i
theorem WI.up {m2 g0 g1 g2 m3 : Nat → Int32} {r : Int32} {p n c k : Nat} {B : Nat → Bool} {g : Nat → Int32} {o : Nat → Nat} {best most : Int32} (hA : AO B n c g o) (hn : n ≤ 16) (hk : k < c) (h : WI m2 g0 g1 g2 m3 r p B o k best most) (hw : best < 0 ∨ most < stf m3 g0 g1 r p (o k)) : WI m2 g0 g1 g2 m3 r p B o (k + 1) (nI (o k)) (stf m3 g0 g1 r p (o k)) := by
  have ho := hA.2.1 k hk
  refine Or.inr ⟨o k, ⟨⟨k, by omega, rfl⟩, ho.2.2, fun j hj hb => ?_⟩, rfl, by omega, rfl⟩
  obtain ⟨z, hz, rfl⟩ := hj
  by_cases e : z = k
  · subst e; exact Or.inr ⟨rfl, Nat.le_refl _⟩
  · rcases h with ⟨h0, -, -⟩ | ⟨i, hB, e1, e2, e3⟩
    · omega
    · rcases hw with hw | hw
      · rw [e1] at hw; exact absurd hw (nI_nneg (by omega))
      · rw [e3] at hw
        rcases hB.2.2 (o z) ⟨z, by omega, rfl⟩ hb with x | x
        · exact Or.inl (lt_tr x hw)
        · rw [x.1]; exact Or.inl hw
theorem WI.stay {m2 g0 g1 g2 m3 : Nat → Int32} {r : Int32} {p n c k : Nat} {B : Nat → Bool} {g : Nat → Int32} {o : Nat → Nat} {best most : Int32} (hA : AO B n c g o) (hn : n ≤ 16) (hk : k < c) (h : WI m2 g0 g1 g2 m3 r p B o k best most) (h1 : ¬ best < 0) (h2 : ¬ most < stf m3 g0 g1 r p (o k)) : WI m2 g0 g1 g2 m3 r p B o (k + 1) best most := by
  rcases h with ⟨h0, e, -⟩ | ⟨i, hB, e1, e2, e3⟩
  · rw [e] at h1; exact absurd (by decide) h1
  · refine Or.inr ⟨i, ⟨?_, hB.2.1, fun j hj hb => ?_⟩, e1, e2, e3⟩
    · obtain ⟨z, hz, e⟩ := hB.1
      exact ⟨z, by omega, e⟩
    · obtain ⟨z, hz, rfl⟩ := hj
      by_cases e : z = k
      · subst e
        rw [e3] at h2
        rcases nlt h2 with x | x
        · exact Or.inl x
        · refine Or.inr ⟨x, ?_⟩
          obtain ⟨y, hy, e⟩ := hB.1
          have := hA.2.2.2 y z hy hk
          omega
      · exact hB.2.2 (o z) ⟨z, by omega, rfl⟩ hb
/-- the winner's name -/
theorem WI.last {n b : Nat} {r : Int32} {m0 m1 m2 m3 m4 m5 m6 m7 g0 g1 g2 : Nat → Int32} (hV : LV n b r m0 m1 m2 m3 m4 m5 m6 m7) {p c : Nat} (hp : p < n) {g : Nat → Int32} {o : Nat → Nat} {best most : Int32} (hA : AO (arB m0 m1 m3 m5 g2 p) n c g o) (hnm : ∀ q, q < n → m0 q = nI p → g2 q = -1 ∨ ∃ a, a ≤ 9 ∧ g2 q = nI a) (hpos : ∀ q, q < n → m0 q = nI p → -1 < g0 q ∧ -1 < g1 q) (h : WI m2 g0 g1 g2 m3 r p (arB m0 m1 m3 m5 g2 p) o c best most) : (best < 0 → nmd m0 m1 m2 m3 m5 g0 g1 g2 r p n = -1) ∧ (¬ best < 0 → ∃ i, i < n ∧ best = nI i ∧ nmd m0 m1 m2 m3 m5 g0 g1 g2 r p n = nmf m2 g2 p i) := by
  obtain ⟨d, s, hD⟩ := hV.dep
  have hn := hV.n16
  have har : m5 p = 0 → ∀ q, q < n → (arB m0 m1 m3 m5 g2 p q = true ↔ arf m0 m1 m3 g2 p q) := fun h5 q hq => by
    by_cases e : q = p
    · subst e; unfold arB arf; simp [h5]
    · have ea : arB m0 m1 m3 m5 g2 p q = (decide (m0 q = nI p) && !decide (g2 q < 0)) := by
        unfold arB
        rw [decide_eq_true h5, Bool.true_and, if_neg e]
      rw [ea, Bool.and_eq_true, decide_eq_true_eq, Bool.not_eq_true', decide_eq_false_iff_not]
      constructor
      · rintro ⟨x1, x2⟩
        exact Or.inr ⟨e, x1, fun z => x2 (by rw [z]; decide)⟩
      · rintro (⟨z, _⟩ | ⟨_, x1, x2⟩)
        · exact absurd z e
        · refine ⟨x1, ?_⟩
          rcases hnm q hq x1 with z | ⟨x, hx, z⟩
          · exact absurd z x2
          · rw [z]; exact nI_nneg (by omega)
  have hp1 : m5 p = 0 → ∀ j, j < n → arf m0 m1 m3 g2 p j → -1 < stf m3 g0 g1 r p j := fun _ j hj ha => by
    unfold stf wor
    by_cases e : j = p
    · rw [if_pos e]
      by_cases z : r = 0
      · rw [if_pos z]
        obtain ⟨_, a, ha2, e2⟩ := hV.wat p hp
        rw [e2]; exact m1_lt_nI (by omega)
      · rw [if_neg z]; decide
    · rw [if_neg e]
      rcases ha with ⟨z, _⟩ | ⟨_, z, _⟩
      · exact absurd z e
      · have := hpos j hj z
        split
        · exact this.1
        · exact this.2
  unfold nmd
  by_cases h5 : m5 p = 0
  · rw [if_neg (fun z => z h5)]
    rcases mN_MI hD hn hp (hp1 h5) n (Nat.le_refl n) with ⟨k1, k2⟩ | ⟨i', k1, k2⟩
    · have hc : c = 0 := by
        rcases Nat.eq_zero_or_pos c with z | z
        · exact z
        · have := hA.2.1 0 z
          exact absurd ((har h5 _ this.2.1).mp this.2.2) (k1 _ this.2.1)
      rcases h with ⟨h0, e, _⟩ | ⟨i, hB, _⟩
      · exact ⟨fun _ => congrArg Prod.fst k2, fun z => absurd (by rw [e]; decide) z⟩
      · obtain ⟨z, hz, _⟩ := hB.1
        omega
    · rcases h with ⟨h0, e, -⟩ | ⟨i, hB, e1, e2, e3⟩
      · obtain ⟨k, hk, -⟩ := hA.2.2.1 i' k1.1 ((har h5 _ k1.1).mpr k1.2.1)
        omega
      · have hi : i < n := by
          obtain ⟨z, hz, e⟩ := hB.1
          have := hA.2.1 z hz
          omega
        have e : i = i' := by
          have hb1 : Best (arf m0 m1 m3 g2 p) (stf m3 g0 g1 r p) (fun j => j < n) i := ⟨hi, (har h5 i hi).mp hB.2.1, fun j hj ha => by
            have hbj := (har h5 j hj).mpr ha
            obtain ⟨k, hk, ek⟩ := hA.2.2.1 j hj hbj
            exact hB.2.2 j ⟨k, hk, ek⟩ hbj⟩
          exact Best.unique (fun _ _ => Iff.rfl) hb1 k1
        subst e
        refine ⟨fun z => absurd z (by rw [e1]; exact nI_nneg (by omega)), fun _ => ⟨i, hi, e1, by rw [k2]⟩⟩
  · rw [if_pos h5]
    refine ⟨fun _ => rfl, fun z => ?_⟩
    have hB0 : ∀ q, arB m0 m1 m3 m5 g2 p q = false := fun q => by simp [arB, h5]
    rcases h with ⟨h0, e, -⟩ | ⟨i, hB, -⟩
    · exact absurd (by rw [e]; decide) z
    · have := hB.2.1
      simp only [hB0] at this
      cases this
