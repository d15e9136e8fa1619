/-! ===== a land tried out ===== -/
theorem Dep.congr {n : Nat} {w s w' s' : Nat → Int32} {d : Nat → Nat} (h : Dep n w s d) (e : ∀ i, i < n → w' i = w i ∧ s' i = s i) : Dep n w' s' d := fun p hp => by
  obtain ⟨e1, e2⟩ := e p hp
  rw [e1, e2]; exact h p hp
theorem Wat.congr {n : Nat} {has wat has' wat' : Nat → Int32} (h : Wat n has wat) (e : ∀ i, i < n → has' i = has i ∧ wat' i = wat i) : Wat n has' wat' := fun p hp => by
  obtain ⟨e1, e2⟩ := e p hp
  rw [e1, e2]; exact h p hp
theorem Wat.dry {n : Nat} {has wat : Nat → Int32} (h : Wat n has wat) (p : Nat) : Wat n has (upd wat p 0) := fun i hi => by
  by_cases e : i = p
  · subst e; rw [upd_at]; exact ⟨fun _ => rfl, 0, by omega, rfl⟩
  · rw [upd_ne _ _ _ e]; exact h i hi
theorem clamp_nI (v : Int32) : ∃ a, a ≤ 99 ∧ clamp v = nI a := by
  unfold clamp
  by_cases h1 : v < 99
  · rw [if_pos h1]
    by_cases h2 : 0 < v
    · rw [if_pos h2]
      have h3 : ¬ v < 0 := fun z => lt_asy z h2
      obtain ⟨a, h4, h5⟩ := nI_of h3
      subst h5
      exact ⟨a, by have := zn_lt (a := a) (b := 99) h4 (by omega) h1; omega, rfl⟩
    · rw [if_neg h2]; exact ⟨0, by omega, rfl⟩
  · rw [if_neg h1]; exact ⟨99, by omega, rfl⟩
/-- swells: none without a spring, none beyond 9 -/
def Swl (n : Nat) (has sw : Nat → Int32) : Prop := ∀ p, p < n → (has p = 0 → sw p = 0) ∧ -9 ≤ (sw p).toInt ∧ (sw p).toInt ≤ 9
theorem swN_wat {n : Nat} {has wat sw : Nat → Int32} (h : Wat n has wat) : ∀ k : Nat, Wat n has (swN has wat sw k)
  | 0 => h
  | k + 1 => fun p hp => by
    have ih := swN_wat (sw := sw) h k p hp
    simp only [swN, swl]
    by_cases z : has p = 0
    · rw [if_pos z]; exact ih
    · rw [if_neg z]; exact ⟨fun q => absurd q z, clamp_nI _⟩
theorem clamp_toInt (v : Int32) : (clamp v).toInt = if 0 < (if v.toInt < 99 then v.toInt else 99) then (if v.toInt < 99 then v.toInt else 99) else 0 := by
  unfold clamp
  have e0 : (0 : Int32).toInt = 0 := by decide
  have e99 : (99 : Int32).toInt = 99 := by decide
  have c1 : (v < 99) ↔ v.toInt < 99 := by rw [Int32.lt_iff_toInt_lt, e99]
  have c2 : ((0 : Int32) < v) ↔ 0 < v.toInt := by rw [Int32.lt_iff_toInt_lt, e0]
  by_cases h1 : v < 99
  · rw [if_pos h1, if_pos (c1.mp h1)]
    by_cases h2 : 0 < v
    · rw [if_pos h2, if_pos (c2.mp h2)]
    · rw [if_neg h2, if_neg (fun z => h2 (c2.mpr z)), e0]
  · rw [if_neg h1, if_neg (fun z => h1 (c1.mpr z)), if_pos (by decide), if_pos (by decide), e99]
theorem small_add {x y : Int32} (h1 : -100000 ≤ x.toInt ∧ x.toInt ≤ 100000) (h2 : -100000 ≤ y.toInt ∧ y.toInt ≤ 100000) : (x + y).toInt = x.toInt + y.toInt := by
  rw [Int32.toInt_add]
  exact Int.bmod_eq_of_le (by omega) (by omega)
theorem small_mul {x y : Int32} (h : -100000 ≤ x.toInt * y.toInt ∧ x.toInt * y.toInt ≤ 100000) : (x * y).toInt = x.toInt * y.toInt := by
  rw [Int32.toInt_mul]
  exact Int.bmod_eq_of_le (by omega) (by omega)
theorem cl_step {a c t : Int} (ha : 0 ≤ a ∧ a ≤ 99) (hc : (0 ≤ c ∧ 0 ≤ t) ∨ (c ≤ 0 ∧ t ≤ 0)) :
    (if 0 < (if (if 0 < (if a + t < 99 then a + t else 99) then (if a + t < 99 then a + t else 99) else 0) + c < 99 then (if 0 < (if a + t < 99 then a + t else 99) then (if a + t < 99 then a + t else 99) else 0) + c else 99) then (if (if 0 < (if a + t < 99 then a + t else 99) then (if a + t < 99 then a + t else 99) else 0) + c < 99 then (if 0 < (if a + t < 99 then a + t else 99) then (if a + t < 99 then a + t else 99) else 0) + c else 99) else 0)
    = if 0 < (if a + (t + c) < 99 then a + (t + c) else 99) then (if a + (t + c) < 99 then a + (t + c) else 99) else 0 := by
  split <;> split <;> split <;> split <;> (try split) <;> (try split) <;> omega
theorem mul_rng {k c : Int} (hk : 0 ≤ k ∧ k ≤ 50) (hc : -9 ≤ c ∧ c ≤ 9) : -450 ≤ k * c ∧ k * c ≤ 450 := by
  constructor
  · have h1 : k * (-9) ≤ k * c := Int.mul_le_mul_of_nonneg_left hc.1 hk.1
    omega
  · have h1 : k * c ≤ k * 9 := Int.mul_le_mul_of_nonneg_left hc.2 hk.1
    omega
theorem swN_toInt {n : Nat} {has wat sw : Nat → Int32} (hW : Wat n has wat) (hS : Swl n has sw) {i : Nat} (hi : i < n) (hz : ¬ has i = 0) : ∀ k : Nat, k ≤ 50 → (swN has wat sw k i).toInt = if 0 < (if (wat i).toInt + (k : Int) * (sw i).toInt < 99 then (wat i).toInt + (k : Int) * (sw i).toInt else 99) then (if (wat i).toInt + (k : Int) * (sw i).toInt < 99 then (wat i).toInt + (k : Int) * (sw i).toInt else 99) else 0
  | 0, _ => by
    obtain ⟨_, a, ha, e⟩ := hW i hi
    simp only [swN]
    rw [e, nI_toInt (by omega)]
    split <;> split <;> omega
  | k + 1, hk => by
    obtain ⟨_, a, ha, e⟩ := hW i hi
    obtain ⟨_, hc⟩ := hS i hi
    have ih := swN_toInt hW hS hi hz k (by omega)
    have hr := mul_rng (k := (k : Int)) (by omega) hc
    have ea : (wat i).toInt = (a : Int) := by rw [e, nI_toInt (by omega)]
    simp only [swN, swl]
    rw [if_neg hz, clamp_toInt]
    have hb : 0 ≤ (swN has wat sw k i).toInt ∧ (swN has wat sw k i).toInt ≤ 99 := by rw [ih]; split <;> split <;> omega
    rw [small_add (by omega) (by omega), ih]
    have hm : ((k + 1 : Nat) : Int) * (sw i).toInt = (k : Int) * (sw i).toInt + (sw i).toInt := by
      rw [Int.natCast_add, Int.add_mul]; simp
    rw [hm]
    exact cl_step (by omega) (by
      rcases Int.le_total 0 (sw i).toInt with z | z
      · exact Or.inl ⟨z, Int.mul_nonneg (by omega) z⟩
      · refine Or.inr ⟨z, ?_⟩
        have := Int.mul_le_mul_of_nonneg_left z (show (0 : Int) ≤ (k : Int) by omega)
        rw [Int.mul_zero] at this
        exact this)
theorem sw_iter {n : Nat} {has wat sw : Nat → Int32} (hW : Wat n has wat) (hS : Swl n has sw) {k : Nat} (hk : k ≤ 50) {i : Nat} (hi : i < n) : clamp (wat i + nI k * sw i) = swN has wat sw k i := by
  by_cases hz : has i = 0
  · have h1 : ∀ k : Nat, swN has wat sw k i = wat i := fun k => by
      induction k with
      | zero => rfl
      | succ k ih => simp only [swN, swl]; rw [if_pos hz, ih]
    rw [h1, (hW i hi).1 hz, (hS i hi).1 hz, Int32.mul_zero]
    decide
  · apply Int32.toInt_inj.mp
    obtain ⟨_, a, ha, e⟩ := hW i hi
    obtain ⟨_, hc⟩ := hS i hi
    have hr := mul_rng (k := (k : Int)) (by omega) hc
    have ek : (nI k).toInt = (k : Int) := nI_toInt (by omega)
    have ea : (wat i).toInt = (a : Int) := by rw [e, nI_toInt (by omega)]
    have hm : (nI k * sw i).toInt = (k : Int) * (sw i).toInt := by
      rw [small_mul (by rw [ek]; omega), ek]
    rw [swN_toInt hW hS hi hz k hk, clamp_toInt, small_add (by omega) (by omega), hm]
theorem trial_nm {n : Nat} {w s has nm wat del w' s' has' nm' wat' del' : Nat → Int32} {r : Int32} {d : Nat → Nat} {g7 g8 g9 g10 g11 g12 g13 : Nat → Int32} (hD : Dep n w s d) (hn : n ≤ 16) (hW : Wat n has' wat') (e : ∀ i, i < n → w' i = w i ∧ s' i = s i) (e2 : ∀ i, i < n → has' i = has i ∧ nm' i = nm i ∧ wat' i = wat i ∧ del' i = del i) (hS : Stl n w' nm' wat' del' r g7 g8 g9 g10 g11 g12 g13) : ∀ p, p < n → g9 p = nmS n w has nm wat del r p := fun p hp => by
  have hD' := hD.congr e
  rw [MA.nm hD' hn (hS.MA hD' hn hW) p hp, nmS_congr (fun i hi => ⟨(e i hi).1, (e2 i hi).1, (e2 i hi).2.2.1, (e2 i hi).2.2.2, fun _ => (e2 i hi).2.1⟩)]
theorem gst_up {f : Nat → Int32} {n k ms : Nat} {bs : Int32} (hb : bs = gst f n k) (hm : ms = if bs = -1 then 0 else cnt f bs n) (h : ms < cnt f (nI k) n) : gst f n (k + 1) = nI k := by
  refine gst_y _ _ (by omega) ?_
  by_cases z : bs = -1
  · exact Or.inl (hb.symm.trans z)
  · rw [if_neg z] at hm
    exact Or.inr (by rw [← hb, ← hm]; exact h)
theorem gst_no {f : Nat → Int32} {n k ms : Nat} {bs : Int32} (hb : bs = gst f n k) (hm : ms = if bs = -1 then 0 else cnt f bs n) (h : cnt f (nI k) n ≤ ms) : gst f n (k + 1) = bs := by
  by_cases z : bs = -1
  · rw [if_pos z] at hm
    rw [gst_0 _ _ (by omega), hb]
  · rw [if_neg z] at hm
    rw [gst_n _ _ (fun q => z (hb.trans q)) (by rw [← hb]; omega), hb]
