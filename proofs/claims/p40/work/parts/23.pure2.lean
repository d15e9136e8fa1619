/-! ===== sums, and how much water there can be ===== -/
def sumN (f : Nat → Nat) : Nat → Nat
  | 0 => 0
  | k + 1 => sumN f k + f k
theorem sumN_congr {f g : Nat → Nat} : ∀ k : Nat, (∀ i, i < k → f i = g i) → sumN f k = sumN g k
  | 0, _ => rfl
  | k + 1, h => by
    simp only [sumN]
    rw [sumN_congr k (fun i hi => h i (by omega)), h k (by omega)]
theorem sumN_le {f g : Nat → Nat} : ∀ k : Nat, (∀ i, i < k → f i ≤ g i) → sumN f k ≤ sumN g k
  | 0, _ => Nat.le_refl _
  | k + 1, h => by
    have h1 := sumN_le k (fun i hi => h i (by omega))
    have h2 := h k (by omega)
    simp only [sumN]
    omega
theorem sumN_add (f g : Nat → Nat) : ∀ k : Nat, sumN (fun i => f i + g i) k = sumN f k + sumN g k
  | 0 => rfl
  | k + 1 => by
    simp only [sumN]
    rw [sumN_add f g k]
    omega
theorem sumN_zero : ∀ k : Nat, sumN (fun _ => 0) k = 0
  | 0 => rfl
  | k + 1 => by simp only [sumN]; rw [sumN_zero k]
theorem sumN_swap (f : Nat → Nat → Nat) (b : Nat) : ∀ a : Nat, sumN (fun i => sumN (f i) b) a = sumN (fun j => sumN (fun i => f i j) a) b
  | 0 => by simp only [sumN]; rw [sumN_zero]
  | a + 1 => by
    simp only [sumN]
    rw [sumN_swap f b a, sumN_add]
theorem sumN_cap {f : Nat → Nat} {c : Nat} : ∀ k : Nat, (∀ i, i < k → f i ≤ c) → sumN f k ≤ c * k
  | 0, _ => by simp [sumN]
  | k + 1, h => by
    have h1 := sumN_cap k (fun i hi => h i (by omega))
    have h2 := h k (by omega)
    simp only [sumN]
    rw [Nat.mul_succ]
    omega
theorem sumN_all0 {f : Nat → Nat} (k : Nat) (h : ∀ i, i < k → f i = 0) : sumN f k = 0 := by
  rw [sumN_congr k h, sumN_zero]
theorem sumN_ge {f : Nat → Nat} : ∀ (k i : Nat), i < k → f i ≤ sumN f k
  | k + 1, i, h => by
    simp only [sumN]
    by_cases h1 : i = k
    · subst h1; omega
    · have := sumN_ge (f := f) k i (by omega)
      omega
theorem sumN_one {f : Nat → Nat} {c : Nat} : ∀ k : Nat, (∀ i, i < k → f i ≤ c) → (∀ i j, i < k → j < k → ¬ f i = 0 → ¬ f j = 0 → i = j) → sumN f k ≤ c
  | 0, _, _ => Nat.zero_le _
  | k + 1, h, h1 => by
    simp only [sumN]
    by_cases h2 : f k = 0
    · rw [h2]
      have := sumN_one k (fun i hi => h i (by omega)) (fun i j hi hj => h1 i j (by omega) (by omega))
      omega
    · have h3 : sumN f k = 0 := sumN_all0 k (fun i hi => Decidable.byContradiction fun z => by
        have := h1 i k (by omega) (by omega) z h2
        omega)
      have := h k (by omega)
      omega
theorem nI_inj {a b : Nat} (ha : a < 2 ^ 31) (hb : b < 2 ^ 31) (h : nI a = nI b) : a = b := zn_eq ha hb h
/-- the depths are less than the number of places -/
theorem depth_lt {n : Nat} {w : Nat → Int32} {d : Nat → Nat} (hd : ∀ p, p < n → (w p = -1 ∧ d p = 0) ∨ ∃ q, q < n ∧ w p = nI q ∧ d p = d q + 1) {p : Nat} (hp : p < n) : d p < n := by
  have lev : ∀ (k p : Nat), p < n → d p = k → ∀ j, j ≤ k → ∃ q, q < n ∧ d q = j := by
    intro k
    induction k with
    | zero => intro p hp e j hj; exact ⟨p, hp, by omega⟩
    | succ k ih =>
      intro p hp e j hj
      by_cases h1 : j = k + 1
      · exact ⟨p, hp, by omega⟩
      · rcases hd p hp with h2 | ⟨q, hq, _, h3⟩
        · omega
        · exact ih q hq (by omega) j (by omega)
  have h1 : sumN (fun _ => 1) (d p + 1) ≤ sumN (fun j => sumN (fun q => if d q = j then 1 else 0) n) (d p + 1) := sumN_le _ (fun j hj => by
    obtain ⟨q, hq, e⟩ := lev (d p) p hp rfl j (by omega)
    have := sumN_ge (f := fun q => if d q = j then 1 else 0) n q hq
    simp only [e, if_pos] at this
    exact this)
  rw [sumN_swap (fun j q => if d q = j then 1 else 0)] at h1
  have h2 : sumN (fun q => sumN (fun j => if d q = j then 1 else 0) (d p + 1)) n ≤ 1 * n := sumN_cap n (fun q _ => sumN_one _ (fun j _ => by split <;> omega) (fun i j _ _ hi hj => by
    by_cases a : d q = i
    · by_cases b : d q = j
      · omega
      · simp [b] at hj
    · simp [a] at hi))
  have h3 : ∀ k : Nat, sumN (fun _ => 1) k = k := fun k => by
    induction k with
    | zero => rfl
    | succ k ih => simp only [sumN]; rw [ih]
  rw [h3] at h1
  omega
section WB
variable {n : Nat} {w s nm wat del : Nat → Int32} {r : Int32} {d : Nat → Nat} {g7 g8 g9 g10 g11 g12 g13 : Nat → Int32}
theorem fold7_wat {om a : Nat → Nat} {p : Nat} (ha : wat p = nI (a p)) : ∀ k : Nat, (∀ q, q < k → w q = nI p → g7 q = nI (om q)) → (fold7 w nm wat del r g7 g8 g9 p k).1 = nI (a p + sumN (fun q => if w q = nI p then om q else 0) k)
  | 0, _ => by simp [fold7, rise7, sumN, ha]
  | k + 1, h => by
    have ih := fold7_wat ha k (fun q hq => h q (by omega))
    simp only [fold7, sumN]
    by_cases e : w k = nI p
    · rw [if_pos e, if_pos e]
      simp only [flow7]
      rw [ih, h k (by omega) e, nI_add, Nat.add_assoc]
    · rw [if_neg e, if_neg e, ih, Nat.add_zero]
theorem Stl.water (hD : Dep n w s d) (hn : n ≤ 16) (hS : Stl n w nm wat del r g7 g8 g9 g10 g11 g12 g13) (hw : ∀ p, p < n → ∃ a, a ≤ 99 ∧ wat p = nI a) : ∀ p, p < n → ∃ o, o ≤ 1584 ∧ g7 p = nI o := by
  have ha : ∀ p, p < n → wat p = nI (wat p).toNatClampNeg ∧ (wat p).toNatClampNeg ≤ 99 := fun p hp => by
    obtain ⟨a, h1, h2⟩ := hw p hp
    rw [h2, nI_clamp (by omega)]
    exact ⟨rfl, h1⟩
  have hb : ∀ k p : Nat, sumN (fun p => if k ≤ d p then 99 else 0) n ≤ 1584 := fun k _ => by
    have := sumN_cap (f := fun p => if k ≤ d p then 99 else 0) (c := 99) n (fun i _ => by split <;> omega)
    omega
  have main : ∀ j k : Nat, k + j = n → (∀ p, p < n → k ≤ d p → g7 p = nI (g7 p).toNatClampNeg) ∧ sumN (fun p => if d p = k then (g7 p).toNatClampNeg else 0) n ≤ sumN (fun p => if k ≤ d p then 99 else 0) n := by
    intro j
    induction j with
    | zero =>
      intro k hk
      have hz : ∀ p, p < n → ¬ k ≤ d p := fun p hp h => by have := (hD p hp).1; omega
      refine ⟨fun p hp h => absurd h (hz p hp), ?_⟩
      rw [sumN_all0 n (fun p hp => if_neg (fun e => hz p hp (by omega)))]
      exact Nat.zero_le _
    | succ j ih =>
      intro k hk
      obtain ⟨h1, h2⟩ := ih (k + 1) (by omega)
      have key : ∀ p, p < n → d p = k → g7 p = nI (g7 p).toNatClampNeg ∧ (g7 p).toNatClampNeg = (wat p).toNatClampNeg + sumN (fun q => if w q = nI p then (g7 q).toNatClampNeg else 0) n := by
        intro p hp e
        have f1 : (tat g7 g8 g9 g10 g11 g12 g13 p).1 = _ := congrArg Prod.fst (hS p hp)
        rw [fold7_wat (a := fun p => (wat p).toNatClampNeg) (om := fun q => (g7 q).toNatClampNeg) (ha p hp).1 n (fun q hq e2 => h1 q hq (by have := hD.to hn hq hp e2; omega))] at f1
        have f2 : sumN (fun q => if w q = nI p then (g7 q).toNatClampNeg else 0) n ≤ sumN (fun q => if d q = k + 1 then (g7 q).toNatClampNeg else 0) n := sumN_le n (fun q hq => by
          by_cases e2 : w q = nI p
          · rw [if_pos e2, if_pos (by have := hD.to hn hq hp e2; omega)]
            exact Nat.le_refl _
          · rw [if_neg e2]; exact Nat.zero_le _)
        have f3 := hb (k + 1) 0
        have f4 := (ha p hp).2
        have f5 : g7 p = nI ((wat p).toNatClampNeg + sumN (fun q => if w q = nI p then (g7 q).toNatClampNeg else 0) n) := f1
        have f6 : (g7 p).toNatClampNeg = (wat p).toNatClampNeg + sumN (fun q => if w q = nI p then (g7 q).toNatClampNeg else 0) n := by
          have := congrArg Int32.toNatClampNeg f5
          rw [nI_clamp (by omega)] at this
          exact this
        exact ⟨by rw [f6]; exact f5, f6⟩
      refine ⟨fun p hp h => ?_, ?_⟩
      · by_cases e : d p = k
        · exact (key p hp e).1
        · exact h1 p hp (by omega)
      · have f1 : sumN (fun p => if d p = k then (g7 p).toNatClampNeg else 0) n ≤ sumN (fun p => (if d p = k then 99 else 0) + sumN (fun q => if d p = k ∧ w q = nI p then (g7 q).toNatClampNeg else 0) n) n := sumN_le n (fun p hp => by
          by_cases e : d p = k
          · rw [if_pos e, if_pos e, (key p hp e).2]
            have h3 := (ha p hp).2
            have h4 : sumN (fun q => if w q = nI p then (g7 q).toNatClampNeg else 0) n = sumN (fun q => if d p = k ∧ w q = nI p then (g7 q).toNatClampNeg else 0) n := sumN_congr n (fun q _ => by simp [e])
            rw [← h4]
            omega
          · rw [if_neg e]; exact Nat.zero_le _)
        rw [sumN_add, sumN_swap (fun p q => if d p = k ∧ w q = nI p then (g7 q).toNatClampNeg else 0)] at f1
        have f2 : sumN (fun q => sumN (fun p => if d p = k ∧ w q = nI p then (g7 q).toNatClampNeg else 0) n) n ≤ sumN (fun q => if d q = k + 1 then (g7 q).toNatClampNeg else 0) n := sumN_le n (fun q hq => by
          by_cases e : d q = k + 1
          · rw [if_pos e]
            refine sumN_one n (fun p _ => by split <;> omega) (fun i j hi hj a b => ?_)
            by_cases a1 : d i = k ∧ w q = nI i
            · by_cases b1 : d j = k ∧ w q = nI j
              · exact zn_eq (by omega) (by omega) (a1.2.symm.trans b1.2)
              · simp [b1] at b
            · simp [a1] at a
          · rw [if_neg e, sumN_all0 n (fun p hp => if_neg (fun z => e (by have := hD.to hn hq hp z.2; omega)))]
            exact Nat.le_refl _)
        have f3 : sumN (fun p => if k ≤ d p then 99 else 0) n = sumN (fun p => (if d p = k then 99 else 0) + (if k + 1 ≤ d p then 99 else 0)) n := sumN_congr n (fun p _ => by
          by_cases e : d p = k
          · rw [if_pos (by omega), if_pos e, if_neg (by omega)]
          · by_cases e2 : k ≤ d p
            · rw [if_pos e2, if_neg e, if_pos (by omega)]
            · rw [if_neg e2, if_neg e, if_neg (by omega)])
        rw [f3, sumN_add]
        omega
  intro p hp
  have hd := (hD p hp).1
  obtain ⟨h1, h2⟩ := main (n - d p) (d p) (by omega)
  have h3 := sumN_ge (f := fun q => if d q = d p then (g7 q).toNatClampNeg else 0) n p hp
  simp only [if_pos] at h3
  have h4 := hb (d p) 0
  exact ⟨_, by omega, h1 p hp (Nat.le_refl _)⟩
end WB
