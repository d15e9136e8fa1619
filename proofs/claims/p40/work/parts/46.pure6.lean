/-! ===== settled is reckoned: names, arguers, arguments ===== -/
def anb (b : Nat → Bool) : Nat → Bool
  | 0 => false
  | j + 1 => anb b j || b j
theorem anb_iff (b : Nat → Bool) : ∀ n : Nat, anb b n = true ↔ ∃ j, j < n ∧ b j = true
  | 0 => ⟨fun h => (by cases h), fun ⟨_, h, _⟩ => (by omega)⟩
  | n + 1 => by
    simp only [anb, Bool.or_eq_true]
    rw [anb_iff b n]
    constructor
    · rintro (⟨j, h1, h2⟩ | h)
      · exact ⟨j, by omega, h2⟩
      · exact ⟨n, by omega, h⟩
    · rintro ⟨j, h1, h2⟩
      by_cases e : j = n
      · subst e; exact Or.inr h2
      · exact Or.inl ⟨j, by omega, h2⟩
def agA (w has wat del g9 : Nat → Int32) (p n : Nat) : Nat := if ¬ del p = 0 then 0 else (if sprg has wat p = true then 1 else 0) + cnb (fun q => decide (w q = nI p) && !decide (g9 q = -1)) n
def agD (w has nm wat del g9 : Nat → Int32) (p n : Nat) : Bool := if ¬ del p = 0 then false else (sprg has wat p && !decide (nm p = g9 p)) || anb (fun q => decide (w q = nI p) && !decide (g9 q = -1) && !decide (g9 q = g9 p)) n
section STN
variable {n : Nat} {w s has nm wat del : Nat → Int32} {r : Int32} {d : Nat → Nat} {g7 g8 g9 g10 g11 g12 g13 : Nat → Int32}
theorem rise7_dry {p : Nat} (h : wat p ≤ 0) (r2 nm2 who : Int32) (dl : Int32) : (rise7 (wat p) dl r2 nm2 who).2.2 = (-1, 0, 0, -1, 0) := by simp only [rise7]; rw [if_pos h]
theorem rise7_wet {p : Nat} (h : ¬ wat p ≤ 0) (r2 nm2 who : Int32) (dl : Int32) : (rise7 (wat p) dl r2 nm2 who).2.2 = arg5 dl who nm2 (if r2 = 0 then wat p else 0) (-1) 0 0 (-1) 0 := by simp only [rise7]; rw [if_neg h]
theorem spg_wet (hW : Wat n has wat) {p : Nat} (hp : p < n) : sprg has wat p = true ↔ ¬ wat p ≤ 0 := by
  rw [hW.spg hp]; simp
theorem fold7_del {p : Nat} (hd : ¬ del p = 0) : ∀ k : Nat, (fold7 w nm wat del r g7 g8 g9 p k).2.2 = (-1, 0, 0, -1, 0)
  | 0 => by
    simp only [fold7]
    by_cases z : wat p ≤ 0
    · exact rise7_dry z _ _ _ _
    · rw [rise7_wet z, arg5, if_pos hd]
  | k + 1 => by
    simp only [fold7]
    by_cases z : w k = nI p
    · rw [if_pos z]
      simp only [flow7]
      rw [fold7_del hd k]
      by_cases y : g9 k = -1
      · rw [if_pos y]
      · rw [if_neg y, arg5, if_pos hd]
    · rw [if_neg z, fold7_del hd k]
theorem arg5_cnt (who nm2 str a9 a10 a11 a12 a13 : Int32) : (arg5 0 who nm2 str a9 a10 a11 a12 a13).2.1 = a10 + 1 := by
  simp only [arg5, not_true_eq_false, if_false]
  split <;> rfl
theorem fold7_cnt (hW : Wat n has wat) {p : Nat} (hp : p < n) (hd : del p = 0) : ∀ k : Nat, (fold7 w nm wat del r g7 g8 g9 p k).2.2.2.1 = nI ((if sprg has wat p = true then 1 else 0) + cnb (fun q => decide (w q = nI p) && !decide (g9 q = -1)) k)
  | 0 => by
    simp only [fold7, cnb]
    by_cases z : wat p ≤ 0
    · rw [rise7_dry z, if_neg (fun y => (spg_wet hW hp).mp y z)]; rfl
    · rw [rise7_wet z, hd, arg5_cnt, if_pos ((spg_wet hW hp).mpr z)]; rfl
  | k + 1 => by
    simp only [fold7]
    by_cases z : w k = nI p
    · rw [if_pos z]
      simp only [flow7]
      by_cases y : g9 k = -1
      · rw [if_pos y, fold7_cnt hW hp hd k, cnb_n _ (by simp [y])]
      · rw [if_neg y, hd, arg5_cnt, fold7_cnt hW hp hd k, cnb_y _ (by simp [z, y])]
        exact nI_1 _
    · rw [if_neg z, fold7_cnt hW hp hd k, cnb_n _ (by simp [z])]
theorem fold7_CI (hD : Dep n w s d) (hn : n ≤ 16) (hW : Wat n has wat) {p : Nat} (hp : p < n) (hd : del p = 0) : ∀ k : Nat, k ≤ n → CI (arf w has wat g9 p) (stf wat g7 g8 r p) (nmf nm g9 p) (fun j => j = p ∨ j < k) (fold7 w nm wat del r g7 g8 g9 p k).2.2
  | 0, _ => by
    simp only [fold7]
    have hs : stf wat g7 g8 r p p = (if r = 0 then wat p else 0) := if_pos rfl
    have hm : nmf nm g9 p p = nm p := if_pos rfl
    by_cases z : wat p ≤ 0
    · rw [rise7_dry z]
      refine Or.inl ⟨fun j hj haj => ?_, rfl⟩
      rcases hj with e | e
      · subst e
        rcases haj with ⟨_, y⟩ | ⟨y, _⟩
        · exact (spg_wet hW hp).mp y z
        · exact y rfl
      · omega
    · rw [rise7_wet z, hd]
      have := CI.first (a := arf w has wat g9 p) (t := stf wat g7 g8 r p) (nv := nmf nm g9 p) (J := fun _ => False) (k := p) (by omega) (fun _ h => h.elim) (J' := fun j => j = p ∨ j < 0) (fun j _ => ⟨fun h => Or.inr (h.elim id (fun h => by omega)), fun h => Or.inl (h.elim False.elim id)⟩) (Or.inl ⟨rfl, (spg_wet hW hp).mpr z⟩)
      rw [hs, hm] at this
      exact this
  | k + 1, hk => by
    have ih := fold7_CI hD hn hW hp hd k (by omega)
    simp only [fold7]
    by_cases z : w k = nI p
    · rw [if_pos z]
      simp only [flow7]
      have hkp : ¬ k = p := fun e => by subst e; exact hD.ne hn hp z
      by_cases y : g9 k = -1
      · rw [if_pos y]
        refine ih.same (fun j haj => ⟨fun h => ?_, fun h => h.elim Or.inl (fun q => Or.inr (by omega))⟩)
        rcases h with e | e
        · exact Or.inl e
        · by_cases e2 : j = k
          · subst e2
            rcases haj with ⟨q, _⟩ | ⟨_, _, q⟩
            · exact absurd q hkp
            · exact absurd y q
          · exact Or.inr (by omega)
      · rw [if_neg y, hd]
        have hs : stf wat g7 g8 r p k = (if r = 0 then g7 k else g8 k) := if_neg hkp
        have hm : nmf nm g9 p k = g9 k := if_neg hkp
        have hb : ∀ c, (fold7 w nm wat del r g7 g8 g9 p k).2.2.2.1 = nI c → c ≤ 40 → c ≤ 30 := fun c h1 h2 => by
          rw [fold7_cnt hW hp hd k] at h1
          have h3 := cnb_le (fun q => decide (w q = nI p) && !decide (g9 q = -1)) k
          have h4 : (if sprg has wat p = true then 1 else 0) ≤ 1 := by split <;> omega
          have := zn_eq (by omega) (by omega) h1
          omega
        have := ih.next (k := k) (J' := fun j => j = p ∨ j < k + 1) (by omega) (fun c h1 h2 => by have := hb c h1 h2; omega) hb (fun j _ => ⟨fun h => by
          rcases h with e | e
          · exact Or.inl (Or.inl e)
          · by_cases e2 : j = k
            · exact Or.inr e2
            · exact Or.inl (Or.inr (by omega)), fun h => by
          rcases h with (e | e) | e
          · exact Or.inl e
          · exact Or.inr (by omega)
          · exact Or.inr (by omega)⟩) (Or.inr ⟨hkp, z, y⟩) (fun h => h.elim hkp (fun q => by omega))
        rw [hs, hm] at this
        exact this
    · rw [if_neg z]
      refine ih.same (fun j haj => ⟨fun h => ?_, fun h => h.elim Or.inl (fun q => Or.inr (by omega))⟩)
      rcases h with e | e
      · exact Or.inl e
      · by_cases e2 : j = k
        · subst e2
          rcases haj with ⟨q, _⟩ | ⟨_, q, _⟩
          · exact Or.inl q
          · exact absurd q z
        · exact Or.inr (by omega)
theorem mN_MI (hD : Dep n w s d) (hn : n ≤ 16) {p : Nat} (hp : p < n) (hpos : ∀ j, j < n → arf w has wat g9 p j → -1 < stf wat g7 g8 r p j) : ∀ k : Nat, k ≤ n → ((∀ j, j < k → ¬ arf w has wat g9 p j) ∧ mN w has nm wat g7 g8 g9 r p k = (-1, -1)) ∨ ∃ i, Best (arf w has wat g9 p) (stf wat g7 g8 r p) (fun j => j < k) i ∧ mN w has nm wat g7 g8 g9 r p k = (nmf nm g9 p i, stf wat g7 g8 r p i)
  | 0, _ => Or.inl ⟨fun j hj => by omega, rfl⟩
  | k + 1, hk => by
    have ih := mN_MI hD hn hp hpos k (by omega)
    -- what a new arguer does
    have new : ∀ (io on : Int32), arf w has wat g9 p k → stf wat g7 g8 r p k = io → nmf nm g9 p k = on → mN w has nm wat g7 g8 g9 r p (k + 1) = (if (mN w has nm wat g7 g8 g9 r p k).2 < io then (on, io) else mN w has nm wat g7 g8 g9 r p k) → ((∀ j, j < k + 1 → ¬ arf w has wat g9 p j) ∧ mN w has nm wat g7 g8 g9 r p (k + 1) = (-1, -1)) ∨ ∃ i, Best (arf w has wat g9 p) (stf wat g7 g8 r p) (fun j => j < k + 1) i ∧ mN w has nm wat g7 g8 g9 r p (k + 1) = (nmf nm g9 p i, stf wat g7 g8 r p i) := by
      intro io on hak hs hm hst
      refine Or.inr ?_
      rcases ih with ⟨h1, h2⟩ | ⟨i, h1, h2⟩
      · refine ⟨k, ⟨Nat.lt_succ_self k, hak, fun j hj haj => ?_⟩, ?_⟩
        · by_cases e : j = k
          · subst e; exact Or.inr ⟨rfl, Nat.le_refl _⟩
          · have hj2 : j < k + 1 := hj
            exact absurd haj (h1 j (by omega))
        · rw [hst, h2, hs, hm]
          exact if_pos (by rw [← hs]; exact hpos k (by omega) hak)
      · have hik : i < k := h1.1
        by_cases win : stf wat g7 g8 r p i < io
        · refine ⟨k, ⟨Nat.lt_succ_self k, hak, fun j hj haj => ?_⟩, ?_⟩
          · by_cases e : j = k
            · subst e; exact Or.inr ⟨rfl, Nat.le_refl _⟩
            · have hj2 : j < k + 1 := hj
              rcases h1.2.2 j (show j < k by omega) haj with z | z
              · exact Or.inl (by rw [hs]; exact lt_tr z win)
              · exact Or.inl (by rw [hs, z.1]; exact win)
          · rw [hst, h2, hs, hm]; exact if_pos win
        · refine ⟨i, ⟨Nat.lt_succ_of_lt hik, h1.2.1, fun j hj haj => ?_⟩, ?_⟩
          · by_cases e : j = k
            · subst e
              rcases nlt win with z | z
              · exact Or.inl (by rw [hs]; exact z)
              · exact Or.inr ⟨by rw [hs]; exact z, by omega⟩
            · have hj2 : j < k + 1 := hj
              exact h1.2.2 j (show j < k by omega) haj
          · rw [hst, h2]; exact if_neg win
    have old : ¬ arf w has wat g9 p k → mN w has nm wat g7 g8 g9 r p (k + 1) = mN w has nm wat g7 g8 g9 r p k → ((∀ j, j < k + 1 → ¬ arf w has wat g9 p j) ∧ mN w has nm wat g7 g8 g9 r p (k + 1) = (-1, -1)) ∨ ∃ i, Best (arf w has wat g9 p) (stf wat g7 g8 r p) (fun j => j < k + 1) i ∧ mN w has nm wat g7 g8 g9 r p (k + 1) = (nmf nm g9 p i, stf wat g7 g8 r p i) := by
      intro hna hst
      rw [hst]
      rcases ih with ⟨h1, h2⟩ | ⟨i, h1, h2⟩
      · refine Or.inl ⟨fun j hj => ?_, h2⟩
        by_cases e : j = k
        · subst e; exact hna
        · exact h1 j (by omega)
      · have hik : i < k := h1.1
        refine Or.inr ⟨i, ⟨Nat.lt_succ_of_lt hik, h1.2.1, fun j hj haj => ?_⟩, h2⟩
        by_cases e : j = k
        · subst e; exact absurd haj hna
        · have hj2 : j < k + 1 := hj
          exact h1.2.2 j (show j < k by omega) haj
    cases ow : (decide (k = p) && sprg has wat p) with
    | true =>
      have h1 : k = p ∧ sprg has wat p = true := by simpa using ow
      exact new _ _ (Or.inl h1) (if_pos h1.1) (if_pos h1.1) (mN_own ow)
    | false =>
      by_cases z : w k = nI p
      · have hkp : ¬ k = p := fun e => by subst e; exact hD.ne hn hp z
        by_cases y : g9 k = -1
        · refine old (fun q => ?_) (mN_s2 ow y)
          rcases q with ⟨q, _⟩ | ⟨_, _, q⟩
          · exact hkp q
          · exact q y
        · exact new _ _ (Or.inr ⟨hkp, z, y⟩) (if_neg hkp) (if_neg hkp) (mN_up ow z y)
      · refine old (fun q => ?_) (mN_s1 ow z)
        rcases q with ⟨q1, q2⟩ | ⟨_, q, _⟩
        · rw [q2] at ow; simp [q1] at ow
        · exact z q
theorem m1_lt_nI {a : Nat} (h : a < 2 ^ 31) : (-1 : Int32) < nI a := by
  rw [Int32.lt_iff_toInt_lt, nI_toInt h]
  have : (-1 : Int32).toInt = -1 := by decide
  omega
theorem Stl.CI (hD : Dep n w s d) (hn : n ≤ 16) (hW : Wat n has wat) (hS : Stl n w nm wat del r g7 g8 g9 g10 g11 g12 g13) {p : Nat} (hp : p < n) (hd : del p = 0) : CI (arf w has wat g9 p) (stf wat g7 g8 r p) (nmf nm g9 p) (fun j => j < n) (g9 p, g10 p, g11 p, g12 p, g13 p) := by
  have h := fold7_CI (nm := nm) (r := r) (g7 := g7) (g8 := g8) (g9 := g9) hD hn hW hp hd n (Nat.le_refl n)
  rw [← hS p hp] at h
  exact h.same (fun j _ => ⟨fun q => Or.inr q, fun q => q.elim (fun e => by subst e; exact hp) id⟩)
theorem Stl.MA (hD : Dep n w s d) (hn : n ≤ 16) (hW : Wat n has wat) (hS : Stl n w nm wat del r g7 g8 g9 g10 g11 g12 g13) : ∀ p, p < n → MA n w has nm wat del r g7 g8 g9 p := by
  intro p hp
  refine ⟨?_, (hS.len hD hn hW p hp).2, ?_⟩
  · have f1 : g7 p = (fold7 w nm wat del r g7 g8 g9 p n).1 := congrArg (fun t : T7 => t.1) (hS p hp)
    rw [f1]; exact fold7_w hW hp n
  · unfold nmd
    by_cases hd : del p = 0
    · rw [if_neg (fun z => z hd)]
      have hpos : ∀ j, j < n → arf w has wat g9 p j → -1 < stf wat g7 g8 r p j := fun j hj _ => by
        unfold stf wor
        by_cases e : j = p
        · rw [if_pos e]
          by_cases y : r = 0
          · rw [if_pos y]
            obtain ⟨_, a, ha, e2⟩ := hW p hp
            rw [e2]; exact m1_lt_nI (by omega)
          · rw [if_neg y]; decide
        · rw [if_neg e]
          by_cases y : r = 0
          · rw [if_pos y]
            obtain ⟨o, ho, e2⟩ := hS.water hD hn (fun p hp => (hW p hp).2) j hj
            rw [e2]; exact m1_lt_nI (by omega)
          · rw [if_neg y]
            obtain ⟨⟨m, hm, e2⟩, _⟩ := hS.len hD hn hW j hj
            rw [e2]; exact m1_lt_nI (by omega)
      rcases hS.CI hD hn hW hp hd with ⟨h1, h2⟩ | ⟨i, c, b, h1, h2, h3, h4, h5, h6⟩
      · have e : g9 p = -1 := congrArg Prod.fst h2
        rcases mN_MI hD hn hp hpos n (Nat.le_refl n) with ⟨_, k2⟩ | ⟨i, k1, k2⟩
        · rw [k2, e]
        · exact absurd k1.2.1 (h1 i k1.1)
      · have e : g9 p = nmf nm g9 p i := congrArg Prod.fst h2
        rcases mN_MI hD hn hp hpos n (Nat.le_refl n) with ⟨k1, _⟩ | ⟨i', k1, k2⟩
        · exact absurd h1.2.1 (k1 i h1.1)
        · have := Best.unique (fun _ _ => Iff.rfl) h1 k1
          subst this
          rw [k2]; exact e
    · rw [if_pos hd]
      have f1 : (g9 p, g10 p, g11 p, g12 p, g13 p) = (fold7 w nm wat del r g7 g8 g9 p n).2.2 := congrArg (fun t : T7 => t.2.2) (hS p hp)
      rw [fold7_del hd n] at f1
      exact congrArg Prod.fst f1
theorem Stl.arg (hW : Wat n has wat) (hS : Stl n w nm wat del r g7 g8 g9 g10 g11 g12 g13) {p : Nat} (hp : p < n) : g10 p = nI (agA w has wat del g9 p n) := by
  unfold agA
  by_cases hd : del p = 0
  · rw [if_neg (fun z => z hd)]
    have f1 : g10 p = (fold7 w nm wat del r g7 g8 g9 p n).2.2.2.1 := congrArg (fun t : T7 => t.2.2.2.1) (hS p hp)
    rw [f1]; exact fold7_cnt hW hp hd n
  · rw [if_pos hd]
    have f1 : (g9 p, g10 p, g11 p, g12 p, g13 p) = (fold7 w nm wat del r g7 g8 g9 p n).2.2 := congrArg (fun t : T7 => t.2.2) (hS p hp)
    rw [fold7_del hd n] at f1
    exact congrArg (fun t => t.2.1) f1
theorem Stl.dis (hD : Dep n w s d) (hn : n ≤ 16) (hW : Wat n has wat) (hS : Stl n w nm wat del r g7 g8 g9 g10 g11 g12 g13) {p : Nat} (hp : p < n) : g11 p = zb (agD w has nm wat del g9 p n) := by
  unfold agD
  by_cases hd : del p = 0
  · rw [if_neg (fun z => z hd)]
    have hnp : ∀ j, j < n → w j = nI p → ¬ j = p := fun j _ e z => by subst z; exact hD.ne hn hp e
    rcases hS.CI hD hn hW hp hd with ⟨h1, h2⟩ | ⟨i, c, b, h1, h2, h3, h4, h5, h6⟩
    · have e : g11 p = 0 := congrArg (fun t => t.2.2.1) h2
      have e1 : sprg has wat p = false := by
        cases z : sprg has wat p with
        | false => rfl
        | true => exact absurd (Or.inl ⟨rfl, z⟩) (h1 p hp)
      have e2 : anb (fun q => decide (w q = nI p) && !decide (g9 q = -1) && !decide (g9 q = g9 p)) n = false := by
        cases z : anb (fun q => decide (w q = nI p) && !decide (g9 q = -1) && !decide (g9 q = g9 p)) n with
        | false => rfl
        | true =>
          obtain ⟨j, hj, hb⟩ := (anb_iff _ n).mp z
          simp only [Bool.and_eq_true, decide_eq_true_eq, Bool.not_eq_true', decide_eq_false_iff_not] at hb
          exact absurd (Or.inr ⟨hnp j hj hb.1.1, hb.1.1, hb.1.2⟩) (h1 j hj)
      rw [e, e1, e2]; rfl
    · have e : g11 p = zb b := congrArg (fun t => t.2.2.1) h2
      have e0 : g9 p = nmf nm g9 p i := congrArg Prod.fst h2
      rw [e]
      congr 1
      have : b = true ↔ ((sprg has wat p && !decide (nm p = g9 p)) || anb (fun q => decide (w q = nI p) && !decide (g9 q = -1) && !decide (g9 q = g9 p)) n) = true := by
        rw [h6, Bool.or_eq_true, anb_iff]
        constructor
        · rintro ⟨j, hj, haj, hne⟩
          rw [← e0] at hne
          rcases haj with ⟨q1, q2⟩ | ⟨q1, q2, q3⟩
          · left
            rw [q2]
            unfold nmf at hne
            rw [if_pos q1] at hne
            simp [hne]
          · right
            unfold nmf at hne
            rw [if_neg q1] at hne
            exact ⟨j, hj, by simp [q2, q3, hne]⟩
        · rintro (z | ⟨j, hj, hb⟩)
          · simp only [Bool.and_eq_true, Bool.not_eq_true', decide_eq_false_iff_not] at z
            refine ⟨p, hp, Or.inl ⟨rfl, z.1⟩, ?_⟩
            rw [← e0]
            unfold nmf
            rw [if_pos rfl]
            exact z.2
          · simp only [Bool.and_eq_true, decide_eq_true_eq, Bool.not_eq_true', decide_eq_false_iff_not] at hb
            refine ⟨j, hj, Or.inr ⟨hnp j hj hb.1.1, hb.1.1, hb.1.2⟩, ?_⟩
            rw [← e0]
            unfold nmf
            rw [if_neg (hnp j hj hb.1.1)]
            exact hb.2
      exact Bool.eq_iff_iff.mpr this
  · rw [if_pos hd]
    have f1 : (g9 p, g10 p, g11 p, g12 p, g13 p) = (fold7 w nm wat del r g7 g8 g9 p n).2.2 := congrArg (fun t : T7 => t.2.2) (hS p hp)
    rw [fold7_del hd n] at f1
    exact congrArg (fun t => t.2.2.1) f1
end STN
