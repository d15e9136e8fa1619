/-! ===== one solution; settled is reckoned ===== -/
theorem MA.unique {n : Nat} {f0 f1 f2 f3 f5 s : Nat → Int32} {d : Nat → Nat} {r : Int32} {g9 g10 g11 e9 e10 e11 : Nat → Int32} (hD : Dep n f0 s d) (hn : n ≤ 16) (hg : ∀ p, p < n → MA n f0 f1 f2 f3 f5 r g9 g10 g11 p) (he : ∀ p, p < n → MA n f0 f1 f2 f3 f5 r e9 e10 e11 p) : ∀ p, p < n → e9 p = g9 p ∧ e10 p = g10 p ∧ e11 p = g11 p := by
  have key : ∀ (k p : Nat), p < n → n - d p ≤ k → e9 p = g9 p ∧ e10 p = g10 p ∧ e11 p = g11 p := by
    intro k
    induction k with
    | zero => intro p hp hk; have := (hD p hp).1; omega
    | succ k ih =>
      intro p hp hk
      have hc : ∀ j, j < n → f0 j = nI p → e9 j = g9 j ∧ e10 j = g10 j ∧ e11 j = g11 j := fun j hj e => ih j hj (by have := hD.to hn hj hp e; have := (hD j hj).1; omega)
      obtain ⟨a1, b1, c1⟩ := hg p hp
      obtain ⟨a2, b2, c2⟩ := he p hp
      unfold nmd at c1 c2
      rw [a1, b1, c1, a2, b2, c2, mW_congr n (fun j hj e => (hc j hj e).1), mL_congr n (fun j hj e => (hc j hj e).2.1), mN_congr n hc]
      exact ⟨rfl, rfl, rfl⟩
  exact fun p hp => key n p hp (by omega)
/-- water, length and name as they are reckoned -/
noncomputable def sol (n : Nat) (f0 f1 f2 f3 f5 : Nat → Int32) (r : Int32) : (Nat → Int32) × (Nat → Int32) × (Nat → Int32) := Classical.epsilon (fun g => ∀ p, p < n → MA n f0 f1 f2 f3 f5 r g.1 g.2.1 g.2.2 p)
theorem MA.sol {n : Nat} {f0 f1 f2 f3 f5 s : Nat → Int32} {d : Nat → Nat} {r : Int32} {g9 g10 g11 : Nat → Int32} (hD : Dep n f0 s d) (hn : n ≤ 16) (hg : ∀ p, p < n → MA n f0 f1 f2 f3 f5 r g9 g10 g11 p) : ∀ p, p < n → g9 p = (sol n f0 f1 f2 f3 f5 r).1 p ∧ g10 p = (sol n f0 f1 f2 f3 f5 r).2.1 p ∧ g11 p = (sol n f0 f1 f2 f3 f5 r).2.2 p := by
  have h := Classical.epsilon_spec (p := fun g : (Nat → Int32) × (Nat → Int32) × (Nat → Int32) => ∀ p, p < n → MA n f0 f1 f2 f3 f5 r g.1 g.2.1 g.2.2 p) ⟨(g9, g10, g11), hg⟩
  exact MA.unique hD hn h hg
theorem mW_dat {w w' g : Nat → Int32} {base : Int32} {p : Nat} : ∀ k : Nat, (∀ j, j < k → w j = w' j) → mW w g base p k = mW w' g base p k
  | 0, _ => rfl
  | k + 1, h => by simp only [mW]; rw [mW_dat k (fun j hj => h j (by omega)), h k (by omega)]
theorem mL_dat {w w' g : Nat → Int32} {p : Nat} : ∀ k : Nat, (∀ j, j < k → w j = w' j) → mL w g p k = mL w' g p k
  | 0, _ => rfl
  | k + 1, h => by simp only [mL]; rw [mL_dat k (fun j hj => h j (by omega)), h k (by omega)]
theorem mN_dat {f0 f1 f2 f3 e0 e1 e2 e3 g9 g10 g11 : Nat → Int32} {r : Int32} {p : Nat} (h1 : f1 p = e1 p) (h3 : f3 p = e3 p) (h2 : ¬ e1 p = 0 → f2 p = e2 p) : ∀ k : Nat, (∀ j, j < k → f0 j = e0 j) → mN f0 f1 f2 f3 g9 g10 g11 r p k = mN e0 e1 e2 e3 g9 g10 g11 r p k
  | 0, _ => rfl
  | k + 1, h => by
    have hs : sprg f1 f3 p = sprg e1 e3 p := by simp only [sprg, h1, h3]
    simp only [mN]
    rw [mN_dat h1 h3 h2 k (fun j hj => h j (by omega)), h k (by omega), hs, h3]
    by_cases z : (decide (k = p) && sprg e1 e3 p) = true
    · have : ¬ e1 p = 0 := fun q => by simp [sprg, q] at z
      rw [h2 this]
    · simp only [mst]
      rw [if_neg z, if_neg z]
theorem sol_congr {n : Nat} {f0 f1 f2 f3 f5 e0 e1 e2 e3 e5 : Nat → Int32} {r : Int32} (h : ∀ i, i < n → f0 i = e0 i ∧ f1 i = e1 i ∧ f3 i = e3 i ∧ f5 i = e5 i ∧ (¬ e1 i = 0 → f2 i = e2 i)) : sol n f0 f1 f2 f3 f5 r = sol n e0 e1 e2 e3 e5 r := by
  unfold sol
  congr 1
  funext g
  apply propext
  have key : ∀ p, p < n → (MA n f0 f1 f2 f3 f5 r g.1 g.2.1 g.2.2 p ↔ MA n e0 e1 e2 e3 e5 r g.1 g.2.1 g.2.2 p) := fun p hp => by
    obtain ⟨_, b, c, e, a2⟩ := h p hp
    unfold MA nmd
    rw [mW_dat (w := f0) (w' := e0) n (fun j hj => (h j hj).1), mL_dat (w := f0) (w' := e0) n (fun j hj => (h j hj).1), mN_dat b c a2 n (fun j hj => (h j hj).1)]
    simp only [mB, sprg, b, c, e]
  exact ⟨fun z p hp => (key p hp).mp (z p hp), fun z p hp => (key p hp).mpr (z p hp)⟩
section STM
variable {n : Nat} {w s has nm wat del : Nat → Int32} {r : Int32} {d : Nat → Nat} {g7 g8 g9 g10 g11 g12 g13 : Nat → Int32}
/-- what a land's springs are -/
def Wat (n : Nat) (has wat : Nat → Int32) : Prop := ∀ p, p < n → (has p = 0 → wat p = 0) ∧ ∃ a, a ≤ 99 ∧ wat p = nI a
theorem Wat.spg (h : Wat n has wat) {p : Nat} (hp : p < n) : sprg has wat p = !decide (wat p ≤ 0) := by
  unfold sprg
  by_cases z : has p = 0
  · rw [(h p hp).1 z]; simp [z]
  · simp [z]
theorem fold7_w (h : Wat n has wat) {p : Nat} (hp : p < n) : ∀ k : Nat, (fold7 w nm wat del r g7 g8 g9 p k).1 = mW w g7 (mB has wat p) p k
  | 0 => by
    simp only [fold7, rise7, mW, mB]
    by_cases z : has p = 0
    · rw [if_pos z, (h p hp).1 z]
    · rw [if_neg z]
  | k + 1 => by
    simp only [fold7, mW]
    by_cases z : w k = nI p
    · rw [if_pos z, if_pos z]
      simp only [flow7]
      rw [fold7_w h hp k]
    · rw [if_neg z, if_neg z, fold7_w h hp k]
theorem nI_le0 {a : Nat} (h : a < 2 ^ 31) : nI a ≤ 0 ↔ a = 0 := by
  constructor
  · intro z
    have := zn_le (a := a) (b := 0) h (by omega) z
    omega
  · intro z; subst z; decide
theorem mLf_nI {m : Nat} (hm : m < 2 ^ 31) (b : Bool) : mLf (nI m) b = if m = 0 then (if b = true then 1 else 0) else nI m := by
  unfold mLf
  by_cases z : m = 0
  · subst z
    rw [if_pos (rfl : (0 : Nat) = 0)]
    by_cases y : b = true
    · rw [if_pos ⟨rfl, y⟩, if_pos y]
    · rw [if_neg (fun q => y q.2), if_neg y]; rfl
  · rw [if_neg z, if_neg (fun q => z (zn_eq (b := 0) hm (by omega) q.1))]
theorem fold7_l (h : Wat n has wat) {p c : Nat} (hp : p < n) (hc : c ≤ 20) : ∀ k : Nat, (∀ j, j < k → w j = nI p → ∃ m, m + 1 ≤ c ∧ g8 j = nI m) → ∃ m, m ≤ c ∧ mL w g8 p k = nI m ∧ (fold7 w nm wat del r g7 g8 g9 p k).2.1 = mLf (nI m) (sprg has wat p)
  | 0, _ => by
    refine ⟨0, Nat.zero_le _, rfl, ?_⟩
    rw [h.spg hp, mLf_nI (by omega)]
    simp only [fold7, rise7, if_pos]
    by_cases z : wat p ≤ 0
    · simp [z]
    · simp [z]
  | k + 1, hb => by
    obtain ⟨m, hm, h1, h2⟩ := fold7_l h hp hc k (fun j hj => hb j (by omega))
    simp only [fold7, mL]
    by_cases z : w k = nI p
    · obtain ⟨L, hL, h3⟩ := hb k (by omega) z
      rw [if_pos z]
      simp only [flow7]
      by_cases y : g8 k ≤ 0
      · rw [if_pos y, if_neg (fun q => q.2 y), h1, h2]
        exact ⟨m, hm, rfl, rfl⟩
      · rw [if_neg y, if_pos ⟨z, y⟩, h1, h2, h3]
        rw [h3, nI_le0 (by omega)] at y
        have e1 : nI L + 1 = nI (L + 1) := nI_1 L
        have e2 : ∀ b : Bool, mLf (nI (L + 1)) b = nI (L + 1) := fun b => by rw [mLf_nI (by omega), if_neg (by omega)]
        by_cases x : m < L + 1
        · refine ⟨L + 1, hL, ?_, ?_⟩
          · rw [e1, if_pos (nI_lt x (by omega))]
          · rw [e1, e2, if_pos]
            rw [mLf_nI (by omega)]
            by_cases v : m = 0
            · rw [if_pos v]
              split
              · exact nI_lt (a := 1) (by omega) (by omega)
              · exact nI_lt (a := 0) (by omega) (by omega)
            · rw [if_neg v]; exact nI_lt x (by omega)
        · refine ⟨m, hm, ?_, ?_⟩
          · rw [e1, if_neg (nI_nlt (by omega) (by omega))]
          · rw [e1, if_neg]
            rw [mLf_nI (by omega), if_neg (by omega)]
            exact nI_nlt (by omega) (by omega)
    · rw [if_neg z, if_neg (fun q => z q.1)]
      exact ⟨m, hm, h1, h2⟩
theorem Stl.len (hD : Dep n w s d) (hn : n ≤ 16) (hW : Wat n has wat) (hS : Stl n w nm wat del r g7 g8 g9 g10 g11 g12 g13) : ∀ p, p < n → (∃ m, m ≤ n - d p ∧ g8 p = nI m) ∧ g8 p = mLf (mL w g8 p n) (sprg has wat p) := by
  have key : ∀ (k p : Nat), p < n → n - d p ≤ k → (∃ m, m ≤ n - d p ∧ g8 p = nI m) ∧ g8 p = mLf (mL w g8 p n) (sprg has wat p) := by
    intro k
    induction k with
    | zero => intro p hp hk; have := (hD p hp).1; omega
    | succ k ih =>
      intro p hp hk
      have hdp := (hD p hp).1
      obtain ⟨m, hm, h1, h2⟩ := fold7_l (nm := nm) (del := del) (r := r) (g7 := g7) (g9 := g9) hW hp (c := n - d p) (by omega) n (fun j hj e => by
        have h3 := hD.to hn hj hp e
        have h4 := (hD j hj).1
        obtain ⟨⟨m, hm, e2⟩, _⟩ := ih j hj (by omega)
        exact ⟨m, by omega, e2⟩)
      have f1 : g8 p = (fold7 w nm wat del r g7 g8 g9 p n).2.1 := congrArg (fun t : T7 => t.2.1) (hS p hp)
      rw [h2] at f1
      refine ⟨?_, by rw [h1]; exact f1⟩
      rw [mLf_nI (by omega)] at f1
      by_cases v : m = 0
      · rw [if_pos v] at f1
        by_cases b : sprg has wat p = true
        · rw [if_pos b] at f1; exact ⟨1, by omega, f1⟩
        · rw [if_neg b] at f1; exact ⟨0, by omega, f1⟩
      · rw [if_neg v] at f1; exact ⟨m, hm, f1⟩
  exact fun p hp => key n p hp (by omega)
/-- who argues at p, how strongly, for which name -/
def arf (w has wat g9 : Nat → Int32) (p i : Nat) : Prop := (i = p ∧ sprg has wat p = true) ∨ (¬ i = p ∧ w i = nI p ∧ ¬ g9 i = -1)
def stf (wat g7 g8 : Nat → Int32) (r : Int32) (p i : Nat) : Int32 := if i = p then (if r = 0 then wat p else 0) else wor r g7 g8 i
def nmf (nm g9 : Nat → Int32) (p i : Nat) : Int32 := if i = p then nm p else g9 i
def Best (a : Nat → Prop) (t : Nat → Int32) (J : Nat → Prop) (i : Nat) : Prop := J i ∧ a i ∧ ∀ j, J j → a j → t j < t i ∨ (t j = t i ∧ i ≤ j)
theorem lt_irr (x : Int32) : ¬ x < x := fun h => by rw [Int32.lt_iff_toInt_lt] at h; omega
theorem lt_tr {x y z : Int32} (h1 : x < y) (h2 : y < z) : x < z := by rw [Int32.lt_iff_toInt_lt] at h1 h2 ⊢; omega
theorem lt_asy {x y : Int32} (h1 : x < y) (h2 : y < x) : False := lt_irr x (lt_tr h1 h2)
theorem nlt {x y : Int32} (h : ¬ x < y) : y < x ∨ y = x := by
  rw [Int32.lt_iff_toInt_lt] at h ⊢
  by_cases e : y.toInt = x.toInt
  · exact Or.inr (Int32.toInt_inj.mp e)
  · exact Or.inl (by omega)
theorem Best.unique {a : Nat → Prop} {t : Nat → Int32} {J J' : Nat → Prop} {i i' : Nat} (hJ : ∀ j, a j → (J j ↔ J' j)) (h : Best a t J i) (h' : Best a t J' i') : i = i' := by
  have h1 := h.2.2 i' ((hJ i' h'.2.1).mpr h'.1) h'.2.1
  have h2 := h'.2.2 i ((hJ i h.2.1).mp h.1) h.2.1
  rcases h1 with z | z
  · rcases h2 with y | y
    · exact absurd z (fun q => lt_asy q y)
    · rw [y.1] at z; exact absurd z (lt_irr _)
  · rcases h2 with y | y
    · rw [z.1] at y; exact absurd y (lt_irr _)
    · omega
theorem zb_t1 (b : Bool) : (if b = true then (1 : Int32) else 0) = zb b := rfl
/-- a place that hears arguers one by one -/
def CI (a : Nat → Prop) (t nv : Nat → Int32) (J : Nat → Prop) (T : Int32 × Int32 × Int32 × Int32 × Int32) : Prop :=
  ((∀ j, J j → ¬ a j) ∧ T = (-1, 0, 0, -1, 0)) ∨ ∃ (i c : Nat) (b : Bool), Best a t J i ∧ T = (nv i, nI c, zb b, nI i, t i) ∧ i < 16 ∧ 1 ≤ c ∧ c ≤ 40 ∧ (b = true ↔ ∃ j, J j ∧ a j ∧ ¬ nv j = nv i)
def cntT (T : Int32 × Int32 × Int32 × Int32 × Int32) (c : Nat) : Prop := T.2.1 = nI c
theorem CI.first {a : Nat → Prop} {t nv : Nat → Int32} {J : Nat → Prop} {k : Nat} (hk : k < 16) (hJ : ∀ j, J j → ¬ a j) {J' : Nat → Prop} (hJ' : ∀ j, a j → (J' j ↔ J j ∨ j = k)) (hak : a k) : CI a t nv J' (arg5 0 (nI k) (nv k) (t k) (-1) 0 0 (-1) 0) := by
  refine Or.inr ⟨k, 1, false, ⟨(hJ' k hak).mpr (Or.inr rfl), hak, fun j hj haj => ?_⟩, ?_, hk, by omega, by omega, ?_⟩
  · rcases (hJ' j haj).mp hj with z | z
    · exact absurd haj (hJ j z)
    · subst z; exact Or.inr ⟨rfl, Nat.le_refl _⟩
  · simp [arg5]; exact ⟨by decide, rfl⟩
  · refine ⟨fun z => (by cases z), fun ⟨j, hj, haj, hne⟩ => ?_⟩
    rcases (hJ' j haj).mp hj with z | z
    · exact absurd haj (hJ j z)
    · subst z; exact absurd rfl hne
theorem CI.same {a : Nat → Prop} {t nv : Nat → Int32} {J J' : Nat → Prop} {T : Int32 × Int32 × Int32 × Int32 × Int32} (hJ : ∀ j, a j → (J' j ↔ J j)) (h : CI a t nv J T) : CI a t nv J' T := by
  rcases h with ⟨h1, h2⟩ | ⟨i, c, b, h1, h2, h3, h4, h5, h6⟩
  · exact Or.inl ⟨fun j hj haj => h1 j ((hJ j haj).mp hj) haj, h2⟩
  · refine Or.inr ⟨i, c, b, ⟨(hJ i h1.2.1).mpr h1.1, h1.2.1, fun j hj haj => h1.2.2 j ((hJ j haj).mp hj) haj⟩, h2, h3, h4, h5, h6.trans ⟨?_, ?_⟩⟩
    · rintro ⟨j, hj, haj, hne⟩; exact ⟨j, (hJ j haj).mpr hj, haj, hne⟩
    · rintro ⟨j, hj, haj, hne⟩; exact ⟨j, (hJ j haj).mp hj, haj, hne⟩
theorem CI.next {a : Nat → Prop} {t nv : Nat → Int32} {J J' : Nat → Prop} {k : Nat} {T : Int32 × Int32 × Int32 × Int32 × Int32} (hk : k < 16) (h : CI a t nv J T) (hc : ∀ c, T.2.1 = nI c → c ≤ 40 → c + 1 ≤ 40 ∨ ¬ c ≤ 30) (hsm : ∀ c, T.2.1 = nI c → c ≤ 40 → c ≤ 30) (hJ' : ∀ j, a j → (J' j ↔ J j ∨ j = k)) (hak : a k) (hnew : ¬ J k) : CI a t nv J' (arg5 0 (nI k) (nv k) (t k) T.1 T.2.1 T.2.2.1 T.2.2.2.1 T.2.2.2.2) := by
  rcases h with ⟨h1, h2⟩ | ⟨i, c, b, h1, h2, h3, h4, h5, h6⟩
  · subst h2
    exact CI.first hk h1 hJ' hak
  · subst h2
    have hc30 := hsm c rfl h5
    have hm : ¬ nI i = (-1 : Int32) := ne_m1 (by omega)
    have hp : ¬ nI c ≤ 0 := fun z => by rw [nI_le0 (by omega)] at z; omega
    have hik : ¬ i = k := fun z => hnew (z ▸ h1.1)
    have e1 : nI c + 1 = nI (c + 1) := nI_1 c
    simp only [arg5, not_true_eq_false, if_false]
    by_cases win : t i < t k ∨ (t k = t i ∧ ¬ nI i ≤ nI k)
    · rw [if_pos (Or.inr win)]
      have hbest : Best a t J' k := by
        refine ⟨(hJ' k hak).mpr (Or.inr rfl), hak, fun j hj haj => ?_⟩
        rcases (hJ' j haj).mp hj with z | z
        · rcases win with y | y
          · rcases h1.2.2 j z haj with x | x
            · exact Or.inl (lt_tr x y)
            · rw [x.1]; exact Or.inl y
          · have hki : k < i := by
              rcases Nat.lt_or_ge k i with q | q
              · exact q
              · exact absurd (nI_le q (by omega)) y.2
            rcases h1.2.2 j z haj with x | x
            · rw [y.1]; exact Or.inl x
            · rw [y.1]; exact Or.inr ⟨x.1, by omega⟩
        · subst z; exact Or.inr ⟨rfl, Nat.le_refl _⟩
      by_cases hd : nv k = nv i
      · rw [if_neg (fun z => z.2 hd), e1]
        refine Or.inr ⟨k, c + 1, b, hbest, rfl, hk, by omega, by omega, h6.trans ⟨?_, ?_⟩⟩
        · rintro ⟨j, hj, haj, hne⟩; exact ⟨j, (hJ' j haj).mpr (Or.inl hj), haj, by rw [hd]; exact hne⟩
        · rintro ⟨j, hj, haj, hne⟩
          rcases (hJ' j haj).mp hj with z | z
          · exact ⟨j, z, haj, by rw [← hd]; exact hne⟩
          · subst z; exact absurd rfl hne
      · rw [if_pos ⟨hp, hd⟩, e1]
        exact Or.inr ⟨k, c + 1, true, hbest, rfl, hk, by omega, by omega, ⟨fun _ => ⟨i, (hJ' i h1.2.1).mpr (Or.inl h1.1), h1.2.1, fun z => hd z.symm⟩, fun _ => rfl⟩⟩
    · rw [if_neg (fun z => z.elim hm win)]
      have hbest : Best a t J' i := by
        refine ⟨(hJ' i h1.2.1).mpr (Or.inl h1.1), h1.2.1, fun j hj haj => ?_⟩
        rcases (hJ' j haj).mp hj with z | z
        · exact h1.2.2 j z haj
        · subst z
          rcases nlt (fun q => win (Or.inl q)) with y | y
          · exact Or.inl y
          · refine Or.inr ⟨y, ?_⟩
            rcases Nat.lt_or_ge j i with q | q
            · exact absurd (Or.inr ⟨y, fun x => by have := zn_le (by omega) (by omega) x; omega⟩) win
            · exact q
      by_cases hd : nv k = nv i
      · rw [if_neg (fun z => z.2 hd), e1]
        refine Or.inr ⟨i, c + 1, b, hbest, rfl, h3, by omega, by omega, h6.trans ⟨?_, ?_⟩⟩
        · rintro ⟨j, hj, haj, hne⟩; exact ⟨j, (hJ' j haj).mpr (Or.inl hj), haj, hne⟩
        · rintro ⟨j, hj, haj, hne⟩
          rcases (hJ' j haj).mp hj with z | z
          · exact ⟨j, z, haj, hne⟩
          · subst z; exact absurd hd hne
      · rw [if_pos ⟨hp, hd⟩, e1]
        exact Or.inr ⟨i, c + 1, true, hbest, rfl, h3, by omega, by omega, ⟨fun _ => ⟨k, (hJ' k hak).mpr (Or.inr rfl), hak, hd⟩, fun _ => rfl⟩⟩
end STM
