/-! ===== the settling of a land, in pure words ===== -/
abbrev T7 : Type := Int32 × Int32 × Int32 × Int32 × Int32 × Int32 × Int32
def tat (f7 f8 f9 f10 f11 f12 f13 : Nat → Int32) (j : Nat) : T7 := (f7 j, f8 j, f9 j, f10 j, f11 j, f12 j, f13 j)
def rise7 (wat del r nm who : Int32) : T7 := (wat, (if wat ≤ 0 then 0 else 1), if wat ≤ 0 then (-1, 0, 0, -1, 0) else arg5 del who nm (if r = 0 then wat else 0) (-1) 0 0 (-1) 0)
def flow7 (del r who W L N : Int32) (t : T7) : T7 := (t.1 + W, (if L ≤ 0 then t.2.1 else if t.2.1 < L + 1 then L + 1 else t.2.1), if N = -1 then t.2.2 else arg5 del who N (if r = 0 then W else L) t.2.2.1 t.2.2.2.1 t.2.2.2.2.1 t.2.2.2.2.2.1 t.2.2.2.2.2.2)
/-- what a place has heard from the first k places, these being as g7, g8, g9 say -/
def fold7 (w nm wat del : Nat → Int32) (r : Int32) (g7 g8 g9 : Nat → Int32) (p : Nat) : Nat → T7
  | 0 => rise7 (wat p) (del p) r (nm p) (nI p)
  | k + 1 => if w k = nI p then flow7 (del p) r (nI k) (g7 k) (g8 k) (g9 k) (fold7 w nm wat del r g7 g8 g9 p k) else fold7 w nm wat del r g7 g8 g9 p k
/-- ways with depths -/
def Dep (n : Nat) (w s : Nat → Int32) (d : Nat → Nat) : Prop := ∀ p, p < n → d p < n ∧ s p = nI (d p) ∧ ((w p = -1 ∧ d p = 0) ∨ ∃ q, q < n ∧ w p = nI q ∧ d p = d q + 1)
theorem Dep.vw {n : Nat} {w s : Nat → Int32} {d : Nat → Nat} (h : Dep n w s d) : Vw n w := fun p hp => by
  rcases (h p hp).2.2 with h1 | ⟨q, hq, h1, _⟩
  · exact Or.inl h1.1
  · exact Or.inr ⟨q, hq, h1⟩
theorem Dep.to {n : Nat} {w s : Nat → Int32} {d : Nat → Nat} (h : Dep n w s d) (hn : n ≤ 16) {p q : Nat} (hp : p < n) (hq : q < n) (e : w p = nI q) : d p = d q + 1 := by
  rcases (h p hp).2.2 with h1 | ⟨q', hq', h1, h2⟩
  · rw [h1.1] at e
    exact absurd (e ▸ nI_nneg (q := q) (by omega)) (by decide)
  · rw [h1] at e
    have := zn_eq (by omega) (by omega) e
    subst this; exact h2
theorem Dep.ne {n : Nat} {w s : Nat → Int32} {d : Nat → Nat} (h : Dep n w s d) (hn : n ≤ 16) {p : Nat} (hp : p < n) : ¬ w p = nI p := fun e => by
  have := h.to hn hp hp e
  omega
theorem fold7_congr {w nm wat del : Nat → Int32} {r : Int32} {g7 g8 g9 e7 e8 e9 : Nat → Int32} {p : Nat} : ∀ k : Nat, (∀ j, j < k → w j = nI p → e7 j = g7 j ∧ e8 j = g8 j ∧ e9 j = g9 j) → fold7 w nm wat del r e7 e8 e9 p k = fold7 w nm wat del r g7 g8 g9 p k
  | 0, _ => rfl
  | k + 1, h => by
    have ih := fold7_congr (w := w) (nm := nm) (wat := wat) (del := del) (r := r) (p := p) k (fun j hj e => h j (by omega) e)
    simp only [fold7]
    by_cases hw : w k = nI p
    · obtain ⟨a, b, c⟩ := h k (by omega) hw
      rw [if_pos hw, if_pos hw, ih, a, b, c]
    · rw [if_neg hw, if_neg hw, ih]
theorem fold7_none {w nm wat del : Nat → Int32} {r : Int32} {g7 g8 g9 : Nat → Int32} {p : Nat} (a : Nat) : ∀ k : Nat, (∀ j, a ≤ j → j < a + k → ¬ w j = nI p) → fold7 w nm wat del r g7 g8 g9 p (a + k) = fold7 w nm wat del r g7 g8 g9 p a
  | 0, _ => rfl
  | k + 1, h => by
    rw [← Nat.add_assoc]
    simp only [fold7]
    rw [if_neg (h (a + k) (by omega) (by omega))]
    exact fold7_none a k (fun j h1 h2 => h j h1 (by omega))
def bnd (d : Nat → Nat) (n k j p : Nat) : Nat := if k ≤ d p + 1 then n else if k = d p + 2 then j else 0
/-- the invariant of settling: with k - 1 the steps looked at, j the place -/
def SI (n : Nat) (w nm wat del : Nat → Int32) (r : Int32) (d : Nat → Nat) (k j : Nat) (g7 g8 g9 g10 g11 g12 g13 : Nat → Int32) : Prop :=
  ∀ p, p < n → tat g7 g8 g9 g10 g11 g12 g13 p = fold7 w nm wat del r g7 g8 g9 p (bnd d n k j p)
/-- settled -/
def Stl (n : Nat) (w nm wat del : Nat → Int32) (r : Int32) (g7 g8 g9 g10 g11 g12 g13 : Nat → Int32) : Prop :=
  ∀ p, p < n → tat g7 g8 g9 g10 g11 g12 g13 p = fold7 w nm wat del r g7 g8 g9 p n
section SET
variable {n : Nat} {w s nm wat del : Nat → Int32} {r : Int32} {d : Nat → Nat} {g7 g8 g9 g10 g11 g12 g13 e7 e8 e9 e10 e11 e12 e13 : Nat → Int32}
theorem SI.first (h : Dep n w s d) (hn : n ≤ 16) (h0 : ∀ p, p < n → tat g7 g8 g9 g10 g11 g12 g13 p = rise7 (wat p) (del p) r (nm p) (nI p)) : SI n w nm wat del r d n 0 g7 g8 g9 g10 g11 g12 g13 := by
  intro p hp
  rw [h0 p hp]
  unfold bnd
  by_cases h1 : n ≤ d p + 1
  · rw [if_pos h1]
    have := fold7_none (w := w) (nm := nm) (wat := wat) (del := del) (r := r) (g7 := g7) (g8 := g8) (g9 := g9) (p := p) 0 n (fun j _ hj e => by
      have h2 := h.to hn (by omega : j < n) hp e
      have h3 := (h j (by omega)).1
      omega)
    rw [Nat.zero_add] at this
    rw [this]; rfl
  · rw [if_neg h1]
    by_cases h2 : n = d p + 2
    · rw [if_pos h2]; rfl
    · rw [if_neg h2]; rfl
theorem SI.next {k : Nat} (h : SI n w nm wat del r d (k + 1) n g7 g8 g9 g10 g11 g12 g13) : SI n w nm wat del r d k 0 g7 g8 g9 g10 g11 g12 g13 := by
  intro p hp
  rw [h p hp]
  congr 1
  unfold bnd
  by_cases h1 : k + 1 ≤ d p + 1
  · rw [if_pos h1, if_pos (by omega)]
  · rw [if_neg h1]
    by_cases h2 : k + 1 = d p + 2
    · rw [if_pos h2, if_pos (by omega)]
    · rw [if_neg h2, if_neg (by omega)]
      by_cases h3 : k = d p + 2
      · rw [if_pos h3]
      · rw [if_neg h3]
theorem SI.last (h : SI n w nm wat del r d 0 0 g7 g8 g9 g10 g11 g12 g13) : Stl n w nm wat del r g7 g8 g9 g10 g11 g12 g13 := by
  intro p hp
  rw [h p hp]
  unfold bnd
  rw [if_pos (by omega)]
theorem SI.skip (hD : Dep n w s d) (hn : n ≤ 16) {k j : Nat} (hj : j < n) (hne : ¬ d j + 1 = k) (h : SI n w nm wat del r d k j g7 g8 g9 g10 g11 g12 g13) : SI n w nm wat del r d k (j + 1) g7 g8 g9 g10 g11 g12 g13 := by
  intro p hp
  rw [h p hp]
  unfold bnd
  by_cases h1 : k ≤ d p + 1
  · rw [if_pos h1, if_pos h1]
  · rw [if_neg h1, if_neg h1]
    by_cases h2 : k = d p + 2
    · rw [if_pos h2, if_pos h2]
      simp only [fold7]
      rw [if_neg (fun e => hne (by have := hD.to hn hj hp e; omega))]
    · rw [if_neg h2, if_neg h2]
/-- a place without a way on: nothing changes -/
theorem SI.sea (hD : Dep n w s d) (hn : n ≤ 16) {k j : Nat} (hj : j < n) (hsea : w j = -1) (h : SI n w nm wat del r d k j g7 g8 g9 g10 g11 g12 g13) (he : ∀ p, tat e7 e8 e9 e10 e11 e12 e13 p = tat g7 g8 g9 g10 g11 g12 g13 p) : SI n w nm wat del r d k (j + 1) e7 e8 e9 e10 e11 e12 e13 := by
  intro p hp
  rw [he p, h p hp]
  have hc : ∀ m, fold7 w nm wat del r e7 e8 e9 p m = fold7 w nm wat del r g7 g8 g9 p m := fun m => fold7_congr m (fun i _ _ => by
    have := he i
    simp only [tat, Prod.mk.injEq] at this
    exact ⟨this.1, this.2.1, this.2.2.1⟩)
  rw [hc]
  unfold bnd
  by_cases h1 : k ≤ d p + 1
  · rw [if_pos h1, if_pos h1]
  · rw [if_neg h1, if_neg h1]
    by_cases h2 : k = d p + 2
    · rw [if_pos h2, if_pos h2]
      simp only [fold7]
      rw [if_neg (fun e => by rw [hsea] at e; exact absurd (e ▸ nI_nneg (q := p) (by omega)) (by decide))]
    · rw [if_neg h2, if_neg h2]
/-- a place flows on -/
theorem SI.flow (hD : Dep n w s d) (hn : n ≤ 16) {k j q : Nat} (hj : j < n) (hk : d j + 1 = k) (hq : q < n) (hw : w j = nI q) (h : SI n w nm wat del r d k j g7 g8 g9 g10 g11 g12 g13)
    (ho : ∀ p, ¬ p = q → tat e7 e8 e9 e10 e11 e12 e13 p = tat g7 g8 g9 g10 g11 g12 g13 p) (he : tat e7 e8 e9 e10 e11 e12 e13 q = flow7 (del q) r (nI j) (g7 j) (g8 j) (g9 j) (tat g7 g8 g9 g10 g11 g12 g13 q)) : SI n w nm wat del r d k (j + 1) e7 e8 e9 e10 e11 e12 e13 := by
  have hdq := hD.to hn hj hq hw
  intro p hp
  have hc : ∀ m, k ≤ d p + 2 → m ≤ n → fold7 w nm wat del r e7 e8 e9 p m = fold7 w nm wat del r g7 g8 g9 p m := fun m hk2 hm => fold7_congr m (fun i hi e => by
    have hdi := hD.to hn (by omega : i < n) hp e
    have hiq : ¬ i = q := fun z => by subst z; omega
    have := ho i hiq
    simp only [tat, Prod.mk.injEq] at this
    exact ⟨this.1, this.2.1, this.2.2.1⟩)
  by_cases hpq : p = q
  · subst hpq
    rw [he, h p hp]
    have hb1 : bnd d n k j p = j := by unfold bnd; rw [if_neg (by omega), if_pos (by omega)]
    have hb2 : bnd d n k (j + 1) p = j + 1 := by unfold bnd; rw [if_neg (by omega), if_pos (by omega)]
    rw [hb1, hb2, hc _ (by omega) (by omega)]
    simp only [fold7]
    rw [if_pos hw]
  · rw [ho p hpq, h p hp]
    unfold bnd
    by_cases h1 : k ≤ d p + 1
    · rw [if_pos h1, if_pos h1, hc _ (by omega) (Nat.le_refl _)]
    · rw [if_neg h1, if_neg h1]
      by_cases h2 : k = d p + 2
      · rw [if_pos h2, if_pos h2, hc _ (by omega) (by omega)]
        simp only [fold7]
        rw [if_neg (fun e => hpq (by rw [hw] at e; exact (zn_eq (by omega) (by omega) e).symm))]
      · rw [if_neg h2, if_neg h2]
        rfl
end SET
