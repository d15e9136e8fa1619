/-! ===== the reference's own words ===== -/
def isI (v lo hi : Int32) : Bool := !decide (v < lo) && !decide (hi < v)
theorem isI_isP {n : Nat} (hn : n ≤ 16) (v : Int32) : isI v 0 (nI n - 1) = isP n v := by
  unfold isI isP
  have h : v < 0 ∨ (decide (nI n - 1 < v) = decide (nI n ≤ v)) := by
    rcases pk_ix v (n := n) (by omega) with h | h | ⟨j, hj, h⟩
    · exact Or.inl h
    · refine Or.inr ?_
      rw [decide_eq_true h]
      cases n with
      | zero =>
        rw [decide_eq_true]
        exact Int32.lt_of_lt_of_le (by decide) h
      | succ n =>
        rw [nI_pred, decide_eq_true]
        exact Int32.lt_of_lt_of_le (nI_lt (Nat.lt_succ_self n) (by omega)) h
    · refine Or.inr ?_
      subst h
      cases n with
      | zero => omega
      | succ n =>
        rw [nI_pred, decide_eq_false (nI_nlt (by omega) (by omega)), decide_eq_false (nI_ge hj (by omega))]
  rcases h with h | h
  · rw [decide_eq_true h]; rfl
  · rw [h]
def cnb (b : Nat → Bool) : Nat → Nat
  | 0 => 0
  | j + 1 => cnb b j + (if b j = true then 1 else 0)
theorem cnb_y (b : Nat → Bool) {j : Nat} (h : b j = true) : cnb b (j + 1) = cnb b j + 1 := by simp [cnb, h]
theorem cnb_n (b : Nat → Bool) {j : Nat} (h : b j = false) : cnb b (j + 1) = cnb b j := by simp [cnb, h]
theorem cnb_le (b : Nat → Bool) (j : Nat) : cnb b j ≤ j := by
  induction j with
  | zero => exact Nat.le_refl 0
  | succ j ih => simp only [cnb]; split <;> omega
theorem cnb_congr {b c : Nat → Bool} : ∀ j : Nat, (∀ i, i < j → b i = c i) → cnb b j = cnb c j
  | 0, _ => rfl
  | j + 1, h => by
    simp only [cnb]
    rw [cnb_congr j (fun i hi => h i (by omega)), h j (by omega)]
theorem cnb_mono {b c : Nat → Bool} : ∀ j : Nat, (∀ i, i < j → b i = true → c i = true) → cnb b j ≤ cnb c j
  | 0, _ => Nat.le_refl _
  | j + 1, h => by
    have ih := cnb_mono (b := b) (c := c) j (fun i hi => h i (by omega))
    have h1 := h j (by omega)
    simp only [cnb]
    by_cases hb : b j = true
    · rw [if_pos hb, if_pos (h1 hb)]; omega
    · rw [if_neg hb]; omega
theorem cnb_lt {b c : Nat → Bool} : ∀ (j i : Nat), i < j → b i = false → c i = true → (∀ i, i < j → b i = true → c i = true) → cnb b j < cnb c j
  | j + 1, i, hi, hb, hc, h => by
    simp only [cnb]
    by_cases e : i = j
    · subst e
      have ih := cnb_mono (b := b) (c := c) i (fun k hk => h k (by omega))
      rw [if_neg (by rw [hb]; decide), if_pos hc]
      omega
    · have ih := cnb_lt (b := b) (c := c) j i (by omega) hb hc (fun k hk => h k (by omega))
      have h1 := h j (by omega)
      by_cases hb : b j = true
      · rw [if_pos hb, if_pos (h1 hb)]; omega
      · rw [if_neg hb]; omega
theorem cnb_flip {b c : Nat → Bool} : ∀ (j i : Nat), i < j → b i = false → c i = true → (∀ k, k < j → ¬ k = i → b k = c k) → cnb c j = cnb b j + 1
  | j + 1, i, hi, hb, hc, h => by
    simp only [cnb]
    by_cases e : i = j
    · subst e
      rw [cnb_congr (b := c) (c := b) i (fun k hk => (h k (by omega) (by omega)).symm), if_pos hc, if_neg (by rw [hb]; decide)]
    · rw [cnb_flip (b := b) (c := c) j i (by omega) hb hc (fun k hk => h k (by omega)), h j (by omega) (fun z => e z.symm)]
      omega
theorem cnb_all {b : Nat → Bool} : ∀ j : Nat, (∀ i, i < j → b i = true) → cnb b j = j
  | 0, _ => rfl
  | j + 1, h => by rw [cnb_y b (h j (by omega)), cnb_all j (fun i hi => h i (by omega))]
theorem cnb_lt_n {b : Nat → Bool} {j i : Nat} (hi : i < j) (hb : b i = false) : cnb b j < j := by
  have := cnb_lt (b := b) (c := fun _ => true) j i hi hb rfl (fun _ _ _ => rfl)
  rw [cnb_all j (fun _ _ => rfl)] at this
  exact this
theorem m1_ne {q : Nat} (h : q < 2 ^ 31) : ¬ (-1 : Int32) = nI q := fun e => absurd (e ▸ nI_nneg h) (by decide)
theorem ne_m1 {q : Nat} (h : q < 2 ^ 31) : ¬ nI q = (-1 : Int32) := fun e => m1_ne h e.symm
/-- how many are above a place -/
def ao (n : Nat) (w : Nat → Int32) (p : Nat) : Nat := cnb (fun q => fl w (nI p) 16 (w q)) n
def Dx (n : Nat) (d : Nat → Nat) (k : Nat) (x : Int32) : Prop := x = -1 ∨ ∃ q, q < n ∧ x = nI q ∧ d q + 1 ≤ k
theorem Dep.dx {n : Nat} {w s : Nat → Int32} {d : Nat → Nat} (h : Dep n w s d) {p k : Nat} (hp : p < n) (hk : d p ≤ k) : Dx n d k (w p) := by
  rcases (h p hp).2.2 with h1 | ⟨q, hq, h1, h2⟩
  · exact Or.inl h1.1
  · exact Or.inr ⟨q, hq, h1, by omega⟩
/-- from a chain's member: what is reached -/
theorem fl_fuel {n : Nat} {w s : Nat → Int32} {d : Nat → Nat} (h : Dep n w s d) (hn : n ≤ 16) (o : Int32) : ∀ (k j : Nat) (x : Int32), Dx n d k x → k ≤ j → fl w o j x = fl w o k x
  | 0, j, x, hx, _ => by
    rcases hx with h1 | ⟨q, _, _, h2⟩
    · rw [fl_neg w o j (by rw [h1]; decide), fl_neg w o 0 (by rw [h1]; decide)]
    · omega
  | k + 1, 0, x, _, hj => by omega
  | k + 1, j + 1, x, hx, hj => by
    rcases hx with h1 | ⟨q, hq, h1, h2⟩
    · rw [fl_neg w o _ (by rw [h1]; decide), fl_neg w o _ (by rw [h1]; decide)]
    · subst h1
      by_cases e : nI q = o
      · rw [fl_hit w o (by omega) e, fl_hit w o (by omega) e]
      · rw [fl_go w o (by omega) e, fl_go w o (by omega) e]
        exact fl_fuel h hn o k j _ (h.dx hq (by omega)) (by omega)
/-- who leads to p at once is above it, and so is who is above that one; p isn't above itself -/
theorem fl_step {n : Nat} {w s : Nat → Int32} {d : Nat → Nat} (h : Dep n w s d) (hn : n ≤ 16) {p q : Nat} (hp : p < n) (hq : q < n) (e : w q = nI p) (o : Int32) : fl w o 16 (w q) = if nI p = o then true else fl w o 16 (w p) := by
  have hdp := (h p hp).1
  rw [e, show (16 : Nat) = 15 + 1 from rfl]
  by_cases z : nI p = o
  · rw [fl_hit w o (by omega) z, if_pos z]
  · rw [fl_go w o (by omega) z, if_neg z, fl_fuel h hn o 15 16 (w p) (h.dx hp (by omega)) (by omega)]
theorem fl_deep {n : Nat} {w s : Nat → Int32} {d : Nat → Nat} (h : Dep n w s d) (hn : n ≤ 16) {o : Nat} (ho : o < n) : ∀ (k : Nat) (x : Int32), Dx n d k x → fl w (nI o) k x = true → ∃ q, q < n ∧ x = nI q ∧ d o ≤ d q
  | 0, x, _, hf => by simp [fl] at hf
  | k + 1, x, hx, hf => by
    rcases hx with h1 | ⟨q, hq, h1, h2⟩
    · rw [fl_neg w _ _ (by rw [h1]; decide)] at hf; cases hf
    · subst h1
      by_cases e : nI q = nI o
      · exact ⟨q, hq, rfl, by rw [zn_eq (by omega) (by omega) e]; exact Nat.le_refl _⟩
      · rw [fl_go w _ (by omega) e] at hf
        obtain ⟨q', hq', h3, h4⟩ := fl_deep h hn ho k (w q) (h.dx hq (by omega)) hf
        have := h.to hn hq hq' h3
        exact ⟨q, hq, rfl, by omega⟩
theorem fl_self {n : Nat} {w s : Nat → Int32} {d : Nat → Nat} (h : Dep n w s d) (hn : n ≤ 16) {p : Nat} (hp : p < n) : fl w (nI p) 16 (w p) = false := by
  cases e : fl w (nI p) 16 (w p) with
  | false => rfl
  | true =>
    obtain ⟨q, hq, h1, h2⟩ := fl_deep h hn hp 16 (w p) (h.dx hp (by have := (h p hp).1; omega)) e
    have := h.to hn hp hq h1
    omega
theorem ao_lt {n : Nat} {w s : Nat → Int32} {d : Nat → Nat} (h : Dep n w s d) (hn : n ≤ 16) {p : Nat} (hp : p < n) : ao n w p < n := cnb_lt_n hp (fl_self h hn hp)
theorem ao_up {n : Nat} {w s : Nat → Int32} {d : Nat → Nat} (h : Dep n w s d) (hn : n ≤ 16) {p q : Nat} (hp : p < n) (hq : q < n) (e : w q = nI p) : ao n w q < ao n w p := by
  refine cnb_lt n q hq (fl_self h hn hq) (by rw [fl_step h hn hp hq e, if_pos rfl]) (fun i hi hf => ?_)
  -- i above q: then above p
  have key : ∀ (k : Nat) (x : Int32), Dx n d k x → fl w (nI q) k x = true → fl w (nI p) (k + 1) x = true := by
    intro k
    induction k with
    | zero => intro x _ hf; simp [fl] at hf
    | succ k ih =>
      intro x hx hf
      rcases hx with h1 | ⟨z, hz, h1, h2⟩
      · rw [fl_neg w _ _ (by rw [h1]; decide)] at hf; cases hf
      · subst h1
        by_cases e1 : nI z = nI p
        · exact fl_hit w _ (by omega) e1
        · rw [fl_go w _ (by omega) e1]
          by_cases e2 : nI z = nI q
          · have := zn_eq (by omega) (by omega) e2
            subst this
            rw [e]
            exact fl_hit w _ (by omega) rfl
          · rw [fl_go w _ (by omega) e2] at hf
            exact ih (w z) (h.dx hz (by omega)) hf
  have hdi := (h i hi).1
  have h1 := key 16 (w i) (h.dx hi (by omega)) hf
  rw [fl_fuel h hn (nI p) 16 17 (w i) (h.dx hi (by omega)) (by omega)] at h1
  exact h1
/-- the order of reckoning -/
def Srt (n : Nat) (a : Nat → Nat) (g : Nat → Int32) (o : Nat → Nat) : Prop := (∀ k, k < n → g k = nI (o k) ∧ o k < n) ∧ (∀ p, p < n → ∃ k, k < n ∧ o k = p) ∧ ∀ j k, j < k → k < n → a (o j) ≤ a (o k)
def sel (a : Nat → Nat) (m p x : Nat) : Bool := decide (a x < m ∨ (a x = m ∧ x < p))
def cx (n : Nat) (a : Nat → Nat) (m p : Nat) : Nat := cnb (sel a m p) n
def SO (n : Nat) (a : Nat → Nat) (m p : Nat) (g : Nat → Int32) (o : Nat → Nat) : Prop := (∀ k, k < cx n a m p → g k = nI (o k) ∧ o k < n ∧ sel a m p (o k) = true) ∧ (∀ x, x < n → sel a m p x = true → ∃ k, k < cx n a m p ∧ o k = x) ∧ ∀ j k, j < k → k < cx n a m p → a (o j) ≤ a (o k)
theorem cx_0 (n : Nat) (a : Nat → Nat) : cx n a 0 0 = 0 := by
  unfold cx
  rw [cnb_congr (c := fun _ => false) n (fun i _ => by simp [sel])]
  have : ∀ k : Nat, cnb (fun _ => false) k = 0 := fun k => by
    induction k with
    | zero => rfl
    | succ k ih => rw [cnb_n _ rfl, ih]
  exact this n
theorem SO.first {n : Nat} {a : Nat → Nat} {g : Nat → Int32} : SO n a 0 0 g id := by
  refine ⟨fun k hk => ?_, fun x _ hs => by simp [sel] at hs, fun j k _ hk => ?_⟩
  · rw [cx_0] at hk; omega
  · rw [cx_0] at hk; omega
theorem cx_lt {n : Nat} {a : Nat → Nat} {m p : Nat} (hp : p < n) (h : a p = m) : cx n a m p < n := cnb_lt_n hp (by simp [sel, h])
theorem cx_y {n : Nat} {a : Nat → Nat} {m p : Nat} (hp : p < n) (h : a p = m) : cx n a m (p + 1) = cx n a m p + 1 := cnb_flip n p hp (by simp [sel, h]) (by simp [sel, h]) (fun k hk hne => by
  simp only [sel]
  congr 1
  apply propext
  constructor <;> intro z <;> rcases z with z | z <;> first | exact Or.inl z | exact Or.inr ⟨z.1, by omega⟩)
theorem sel_n {a : Nat → Nat} {m p : Nat} (h : ¬ a p = m) (x : Nat) : sel a m (p + 1) x = sel a m p x := by
  simp only [sel]
  congr 1
  apply propext
  constructor
  · rintro (z | z)
    · exact Or.inl z
    · by_cases e : x = p
      · subst e; exact absurd z.1 h
      · exact Or.inr ⟨z.1, by omega⟩
  · rintro (z | z)
    · exact Or.inl z
    · exact Or.inr ⟨z.1, by omega⟩
theorem cx_n {n : Nat} {a : Nat → Nat} {m p : Nat} (h : ¬ a p = m) : cx n a m (p + 1) = cx n a m p := cnb_congr n (fun x _ => sel_n h x)
theorem SO.no {n : Nat} {a : Nat → Nat} {m p : Nat} {g : Nat → Int32} {o : Nat → Nat} (h : ¬ a p = m) (hs : SO n a m p g o) : SO n a m (p + 1) g o := by
  unfold SO
  rw [cx_n h]
  simp only [sel_n h]
  exact hs
theorem SO.yes {n : Nat} {a : Nat → Nat} {m p : Nat} {g : Nat → Int32} {o : Nat → Nat} (hp : p < n) (h : a p = m) (hs : SO n a m p g o) : SO n a m (p + 1) (upd g (cx n a m p) (nI p)) (fun k => if k = cx n a m p then p else o k) := by
  have mono : ∀ x, sel a m p x = true → sel a m (p + 1) x = true := fun x hx => by
    simp only [sel, decide_eq_true_eq] at hx ⊢
    rcases hx with z | z
    · exact Or.inl z
    · exact Or.inr ⟨z.1, by omega⟩
  unfold SO
  rw [cx_y hp h]
  refine ⟨fun k hk => ?_, fun x hx hsx => ?_, fun j k hjk hk => ?_⟩
  · by_cases e : k = cx n a m p
    · subst e
      simp only [upd_at, if_pos]
      exact ⟨trivial, hp, by simp [sel, h]⟩
    · rw [upd_ne _ _ _ e]
      simp only [if_neg e]
      obtain ⟨h1, h2, h3⟩ := hs.1 k (by omega)
      exact ⟨h1, h2, mono _ h3⟩
  · by_cases e : x = p
    · exact ⟨cx n a m p, by omega, by simp [e]⟩
    · have : sel a m p x = true := by
        simp only [sel, decide_eq_true_eq] at hsx ⊢
        rcases hsx with z | z
        · exact Or.inl z
        · exact Or.inr ⟨z.1, by omega⟩
      obtain ⟨k, hk, e2⟩ := hs.2.1 x hx this
      exact ⟨k, by omega, by simp only [if_neg (show ¬ k = cx n a m p by omega)]; exact e2⟩
  · have hj : ¬ j = cx n a m p := by omega
    simp only [if_neg hj]
    by_cases e : k = cx n a m p
    · simp only [if_pos e]
      have h3 := (hs.1 j (by omega)).2.2
      simp only [sel, decide_eq_true_eq] at h3
      omega
    · simp only [if_neg e]
      exact hs.2.2 j k hjk (by omega)
theorem sel_next {n : Nat} {a : Nat → Nat} {m x : Nat} (hx : x < n) : sel a m n x = sel a (m + 1) 0 x := by
  simp only [sel]
  congr 1
  apply propext
  constructor
  · rintro (z | z)
    · exact Or.inl (by omega)
    · exact Or.inl (by omega)
  · rintro (z | z)
    · by_cases e : a x = m
      · exact Or.inr ⟨e, hx⟩
      · exact Or.inl (by omega)
    · omega
theorem cx_next {n : Nat} {a : Nat → Nat} {m : Nat} : cx n a m n = cx n a (m + 1) 0 := cnb_congr n (fun _ hx => sel_next hx)
theorem SO.next {n : Nat} {a : Nat → Nat} {m : Nat} {g : Nat → Int32} {o : Nat → Nat} (hs : SO n a m n g o) : SO n a (m + 1) 0 g o := by
  unfold SO at hs ⊢
  rw [← cx_next]
  refine ⟨fun k hk => ?_, fun x hx hsx => hs.2.1 x hx (by rw [sel_next hx]; exact hsx), hs.2.2⟩
  obtain ⟨h1, h2, h3⟩ := hs.1 k hk
  exact ⟨h1, h2, by rw [← sel_next h2]; exact h3⟩
theorem SO.last {n : Nat} {a : Nat → Nat} {g : Nat → Int32} {o : Nat → Nat} (ha : ∀ x, x < n → a x < n) (hs : SO n a n 0 g o) : Srt n a g o := by
  have hc : cx n a n 0 = n := cnb_all n (fun x hx => by simp [sel, ha x hx])
  unfold SO at hs
  rw [hc] at hs
  exact ⟨fun k hk => ⟨(hs.1 k hk).1, (hs.1 k hk).2.1⟩, fun p hp => hs.2.1 p hp (by simp [sel, ha p hp]), hs.2.2⟩
/-- what is reckoned -/
def sprg (f1 f3 : Nat → Int32) (p : Nat) : Bool := !decide (f1 p = 0) && !decide (f3 p ≤ 0)
def wor (r : Int32) (f9 f10 : Nat → Int32) (q : Nat) : Int32 := if r = 0 then f9 q else f10 q
def mB (f1 f3 : Nat → Int32) (p : Nat) : Int32 := if f1 p = 0 then 0 else f3 p
def mW (w g : Nat → Int32) (base : Int32) (p : Nat) : Nat → Int32
  | 0 => base
  | k + 1 => if w k = nI p then mW w g base p k + g k else mW w g base p k
theorem mW_y (w g : Nat → Int32) (base : Int32) {p k : Nat} (h : w k = nI p) : mW w g base p (k + 1) = mW w g base p k + g k := if_pos h
theorem mW_n (w g : Nat → Int32) (base : Int32) {p k : Nat} (h : ¬ w k = nI p) : mW w g base p (k + 1) = mW w g base p k := if_neg h
def mL (w g : Nat → Int32) (p : Nat) : Nat → Int32
  | 0 => 0
  | k + 1 => if w k = nI p ∧ ¬ g k ≤ 0 then (if mL w g p k < g k + 1 then g k + 1 else mL w g p k) else mL w g p k
theorem mL_y (w g : Nat → Int32) {p k : Nat} (h : w k = nI p) (h2 : ¬ g k ≤ 0) : mL w g p (k + 1) = if mL w g p k < g k + 1 then g k + 1 else mL w g p k := if_pos ⟨h, h2⟩
theorem mL_n (w g : Nat → Int32) {p k : Nat} (h : ¬ w k = nI p) : mL w g p (k + 1) = mL w g p k := if_neg (fun z => h z.1)
theorem mL_0 (w g : Nat → Int32) {p k : Nat} (h : g k ≤ 0) : mL w g p (k + 1) = mL w g p k := if_neg (fun z => z.2 h)
def mLf (x : Int32) (b : Bool) : Int32 := if x = 0 ∧ b = true then 1 else x
/-- one look at a name: own: the spring of the place itself -/
def mst (own : Bool) (wj pI nmj io on iq : Int32) (t : Int32 × Int32) : Int32 × Int32 :=
  if own = true then (if t.2 < io then (on, io) else t) else if ¬ wj = pI ∨ nmj = -1 then t else if t.2 < iq then (nmj, iq) else t
def mN (f0 f1 f2 f3 f9 f10 f11 : Nat → Int32) (r : Int32) (p : Nat) : Nat → Int32 × Int32
  | 0 => (-1, -1)
  | j + 1 => mst (decide (j = p) && sprg f1 f3 p) (f0 j) (nI p) (f11 j) (if r = 0 then f3 p else 0) (f2 p) (wor r f9 f10 j) (mN f0 f1 f2 f3 f9 f10 f11 r p j)
def nmd (f0 f1 f2 f3 f5 f9 f10 f11 : Nat → Int32) (r : Int32) (p n : Nat) : Int32 := if ¬ f5 p = 0 then -1 else (mN f0 f1 f2 f3 f9 f10 f11 r p n).1
theorem mW_congr {w g e : Nat → Int32} {base : Int32} {p : Nat} : ∀ k : Nat, (∀ j, j < k → w j = nI p → e j = g j) → mW w e base p k = mW w g base p k
  | 0, _ => rfl
  | k + 1, h => by
    simp only [mW]
    rw [mW_congr k (fun j hj => h j (by omega))]
    by_cases z : w k = nI p
    · rw [if_pos z, if_pos z, h k (by omega) z]
    · rw [if_neg z, if_neg z]
theorem mL_congr {w g e : Nat → Int32} {p : Nat} : ∀ k : Nat, (∀ j, j < k → w j = nI p → e j = g j) → mL w e p k = mL w g p k
  | 0, _ => rfl
  | k + 1, h => by
    simp only [mL]
    rw [mL_congr k (fun j hj => h j (by omega))]
    by_cases z : w k = nI p
    · rw [h k (by omega) z]
    · rw [if_neg (fun q => z q.1), if_neg (fun q => z q.1)]
theorem mN_congr {f0 f1 f2 f3 g9 g10 g11 e9 e10 e11 : Nat → Int32} {r : Int32} {p : Nat} : ∀ k : Nat, (∀ j, j < k → f0 j = nI p → e9 j = g9 j ∧ e10 j = g10 j ∧ e11 j = g11 j) → mN f0 f1 f2 f3 e9 e10 e11 r p k = mN f0 f1 f2 f3 g9 g10 g11 r p k
  | 0, _ => rfl
  | k + 1, h => by
    simp only [mN]
    rw [mN_congr k (fun j hj => h j (by omega))]
    by_cases z : f0 k = nI p
    · obtain ⟨a, b, c⟩ := h k (by omega) z
      simp only [wor, a, b, c]
    · simp only [mst]
      by_cases y : (decide (k = p) && sprg f1 f3 p) = true
      · rw [if_pos y, if_pos y]
      · rw [if_neg y, if_neg y, if_pos (Or.inl z), if_pos (Or.inl z)]
/-- reckoned at a place -/
def MA (n : Nat) (f0 f1 f2 f3 f5 : Nat → Int32) (r : Int32) (g9 g10 g11 : Nat → Int32) (p : Nat) : Prop :=
  g9 p = mW f0 g9 (mB f1 f3 p) p n ∧ g10 p = mLf (mL f0 g10 p n) (sprg f1 f3 p) ∧ g11 p = nmd f0 f1 f2 f3 f5 g9 g10 g11 r p n
theorem MA.keep {n : Nat} {f0 f1 f2 f3 f5 : Nat → Int32} {r : Int32} {g9 g10 g11 e9 e10 e11 : Nat → Int32} {p x : Nat} (h : MA n f0 f1 f2 f3 f5 r g9 g10 g11 p) (ho : ∀ j, ¬ j = x → e9 j = g9 j ∧ e10 j = g10 j ∧ e11 j = g11 j) (hx : ¬ p = x) (hux : ¬ f0 x = nI p) : MA n f0 f1 f2 f3 f5 r e9 e10 e11 p := by
  have hc : ∀ j, j < n → f0 j = nI p → e9 j = g9 j ∧ e10 j = g10 j ∧ e11 j = g11 j := fun j _ e => ho j (fun z => hux (z ▸ e))
  obtain ⟨a, b, c⟩ := ho p hx
  unfold MA nmd
  rw [mW_congr n (fun j hj e => (hc j hj e).1), mL_congr n (fun j hj e => (hc j hj e).2.1), mN_congr n hc, a, b, c]
  exact h
