/-! ===== pure words ===== -/
theorem zn_le {a b : Nat} (ha : a < 2 ^ 31) (hb : b < 2 ^ 31) (h : nI a ≤ nI b) : a ≤ b := (nI_leI ha hb).mp h
theorem zn_le' {a b : Nat} (ha : a < 2 ^ 31) (hb : b < 2 ^ 31) (h : ¬ nI a ≤ nI b) : b < a := Nat.not_le.mp fun q => h ((nI_leI ha hb).mpr q)
theorem zn_lt {a b : Nat} (ha : a < 2 ^ 31) (hb : b < 2 ^ 31) (h : nI a < nI b) : a < b := (nI_ltI ha hb).mp h
theorem zn_lt' {a b : Nat} (ha : a < 2 ^ 31) (hb : b < 2 ^ 31) (h : ¬ nI a < nI b) : b ≤ a := Nat.not_lt.mp fun q => h ((nI_ltI ha hb).mpr q)
theorem zn_eq {a b : Nat} (ha : a < 2 ^ 31) (hb : b < 2 ^ 31) (h : nI a = nI b) : a = b := (nI_eq ha hb).mp h
theorem zn_eq' {a b : Nat} (ha : a < 2 ^ 31) (hb : b < 2 ^ 31) (h : ¬ nI a = nI b) : ¬ a = b := fun q => h ((nI_eq ha hb).mpr q)
/-- a place's number -/
def isP (n : Nat) (i : Int32) : Bool := !decide (i < 0) && !decide (nI n ≤ i)
theorem isP_true {n : Nat} {i : Int32} (hn : n < 2 ^ 31) (h : isP n i = true) : ∃ q, q < n ∧ i = nI q := by
  simp only [isP, Bool.and_eq_true, Bool.not_eq_true', decide_eq_false_iff_not] at h
  rcases pk_ix i hn with h1 | h1 | h1
  · exact absurd h1 h.1
  · exact absurd h1 h.2
  · exact h1
theorem isP_nI {n q : Nat} (hn : n < 2 ^ 31) (h : q < n) : isP n (nI q) = true := by
  have h1 : ¬ nI q < 0 := nI_pos (by omega)
  have h2 : ¬ nI n ≤ nI q := nI_ge h hn
  simp [isP, h1, h2]
theorem isP_m1 (n : Nat) : isP n (-1) = false := by simp [isP]
/-- ways lead to places, or to the sea -/
def Vw (n : Nat) (w : Nat → Int32) : Prop := ∀ p, p < n → w p = -1 ∨ ∃ q, q < n ∧ w p = nI q
theorem Vw.isP {n : Nat} {w : Nat → Int32} (h : Vw n w) {p : Nat} (hp : p < n) (hn : n < 2 ^ 31) (hf : isP n (w p) = false) : w p = -1 := by
  rcases h p hp with h1 | ⟨q, hq, h1⟩
  · exact h1
  · rw [h1, isP_nI hn hq] at hf; cases hf
theorem nI_nneg {q : Nat} (h : q < 2 ^ 31) : ¬ nI q < 0 := nI_pos h
/-- a step of a walk down: the sea, or a place -/
def Vx (n : Nat) (x : Int32) : Prop := x = -1 ∨ ∃ q, q < n ∧ x = nI q
theorem Vx.lt0 {n : Nat} {x : Int32} (h : Vx n x) (hn : n < 2 ^ 31) (hf : isP n x = false) : x < 0 := by
  rcases h with h1 | ⟨q, hq, h1⟩
  · subst h1; decide
  · rw [h1, isP_nI hn hq] at hf; cases hf
def fl (w : Nat → Int32) (o : Int32) : Nat → Int32 → Bool
  | 0, _ => false
  | k + 1, x => if x < 0 then false else if x = o then true else fl w o k (w x.toNatClampNeg)
theorem fl_0 (w : Nat → Int32) (o x : Int32) : fl w o 0 x = false := rfl
theorem fl_neg (w : Nat → Int32) (o : Int32) {x : Int32} (k : Nat) (h : x < 0) : fl w o k x = false := by
  cases k with
  | zero => rfl
  | succ k => simp [fl, h]
theorem fl_hit (w : Nat → Int32) (o : Int32) {q k : Nat} (hq : q < 2 ^ 31) (h : nI q = o) : fl w o (k + 1) (nI q) = true := by
  have h1 := nI_nneg hq
  simp [fl, h]
  rw [← h]; exact Int32.not_lt.mp h1
theorem fl_go (w : Nat → Int32) (o : Int32) {q k : Nat} (hq : q < 2 ^ 31) (h : ¬ nI q = o) : fl w o (k + 1) (nI q) = fl w o k (w q) := by
  have h1 := nI_nneg hq
  simp [fl, h, h1, nI_clamp hq]
def mo (w : Nat → Int32) : Nat → Nat → Nat
  | 0, p => p
  | k + 1, p => if w p < 0 then p else mo w k (w p).toNatClampNeg
theorem mo_neg (w : Nat → Int32) {p : Nat} (k : Nat) (h : w p < 0) : mo w k p = p := by
  cases k with
  | zero => rfl
  | succ k => simp [mo, h]
theorem mo_go (w : Nat → Int32) {p q k : Nat} (hq : q < 2 ^ 31) (h : w p = nI q) : mo w (k + 1) p = mo w k q := by
  have h1 := nI_nneg hq
  simp [mo, h, h1, nI_clamp hq]
def cs (w : Nat → Int32) : Nat → Int32 → Nat
  | 0, _ => 0
  | k + 1, x => if x < 0 then 0 else cs w k (w x.toNatClampNeg) + 1
theorem cs_neg (w : Nat → Int32) {x : Int32} (k : Nat) (h : x < 0) : cs w k x = 0 := by
  cases k with
  | zero => rfl
  | succ k => simp [cs, h]
theorem cs_go (w : Nat → Int32) {q k : Nat} (hq : q < 2 ^ 31) : cs w (k + 1) (nI q) = cs w k (w q) + 1 := by
  have h1 := nI_nneg hq
  simp [cs, h1, nI_clamp hq]
def fc (w : Nat → Int32) (b : Nat) : Nat → Int32 → Int32
  | 0, _ => -1
  | k + 1, x => if x < 0 then -1 else if x = nI b ∨ fl w x 16 (w b) = true then x else fc w b k (w x.toNatClampNeg)
theorem fc_neg (w : Nat → Int32) (b : Nat) {x : Int32} (k : Nat) (h : x < 0) : fc w b k x = -1 := by
  cases k with
  | zero => rfl
  | succ k => simp [fc, h]
theorem fc_hit (w : Nat → Int32) (b : Nat) {q k : Nat} (hq : q < 2 ^ 31) (h : nI q = nI b ∨ fl w (nI q) 16 (w b) = true) : fc w b (k + 1) (nI q) = nI q := by
  have h1 := nI_nneg hq
  simp only [fc]
  rw [if_neg h1, if_pos h]
theorem fc_go (w : Nat → Int32) (b : Nat) {q k : Nat} (hq : q < 2 ^ 31) (h1 : ¬ nI q = nI b) (h2 : fl w (nI q) 16 (w b) = false) : fc w b (k + 1) (nI q) = fc w b k (w q) := by
  have h3 := nI_nneg hq
  simp only [fc]
  rw [if_neg h3, if_neg (by rw [h2]; simp [h1]), nI_clamp hq]
/-- how many of the first j hold x -/
def cnt (f : Nat → Int32) (x : Int32) : Nat → Nat
  | 0 => 0
  | j + 1 => cnt f x j + (if f j = x then 1 else 0)
theorem cnt_le (f : Nat → Int32) (x : Int32) (j : Nat) : cnt f x j ≤ j := by
  induction j with
  | zero => exact Nat.le_refl 0
  | succ j ih => simp only [cnt]; split <;> omega
theorem cnt_y (f : Nat → Int32) (x : Int32) {j : Nat} (h : f j = x) : cnt f x (j + 1) = cnt f x j + 1 := by simp [cnt, h]
theorem cnt_n (f : Nat → Int32) (x : Int32) {j : Nat} (h : ¬ f j = x) : cnt f x (j + 1) = cnt f x j := by simp [cnt, h]
def cne (f g : Nat → Int32) : Nat → Nat
  | 0 => 0
  | j + 1 => cne f g j + (if f j = g j then 0 else 1)
theorem cne_le (f g : Nat → Int32) (j : Nat) : cne f g j ≤ j := by
  induction j with
  | zero => exact Nat.le_refl 0
  | succ j ih => simp only [cne]; split <;> omega
theorem cne_n (f g : Nat → Int32) {j : Nat} (h : f j = g j) : cne f g (j + 1) = cne f g j := by simp [cne, h]
theorem cne_y (f g : Nat → Int32) {j : Nat} (h : ¬ f j = g j) : cne f g (j + 1) = cne f g j + 1 := by simp [cne, h]
/-- what an arguer does to name, arguers, disputed, winner, strength of a place -/
def arg5 (del who nm str a9 a10 a11 a12 a13 : Int32) : Int32 × Int32 × Int32 × Int32 × Int32 :=
  if ¬ del = 0 then (a9, a10, a11, a12, a13) else
  if a12 = -1 ∨ a13 < str ∨ (str = a13 ∧ ¬ a12 ≤ who) then (nm, a10 + 1, (if ¬ a10 ≤ 0 ∧ ¬ nm = a9 then 1 else a11), who, str)
  else (a9, a10 + 1, (if ¬ a10 ≤ 0 ∧ ¬ nm = a9 then 1 else a11), a12, a13)
