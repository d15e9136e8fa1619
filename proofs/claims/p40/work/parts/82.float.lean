/-! ===== the quotient of two whole numbers, the lower one not zero, is no NaN ===== -/
theorem fq_set (s : Bool) (c : Nat) (q : Int) : ∃ c' q', c' < 2 ^ 53 ∧ q' ≤ 971 ∧ (FP.Core.settle FP.Core.b64 s c q = .fin s c' q' ∨ FP.Core.settle FP.Core.b64 s c q = .inf s) := by
  have hx : FP.Core.b64.qmax = 971 := by decide
  unfold FP.Core.settle FP.Core.bound
  rw [hx]
  by_cases h1 : c < 2 ^ FP.Core.b64.p
  · rw [if_pos h1]
    have h1' : c < 2 ^ 53 := h1
    by_cases h2 : q ≤ 971
    · exact ⟨c, q, h1', h2, Or.inl (if_pos h2)⟩
    · exact ⟨c, 0, h1', by decide, Or.inr (if_neg h2)⟩
  · rw [if_neg h1]
    by_cases h2 : q + 1 ≤ 971
    · exact ⟨FP.Core.b64.tails, q + 1, by decide, h2, Or.inl (if_pos h2)⟩
    · exact ⟨0, 0, by decide, by decide, Or.inr (if_neg h2)⟩
theorem fq_enc (s : Bool) (c : Nat) (q : Int) (hc : c < 2 ^ 53) (hq : q ≤ 971) : FP.Core.encode FP.Core.b64 (.fin s c q) < 2 ^ 64 ∧ FP.Core.encode FP.Core.b64 (.fin s c q) % 2 ^ 63 < 9218868437227405312 := by
  have ht : FP.Core.b64.tails = 4503599627370496 := by decide
  have he : FP.Core.b64.exps = 2048 := by decide
  have hm : FP.Core.b64.qmin = -1074 := by decide
  have hs : s.toNat ≤ 1 := by cases s <;> decide
  unfold FP.Core.encode FP.Core.assemble
  simp only [ht, he, hm]
  by_cases h1 : c < 4503599627370496
  · rw [if_pos h1]
    omega
  · rw [if_neg h1]
    omega
theorem fq_inf (s : Bool) : FP.Core.encode FP.Core.b64 (.inf s) < 2 ^ 64 ∧ FP.Core.encode FP.Core.b64 (.inf s) % 2 ^ 63 ≤ 9218868437227405312 := by cases s <;> decide
theorem fq_rr (s : Bool) (num den : Nat) (e : Int) : ∃ c' q', c' < 2 ^ 53 ∧ q' ≤ 971 ∧ (FP.Core.roundRatio FP.Core.b64 s num den e = .fin s c' q' ∨ FP.Core.roundRatio FP.Core.b64 s num den e = .inf s) := by
  unfold FP.Core.roundRatio
  by_cases h : num = 0
  · rw [if_pos h]
    exact ⟨0, FP.Core.b64.qmin, by decide, by decide, Or.inl rfl⟩
  · rw [if_neg h]
    exact fq_set s _ _
theorem fq_int (i : Int) (hi : i.natAbs < 2 ^ 32) : ∃ s c q, c < 2 ^ 53 ∧ q ≤ 971 ∧ FP.Core.round FP.Core.b64 (FP.Core.ofInt i) = .fin s c q := by
  show ∃ s c q, c < 2 ^ 53 ∧ q ≤ 971 ∧ FP.Core.roundRatio FP.Core.b64 (decide (i < 0)) i.natAbs 1 0 = .fin s c q
  unfold FP.Core.roundRatio
  by_cases h : i.natAbs = 0
  · rw [if_pos h]
    exact ⟨_, 0, FP.Core.b64.qmin, by decide, by decide, rfl⟩
  · rw [if_neg h]
    have hl : i.natAbs.log2 < 32 := (Nat.log2_lt h).mpr hi
    have hd : FP.Core.leading i.natAbs 1 ≤ 31 := by
      unfold FP.Core.leading
      have h1 : Nat.log2 1 = 0 := by decide
      simp only [h1]
      split <;> omega
    have hq : FP.Core.quantum FP.Core.b64 i.natAbs 1 0 ≤ 0 := by
      unfold FP.Core.quantum
      have hm : FP.Core.b64.qmin = -1074 := by decide
      have hp : ((FP.Core.b64.p : Nat) : Int) = 53 := by decide
      rw [hm, hp]
      omega
    unfold FP.Core.roundAt FP.Core.settle FP.Core.bound
    have hx : FP.Core.b64.qmax = 971 := by decide
    rw [hx]
    generalize FP.Core.nearest _ _ = c
    generalize FP.Core.quantum FP.Core.b64 i.natAbs 1 0 = q at hq ⊢
    by_cases h1 : c < 2 ^ FP.Core.b64.p
    · rw [if_pos h1, if_pos (by omega)]
      exact ⟨_, c, q, h1, by omega, rfl⟩
    · rw [if_neg h1, if_pos (by omega)]
      exact ⟨_, FP.Core.b64.tails, q + 1, by decide, by omega, rfl⟩
theorem fq_dec (n : Nat) (h : n % 2 ^ 63 < 9218868437227405312) : ∃ s c q, FP.Core.decode FP.Core.b64 n = .fin s c q := by
  have ht : FP.Core.b64.tails = 4503599627370496 := by decide
  have he : FP.Core.b64.exps = 2048 := by decide
  have h1 : ¬ FP.Core.fieldE FP.Core.b64 n = FP.Core.b64.exps - 1 := by
    unfold FP.Core.fieldE
    rw [ht, he]
    omega
  unfold FP.Core.decode
  rw [if_neg h1]
  split
  · exact ⟨_, _, _, rfl⟩
  · exact ⟨_, _, _, rfl⟩
theorem fq_i2d (x : Int32) : ∃ s c q, FP.Core.decode FP.Core.b64 (FP.i2d x).toNat = .fin s c q := by
  have hx : x.toInt.natAbs < 2 ^ 32 := by
    have h1 := x.toInt_lt
    have h2 := x.le_toInt
    omega
  obtain ⟨s, c, q, hc, hq, hr⟩ := fq_int x.toInt hx
  have hE := fq_enc s c q hc hq
  refine fq_dec _ ?_
  have h2 : (FP.i2d x).toNat = FP.Core.encode FP.Core.b64 (.fin s c q) := by
    show (UInt64.ofNat (FP.Core.encode FP.Core.b64 (FP.Core.round FP.Core.b64 (FP.Core.ofInt x.toInt)))).toNat = _
    rw [hr, UInt64.toNat_ofNat', Nat.mod_eq_of_lt hE.1]
  rw [h2]
  exact hE.2
def fq_nz (k : Nat) : Bool := match FP.Core.decode FP.Core.b64 (FP.i2d (nI k)).toNat with
  | .fin _ c _ => decide (c ≠ 0)
  | _ => false
theorem fq_nz16 : ∀ k, k < 17 → ¬ k = 0 → fq_nz k = true := by decide +kernel
theorem fq_div (x : Int32) (k : Nat) (hk : k < 17) (h0 : ¬ k = 0) : vf_n64 (FP.ddiv (FP.i2d x) (FP.i2d (nI k))) := by
  obtain ⟨s, c, q, h1⟩ := fq_i2d x
  obtain ⟨t, d, r, h2⟩ := fq_i2d (nI k)
  have h3 := fq_nz16 k hk h0
  unfold fq_nz at h3
  rw [h2] at h3
  have hd : ¬ d = 0 := of_decide_eq_true h3
  obtain ⟨c', q', hc, hq, h4⟩ := fq_rr (s != t) c d (q - r)
  have h5 : (FP.ddiv (FP.i2d x) (FP.i2d (nI k))).toNat % 2 ^ 63 ≤ 9218868437227405312 := by
    show (UInt64.ofNat (FP.Core.encode FP.Core.b64 (FP.Core.quotient FP.Core.b64 (FP.Core.decode FP.Core.b64 (FP.i2d x).toNat) (FP.Core.decode FP.Core.b64 (FP.i2d (nI k)).toNat)))).toNat % 2 ^ 63 ≤ _
    rw [h1, h2]
    have h6 : FP.Core.quotient FP.Core.b64 (.fin s c q) (.fin t d r) = FP.Core.roundRatio FP.Core.b64 (s != t) c d (q - r) := by
      show (if d = 0 then _ else _) = _
      rw [if_neg hd]
    rw [h6]
    rcases h4 with h4 | h4
    · rw [h4, UInt64.toNat_ofNat', Nat.mod_eq_of_lt (fq_enc _ c' q' hc hq).1]
      exact Nat.le_of_lt (fq_enc _ c' q' hc hq).2
    · rw [h4, UInt64.toNat_ofNat', Nat.mod_eq_of_lt (fq_inf _).1]
      exact (fq_inf _).2
  unfold vf_n64
  rw [UInt64.le_iff_toNat_le, UInt64.toNat_and, show (0x7fffffffffffffff : UInt64).toNat = 2 ^ 63 - 1 from rfl, Nat.and_two_pow_sub_one_eq_mod]
  exact h5
section ZVD
variable {p : Program} {l : Launch} {e : Env} {R : Room} {s : State} {m : MethodId} {args : Array Value} {below : List Frame} {meth : Method} {c : Code} {Q : State → Prop} {cc : ByteArray} {nL : Nat} {own : String} {Ts : List Cond} {A B : Nat → Prop} {D : va_G} {cl : List vw_C} {tys : List (ClassId × FieldType)} {ws : va_W} {kc ns pc n : Nat} {lv : List (Nat × Value)} {st : List Value}
theorem zv_dconst0 (C : zv_C p m c cc nL s args Ts own A) (hdg : decode cc pc = .ok (.dconst 0, 1)) (n : Nat) (hn : pc + 1 = n) (kk : zv_V p l e R s m args below meth c Q nL D cl A B tys ws kc ns n lv (.double FP.dconst0 :: st)) : zv_V p l e R s m args below meth c Q nL D cl A B tys ws kc ns pc lv st := by
  subst hn
  exact fun H locs ls hK hP hD hS h => lv_dconst0 C.1.1 C.1.2.1 hdg (kk H locs ls hK hP hD hS h)
theorem zv_i2d (C : zv_C p m c cc nL s args Ts own A) {x : Int32} (hdg : decode cc pc = .ok (.i2d, 1)) (n : Nat) (hn : pc + 1 = n) (kk : zv_V p l e R s m args below meth c Q nL D cl A B tys ws kc ns n lv (.double (FP.i2d x) :: st)) : zv_V p l e R s m args below meth c Q nL D cl A B tys ws kc ns pc lv (.int x :: st) := by
  subst hn
  exact fun H locs ls hK hP hD hS h => lv_i2d C.1.1 C.1.2.1 hdg (kk H locs ls hK hP hD hS h)
theorem zv_ddiv (C : zv_C p m c cc nL s args Ts own A) {x y : UInt64} (hdg : decode cc pc = .ok (.ddiv, 1)) (n : Nat) (hn : pc + 1 = n) (hne : vf_n64 (FP.ddiv x y)) (kk : zv_V p l e R s m args below meth c Q nL D cl A B tys ws kc ns n lv (.double (FP.ddiv x y) :: st)) : zv_V p l e R s m args below meth c Q nL D cl A B tys ws kc ns pc lv (.double y :: .double x :: st) := by
  subst hn
  exact fun H locs ls hK hP hD hS h => lv_ddiv C.1.1 C.1.2.1 hdg hne (kk H locs ls hK hP hD hS h)
theorem zv_dcmp (C : zv_C p m c cc nL s args Ts own A) {x y : UInt64} {o : CmpOp} (hdg : decode cc pc = .ok (.dcmp o, 1)) (n : Nat) (hn : pc + 1 = n) (kk : zv_V p l e R s m args below meth c Q nL D cl A B tys ws kc ns n lv (.int (Op.cmpValue (FP.dcmp x y) o) :: st)) : zv_V p l e R s m args below meth c Q nL D cl A B tys ws kc ns pc lv (.double y :: .double x :: st) := by
  subst hn
  exact fun H locs ls hK hP hD hS h => lv_dcmp C.1.1 C.1.2.1 hdg (kk H locs ls hK hP hD hS h)
end ZVD
/-! ===== the mean of the mouths ===== -/
def mmS (w g : Nat → Int32) : Nat → Nat × Int32
  | 0 => (0, 0)
  | k + 1 => if w k = -1 then ((mmS w g k).1 + 1, (mmS w g k).2 + g k) else mmS w g k
theorem mmS_y (w g : Nat → Int32) {k c : Nat} {x : Int32} (h : mmS w g k = (c, x)) (hw : w k = -1) : mmS w g (k + 1) = (c + 1, x + g k) := by
  simp only [mmS]; rw [if_pos hw, h]
theorem mmS_n (w g : Nat → Int32) {k c : Nat} {x : Int32} (h : mmS w g k = (c, x)) (hw : ¬ w k = -1) : mmS w g (k + 1) = (c, x) := by
  simp only [mmS]; rw [if_neg hw, h]
theorem mmS_congr {w g w' g' : Nat → Int32} : ∀ k : Nat, (∀ i, i < k → w i = w' i ∧ g i = g' i) → mmS w g k = mmS w' g' k
  | 0, _ => rfl
  | k + 1, h => by
    simp only [mmS]
    rw [mmS_congr k (fun i hi => h i (by omega)), (h k (by omega)).1, (h k (by omega)).2]
def mmV (w g : Nat → Int32) (n : Nat) : UInt64 := if (mmS w g n).1 = 0 then FP.dconst0 else FP.ddiv (FP.i2d (mmS w g n).2) (FP.i2d (nI (mmS w g n).1))
theorem mmV_congr {w g w' g' : Nat → Int32} {n : Nat} (h : ∀ i, i < n → w i = w' i ∧ g i = g' i) : mmV w g n = mmV w' g' n := by
  unfold mmV; rw [mmS_congr n h]
theorem mmV_0 {w g : Nat → Int32} {n c : Nat} {x : Int32} (h : mmS w g n = (c, x)) (hc : c = 0) : FP.dconst0 = mmV w g n := by
  unfold mmV; rw [h]; exact (if_pos hc).symm
theorem mmV_q {w g : Nat → Int32} {n c : Nat} {x : Int32} (h : mmS w g n = (c, x)) (hc : ¬ c = 0) : FP.ddiv (FP.i2d x) (FP.i2d (nI c)) = mmV w g n := by
  unfold mmV; rw [h]; exact (if_neg hc).symm
