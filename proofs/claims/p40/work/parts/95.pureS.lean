/-! ===== pure rows for isSame and the law's loop ===== -/
section PS
variable {n : Nat} {w has nm wat del g s g0 g1 : Nat → Int32} {d : Nat → Nat} {r : Int32}
theorem nm_lt0 {x : Int32} (h : x = -1 ∨ ∃ a, a ≤ 9 ∧ x = nI a) : x < 0 ↔ x = -1 := by
  constructor
  · intro hx
    rcases h with h | ⟨a, ha, h⟩
    · exact h
    · subst h; exact absurd hx (nI_nneg (by omega))
  · intro e; rw [e]; decide
theorem agA_arB (hD : Dep n w s d) (hn : n ≤ 16) {p : Nat} (hp : p < n) (hv : ∀ q, q < n → g q = -1 ∨ ∃ a, a ≤ 9 ∧ g q = nI a) : cnb (arB w has wat del g p) n = agA w has wat del g p n := by
  unfold agA
  by_cases h5 : del p = 0
  · rw [if_neg (fun z => z h5)]
    have hb : ∀ q, q < n → ¬ q = p → arB w has wat del g p q = (decide (w q = nI p) && !decide (g q = -1)) := fun q hq e => by
      unfold arB
      rw [decide_eq_true h5, Bool.true_and, if_neg e]
      congr 2
      exact decide_eq_decide.mpr (nm_lt0 (hv q hq))
    have h0 : (fun q => decide (w q = nI p) && !decide (g q = -1)) p = false := by
      show (decide (w p = nI p) && !decide (g p = -1)) = false
      rw [decide_eq_false (hD.ne hn hp)]; rfl
    cases z : sprg has wat p with
    | true =>
      rw [if_pos rfl, cnb_flip (b := fun q => decide (w q = nI p) && !decide (g q = -1)) (c := arB w has wat del g p) n p hp h0 (by unfold arB; rw [decide_eq_true h5, Bool.true_and, if_pos rfl]; exact z) (fun k hk e => (hb k hk e).symm)]
      omega
    | false =>
      rw [if_neg (by decide)]
      rw [Nat.zero_add]
      refine cnb_congr n (fun q hq => ?_)
      by_cases e : q = p
      · subst e
        refine Eq.trans ?_ h0.symm
        unfold arB
        rw [decide_eq_true h5, Bool.true_and, if_pos rfl]
        exact z
      · exact hb q hq e
  · rw [if_pos h5]
    exact cnb_none (fun q => by unfold arB; rw [decide_eq_false h5]; rfl) n
theorem agD_iff (hD : Dep n w s d) (hn : n ≤ 16) {p : Nat} (hp : p < n) : agD w has nm wat del g p n = true ↔ del p = 0 ∧ ∃ i, i < n ∧ arf w has wat g p i ∧ ¬ nmf nm g p i = g p := by
  unfold agD
  by_cases h5 : del p = 0
  · rw [if_neg (fun z => z h5), Bool.or_eq_true, anb_iff, Bool.and_eq_true, Bool.not_eq_true', decide_eq_false_iff_not]
    constructor
    · rintro (⟨a, b⟩ | ⟨j, hj, b⟩)
      · exact ⟨h5, p, hp, Or.inl ⟨rfl, a⟩, by unfold nmf; rw [if_pos rfl]; exact b⟩
      · simp only [Bool.and_eq_true, decide_eq_true_eq, Bool.not_eq_true', decide_eq_false_iff_not] at b
        have hne : ¬ j = p := fun z => by subst z; exact hD.ne hn hp b.1.1
        exact ⟨h5, j, hj, Or.inr ⟨hne, b.1.1, b.1.2⟩, by unfold nmf; rw [if_neg hne]; exact b.2⟩
    · rintro ⟨-, i, hi, ha, hb⟩
      rcases ha with ⟨e, a⟩ | ⟨e, a, b⟩
      · subst e
        unfold nmf at hb; rw [if_pos rfl] at hb
        exact Or.inl ⟨a, hb⟩
      · unfold nmf at hb; rw [if_neg e] at hb
        refine Or.inr ⟨i, hi, ?_⟩
        simp only [Bool.and_eq_true, decide_eq_true_eq, Bool.not_eq_true', decide_eq_false_iff_not]
        exact ⟨⟨a, b⟩, hb⟩
  · rw [if_pos h5]
    constructor
    · intro z; cases z
    · rintro ⟨z, -⟩; exact absurd z h5
/-! the greatest name -/
theorem gst_spec (f : Nat → Int32) (n : Nat) : ∀ k : Nat, k ≤ 10 → (gst f n k = -1 ∧ ∀ i, i < k → cnt f (nI i) n = 0) ∨ ∃ a, a < k ∧ gst f n k = nI a ∧ ¬ cnt f (nI a) n = 0 ∧ ∀ i, i < k → cnt f (nI i) n < cnt f (nI a) n ∨ (cnt f (nI i) n = cnt f (nI a) n ∧ a ≤ i)
  | 0, _ => Or.inl ⟨rfl, fun i h => absurd h (Nat.not_lt_zero i)⟩
  | k + 1, hk => by
    rcases gst_spec f n k (by omega) with ⟨h1, h2⟩ | ⟨a, h1, h2, h3, h4⟩
    · by_cases z : cnt f (nI k) n = 0
      · refine Or.inl ⟨by rw [gst_0 f n z]; exact h1, fun i hi => ?_⟩
        by_cases e : i = k
        · subst e; exact z
        · exact h2 i (by omega)
      · refine Or.inr ⟨k, by omega, gst_y f n z (Or.inl h1), z, fun i hi => ?_⟩
        by_cases e : i = k
        · subst e; exact Or.inr ⟨rfl, Nat.le_refl _⟩
        · exact Or.inl (by rw [h2 i (by omega)]; omega)
    · have hne : ¬ gst f n k = -1 := by rw [h2]; exact ne_m1 (by omega)
      by_cases z : cnt f (nI a) n < cnt f (nI k) n
      · refine Or.inr ⟨k, by omega, gst_y f n (by omega) (Or.inr (by rw [h2]; exact z)), by omega, fun i hi => ?_⟩
        by_cases e : i = k
        · subst e; exact Or.inr ⟨rfl, Nat.le_refl _⟩
        · refine Or.inl ?_
          rcases h4 i (by omega) with y | y <;> omega
      · have e0 : gst f n (k + 1) = gst f n k := by
          by_cases y : cnt f (nI k) n = 0
          · exact gst_0 f n y
          · exact gst_n f n hne (by rw [h2]; exact z)
        refine Or.inr ⟨a, by omega, by rw [e0]; exact h2, h3, fun i hi => ?_⟩
        by_cases e : i = k
        · subst e
          rcases Nat.lt_or_ge (cnt f (nI i) n) (cnt f (nI a) n) with y | y
          · exact Or.inl y
          · exact Or.inr ⟨by omega, by omega⟩
        · exact h4 i (by omega)
/-- told from above -/
def GR (f : Nat → Int32) (n j : Nat) (x : Int32) : Prop := (x = -1 ∧ ∀ i, j ≤ i → i < 10 → cnt f (nI i) n = 0) ∨ ∃ a, j ≤ a ∧ a < 10 ∧ x = nI a ∧ ¬ cnt f (nI a) n = 0 ∧ ∀ i, j ≤ i → i < 10 → cnt f (nI i) n < cnt f (nI a) n ∨ (cnt f (nI i) n = cnt f (nI a) n ∧ a ≤ i)
theorem GR.start {f : Nat → Int32} {n : Nat} : GR f n 10 (-1) := Or.inl ⟨rfl, fun i h1 h2 => by omega⟩
theorem GR.zero {f : Nat → Int32} {n k : Nat} {x : Int32} (h : GR f n (k + 1) x) (z : cnt f (nI k) n = 0) : GR f n k x := by
  rcases h with ⟨h1, h2⟩ | ⟨a, h0, h1, h2, h3, h4⟩
  · refine Or.inl ⟨h1, fun i hi h => ?_⟩
    by_cases e : i = k
    · subst e; exact z
    · exact h2 i (by omega) h
  · refine Or.inr ⟨a, by omega, h1, h2, h3, fun i hi h => ?_⟩
    by_cases e : i = k
    · subst e; exact Or.inl (by omega)
    · exact h4 i (by omega) h
theorem GR.less {f : Nat → Int32} {n k a : Nat} {x : Int32} (h : GR f n (k + 1) x) (e1 : x = nI a) (ha : a < 10) (z : cnt f (nI k) n < cnt f (nI a) n) : GR f n k x := by
  rcases h with ⟨h1, h2⟩ | ⟨b, h0, h1, h2, h3, h4⟩
  · rw [e1] at h1; exact absurd h1 (ne_m1 (by omega))
  · have e2 : a = b := nI_inj (by omega) (by omega) (e1.symm.trans h2)
    subst e2
    refine Or.inr ⟨a, by omega, h1, h2, h3, fun i hi h => ?_⟩
    by_cases e : i = k
    · subst e; exact Or.inl z
    · exact h4 i (by omega) h
theorem GR.take {f : Nat → Int32} {n k : Nat} {x : Int32} (hk : k < 10) (h : GR f n (k + 1) x) (z : ¬ cnt f (nI k) n = 0) (hx : x < 0 ∨ ∃ a, a < 10 ∧ x = nI a ∧ cnt f (nI a) n ≤ cnt f (nI k) n) : GR f n k (nI k) := by
  refine Or.inr ⟨k, Nat.le_refl _, hk, rfl, z, fun i hi h9 => ?_⟩
  by_cases e : i = k
  · subst e; exact Or.inr ⟨rfl, Nat.le_refl _⟩
  · rcases h with ⟨h1, h2⟩ | ⟨b, h0, h1, h2, h3, h4⟩
    · exact Or.inl (by rw [h2 i (by omega) h9]; omega)
    · rcases hx with hx | ⟨a, ha, e1, hc⟩
      · rw [h2] at hx; exact absurd hx (nI_nneg (by omega))
      · have e2 : a = b := nI_inj (by omega) (by omega) (e1.symm.trans h2)
        subst e2
        rcases h4 i (by omega) h9 with y | y
        · exact Or.inl (by omega)
        · rcases Nat.lt_or_ge (cnt f (nI i) n) (cnt f (nI k) n) with u | u
          · exact Or.inl u
          · exact Or.inr ⟨by omega, by omega⟩
theorem GR.last {f : Nat → Int32} {n : Nat} {x : Int32} (h : GR f n 0 x) : gst f n 10 = x := by
  rcases gst_spec f n 10 (Nat.le_refl _) with ⟨h1, h2⟩ | ⟨a, h1, h2, h3, h4⟩
  · rcases h with ⟨k1, k2⟩ | ⟨b, k0, k1, k2, k3, k4⟩
    · rw [h1, k1]
    · exact absurd (h2 b k1) k3
  · rcases h with ⟨k1, k2⟩ | ⟨b, k0, k1, k2, k3, k4⟩
    · exact absurd (k2 a (Nat.zero_le _) h1) h3
    · rw [h2, k2]
      have y1 := h4 b k1
      have y2 := k4 a (Nat.zero_le _) h1
      have e : a = b := by omega
      rw [e]
theorem GR.is {f : Nat → Int32} {n j : Nat} {x : Int32} (h : GR f n j x) (hx : ¬ x < 0) : ∃ a, a < 10 ∧ x = nI a := by
  rcases h with ⟨h1, -⟩ | ⟨a, -, h1, h2, -⟩
  · rw [h1] at hx; exact absurd (by decide) hx
  · exact ⟨a, h1, h2⟩
/-! doubles -/
theorem dq_self {v : UInt64} (h : (∃ s c q, FP.Core.decode FP.Core.b64 v.toNat = .fin s c q) ∨ ∃ s, FP.Core.decode FP.Core.b64 v.toNat = .inf s) : Op.cmpValue (FP.dcmp v v) .l = 0 := by
  have hc : ∀ i : Int, compare i i = .eq := fun i => by
    show compareOfLessAndEq i i = .eq
    simp [compareOfLessAndEq]
  have e : FP.dcmp v v = some .eq := by
    show FP.Core.order (FP.Core.decode FP.Core.b64 v.toNat) (FP.Core.decode FP.Core.b64 v.toNat) = _
    rcases h with ⟨s, c, q, h⟩ | ⟨s, h⟩
    · rw [h]; exact congrArg some (hc _)
    · rw [h]; exact congrArg some (hc _)
  rw [e]; rfl
theorem dq_div (x : Int32) (k : Nat) (hk : k < 17) (h0 : ¬ k = 0) : (∃ s c q, FP.Core.decode FP.Core.b64 (FP.ddiv (FP.i2d x) (FP.i2d (nI k))).toNat = .fin s c q) ∨ ∃ s, FP.Core.decode FP.Core.b64 (FP.ddiv (FP.i2d x) (FP.i2d (nI k))).toNat = .inf s := by
  obtain ⟨s, c, q, h1⟩ := fq_i2d x
  obtain ⟨t, d, r, h2⟩ := fq_i2d (nI k)
  have h3 := fq_nz16 k hk h0
  unfold fq_nz at h3
  rw [h2] at h3
  have hd : ¬ d = 0 := of_decide_eq_true h3
  obtain ⟨c', q', hc, hq, h4⟩ := fq_rr (s != t) c d (q - r)
  have e : (FP.ddiv (FP.i2d x) (FP.i2d (nI k))).toNat = (UInt64.ofNat (FP.Core.encode FP.Core.b64 (FP.Core.roundRatio FP.Core.b64 (s != t) c d (q - r)))).toNat := by
    show (UInt64.ofNat (FP.Core.encode FP.Core.b64 (FP.Core.quotient FP.Core.b64 (FP.Core.decode FP.Core.b64 (FP.i2d x).toNat) (FP.Core.decode FP.Core.b64 (FP.i2d (nI k)).toNat)))).toNat = _
    rw [h1, h2]
    have h6 : FP.Core.quotient FP.Core.b64 (.fin s c q) (.fin t d r) = FP.Core.roundRatio FP.Core.b64 (s != t) c d (q - r) := by
      show (if d = 0 then _ else _) = _
      rw [if_neg hd]
    rw [h6]
  rw [e]
  rcases h4 with h4 | h4
  · rw [h4, UInt64.toNat_ofNat', Nat.mod_eq_of_lt (fq_enc _ c' q' hc hq).1]
    exact Or.inl (fq_dec _ (fq_enc _ c' q' hc hq).2)
  · rw [h4, UInt64.toNat_ofNat', Nat.mod_eq_of_lt (fq_inf _).1]
    refine Or.inr ⟨s != t, ?_⟩
    cases (s != t) <;> decide
theorem mmS_le (w g : Nat → Int32) : ∀ k : Nat, (mmS w g k).1 ≤ k
  | 0 => Nat.le_refl _
  | k + 1 => by
    have := mmS_le w g k
    simp only [mmS]
    split
    · show (mmS w g k).1 + 1 ≤ k + 1; omega
    · omega
theorem mmV_self (hn : n ≤ 16) : Op.cmpValue (FP.dcmp (mmV w g n) (mmV w g n)) .l = 0 := by
  unfold mmV
  by_cases h : (mmS w g n).1 = 0
  · rw [if_pos h]; decide
  · rw [if_neg h]
    exact dq_self (dq_div _ _ (by have := mmS_le w g n; omega) h)
end PS
