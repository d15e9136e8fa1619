/-! ===== what the law asks of a land, as it is reckoned ===== -/
section LVF
variable {n b : Nat} {r : Int32} {m0 m1 m2 m3 m4 m5 m6 m7 : Nat → Int32}
theorem LV.w0 (h : LV n b r m0 m1 m2 m3 m4 m5 m6 m7) {p : Nat} (hp : p < n) : (sol n m0 m1 m2 m3 m5 r).1 p = mW m0 (sol n m0 m1 m2 m3 m5 r).1 (m3 p) p n := by
  have hW := h.wat p hp
  have hb : mB m1 m3 p = m3 p := by
    unfold mB
    by_cases z : m1 p = 0
    · rw [if_pos z, hW.1 z]
    · rw [if_neg z]
  exact (h.ma hp).1.trans (by rw [hb])
theorem LV.wsum (h : LV n b r m0 m1 m2 m3 m4 m5 m6 m7) {p : Nat} (hp : p < n) : ∀ k : Nat, k ≤ n → ∃ v, mW m0 (sol n m0 m1 m2 m3 m5 r).1 (m3 p) p k = nI v ∧ v ≤ 99 + 1584 * k ∧ ∀ i, i < k → m0 i = nI p → ∀ a, a ≤ 1584 → (sol n m0 m1 m2 m3 m5 r).1 i = nI a → a ≤ v
  | 0, _ => by
    obtain ⟨_, a, h1, h2⟩ := h.wat p hp
    exact ⟨a, h2, by omega, fun i hi => absurd hi (Nat.not_lt_zero i)⟩
  | k + 1, hk => by
    obtain ⟨v, h1, h2, h3⟩ := LV.wsum h hp k (by omega)
    by_cases e : m0 k = nI p
    · obtain ⟨o, ho, eo⟩ := h.wv (p := k) (by omega)
      refine ⟨v + o, by rw [mW_y _ _ _ e, h1, eo, nI_add], by omega, fun i hi ei a ha ea => ?_⟩
      by_cases z : i = k
      · subst z
        have := nI_inj (by omega) (by omega) (ea.symm.trans eo)
        omega
      · have := h3 i (by omega) ei a ha ea; omega
    · refine ⟨v, by rw [mW_n _ _ _ e, h1], by omega, fun i hi ei a ha ea => ?_⟩
      by_cases z : i = k
      · subst z; exact absurd ei e
      · exact h3 i (by omega) ei a ha ea
theorem LV.wup (h : LV n b r m0 m1 m2 m3 m4 m5 m6 m7) {p q : Nat} (hp : p < n) (hq : q < n) (e : m0 q = nI p) : ∃ a c, a ≤ c ∧ c ≤ 1584 ∧ (sol n m0 m1 m2 m3 m5 r).1 q = nI a ∧ (sol n m0 m1 m2 m3 m5 r).1 p = nI c := by
  have hn := h.n16
  obtain ⟨v, h1, h2, h3⟩ := h.wsum hp n (Nat.le_refl n)
  obtain ⟨a, ha, ea⟩ := h.wv hq
  obtain ⟨c, hc, ec⟩ := h.wv hp
  have e2 : v = c := nI_inj (by omega) (by omega) (h1.symm.trans ((h.w0 hp).symm.trans ec))
  exact ⟨a, c, by have := h3 q hq e a ha ea; omega, hc, ea, ec⟩
theorem LV.wab (h : LV n b r m0 m1 m2 m3 m4 m5 m6 m7) {p q : Nat} (hp : p < n) (hq : q < n) (hr : rch m0 p q) : ¬ (sol n m0 m1 m2 m3 m5 r).1 p < (sol n m0 m1 m2 m3 m5 r).1 q := by
  obtain ⟨d, s, hD⟩ := h.dep
  have hn := h.n16
  have key : ∃ a c, a ≤ c ∧ c ≤ 1584 ∧ (sol n m0 m1 m2 m3 m5 r).1 q = nI a ∧ (sol n m0 m1 m2 m3 m5 r).1 p = nI c := by
    refine way_ind (P := fun q => rch m0 p q → ∃ a c, a ≤ c ∧ c ≤ 1584 ∧ (sol n m0 m1 m2 m3 m5 r).1 q = nI a ∧ (sol n m0 m1 m2 m3 m5 r).1 p = nI c) hD (fun q hq e hr => ?_) (fun q z hq hz e e2 ih hr => ?_) (d q) q hq (Nat.le_refl _) hr
    · obtain ⟨c, hc, ec⟩ := h.wv hp
      have e3 := (rch_end e).mp hr
      subst e3
      exact ⟨c, c, Nat.le_refl _, hc, ec, ec⟩
    · rcases (rch_up hD hn hq hz hp e).mp hr with y | y
      · obtain ⟨c, hc, ec⟩ := h.wv hp
        subst y
        exact ⟨c, c, Nat.le_refl _, hc, ec, ec⟩
      · obtain ⟨a, c, h1, h2, h3, h4⟩ := ih y
        obtain ⟨a2, c2, k1, k2, k3, k4⟩ := h.wup hz hq e
        have := nI_inj (by omega) (by omega) (k4.symm.trans h3)
        exact ⟨a2, c, by omega, h2, k3, h4⟩
  obtain ⟨a, c, h1, h2, h3, h4⟩ := key
  rw [h3, h4]
  exact nI_nlt (by omega) (by omega)
/-! lengths -/
theorem LV.lsum (h : LV n b r m0 m1 m2 m3 m4 m5 m6 m7) {p : Nat} (hp : p < n) : ∀ k : Nat, k ≤ n → ∃ v, mL m0 (sol n m0 m1 m2 m3 m5 r).2.1 p k = nI v ∧ v ≤ 17 ∧ (∀ i u, i < k → m0 i = nI p → (sol n m0 m1 m2 m3 m5 r).2.1 i = nI u → u ≤ 16 → ¬ u = 0 → u + 1 ≤ v) ∧ (v = 0 ∨ ∃ i u, i < k ∧ m0 i = nI p ∧ (sol n m0 m1 m2 m3 m5 r).2.1 i = nI u ∧ u ≤ 16 ∧ ¬ u = 0 ∧ v = u + 1)
  | 0, _ => ⟨0, rfl, by omega, fun i u hi => absurd hi (Nat.not_lt_zero i), Or.inl rfl⟩
  | k + 1, hk => by
    obtain ⟨v, h1, h2, h3, h4⟩ := LV.lsum h hp k (by omega)
    obtain ⟨o, ho, eo⟩ := h.lv (p := k) (by omega)
    have keep : (mL m0 (sol n m0 m1 m2 m3 m5 r).2.1 p (k + 1) = nI v) → (∀ u, m0 k = nI p → (sol n m0 m1 m2 m3 m5 r).2.1 k = nI u → u ≤ 16 → ¬ u = 0 → u + 1 ≤ v) → ∃ v, mL m0 (sol n m0 m1 m2 m3 m5 r).2.1 p (k + 1) = nI v ∧ v ≤ 17 ∧ (∀ i u, i < k + 1 → m0 i = nI p → (sol n m0 m1 m2 m3 m5 r).2.1 i = nI u → u ≤ 16 → ¬ u = 0 → u + 1 ≤ v) ∧ (v = 0 ∨ ∃ i u, i < k + 1 ∧ m0 i = nI p ∧ (sol n m0 m1 m2 m3 m5 r).2.1 i = nI u ∧ u ≤ 16 ∧ ¬ u = 0 ∧ v = u + 1) := fun e f => by
      refine ⟨v, e, h2, fun i u hi ei eu hu hz => ?_, ?_⟩
      · by_cases z : i = k
        · subst z; exact f u ei eu hu hz
        · exact h3 i u (by omega) ei eu hu hz
      · rcases h4 with z | ⟨i, u, hi, ei, eu, hu, hz, ev⟩
        · exact Or.inl z
        · exact Or.inr ⟨i, u, by omega, ei, eu, hu, hz, ev⟩
    by_cases e : m0 k = nI p
    · by_cases z : o = 0
      · refine keep (by rw [mL_0 _ _ (by rw [eo, z]; decide)]; exact h1) (fun u _ eu hu hz => ?_)
        exact absurd (nI_inj (by omega) (by omega) (eu.symm.trans eo)) (by omega)
      · have hz : ¬ (sol n m0 m1 m2 m3 m5 r).2.1 k ≤ 0 := fun y => z ((nI_le0 (by omega)).mp (by rw [← eo]; exact y))
        have em := mL_y m0 (sol n m0 m1 m2 m3 m5 r).2.1 e hz
        rw [h1, eo, nI_1] at em
        by_cases y : v < o + 1
        · rw [if_pos (nI_lt (by omega) (by omega))] at em
          refine ⟨o + 1, em, by omega, fun i u hi ei eu hu hzz => ?_, Or.inr ⟨k, o, by omega, e, eo, ho, z, rfl⟩⟩
          by_cases w : i = k
          · subst w
            have := nI_inj (by omega) (by omega) (eu.symm.trans eo)
            omega
          · have := h3 i u (by omega) ei eu hu hzz; omega
        · rw [if_neg (nI_nlt (by omega) (by omega))] at em
          refine keep em (fun u _ eu hu hzz => ?_)
          have := nI_inj (by omega) (by omega) (eu.symm.trans eo)
          omega
    · exact keep (by rw [mL_n _ _ e]; exact h1) (fun u y => absurd y e)
theorem LV.len (h : LV n b r m0 m1 m2 m3 m4 m5 m6 m7) {p : Nat} (hp : p < n) : ∃ v, v ≤ 16 ∧ (sol n m0 m1 m2 m3 m5 r).2.1 p = nI v ∧ (∀ i u, i < n → m0 i = nI p → (sol n m0 m1 m2 m3 m5 r).2.1 i = nI u → u ≤ 16 → ¬ u = 0 → u + 1 ≤ v) ∧ (v = 0 → sprg m1 m3 p = false) ∧ (¬ v = 0 → (v = 1 ∧ sprg m1 m3 p = true) ∨ ∃ i u, i < n ∧ m0 i = nI p ∧ (sol n m0 m1 m2 m3 m5 r).2.1 i = nI u ∧ u ≤ 16 ∧ ¬ u = 0 ∧ v = u + 1) := by
  obtain ⟨x, hx, ex⟩ := h.lv hp
  obtain ⟨v, h1, h2, h3, h4⟩ := h.lsum hp n (Nat.le_refl n)
  have hm := (h.ma hp).2.1
  rw [h1] at hm
  unfold mLf at hm
  by_cases z : v = 0
  · subst z
    cases hs : sprg m1 m3 p with
    | true =>
      rw [if_pos ⟨rfl, hs⟩] at hm
      exact ⟨1, by omega, hm, fun i u hi ei eu hu hz => by have := h3 i u hi ei eu hu hz; omega, fun z => by omega, fun _ => Or.inl ⟨rfl, rfl⟩⟩
    | false =>
      rw [if_neg (fun y => by rw [hs] at y; cases y.2)] at hm
      exact ⟨0, by omega, hm, fun i u hi ei eu hu hz => by have := h3 i u hi ei eu hu hz; omega, fun _ => rfl, fun z => absurd rfl z⟩
  · rw [if_neg (fun y => z (zn_eq (by omega) (by omega) (show nI v = nI 0 from y.1)))] at hm
    have e : x = v := nI_inj (by omega) (by omega) (ex.symm.trans hm)
    subst e
    exact ⟨x, hx, ex, h3, fun y => absurd y z, fun _ => Or.inr (h4.resolve_left z)⟩
theorem LV.lgt (h : LV n b r m0 m1 m2 m3 m4 m5 m6 m7) {p q : Nat} (hp : p < n) (hq : q < n) (e : m0 q = nI p) (h0 : ¬ (sol n m0 m1 m2 m3 m5 r).2.1 q ≤ 0) : (sol n m0 m1 m2 m3 m5 r).2.1 q < (sol n m0 m1 m2 m3 m5 r).2.1 p := by
  obtain ⟨v, h1, h2, h3, -, -⟩ := h.len hp
  obtain ⟨u, k1, k2⟩ := h.lv hq
  rw [k2] at h0
  have hu : ¬ u = 0 := fun z => h0 ((nI_le0 (by omega)).mpr z)
  have := h3 q u hq e k2 k1 hu
  rw [h2, k2]
  exact nI_lt (by omega) (by omega)
theorem LV.lao (h : LV n b r m0 m1 m2 m3 m4 m5 m6 m7) : ∀ (k p : Nat), p < n → ao n m0 p ≤ k → ∃ v, v ≤ 16 ∧ (sol n m0 m1 m2 m3 m5 r).2.1 p = nI v ∧ v ≤ ao n m0 p + 1 := by
  obtain ⟨d, s, hD⟩ := h.dep
  have hn := h.n16
  intro k
  induction k with
  | zero =>
    intro p hp hk
    obtain ⟨v, h1, h2, h3, h4, h5⟩ := h.len hp
    refine ⟨v, h1, h2, ?_⟩
    by_cases z : v = 0
    · omega
    · rcases h5 z with ⟨e, _⟩ | ⟨i, u, hi, ei, _⟩
      · omega
      · have := ao_up hD hn hp hi ei; omega
  | succ k ih =>
    intro p hp hk
    obtain ⟨v, h1, h2, h3, h4, h5⟩ := h.len hp
    refine ⟨v, h1, h2, ?_⟩
    by_cases z : v = 0
    · omega
    · rcases h5 z with ⟨e, _⟩ | ⟨i, u, hi, ei, eu, hu, hz, ev⟩
      · omega
      · have h6 := ao_up hD hn hp hi ei
        obtain ⟨v2, k1, k2, k3⟩ := ih i hi (by omega)
        have := nI_inj (by omega) (by omega) (eu.symm.trans k2)
        omega
def wz (m3 : Nat → Int32) (q : Nat) : Bool := !decide (m3 q ≤ 0)
theorem LV.spw (h : LV n b r m0 m1 m2 m3 m4 m5 m6 m7) {p : Nat} (hp : p < n) : sprg m1 m3 p = wz m3 p := by
  have h1 := spg_wet h.wat hp
  unfold wz
  cases z : sprg m1 m3 p with
  | true => rw [decide_eq_false (h1.mp z)]; rfl
  | false =>
    by_cases y : m3 p ≤ 0
    · rw [decide_eq_true y]; rfl
    · rw [h1.mpr y] at z; cases z
theorem rch_tr {s : Nat → Int32} {d : Nat → Nat} (hD : Dep n m0 s d) (hn : n ≤ 16) {t p q : Nat} (ht : t < n) (hp : p < n) (hq : q < n) (h1 : rch m0 t p) (h2 : rch m0 p q) : rch m0 t q := by
  refine way_ind (P := fun q => rch m0 p q → rch m0 t q) hD (fun q hq e h2 => ?_) (fun q z hq hz e e2 ih h2 => ?_) (d q) q hq (Nat.le_refl _) h2
  · have := (rch_end e).mp h2; subst this; exact h1
  · rcases (rch_up hD hn hq hz hp e).mp h2 with y | y
    · subst y; exact h1
    · exact (rch_up hD hn hq hz ht e).mpr (Or.inr (ih y))
theorem LV.l0 (h : LV n b r m0 m1 m2 m3 m4 m5 m6 m7) : ∀ (k p : Nat), p < n → ao n m0 p ≤ k → (¬ (sol n m0 m1 m2 m3 m5 r).2.1 p = 0 → ∃ q, q < n ∧ rch m0 p q ∧ wz m3 q = true) := by
  obtain ⟨d, s, hD⟩ := h.dep
  have hn := h.n16
  intro k
  induction k with
  | zero =>
    intro p hp hk h0
    obtain ⟨v, h1, h2, h3, h4, h5⟩ := h.len hp
    have hv : ¬ v = 0 := fun z => h0 (by rw [h2, z]; rfl)
    rcases h5 hv with ⟨e, e2⟩ | ⟨i, u, hi, ei, _⟩
    · exact ⟨p, hp, Or.inl rfl, by rw [← h.spw hp]; exact e2⟩
    · have := ao_up hD hn hp hi ei; omega
  | succ k ih =>
    intro p hp hk h0
    obtain ⟨v, h1, h2, h3, h4, h5⟩ := h.len hp
    have hv : ¬ v = 0 := fun z => h0 (by rw [h2, z]; rfl)
    rcases h5 hv with ⟨e, e2⟩ | ⟨i, u, hi, ei, eu, hu, hz, ev⟩
    · exact ⟨p, hp, Or.inl rfl, by rw [← h.spw hp]; exact e2⟩
    · have h6 := ao_up hD hn hp hi ei
      obtain ⟨q, hq, k1, k2⟩ := ih i hi (by omega) (fun z => hz (zn_eq (by omega) (by omega) (show nI u = nI 0 from eu.symm.trans z)))
      exact ⟨q, hq, rch_tr hD hn hp hi hq ((rch_up hD hn hi hp hp ei).mpr (Or.inr (Or.inl rfl))) k1, k2⟩
theorem LV.l1 (h : LV n b r m0 m1 m2 m3 m4 m5 m6 m7) {p q : Nat} (hp : p < n) (hq : q < n) (hr : rch m0 p q) (hw : wz m3 q = true) : ¬ (sol n m0 m1 m2 m3 m5 r).2.1 p = 0 := by
  obtain ⟨d, s, hD⟩ := h.dep
  have hn := h.n16
  have hq0 : ¬ (sol n m0 m1 m2 m3 m5 r).2.1 q = 0 := fun z => by
    obtain ⟨v, h1, h2, h3, h4, h5⟩ := h.len hq
    have hv : v = 0 := zn_eq (by omega) (by omega) (show nI v = nI 0 from h2.symm.trans z)
    have := h4 hv
    rw [h.spw hq, hw] at this
    cases this
  refine way_ind (P := fun q => rch m0 p q → ¬ (sol n m0 m1 m2 m3 m5 r).2.1 q = 0 → ¬ (sol n m0 m1 m2 m3 m5 r).2.1 p = 0) hD (fun q hq e h2 h0 => ?_) (fun q z hq hz e e2 ih h2 h0 => ?_) (d q) q hq (Nat.le_refl _) hr hq0
  · have := (rch_end e).mp h2; subst this; exact h0
  · rcases (rch_up hD hn hq hz hp e).mp h2 with y | y
    · subst y; exact h0
    · refine ih y (fun e0 => ?_)
      obtain ⟨v, h1, h2, h3, h4, h5⟩ := h.len hz
      obtain ⟨u, k1, k2⟩ := h.lv hq
      have hu : ¬ u = 0 := fun x => h0 (by rw [k2, x]; rfl)
      have := h3 q u hq e k2 k1 hu
      have hv : v = 0 := zn_eq (by omega) (by omega) (show nI v = nI 0 from h2.symm.trans e0)
      omega
def wc (m0 m3 : Nat → Int32) (p j : Nat) : Nat := (if wz m3 p = true then 1 else 0) + cnb (fun q => fl m0 (nI p) 16 (m0 q) && wz m3 q) j
theorem wc_le (m0 m3 : Nat → Int32) (p j : Nat) : wc m0 m3 p j ≤ j + 1 := by
  have := cnb_le (fun q => fl m0 (nI p) 16 (m0 q) && wz m3 q) j
  unfold wc
  split <;> omega
theorem wc_y {m0 m3 : Nat → Int32} {p j : Nat} (h : (fl m0 (nI p) 16 (m0 j) && wz m3 j) = true) : wc m0 m3 p (j + 1) = wc m0 m3 p j + 1 := by
  unfold wc; rw [cnb_y (fun q => fl m0 (nI p) 16 (m0 q) && wz m3 q) h, Nat.add_assoc]
theorem wc_n {m0 m3 : Nat → Int32} {p j : Nat} (h : (fl m0 (nI p) 16 (m0 j) && wz m3 j) = false) : wc m0 m3 p (j + 1) = wc m0 m3 p j := by
  unfold wc; rw [cnb_n (fun q => fl m0 (nI p) 16 (m0 q) && wz m3 q) h]
theorem LV.lwc (h : LV n b r m0 m1 m2 m3 m4 m5 m6 m7) {p : Nat} (hp : p < n) : (sol n m0 m1 m2 m3 m5 r).2.1 p = 0 ↔ wc m0 m3 p n = 0 := by
  constructor
  · intro e
    have h1 : wz m3 p = false := by
      cases z : wz m3 p with
      | false => rfl
      | true => exact absurd e (h.l1 hp hp (Or.inl rfl) z)
    have h2 : cnb (fun q => fl m0 (nI p) 16 (m0 q) && wz m3 q) n = 0 := by
      rcases Nat.eq_zero_or_pos (cnb (fun q => fl m0 (nI p) 16 (m0 q) && wz m3 q) n) with z | z
      · exact z
      · have : ∃ q, q < n ∧ (fl m0 (nI p) 16 (m0 q) && wz m3 q) = true := by
          refine Classical.byContradiction (fun hne => ?_)
          have hall : cnb (fun q => fl m0 (nI p) 16 (m0 q) && wz m3 q) n = cnb (fun _ => false) n := cnb_congr n (fun i hi => by
            cases y : (fl m0 (nI p) 16 (m0 i) && wz m3 i) with
            | false => rfl
            | true => exact absurd ⟨i, hi, y⟩ hne)
          rw [cnb_none (B := fun _ => false) (fun _ => rfl)] at hall
          omega
        obtain ⟨q, hq, y⟩ := this
        rw [Bool.and_eq_true] at y
        exact absurd e (h.l1 hp hq (Or.inr y.1) y.2)
    unfold wc
    rw [h1, h2]; rfl
  · intro e
    refine Decidable.byContradiction (fun h0 => ?_)
    obtain ⟨q, hq, h1, h2⟩ := h.l0 (ao n m0 p) p hp (Nat.le_refl _) h0
    unfold wc at e
    rcases h1 with z | z
    · subst z
      rw [if_pos h2] at e
      omega
    · have := cnb_one (c := fun q => fl m0 (nI p) 16 (m0 q) && wz m3 q) n q hq (by show (fl m0 (nI p) 16 (m0 q) && wz m3 q) = true; rw [z, h2]; rfl)
      omega
/-! names -/
theorem LV.win (h : LV n b r m0 m1 m2 m3 m4 m5 m6 m7) {p : Nat} (hp : p < n) : (m5 p = 0 ∧ ∃ i, i < n ∧ arf m0 m1 m3 (nmS n m0 m1 m2 m3 m5 r) p i ∧ nmS n m0 m1 m2 m3 m5 r p = nmf m2 (nmS n m0 m1 m2 m3 m5 r) p i ∧ ¬ nmS n m0 m1 m2 m3 m5 r p = -1) ∨ (nmS n m0 m1 m2 m3 m5 r p = -1 ∧ ∀ i, i < n → arB m0 m1 m3 m5 (nmS n m0 m1 m2 m3 m5 r) p i = false) := by
  obtain ⟨d, s, hD⟩ := h.dep
  have hn := h.n16
  have hma := (h.ma hp).2.2
  have hpos : ∀ j, j < n → arf m0 m1 m3 (nmS n m0 m1 m2 m3 m5 r) p j → -1 < stf m3 (sol n m0 m1 m2 m3 m5 r).1 (sol n m0 m1 m2 m3 m5 r).2.1 r p j := fun j hj _ => by
    unfold stf wor
    by_cases e : j = p
    · rw [if_pos e]
      by_cases z : r = 0
      · rw [if_pos z]
        obtain ⟨_, a, ha2, e2⟩ := h.wat p hp
        rw [e2]; exact m1_lt_nI (by omega)
      · rw [if_neg z]; decide
    · rw [if_neg e]
      obtain ⟨x1, hx1, ex1⟩ := h.wv hj
      obtain ⟨x2, hx2, ex2⟩ := h.lv hj
      split
      · rw [ex1]; exact m1_lt_nI (by omega)
      · rw [ex2]; exact m1_lt_nI (by omega)
  by_cases h5 : m5 p = 0
  · unfold nmd at hma
    rw [if_neg (fun z => z h5)] at hma
    rcases mN_MI (nm := m2) hD hn hp hpos n (Nat.le_refl n) with ⟨k1, k2⟩ | ⟨i, k1, k2⟩
    · refine Or.inr ⟨by rw [hma, k2], fun i hi => ?_⟩
      cases z : arB m0 m1 m3 m5 (nmS n m0 m1 m2 m3 m5 r) p i with
      | false => rfl
      | true => exact absurd ((arB_arf h5 (h.nv hi)).mp z) (k1 i hi)
    · have e1 : nmS n m0 m1 m2 m3 m5 r p = nmf m2 (nmS n m0 m1 m2 m3 m5 r) p i := by rw [hma, k2]
      refine Or.inl ⟨h5, i, k1.1, k1.2.1, e1, ?_⟩
      rw [e1]
      unfold nmf
      rcases k1.2.1 with ⟨z, y⟩ | ⟨z, -, y⟩
      · rw [if_pos z]
        have hz : ¬ m1 p = 0 := fun x => by unfold sprg at y; rw [decide_eq_true x] at y; cases y
        obtain ⟨a, ha, ea⟩ := h.2.1 p hp hz
        rw [ea]; exact ne_m1 (by omega)
      · rw [if_neg z]; exact y
  · unfold nmd at hma
    rw [if_pos h5] at hma
    refine Or.inr ⟨hma, fun i hi => ?_⟩
    unfold arB
    rw [decide_eq_false h5]; rfl
theorem LV.nag (h : LV n b r m0 m1 m2 m3 m4 m5 m6 m7) {p : Nat} (hp : p < n) : nmS n m0 m1 m2 m3 m5 r p = -1 ↔ agA m0 m1 m3 m5 (nmS n m0 m1 m2 m3 m5 r) p n = 0 := by
  obtain ⟨d, s, hD⟩ := h.dep
  have hn := h.n16
  rw [← agA_arB hD hn hp (fun q hq => h.nv hq)]
  rcases h.win hp with ⟨h5, i, hi, ha, e, hne⟩ | ⟨e, hno⟩
  · constructor
    · intro z; exact absurd z hne
    · intro z
      exact absurd (Nat.le_trans (cnb_one n i hi ((arB_arf h5 (h.nv hi)).mpr ha)) (Nat.le_of_eq z)) (by decide)
  · refine ⟨fun _ => ?_, fun _ => e⟩
    rw [cnb_congr (c := fun _ => false) n (fun i hi => hno i hi)]
    exact cnb_none (fun _ => rfl) n
theorem LV.ag2 (h : LV n b r m0 m1 m2 m3 m4 m5 m6 m7) {p : Nat} (hp : p < n) (hd : agD m0 m1 m2 m3 m5 (nmS n m0 m1 m2 m3 m5 r) p n = true) : 2 ≤ agA m0 m1 m3 m5 (nmS n m0 m1 m2 m3 m5 r) p n := by
  obtain ⟨d, s, hD⟩ := h.dep
  have hn := h.n16
  rw [← agA_arB hD hn hp (fun q hq => h.nv hq)]
  obtain ⟨h5, i, hi, ha, hne⟩ := (agD_iff hD hn hp).mp hd
  rcases h.win hp with ⟨_, j, hj, hb, e, _⟩ | ⟨e, hno⟩
  · exact cnb_two n i j hi hj (fun z => by subst z; exact hne e.symm) ((arB_arf h5 (h.nv hi)).mpr ha) ((arB_arf h5 (h.nv hj)).mpr hb)
  · have := (arB_arf h5 (h.nv hi)).mpr ha
    rw [hno i hi] at this
    cases this
theorem LV.del (h : LV n b r m0 m1 m2 m3 m4 m5 m6 m7) {p : Nat} (hp : p < n) (h5 : ¬ m5 p = 0) : nmS n m0 m1 m2 m3 m5 r p = -1 := by
  rcases h.win hp with ⟨z, _⟩ | ⟨e, _⟩
  · exact absurd z h5
  · exact e
noncomputable def io (n : Nat) (r : Int32) (m0 m1 m2 m3 m5 : Nat → Int32) (p j : Nat) : Bool := (wz m3 p && decide (m2 p = nmS n m0 m1 m2 m3 m5 r p)) || anb (fun q => decide (m0 q = nI p) && (!decide (nmS n m0 m1 m2 m3 m5 r q < 0) && decide (nmS n m0 m1 m2 m3 m5 r q = nmS n m0 m1 m2 m3 m5 r p))) j
theorem io_s {n : Nat} {r : Int32} {m0 m1 m2 m3 m5 : Nat → Int32} {p j : Nat} {x : Bool} (h : (decide (m0 j = nI p) && (!decide (nmS n m0 m1 m2 m3 m5 r j < 0) && decide (nmS n m0 m1 m2 m3 m5 r j = nmS n m0 m1 m2 m3 m5 r p))) = x) : io n r m0 m1 m2 m3 m5 p (j + 1) = (io n r m0 m1 m2 m3 m5 p j || x) := by
  unfold io
  simp only [anb]
  rw [h, Bool.or_assoc]
theorem LV.one (h : LV n b r m0 m1 m2 m3 m4 m5 m6 m7) {p : Nat} (hp : p < n) (hx : ¬ nmS n m0 m1 m2 m3 m5 r p < 0) : io n r m0 m1 m2 m3 m5 p n = true := by
  unfold io
  rw [Bool.or_eq_true]
  rcases h.win hp with ⟨_, i, hi, ha, e, _⟩ | ⟨e, _⟩
  · unfold nmf at e
    rcases ha with ⟨z, y⟩ | ⟨z, y1, y2⟩
    · rw [if_pos z] at e
      refine Or.inl ?_
      rw [← h.spw hp, y, decide_eq_true e.symm]; rfl
    · rw [if_neg z] at e
      refine Or.inr ((anb_iff _ n).mpr ⟨i, hi, ?_⟩)
      show (decide (m0 i = nI p) && (!decide (nmS n m0 m1 m2 m3 m5 r i < 0) && decide (nmS n m0 m1 m2 m3 m5 r i = nmS n m0 m1 m2 m3 m5 r p))) = true
      rw [decide_eq_true y1, decide_eq_true e.symm, ← e, decide_eq_false hx]; rfl
  · rw [e] at hx; exact absurd (by decide) hx
end LVF
