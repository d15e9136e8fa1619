/-! ===== pure rows for the law's loop: names, ways, meetings ===== -/
section LP
variable {n : Nat} {w s : Nat → Int32} {d : Nat → Nat}
def nsm (f : Nat → Int32) (n : Nat) : Nat → Nat
  | 0 => 0
  | k + 1 => nsm f n k + cnt f (nI k) n
def nmx (f : Nat → Int32) (n : Nat) : Nat → Nat
  | 0 => 0
  | k + 1 => if nmx f n k < cnt f (nI k) n then cnt f (nI k) n else nmx f n k
theorem nsm_0 (f : Nat → Int32) : ∀ k : Nat, nsm f 0 k = 0
  | 0 => rfl
  | k + 1 => by simp [nsm, nsm_0 f k, cnt]
theorem nsm_n {f : Nat → Int32} {n : Nat} (h : f n = -1) : ∀ k : Nat, k ≤ 10 → nsm f (n + 1) k = nsm f n k
  | 0, _ => rfl
  | k + 1, hk => by
    simp only [nsm]
    rw [nsm_n h k (by omega), cnt_n f _ (by rw [h]; exact m1_ne (by omega))]
theorem nsm_y {f : Nat → Int32} {n v : Nat} (hv : v ≤ 9) (h : f n = nI v) : ∀ k : Nat, k ≤ 10 → nsm f (n + 1) k = nsm f n k + (if v < k then 1 else 0)
  | 0, _ => by simp [nsm]
  | k + 1, hk => by
    simp only [nsm]
    rw [nsm_y hv h k (by omega)]
    by_cases e : v = k
    · subst e
      rw [cnt_y f _ h, if_neg (Nat.lt_irrefl _), if_pos (Nat.lt_succ_self _)]; omega
    · rw [cnt_n f _ (by rw [h]; exact fun z => e (nI_inj (by omega) (by omega) z))]
      by_cases z : v < k
      · rw [if_pos z, if_pos (by omega)]; omega
      · rw [if_neg z, if_neg (by omega)]; omega
theorem nsm_all {f : Nat → Int32} : ∀ n : Nat, (∀ i, i < n → f i = -1 ∨ ∃ a, a ≤ 9 ∧ f i = nI a) → nsm f n 10 + cnt f (-1) n = n
  | 0, _ => by rw [nsm_0]; rfl
  | n + 1, h => by
    have ih := nsm_all n (fun i hi => h i (by omega))
    rcases h n (by omega) with z | ⟨v, hv, z⟩
    · rw [nsm_n z 10 (Nat.le_refl _), cnt_y f _ z]; omega
    · rw [nsm_y hv z 10 (Nat.le_refl _), cnt_n f _ (by rw [z]; exact ne_m1 (by omega)), if_pos (by omega)]; omega
theorem nsm_ge {f : Nat → Int32} {n : Nat} : ∀ (k a : Nat), a < k → cnt f (nI a) n ≤ nsm f n k
  | 0, a, h => absurd h (Nat.not_lt_zero a)
  | k + 1, a, h => by
    simp only [nsm]
    by_cases e : a = k
    · subst e; omega
    · have := nsm_ge k a (by omega) (f := f) (n := n); omega
theorem nsm_none {f : Nat → Int32} {n : Nat} : ∀ k : Nat, (∀ i, i < k → cnt f (nI i) n = 0) → nsm f n k = 0
  | 0, _ => rfl
  | k + 1, h => by simp only [nsm]; rw [nsm_none k (fun i hi => h i (by omega)), h k (by omega)]
theorem nsm_le {f : Nat → Int32} {n : Nat} : ∀ k : Nat, nsm f n k ≤ n * k
  | 0 => Nat.zero_le _
  | k + 1 => by
    have h1 := nsm_le k (f := f) (n := n)
    have h2 := cnt_le f (nI k) n
    simp only [nsm]
    rw [Nat.mul_succ]; omega
theorem nmx_is {f : Nat → Int32} {n a : Nat} : ∀ k : Nat, a < k → (∀ i, i < k → cnt f (nI i) n ≤ cnt f (nI a) n) → nmx f n k = cnt f (nI a) n
  | 0, h, _ => absurd h (Nat.not_lt_zero a)
  | k + 1, h, hm => by
    simp only [nmx]
    have hle : ∀ j : Nat, j ≤ k → nmx f n j ≤ cnt f (nI a) n := by
      intro j
      induction j with
      | zero => intro _; exact Nat.zero_le _
      | succ j ih =>
        intro hj
        simp only [nmx]
        split
        · exact hm j (by omega)
        · exact ih (by omega)
    by_cases e : a = k
    · subst e
      by_cases z : nmx f n a < cnt f (nI a) n
      · rw [if_pos z]
      · rw [if_neg z]; have := hle a (Nat.le_refl _); omega
    · have ih := nmx_is k (by omega) (fun i hi => hm i (by omega))
      have := hm k (by omega)
      rw [ih, if_neg (by omega)]
theorem nmx_le {f : Nat → Int32} {n : Nat} : ∀ k : Nat, nmx f n k ≤ n
  | 0 => Nat.zero_le _
  | k + 1 => by
    have h1 := nmx_le k (f := f) (n := n)
    have h2 := cnt_le f (nI k) n
    simp only [nmx]
    split <;> omega
/-! ways -/
def rch (w : Nat → Int32) (t p : Nat) : Prop := t = p ∨ fl w (nI t) 16 (w p) = true
theorem rch_up (hD : Dep n w s d) (hn : n ≤ 16) {t p q : Nat} (hp : p < n) (hq : q < n) (ht : t < n) (e : w p = nI q) : rch w t p ↔ t = p ∨ rch w t q := by
  unfold rch
  rw [fl_step hD hn hq hp e (nI t)]
  constructor
  · rintro (h | h)
    · exact Or.inl h
    · by_cases z : nI q = nI t
      · exact Or.inr (Or.inl (nI_inj (by omega) (by omega) z).symm)
      · rw [if_neg z] at h; exact Or.inr (Or.inr h)
  · rintro (h | h | h)
    · exact Or.inl h
    · subst h; exact Or.inr (by rw [if_pos rfl])
    · refine Or.inr ?_
      split
      · rfl
      · exact h
theorem rch_end {t p : Nat} (e : w p = -1) : rch w t p ↔ t = p := by
  unfold rch
  rw [e, fl_neg _ _ _ (by decide)]
  exact ⟨fun h => h.elim id (fun z => by cases z), Or.inl⟩
theorem mo_fuel (hD : Dep n w s d) (hn : n ≤ 16) : ∀ (k p j : Nat), p < n → d p ≤ k → k ≤ j → mo w j p = mo w k p
  | 0, p, j, hp, hk, hj => by
    rcases (hD p hp).2.2 with ⟨e, _⟩ | ⟨q, hq, e, e2⟩
    · rw [mo_neg w j (by rw [e]; decide)]; rfl
    · omega
  | k + 1, p, j, hp, hk, hj => by
    rcases (hD p hp).2.2 with ⟨e, _⟩ | ⟨q, hq, e, e2⟩
    · rw [mo_neg w j (by rw [e]; decide), mo_neg w _ (by rw [e]; decide)]
    · obtain ⟨j, rfl⟩ : ∃ i, j = i + 1 := ⟨j - 1, by omega⟩
      rw [mo_go w (by omega) e, mo_go w (by omega) e]
      exact mo_fuel hD hn k q j hq (by omega) (by omega)
theorem mo_up (hD : Dep n w s d) (hn : n ≤ 16) {p q : Nat} (hp : p < n) (hq : q < n) (e : w p = nI q) : mo w 16 p = mo w 16 q := by
  have h1 := (hD p hp).1
  have h2 := hD.to hn hp hq e
  rw [show (16 : Nat) = 15 + 1 from rfl, mo_go w (by omega) e, ← mo_fuel hD hn 15 q 16 hq (by omega) (by omega)]
/-- along a way -/
theorem way_ind (hD : Dep n w s d) {P : Nat → Prop} (h0 : ∀ p, p < n → w p = -1 → P p) (h1 : ∀ p q, p < n → q < n → w p = nI q → d p = d q + 1 → P q → P p) : ∀ (k p : Nat), p < n → d p ≤ k → P p
  | 0, p, hp, hk => by
    rcases (hD p hp).2.2 with ⟨e, _⟩ | ⟨q, hq, e, e2⟩
    · exact h0 p hp e
    · omega
  | k + 1, p, hp, hk => by
    rcases (hD p hp).2.2 with ⟨e, _⟩ | ⟨q, hq, e, e2⟩
    · exact h0 p hp e
    · exact h1 p q hp hq e e2 (way_ind hD h0 h1 k q hq (by omega))
theorem mo_end (hD : Dep n w s d) (hn : n ≤ 16) {p : Nat} (hp : p < n) : mo w 16 p < n ∧ w (mo w 16 p) = -1 ∧ rch w (mo w 16 p) p := by
  refine way_ind (P := fun p => mo w 16 p < n ∧ w (mo w 16 p) = -1 ∧ rch w (mo w 16 p) p) hD (fun p hp e => ?_) (fun p q hp hq e e2 ih => ?_) (d p) p hp (Nat.le_refl _)
  · rw [mo_neg w 16 (by rw [e]; decide)]
    exact ⟨hp, e, Or.inl rfl⟩
  · rw [mo_up hD hn hp hq e]
    exact ⟨ih.1, ih.2.1, (rch_up hD hn hp hq ih.1 e).mpr (Or.inr ih.2.2)⟩
theorem rch_mo (hD : Dep n w s d) (hn : n ≤ 16) {t p : Nat} (ht : t < n) (hp : p < n) (h : rch w t p) : mo w 16 t = mo w 16 p := by
  refine way_ind (P := fun p => rch w t p → mo w 16 t = mo w 16 p) hD (fun p hp e h => ?_) (fun p q hp hq e e2 ih h => ?_) (d p) p hp (Nat.le_refl _) h
  · rw [(rch_end e).mp h]
  · rcases (rch_up hD hn hp hq ht e).mp h with z | z
    · rw [z]
    · rw [mo_up hD hn hp hq e]; exact ih z
theorem rch_d (hD : Dep n w s d) (hn : n ≤ 16) {t p : Nat} (ht : t < n) (hp : p < n) (h : rch w t p) : d t ≤ d p ∧ (¬ t = p → d t < d p) := by
  refine way_ind (P := fun p => rch w t p → d t ≤ d p ∧ (¬ t = p → d t < d p)) hD (fun p hp e h => ?_) (fun p q hp hq e e2 ih h => ?_) (d p) p hp (Nat.le_refl _) h
  · rw [(rch_end e).mp h]; exact ⟨Nat.le_refl _, fun z => absurd rfl z⟩
  · rcases (rch_up hD hn hp hq ht e).mp h with z | z
    · rw [z]; exact ⟨Nat.le_refl _, fun z => absurd rfl z⟩
    · have := ih z; omega
theorem rch_one (hD : Dep n w s d) (hn : n ≤ 16) {t u p : Nat} (ht : t < n) (hu : u < n) (hp : p < n) (h1 : rch w t p) (h2 : rch w u p) (hd : d t = d u) : t = u := by
  refine way_ind (P := fun p => rch w t p → rch w u p → t = u) hD (fun p hp e h1 h2 => ?_) (fun p q hp hq e e2 ih h1 h2 => ?_) (d p) p hp (Nat.le_refl _) h1 h2
  · rw [(rch_end e).mp h1, (rch_end e).mp h2]
  · rcases (rch_up hD hn hp hq ht e).mp h1 with z | z <;> rcases (rch_up hD hn hp hq hu e).mp h2 with y | y
    · rw [z, y]
    · have := rch_d hD hn hu hq y; subst z; omega
    · have := rch_d hD hn ht hq z; subst y; omega
    · exact ih z y
theorem fl_anti (hD : Dep n w s d) (hn : n ≤ 16) {p q : Nat} (hp : p < n) (hq : q < n) (h : fl w (nI p) 16 (w q) = true) : fl w (nI q) 16 (w p) = false := by
  cases z : fl w (nI q) 16 (w p) with
  | false => rfl
  | true =>
    have hne : ¬ p = q := fun e => by subst e; rw [fl_self hD hn hp] at h; cases h
    have h1 := (rch_d hD hn hp hq (Or.inr h)).2 hne
    have h2 := (rch_d hD hn hq hp (Or.inr z)).2 (fun e => hne e.symm)
    omega
/-! meetings -/
def MT (n : Nat) (w : Nat → Int32) (d : Nat → Nat) (p b : Nat) (x : Int32) : Prop := (x = -1 ∧ ∀ t, t < n → rch w t p → ¬ rch w t b) ∨ ∃ t, t < n ∧ x = nI t ∧ rch w t p ∧ rch w t b ∧ ∀ u, u < n → rch w u p → rch w u b → d u ≤ d t
theorem fc_MT (hD : Dep n w s d) (hn : n ≤ 16) {b : Nat} (hb : b < n) : ∀ (k p : Nat), p < n → d p < k → MT n w d p b (fc w b k (nI p))
  | 0, p, hp, hk => absurd hk (Nat.not_lt_zero _)
  | k + 1, p, hp, hk => by
    by_cases h : nI p = nI b ∨ fl w (nI p) 16 (w b) = true
    · rw [fc_hit w b (by omega) h]
      refine Or.inr ⟨p, hp, rfl, Or.inl rfl, h.elim (fun z => Or.inl (nI_inj (by omega) (by omega) z)) Or.inr, fun u hu h1 h2 => (rch_d hD hn hu hp h1).1⟩
    · have h1 : ¬ nI p = nI b := fun z => h (Or.inl z)
      have h2 : fl w (nI p) 16 (w b) = false := by
        cases z : fl w (nI p) 16 (w b) with
        | false => rfl
        | true => exact absurd (Or.inr z) h
      have h3 : ¬ rch w p b := fun z => z.elim (fun e => h1 (by rw [e])) (fun e => by rw [h2] at e; cases e)
      rw [fc_go w b (by omega) h1 h2]
      rcases (hD p hp).2.2 with ⟨e, _⟩ | ⟨q, hq, e, e2⟩
      · rw [e, fc_neg w b k (by decide)]
        exact Or.inl ⟨rfl, fun t ht z => by rw [(rch_end e).mp z]; exact h3⟩
      · rw [e]
        rcases fc_MT hD hn hb k q hq (by omega) with ⟨x1, x2⟩ | ⟨t, ht, x1, x2, x3, x4⟩
        · refine Or.inl ⟨x1, fun t ht z => ?_⟩
          rcases (rch_up hD hn hp hq ht e).mp z with y | y
          · rw [y]; exact h3
          · exact x2 t ht y
        · refine Or.inr ⟨t, ht, x1, (rch_up hD hn hp hq ht e).mpr (Or.inr x2), x3, fun u hu z1 z2 => ?_⟩
          rcases (rch_up hD hn hp hq hu e).mp z1 with y | y
          · subst y; exact absurd z2 h3
          · exact x4 u hu y z2
theorem MT.sym {p b : Nat} {x y : Int32} (hD : Dep n w s d) (hn : n ≤ 16) (hp : p < n) (h1 : MT n w d p b x) (h2 : MT n w d b p y) : y = x := by
  rcases h1 with ⟨x1, x2⟩ | ⟨t, ht, x1, x2, x3, x4⟩
  · rcases h2 with ⟨y1, y2⟩ | ⟨u, hu, y1, y2, y3, y4⟩
    · rw [x1, y1]
    · exact absurd y2 (x2 u hu y3)
  · rcases h2 with ⟨y1, y2⟩ | ⟨u, hu, y1, y2, y3, y4⟩
    · exact absurd x2 (y2 t ht x3)
    · have a1 := x4 u hu y3 y2
      have a2 := y4 t ht x3 x2
      rw [x1, y1, rch_one hD hn ht hu hp x2 y3 (by omega)]
theorem fc_sym (hD : Dep n w s d) (hn : n ≤ 16) {p b : Nat} (hp : p < n) (hb : b < n) : fc w p 16 (nI b) = fc w b 16 (nI p) := (fc_MT hD hn hb 16 p hp (by have := (hD p hp).1; omega)).sym hD hn hp (fc_MT hD hn hp 16 b hb (by have := (hD b hb).1; omega))
theorem fc_mo (hD : Dep n w s d) (hn : n ≤ 16) {p b : Nat} (hp : p < n) (hb : b < n) : (fc w b 16 (nI p) = -1 ∧ ¬ mo w 16 p = mo w 16 b) ∨ ∃ t, t < n ∧ fc w b 16 (nI p) = nI t ∧ mo w 16 p = mo w 16 b ∧ rch w t p := by
  rcases fc_MT hD hn hb 16 p hp (by have := (hD p hp).1; omega) with ⟨x1, x2⟩ | ⟨t, ht, x1, x2, x3, x4⟩
  · refine Or.inl ⟨x1, fun e => ?_⟩
    have h1 := mo_end hD hn hp
    have h2 := mo_end hD hn hb
    exact x2 _ h1.1 h1.2.2 (by rw [e]; exact h2.2.2)
  · exact Or.inr ⟨t, ht, x1, (rch_mo hD hn ht hp x2).symm.trans (rch_mo hD hn ht hb x3), x2⟩
theorem fc_above {p b : Nat} (hp : p < 2 ^ 31) (h : fl w (nI p) 16 (w b) = true) : fc w b 16 (nI p) = nI p := fc_hit w b (k := 15) hp (Or.inr h)
theorem fl_lead {p q : Nat} (hp : p < 2 ^ 31) (e : w q = nI p) : fl w (nI p) 16 (w q) = true := by rw [e]; exact fl_hit w _ (k := 15) hp rfl
/-! sums over bridges, years -/
theorem cne_sym (f g : Nat → Int32) : ∀ k : Nat, cne f g k = cne g f k
  | 0 => rfl
  | k + 1 => by
    by_cases h : f k = g k
    · rw [cne_n f g h, cne_n g f h.symm, cne_sym f g k]
    · rw [cne_y f g h, cne_y g f (fun z => h z.symm), cne_sym f g k]
theorem utl_spec (b : Nat → Bool) : ∀ m : Nat, m < 2 ^ 31 → (utl b m = -1 ∧ ∀ k, 1 ≤ k → k ≤ m → b k = false) ∨ ∃ u, 1 ≤ u ∧ u ≤ m ∧ utl b m = nI u ∧ b u = true ∧ ∀ k, 1 ≤ k → k < u → b k = false
  | 0, _ => Or.inl ⟨rfl, fun k h1 h2 => by omega⟩
  | m + 1, hm => by
    rcases utl_spec b m (by omega) with ⟨h1, h2⟩ | ⟨u, h1, h2, h3, h4, h5⟩
    · cases z : b (m + 1) with
      | true => exact Or.inr ⟨m + 1, by omega, Nat.le_refl _, utl_yes b h1 z, z, fun k k1 k2 => h2 k k1 (by omega)⟩
      | false =>
        refine Or.inl ⟨utl_no b h1 z, fun k k1 k2 => ?_⟩
        by_cases e : k = m + 1
        · subst e; exact z
        · exact h2 k k1 (by omega)
    · exact Or.inr ⟨u, h1, by omega, by rw [utl_stay b (by rw [h3]; exact ne_m1 (by omega)) 1]; exact h3, h4, h5⟩
theorem wst_spec (sp : Nat → Bool) (c : Nat → Nat) : ∀ k : Nat, k < 2 ^ 31 → ((wst sp c k).1 = -1 ∧ ∀ p, p < k → sp p = false) ∨ ∃ h, h < k ∧ (wst sp c k).1 = nI h ∧ sp h = true
  | 0, _ => Or.inl ⟨rfl, fun p h => absurd h (Nat.not_lt_zero p)⟩
  | k + 1, hk => by
    rcases wst_spec sp c k (by omega) with ⟨h1, h2⟩ | ⟨u, h1, h2, h3⟩
    · cases z : sp k with
      | true => exact Or.inr ⟨k, by omega, by rw [wst_y sp c z (Or.inl h1)], z⟩
      | false =>
        refine Or.inl ⟨by rw [wst_dry sp c z]; exact h1, fun p hp => ?_⟩
        by_cases e : p = k
        · subst e; exact z
        · exact h2 p (by omega)
    · cases z : sp k with
      | false => exact Or.inr ⟨u, by omega, by rw [wst_dry sp c z]; exact h2, h3⟩
      | true =>
        by_cases y : (wst sp c k).2 < c k
        · exact Or.inr ⟨k, by omega, by rw [wst_y sp c z (Or.inr y)], z⟩
        · exact Or.inr ⟨u, by omega, by rw [wst_n sp c (by rw [h2]; exact ne_m1 (by omega)) y]; exact h2, h3⟩
def ipS (m6 m7 g : Nat → Int32) (b : Nat) : Nat → Nat
  | 0 => 0
  | p + 1 => ipS m6 m7 g b p + inP m6 m7 g p b
theorem ipS_b {m6 m7 g : Nat → Int32} {b q : Nat} (hq : m6 b = nI q) (hq2 : q < 16) : ∀ k : Nat, k ≤ 16 → ipS m6 m7 g (b + 1) k = ipS m6 m7 g b k + (if q < k ∧ insd (m7 b) (g (m6 b).toNatClampNeg) = true then 1 else 0)
  | 0, _ => by rw [if_neg (fun z => absurd z.1 (Nat.not_lt_zero q))]; rfl
  | k + 1, hk => by
    simp only [ipS]
    rw [ipS_b hq hq2 k (by omega)]
    have hI : inP m6 m7 g k (b + 1) = inP m6 m7 g k b + (if decide (m6 b = nI k) && insd (m7 b) (g (m6 b).toNatClampNeg) then 1 else 0) := by
      unfold inP
      cases z : (decide (m6 b = nI k) && insd (m7 b) (g (m6 b).toNatClampNeg)) with
      | true => rw [cnb_y (fun i => decide (m6 i = nI k) && insd (m7 i) (g (m6 i).toNatClampNeg)) z, if_pos rfl]
      | false => rw [cnb_n (fun i => decide (m6 i = nI k) && insd (m7 i) (g (m6 i).toNatClampNeg)) z, if_neg (by decide)]; rfl
    rw [hI]
    cases z : insd (m7 b) (g (m6 b).toNatClampNeg) with
    | false => simp
    | true =>
      by_cases e : q = k
      · subst e; rw [hq]; simp; omega
      · have e2 : ¬ m6 b = nI k := by rw [hq]; exact fun y => e (nI_inj (by omega) (by omega) y)
        rw [decide_eq_false e2]
        by_cases y : q < k
        · have y2 : q < k + 1 := by omega
          simp [y, y2]; omega
        · have y2 : ¬ q < k + 1 := by omega
          simp [y, y2]
theorem ipS_all {m6 m7 g : Nat → Int32} {n : Nat} (hn : n ≤ 16) : ∀ b : Nat, Brg n b m6 → ipS m6 m7 g b n = inN m6 m7 g b
  | 0, _ => by
    have : ∀ k : Nat, ipS m6 m7 g 0 k = 0 := fun k => by
      induction k with
      | zero => rfl
      | succ k ih => simp only [ipS]; rw [ih]; rfl
    rw [this]; rfl
  | b + 1, h => by
    obtain ⟨q, hq, e⟩ := h b (by omega)
    rw [ipS_b e (by omega) n hn, ipS_all hn b (fun i hi => h i (by omega))]
    unfold inN
    cases z : insd (m7 b) (g (m6 b).toNatClampNeg) with
    | true => rw [if_pos ⟨hq, rfl⟩, cnb_y (fun i => insd (m7 i) (g (m6 i).toNatClampNeg)) z]
    | false => rw [if_neg (fun y => by cases y.2), cnb_n (fun i => insd (m7 i) (g (m6 i).toNatClampNeg)) z]; rfl
theorem ipS_le {m6 m7 g : Nat → Int32} {b : Nat} : ∀ k : Nat, ipS m6 m7 g b k ≤ b * k
  | 0 => Nat.zero_le _
  | k + 1 => by
    have h1 := ipS_le k (m6 := m6) (m7 := m7) (g := g) (b := b)
    have h2 : inP m6 m7 g k b ≤ b := cnb_le _ _
    simp only [ipS]; rw [Nat.mul_succ]; omega
theorem cnb_one {c : Nat → Bool} : ∀ (n i : Nat), i < n → c i = true → 1 ≤ cnb c n
  | 0, i, h, _ => absurd h (Nat.not_lt_zero i)
  | n + 1, i, h, hc => by
    by_cases e : i = n
    · subst e; rw [cnb_y c hc]; omega
    · have := cnb_one n i (by omega) hc
      cases z : c n with
      | true => rw [cnb_y c z]; omega
      | false => rw [cnb_n c z]; exact this
theorem cnb_two {c : Nat → Bool} : ∀ (n i j : Nat), i < n → j < n → ¬ i = j → c i = true → c j = true → 2 ≤ cnb c n
  | 0, i, j, h, _, _, _, _ => absurd h (Nat.not_lt_zero i)
  | n + 1, i, j, hi, hj, hne, h1, h2 => by
    by_cases e : i = n
    · subst e
      have := cnb_one i j (by omega) h2
      rw [cnb_y c h1]; omega
    · by_cases e2 : j = n
      · subst e2
        have := cnb_one j i (by omega) h1
        rw [cnb_y c h2]; omega
      · have := cnb_two n i j (by omega) (by omega) hne h1 h2
        cases z : c n with
        | true => rw [cnb_y c z]; omega
        | false => rw [cnb_n c z]; exact this
theorem cnb_zero {c : Nat → Bool} {n : Nat} (h : cnb c n = 0) : ∀ i, i < n → c i = false := fun i hi => by
  cases z : c i with
  | false => rfl
  | true => have := cnb_one n i hi z; omega
end LP
