/-! ===== what the queries answer ===== -/
noncomputable abbrev nmS (n : Nat) (f0 f1 f2 f3 f5 : Nat → Int32) (r : Int32) : Nat → Int32 := (sol n f0 f1 f2 f3 f5 r).2.2
theorem cnt_congr {f g : Nat → Int32} (x : Int32) : ∀ j : Nat, (∀ i, i < j → f i = g i) → cnt f x j = cnt g x j
  | 0, _ => rfl
  | j + 1, h => by simp only [cnt]; rw [cnt_congr x j (fun i hi => h i (by omega)), h j (by omega)]
theorem cne_congr {f g f' g' : Nat → Int32} : ∀ j : Nat, (∀ i, i < j → f i = f' i) → (∀ i, i < j → g i = g' i) → cne f g j = cne f' g' j
  | 0, _, _ => rfl
  | j + 1, h, h' => by simp only [cne]; rw [cne_congr j (fun i hi => h i (by omega)) (fun i hi => h' i (by omega)), h j (by omega), h' j (by omega)]
theorem anb_congr {b c : Nat → Bool} : ∀ j : Nat, (∀ i, i < j → b i = c i) → anb b j = anb c j
  | 0, _ => rfl
  | j + 1, h => by simp only [anb]; rw [anb_congr j (fun i hi => h i (by omega)), h j (by omega)]
theorem zo_tg (x : Int32) : zo (tg x) := by unfold tg; split <;> simp [zo]
theorem tg_tg {x : Int32} (h : zo x) : tg (tg x) = x := by
  rcases h with h | h <;> subst h <;> decide
theorem upd_back (f : Nat → Int32) (k : Nat) (x : Int32) : upd (upd f k x) k (f k) = f := by
  funext j
  by_cases e : j = k
  · subst e; rw [upd_at]
  · rw [upd_ne _ _ _ e, upd_ne _ _ _ e]
theorem isI_nI {a lo hi : Nat} (h1 : lo ≤ a) (h2 : a ≤ hi) (h3 : hi < 2 ^ 31) : isI (nI a) (nI lo) (nI hi) = true := by
  unfold isI
  rw [decide_eq_false (nI_nlt h1 (by omega)), decide_eq_false (nI_nlt h2 h3)]
  rfl
theorem isI_yr {k : Nat} (h1 : 1 ≤ k) (h2 : k ≤ 50) : isI (nI k) 1 50 = true := isI_nI (lo := 1) (hi := 50) h1 h2 (by omega)
theorem isI_true {v : Int32} {hi : Nat} (hh : hi < 2 ^ 31) (h : isI v 0 (nI hi) = true) : ∃ a, a ≤ hi ∧ v = nI a := by
  simp only [isI, Bool.and_eq_true, Bool.not_eq_true', decide_eq_false_iff_not] at h
  obtain ⟨a, h1, h2⟩ := nI_of h.1
  refine ⟨a, ?_, h2⟩
  rw [h2] at h
  exact zn_lt' hh h1 h.2
theorem isI_1_true {v : Int32} {hi : Nat} (hh : hi < 2 ^ 31) (h : isI v 1 (nI hi) = true) : ∃ a, 1 ≤ a ∧ a ≤ hi ∧ v = nI a := by
  simp only [isI, Bool.and_eq_true, Bool.not_eq_true', decide_eq_false_iff_not] at h
  have h0 : ¬ v < 0 := fun z => h.1 (lt_tr z (by decide))
  obtain ⟨a, h1, h2⟩ := nI_of h0
  rw [h2] at h
  exact ⟨a, zn_lt' (a := a) (b := 1) h1 (by omega) h.1, zn_lt' hh h1 h.2, h2⟩
/-- the springs after some years -/
def swN (f1 f3 f4 : Nat → Int32) : Nat → Nat → Int32
  | 0 => f3
  | k + 1 => swl f1 (swN f1 f3 f4 k) f4
/-- the first of m years in which b holds -/
def utl (b : Nat → Bool) : Nat → Int32
  | 0 => -1
  | m + 1 => if utl b m = -1 then (if b (m + 1) = true then nI (m + 1) else -1) else utl b m
theorem utl_stay (b : Nat → Bool) {m : Nat} (h : ¬ utl b m = -1) : ∀ k : Nat, utl b (m + k) = utl b m
  | 0 => rfl
  | k + 1 => by
    have ih := utl_stay b h k
    rw [← Nat.add_assoc]
    simp only [utl]
    rw [ih, if_neg h]
theorem utl_yes (b : Nat → Bool) {m : Nat} (h : utl b m = -1) (hb : b (m + 1) = true) : utl b (m + 1) = nI (m + 1) := by simp only [utl]; rw [if_pos h, if_pos hb]
theorem utl_no (b : Nat → Bool) {m : Nat} (h : utl b m = -1) (hb : b (m + 1) = false) : utl b (m + 1) = -1 := by simp only [utl]; rw [if_pos h, if_neg (by rw [hb]; decide)]
theorem utl_congr {b c : Nat → Bool} : ∀ m : Nat, (∀ k, k ≤ m → b k = c k) → utl b m = utl c m
  | 0, _ => rfl
  | m + 1, h => by simp only [utl]; rw [utl_congr m (fun k hk => h k (by omega)), h (m + 1) (by omega)]
/-- the spring that counts for the most -/
def wst (sp : Nat → Bool) (c : Nat → Nat) : Nat → Int32 × Nat
  | 0 => (-1, 0)
  | p + 1 => if sp p = true ∧ ((wst sp c p).1 = -1 ∨ (wst sp c p).2 < c p) then (nI p, c p) else wst sp c p
theorem wst_y (sp : Nat → Bool) (c : Nat → Nat) {p : Nat} (h1 : sp p = true) (h2 : (wst sp c p).1 = -1 ∨ (wst sp c p).2 < c p) : wst sp c (p + 1) = (nI p, c p) := if_pos ⟨h1, h2⟩
theorem wst_dry (sp : Nat → Bool) (c : Nat → Nat) {p : Nat} (h1 : sp p = false) : wst sp c (p + 1) = wst sp c p := if_neg (fun z => by rw [h1] at z; cases z.1)
theorem wst_n (sp : Nat → Bool) (c : Nat → Nat) {p : Nat} (h1 : ¬ (wst sp c p).1 = -1) (h2 : ¬ (wst sp c p).2 < c p) : wst sp c (p + 1) = wst sp c p := if_neg (fun z => z.2.elim h1 h2)
theorem wst_congr {sp sp' : Nat → Bool} {c c' : Nat → Nat} : ∀ m : Nat, (∀ p, p < m → sp p = sp' p ∧ c p = c' p) → wst sp c m = wst sp' c' m
  | 0, _ => rfl
  | m + 1, h => by simp only [wst]; rw [wst_congr m (fun p hp => h p (by omega)), (h m (by omega)).1, (h m (by omega)).2]
/-- the greatest name -/
def gst (f : Nat → Int32) (n : Nat) : Nat → Int32
  | 0 => -1
  | k + 1 => if ¬ cnt f (nI k) n = 0 ∧ (gst f n k = -1 ∨ cnt f (gst f n k) n < cnt f (nI k) n) then nI k else gst f n k
theorem gst_y (f : Nat → Int32) (n : Nat) {k : Nat} (h1 : ¬ cnt f (nI k) n = 0) (h2 : gst f n k = -1 ∨ cnt f (gst f n k) n < cnt f (nI k) n) : gst f n (k + 1) = nI k := if_pos ⟨h1, h2⟩
theorem gst_0 (f : Nat → Int32) (n : Nat) {k : Nat} (h1 : cnt f (nI k) n = 0) : gst f n (k + 1) = gst f n k := if_neg (fun z => z.1 h1)
theorem gst_n (f : Nat → Int32) (n : Nat) {k : Nat} (h1 : ¬ gst f n k = -1) (h2 : ¬ cnt f (gst f n k) n < cnt f (nI k) n) : gst f n (k + 1) = gst f n k := if_neg (fun z => z.2.elim h1 h2)
theorem gst_congr {f g : Nat → Int32} {n : Nat} (h : ∀ i, i < n → f i = g i) : ∀ k : Nat, gst f n k = gst g n k
  | 0 => rfl
  | k + 1 => by simp only [gst]; rw [gst_congr h k, cnt_congr (nI k) n h, cnt_congr (gst g n k) n h]
def insd (kept nm : Int32) : Bool := !decide (kept = -1) && !decide (nm = kept)
/-- bridges stand at places -/
def Brg (n b : Nat) (f : Nat → Int32) : Prop := ∀ i, i < b → ∃ q, q < n ∧ f i = nI q
/-- how many bridges are insulted, of the first b -/
def inN (at_ kept nm : Nat → Int32) (b : Nat) : Nat := cnb (fun i => insd (kept i) (nm (at_ i).toNatClampNeg)) b
theorem inN_congr {at_ kept nm nm' : Nat → Int32} {n b : Nat} (hn : n ≤ 16) (hB : Brg n b at_) (h : ∀ i, i < n → nm i = nm' i) : inN at_ kept nm b = inN at_ kept nm' b := cnb_congr b (fun i hi => by
  obtain ⟨q, hq, e⟩ := hB i hi
  rw [e, nI_clamp (by omega), h q hq])
def inP (at_ kept nm : Nat → Int32) (p b : Nat) : Nat := cnb (fun i => decide (at_ i = nI p) && insd (kept i) (nm (at_ i).toNatClampNeg)) b
theorem inP_congr {at_ kept nm nm' : Nat → Int32} {n b p : Nat} (hn : n ≤ 16) (hB : Brg n b at_) (h : ∀ i, i < n → nm i = nm' i) : inP at_ kept nm p b = inP at_ kept nm' p b := cnb_congr b (fun i hi => by
  obtain ⟨q, hq, e⟩ := hB i hi
  rw [e, nI_clamp (by omega), h q hq])
theorem swl_congr {f1 f3 f4 e1 e3 e4 : Nat → Int32} {i : Nat} (h1 : f1 i = e1 i) (h3 : f3 i = e3 i) (h4 : f4 i = e4 i) : swl f1 f3 f4 i = swl e1 e3 e4 i := by simp only [swl, h1, h3, h4]
theorem agA_congr {w has wat del g e : Nat → Int32} {p n : Nat} (h : ∀ i, i < n → g i = e i) : agA w has wat del g p n = agA w has wat del e p n := by
  unfold agA
  rw [cnb_congr n (fun i hi => by rw [h i hi])]
theorem agD_congr {w has nm wat del g e : Nat → Int32} {p n : Nat} (hp : p < n) (h : ∀ i, i < n → g i = e i) : agD w has nm wat del g p n = agD w has nm wat del e p n := by
  unfold agD
  rw [anb_congr n (fun i hi => by rw [h i hi, h p hp]), h p hp]
theorem nmS_congr {n : Nat} {f0 f1 f2 f3 f5 e0 e1 e2 e3 e5 : Nat → Int32} {r : Int32} (h : ∀ i, i < n → f0 i = e0 i ∧ f1 i = e1 i ∧ f3 i = e3 i ∧ f5 i = e5 i ∧ (¬ e1 i = 0 → f2 i = e2 i)) : nmS n f0 f1 f2 f3 f5 r = nmS n e0 e1 e2 e3 e5 r := congrArg (fun t => t.2.2) (sol_congr h)
theorem MA.nm {n : Nat} {f0 f1 f2 f3 f5 s : Nat → Int32} {d : Nat → Nat} {r : Int32} {g9 g10 g11 : Nat → Int32} (hD : Dep n f0 s d) (hn : n ≤ 16) (hg : ∀ p, p < n → MA n f0 f1 f2 f3 f5 r g9 g10 g11 p) (p : Nat) (hp : p < n) : g11 p = nmS n f0 f1 f2 f3 f5 r p := (MA.sol hD hn hg p hp).2.2
/-- has another name after k years -/
noncomputable def anY (n : Nat) (f0 f1 f2 f3 f4 f5 : Nat → Int32) (r : Int32) (p k : Nat) : Bool := !decide (nmS n f0 f1 f2 (swN f1 f3 f4 k) f5 r p = nmS n f0 f1 f2 f3 f5 r p)
/-- how many would be called otherwise without the spring of p -/
noncomputable def dry (n : Nat) (f0 f1 f2 f3 f5 : Nat → Int32) (r : Int32) (p : Nat) : Nat := cne (nmS n f0 f1 f2 (upd f3 p 0) f5 r) (nmS n f0 f1 f2 f3 f5 r) n
theorem wst_le {sp : Nat → Bool} {c : Nat → Nat} {m : Nat} (h : ∀ p, c p ≤ m) : ∀ k : Nat, (wst sp c k).2 ≤ m
  | 0 => Nat.zero_le _
  | k + 1 => by
    have ih := wst_le (sp := sp) h k
    simp only [wst]
    split
    · exact h k
    · exact ih
theorem sub_sub1 (r : Int32) : 1 - (1 - r) = r := by
  rw [Int32.sub_eq_add_neg (a := 1) (b := 1 - r), Int32.neg_sub, Int32.sub_eq_add_neg, Int32.add_comm r, ← Int32.add_assoc, show (1 : Int32) + -1 = 0 from by decide, Int32.zero_add]
