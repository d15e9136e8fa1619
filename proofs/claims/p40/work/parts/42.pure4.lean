/-! ===== reckoning, step by step ===== -/
section MNS
variable {f0 f1 f2 f3 f9 f10 f11 : Nat → Int32} {r : Int32} {p j : Nat}
theorem mN_own (h : (decide (j = p) && sprg f1 f3 p) = true) : mN f0 f1 f2 f3 f9 f10 f11 r p (j + 1) = if (mN f0 f1 f2 f3 f9 f10 f11 r p j).2 < (if r = 0 then f3 p else 0) then (f2 p, if r = 0 then f3 p else 0) else mN f0 f1 f2 f3 f9 f10 f11 r p j := by
  simp only [mN, mst]
  rw [if_pos h]
theorem mN_s1 (h : (decide (j = p) && sprg f1 f3 p) = false) (h2 : ¬ f0 j = nI p) : mN f0 f1 f2 f3 f9 f10 f11 r p (j + 1) = mN f0 f1 f2 f3 f9 f10 f11 r p j := by
  simp only [mN, mst]
  rw [if_neg (by rw [h]; decide), if_pos (Or.inl h2)]
theorem mN_s2 (h : (decide (j = p) && sprg f1 f3 p) = false) (h2 : f11 j = -1) : mN f0 f1 f2 f3 f9 f10 f11 r p (j + 1) = mN f0 f1 f2 f3 f9 f10 f11 r p j := by
  simp only [mN, mst]
  rw [if_neg (by rw [h]; decide), if_pos (Or.inr h2)]
theorem mN_up (h : (decide (j = p) && sprg f1 f3 p) = false) (h2 : f0 j = nI p) (h3 : ¬ f11 j = -1) : mN f0 f1 f2 f3 f9 f10 f11 r p (j + 1) = if (mN f0 f1 f2 f3 f9 f10 f11 r p j).2 < wor r f9 f10 j then (f11 j, wor r f9 f10 j) else mN f0 f1 f2 f3 f9 f10 f11 r p j := by
  simp only [mN, mst]
  rw [if_neg (by rw [h]; decide), if_neg (by rintro (z | z); exact z h2; exact h3 z)]
end MNS
theorem MA.step {n k : Nat} {f0 f1 f2 f3 f5 s : Nat → Int32} {d : Nat → Nat} {r : Int32} {g8 g9 g10 g11 e9 e10 : Nat → Int32} {o : Nat → Nat} (hD : Dep n f0 s d) (hn : n ≤ 16) (hO : Srt n (ao n f0) g8 o) (hk : k < n) (hM : ∀ j, j < k → MA n f0 f1 f2 f3 f5 r g9 g10 g11 (o j)) (ho : ∀ j, ¬ j = o k → e9 j = g9 j ∧ e10 j = g10 j) (h9 : e9 (o k) = mW f0 g9 (mB f1 f3 (o k)) (o k) n) (h10 : e10 (o k) = mLf (mL f0 g10 (o k) n) (sprg f1 f3 (o k))) : ∀ j, j < k + 1 → MA n f0 f1 f2 f3 f5 r e9 e10 (upd g11 (o k) (nmd f0 f1 f2 f3 f5 e9 e10 g11 r (o k) n)) (o j) := by
  intro j hj
  have hok := (hO.1 k hk).2
  have hne : ∀ i, i < n → f0 i = nI (o k) → ¬ i = o k := fun i _ e z => by
    subst z; exact hD.ne hn hok e
  by_cases e : o j = o k
  · rw [e]
    refine ⟨?_, ?_, ?_⟩
    · rw [h9]; exact (mW_congr n (fun i hi e => (ho i (hne i hi e)).1)).symm
    · rw [h10, mL_congr n (fun i hi e => (ho i (hne i hi e)).2)]
    · rw [upd_at]
      unfold nmd
      rw [mN_congr (e9 := e9) (e10 := e10) (e11 := upd g11 (o k) _) (g9 := e9) (g10 := e10) (g11 := g11) n (fun i hi e => ⟨rfl, rfl, upd_ne _ _ _ (hne i hi e)⟩)]
  · have hjk : j < k := by
      rcases Nat.lt_or_ge j k with h | h
      · exact h
      · exact absurd (by rw [show j = k by omega]) e
    refine (hM j hjk).keep (x := o k) (fun i hi => ⟨(ho i hi).1, (ho i hi).2, upd_ne _ _ _ hi⟩) e (fun z => ?_)
    have h1 := ao_up hD hn (hO.1 j (by omega)).2 hok z
    have h2 := hO.2.2 j k hjk hk
    omega
def swl (f1 f3 f4 : Nat → Int32) (i : Nat) : Int32 := if f1 i = 0 then f3 i else clamp (f3 i + f4 i)
