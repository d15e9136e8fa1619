/-! ===== a way led anew: the depths of it ===== -/
theorem cs_dep {n : Nat} {w : Nat → Int32} {dn : Nat → Nat} (hn : n ≤ 16) (hd : ∀ p, p < n → (w p = -1 ∧ dn p = 0) ∨ ∃ q, q < n ∧ w p = nI q ∧ dn p = dn q + 1) : ∀ (k p : Nat), p < n → dn p ≤ k → cs w k (w p) = dn p := by
  intro k
  induction k with
  | zero =>
    intro p hp hk
    rcases hd p hp with ⟨a, b⟩ | ⟨q, hq, a, b⟩
    · rw [a, cs_neg _ _ (by decide), b]
    · omega
  | succ k ih =>
    intro p hp hk
    rcases hd p hp with ⟨a, b⟩ | ⟨q, hq, a, b⟩
    · rw [a, cs_neg _ _ (by decide), b]
    · rw [a, cs_go w (by omega), ih q hq (by omega), b]
def leadD (w : Nat → Int32) (d : Nat → Nat) (p z : Nat) : Nat → Nat := fun i => if i = p ∨ fl w (nI p) 16 (w i) = true then d i - d p + d z + 1 else d i
theorem leadD_y {w : Nat → Int32} {d : Nat → Nat} {p z i : Nat} (h : i = p ∨ fl w (nI p) 16 (w i) = true) : leadD w d p z i = d i - d p + d z + 1 := if_pos h
theorem leadD_n {w : Nat → Int32} {d : Nat → Nat} {p z i : Nat} (h : ¬ (i = p ∨ fl w (nI p) 16 (w i) = true)) : leadD w d p z i = d i := if_neg h
section LEAD
variable {n p z : Nat} {w s : Nat → Int32} {d : Nat → Nat}
theorem lead_step (h : Dep n w s d) (hn : n ≤ 16) (hp : p < n) (hz : z < n) (hne : ¬ p = z) (hfl : fl w (nI p) 16 (w z) = false) : ∀ i, i < n → (upd w p (nI z) i = -1 ∧ leadD w d p z i = 0) ∨ ∃ q, q < n ∧ upd w p (nI z) i = nI q ∧ leadD w d p z i = leadD w d p z q + 1 := by
  intro i hi
  by_cases e : i = p
  · subst e
    have nz : ¬ (z = i ∨ fl w (nI i) 16 (w z) = true) := by
      rintro (x | x)
      · exact hne x.symm
      · rw [hfl] at x; cases x
    exact Or.inr ⟨z, hz, upd_at _ _ _, by rw [leadD_y (Or.inl rfl), leadD_n nz]; omega⟩
  · rcases (h i hi).2.2 with ⟨a, b⟩ | ⟨q, hq, a, b⟩
    · have ni : ¬ (i = p ∨ fl w (nI p) 16 (w i) = true) := by
        rintro (x | x)
        · exact e x
        · rw [a, fl_neg _ _ _ (by decide)] at x; cases x
      exact Or.inl ⟨(upd_ne _ _ _ e).trans a, (leadD_n ni).trans b⟩
    · have st := fl_step h hn hq hi a (nI p)
      refine Or.inr ⟨q, hq, (upd_ne _ _ _ e).trans a, ?_⟩
      by_cases t : q = p ∨ fl w (nI p) 16 (w q) = true
      · have ti : i = p ∨ fl w (nI p) 16 (w i) = true := by
          refine Or.inr ?_
          rw [st]
          rcases t with t | t
          · rw [if_pos (by rw [t])]
          · rw [t]; split <;> rfl
        have hdq : d p ≤ d q := by
          rcases t with t | t
          · rw [t]; exact Nat.le_refl _
          · have hq1 := (h q hq).1
            obtain ⟨q2, hq2, e2, le⟩ := fl_deep h hn hp 16 (w q) (h.dx hq (by omega)) t
            have := h.to hn hq hq2 e2
            omega
        rw [leadD_y ti, leadD_y t]; omega
      · have ti : ¬ (i = p ∨ fl w (nI p) 16 (w i) = true) := by
          rintro (x | x)
          · exact e x
          · rw [st] at x
            by_cases y : nI q = nI p
            · exact t (Or.inl (nI_inj (by omega) (by omega) y))
            · rw [if_neg y] at x; exact t (Or.inr x)
        rw [leadD_n ti, leadD_n t]; exact b
theorem lead_vw (h : Dep n w s d) (hn : n ≤ 16) (hp : p < n) (hz : z < n) (hne : ¬ p = z) (hfl : fl w (nI p) 16 (w z) = false) : Vw n (upd w p (nI z)) := fun i hi => by
  rcases lead_step h hn hp hz hne hfl i hi with a | ⟨q, hq, a, _⟩
  · exact Or.inl a.1
  · exact Or.inr ⟨q, hq, a⟩
theorem lead_dep (h : Dep n w s d) (hn : n ≤ 16) (hp : p < n) (hz : z < n) (hne : ¬ p = z) (hfl : fl w (nI p) 16 (w z) = false) : ∀ e1 : Nat → Int32, (∀ i, i < n → e1 i = nI (cs (upd w p (nI z)) 16 ((upd w p (nI z)) i))) → Dep n (upd w p (nI z)) e1 (leadD w d p z) := fun e1 he i hi => by
  have st := lead_step h hn hp hz hne hfl
  have hl := depth_lt st hi
  exact ⟨hl, by rw [he i hi, cs_dep hn st 16 i hi (by omega)], st i hi⟩
end LEAD
theorem LI.lead {n b p z : Nat} {r : Int32} {d : Nat → Nat} {f0 f1 f2 f3 f4 f5 f6 f7 f8 f9 f10 f11 f12 f13 bp bn m0 m1 m2 m3 m4 m5 m6 m7 v1 v7 v8 v9 v10 v11 v12 v13 : Nat → Int32} (h : LI n b r d f0 f1 f2 f3 f4 f5 f6 f7 f8 f9 f10 f11 f12 f13 bp bn m0 m1 m2 m3 m4 m5 m6 m7) (hp : p < n) (hz : z < n) (hne : ¬ p = z) (hfl : fl f0 (nI p) 16 (f0 z) = false) (e1 : ∀ i, i < n → v1 i = nI (cs (upd f0 p (nI z)) 16 ((upd f0 p (nI z)) i))) (o1 : ∀ i, n ≤ i → v1 i = f1 i) (hs : Stl n (upd f0 p (nI z)) f3 f4 f6 r v7 v8 v9 v10 v11 v12 v13) : LI n b r (leadD f0 d p z) (upd f0 p (nI z)) v1 f2 f3 f4 f5 f6 v7 v8 v9 v10 v11 v12 v13 bp bn (upd m0 p (nI z)) m1 m2 m3 m4 m5 m6 m7 := by
  refine ⟨h.n16, h.b16, h.r01, lead_dep h.dep h.n16 hp hz hne hfl v1 e1, h.wat, h.swlI, hs, h.z2, h.z6, h.zm1, h.zm5, h.brg, fun i hi => ?_, h.F, fun i hi => ?_⟩
  · have e := h.E i hi
    refine ⟨?_, e.2⟩
    unfold upd
    split
    · rfl
    · exact e.1
  · have y := h.Z i hi
    exact ⟨(o1 i hi).trans y.1, y.2⟩
/-! ===== rows of the law's own ===== -/
theorem lg_cmp_0 {x y : Int64} (h : x = y) : lg_cmp x y = 0 := by subst h; simp [lg_cmp]
theorem nI_c (a : Nat) (c : Int32) (k : Nat) (h : c = nI k) : nI a + c = nI (a + k) := by rw [h]; exact nI_add a k
section ZVL
variable {p : Program} {l : Launch} {e : Env} {R : Room} {s : State} {m : MethodId} {args : Array Value} {below : List Frame} {meth : Method} {c : Code} {Q : State → Prop} {cc : ByteArray} {nL : Nat} {own : String} {Ts : List Cond} {A B : Nat → Prop} {D : va_G} {cl : List vw_C} {tys : List (ClassId × FieldType)} {ws : va_W} {kc ns pc n : Nat} {lv : List (Nat × Value)} {st : List Value}
theorem zv_sld (C : zv_C p m c cc nL s args Ts own A) (hA : A = fun q => s.heap.size ≤ q) {sc L : Nat} {xs : Nat → Int32} (hX : va_X sc L xs s s.heap) (hsc : sc < s.heap.size) (hdg : decode cc pc = .ok (.iaload, 1)) (n : Nat) (hn : pc + 1 = n) (j : Nat) {i v : Int32} (hi : i = nI j) (hj : j < L) (hL : L ≤ 2048) (hv : xs j = v) (kk : zv_V p l e R s m args below meth c Q nL D cl A B tys ws kc ns n lv (.int v :: st)) : zv_V p l e R s m args below meth c Q nL D cl A B tys ws kc ns pc lv (.int i :: .ref sc :: st) := by
  subst hn; subst hv
  intro H locs ls hK hP hD hS h
  have hin := zv_in hi hj (by omega)
  refine va_sld C.1.1 C.1.2.1 hX hsc (by rw [hA]; exact Nat.not_le.mpr hsc) hS hin.1 hdg ?_
  rw [hin.2]
  exact kk H locs ls hK hP hD hS h
theorem zv_slen (C : zv_C p m c cc nL s args Ts own A) (hA : A = fun q => s.heap.size ≤ q) {sc L : Nat} {xs : Nat → Int32} (hX : va_X sc L xs s s.heap) (hsc : sc < s.heap.size) (hdg : decode cc pc = .ok (.arraylength, 1)) (n : Nat) (hn : pc + 1 = n) (kk : zv_V p l e R s m args below meth c Q nL D cl A B tys ws kc ns n lv (.int (nI L) :: st)) : zv_V p l e R s m args below meth c Q nL D cl A B tys ws kc ns pc lv (.ref sc :: st) := by
  subst hn
  exact fun H locs ls hK hP hD hS h => va_slen C.1.1 C.1.2.1 hX hsc (by rw [hA]; exact Nat.not_le.mpr hsc) hS hdg (kk H locs ls hK hP hD hS h)
theorem zv_lcmpE (C : zv_C p m c cc nL s args Ts own A) {x y : Int64} (hdg : decode cc pc = .ok (.lcmp, 1)) (n : Nat) (hn : pc + 1 = n) (he : x = y) (kk : zv_V p l e R s m args below meth c Q nL D cl A B tys ws kc ns n lv (.int 0 :: st)) : zv_V p l e R s m args below meth c Q nL D cl A B tys ws kc ns pc lv (.long y :: .long x :: st) := by
  subst hn
  exact fun H locs ls hK hP hD hS h => W.lcmp C.1.1 C.1.2.1 hdg (by rw [lg_cmp_0 he]; exact kk H locs ls hK hP hD hS h)
theorem zv_tabIn (C : zv_C p m c cc nL s args Ts own A) {dflt lo hi : Int} {offs : Array Int} {len : Nat} {x : Int32} {off : Int} {tgt : Nat} (hdg : decode cc pc = .ok (.tableswitch dflt lo hi offs, len)) (h1 : ¬ x.toInt < lo) (h2 : ¬ hi < x.toInt) (ho : offs[(x.toInt - lo).toNat]? = some off) (ht : (pc : Int) + off = (tgt : Int)) (kk : zv_V p l e R s m args below meth c Q nL D cl A B tys ws kc ns tgt lv st) : zv_V p l e R s m args below meth c Q nL D cl A B tys ws kc ns pc lv (.int x :: st) := fun H locs ls hK hP hD hS h => lv_tableIn C.1.1 C.1.2.1 hdg h1 h2 ho ht (kk H locs ls hK hP hD hS h)
theorem zv_tabOut (C : zv_C p m c cc nL s args Ts own A) {dflt lo hi : Int} {offs : Array Int} {len : Nat} {x : Int32} {tgt : Nat} (hdg : decode cc pc = .ok (.tableswitch dflt lo hi offs, len)) (ho : x.toInt < lo ∨ hi < x.toInt) (ht : (pc : Int) + dflt = (tgt : Int)) (kk : zv_V p l e R s m args below meth c Q nL D cl A B tys ws kc ns tgt lv st) : zv_V p l e R s m args below meth c Q nL D cl A B tys ws kc ns pc lv (.int x :: st) := fun H locs ls hK hP hD hS h => lv_tableOut C.1.1 C.1.2.1 hdg ho ht (kk H locs ls hK hP hD hS h)
end ZVL
