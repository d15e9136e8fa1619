/-! ===== worlds as lists of cells, in any order: parts of them, and calls that keep the rest ===== -/
theorem zn_P {D : va_G} {cl : List vw_C} {ws : va_W} {H : Heap} : va_P D cl ws H ↔ ∀ q ∈ ws, va_at D cl q H := ⟨fun h q hq => by
  obtain ⟨i, hi⟩ := List.getElem?_of_mem hq
  exact h i q hi, fun h k q hk => h q (List.mem_of_getElem? hk)⟩
theorem zn_D {A : Nat → Prop} {ws : va_W} : va_D A ws ↔ ws.Pairwise (fun p q => ¬ p.1 = q.1) ∧ ∀ q ∈ ws, A q.1 := by
  constructor
  · intro h
    refine ⟨List.pairwise_iff_getElem.mpr (fun i j hi hj hij e => ?_), fun q hq => ?_⟩
    · have := h.1 i j _ _ (List.getElem?_eq_getElem hi) (List.getElem?_eq_getElem hj) e
      omega
    · obtain ⟨i, hi⟩ := List.getElem?_of_mem hq
      exact h.2 i q hi
  · rintro ⟨h1, h2⟩
    have hp := List.pairwise_iff_getElem.mp h1
    refine ⟨fun i j p q hi hj e => ?_, fun k q hk => h2 q (List.mem_of_getElem? hk)⟩
    obtain ⟨li, ei⟩ := List.getElem?_eq_some_iff.mp hi
    obtain ⟨lj, ej⟩ := List.getElem?_eq_some_iff.mp hj
    rcases Nat.lt_trichotomy i j with z | z | z
    · exact absurd (by rw [ei, ej]; exact e) (hp i j li lj z)
    · exact z
    · exact absurd (by rw [ei, ej]; exact e.symm) (hp j i lj li z)
theorem zn_Psub {D : va_G} {cl : List vw_C} {ws wc : va_W} {H : Heap} (h : va_P D cl ws H) (hs : wc.Sublist ws) : va_P D cl wc H := zn_P.mpr (fun q hq => zn_P.mp h q (hs.subset hq))
theorem zn_Dsub {A : Nat → Prop} {ws wc : va_W} (h : va_D A ws) (hs : wc.Sublist ws) : va_D A wc := by
  have h1 := zn_D.mp h
  exact zn_D.mpr ⟨h1.1.sublist hs, fun q hq => h1.2 q (hs.subset hq)⟩
theorem zn_Dperm {A : Nat → Prop} {ws wc : va_W} (h : va_D A ws) (hs : ws.Perm wc) : va_D A wc := by
  have h1 := zn_D.mp h
  exact zn_D.mpr ⟨(hs.pairwise_iff (fun {a b} (z : ¬ a.1 = b.1) e => z e.symm)).mp h1.1, fun q hq => h1.2 q (hs.mem_iff.mpr hq)⟩
theorem zn_Pperm {D : va_G} {cl : List vw_C} {ws wc : va_W} {H : Heap} (h : va_P D cl ws H) (hs : ws.Perm wc) : va_P D cl wc H := zn_P.mpr (fun q hq => zn_P.mp h q (hs.mem_iff.mpr hq))
theorem zn_ad {D : va_G} {cl : List vw_C} {ws : va_W} {H : Heap} (h : va_P D cl ws H) {q : Nat × va_E} (hq : q ∈ ws) : q.1 < H.size := (zn_P.mp h q hq).lt
/-- behind a call that may write the cells of wc -/
theorem zn_join {A0 : Nat → Prop} {D : va_G} {cl : List vw_C} {a wc b w : va_W} {H H1 : Heap} (hP : va_P D cl (a ++ (wc ++ b)) H) (hD : va_D A0 (a ++ (wc ++ b))) (hk : ∀ q : Nat, q < H.size → ¬ va_A wc H.size q → H1[q]? = H[q]?) (hF : ∀ q, va_A wc H.size q → A0 q) (hP1 : va_P D cl w H1) (hD1 : va_D (va_A wc H.size) w) : va_P D cl (a ++ (w ++ b)) H1 ∧ va_D A0 (a ++ (w ++ b)) := by
  have h0 := zn_D.mp hD
  have hp := h0.1
  rw [List.pairwise_append] at hp
  obtain ⟨pa, pcb, pab⟩ := hp
  rw [List.pairwise_append] at pcb
  obtain ⟨pc, pb, pcb⟩ := pcb
  have inA : ∀ q : Nat × va_E, q ∈ a ∨ q ∈ b → q.1 < H.size ∧ ¬ va_A wc H.size q.1 := by
    intro q hq
    have hm : q ∈ a ++ (wc ++ b) := by
      rcases hq with z | z
      · exact List.mem_append_left _ z
      · exact List.mem_append_right _ (List.mem_append_right _ z)
    have hl := zn_ad hP hm
    refine ⟨hl, ?_⟩
    rintro (⟨k, e, hke⟩ | z)
    · have hc : (q.1, e) ∈ wc := List.mem_of_getElem? hke
      rcases hq with z | z
      · exact pab q z (q.1, e) (List.mem_append_left _ hc) rfl
      · exact pcb (q.1, e) hc q z rfl
    · omega
  have h1 := zn_D.mp hD1
  constructor
  · refine zn_P.mpr (fun q hq => ?_)
    rcases List.mem_append.mp hq with z | z
    · have := inA q (Or.inl z)
      exact (zn_P.mp hP q (List.mem_append_left _ z)).kept (hk q.1 this.1 this.2)
    · rcases List.mem_append.mp z with z | z
      · exact zn_P.mp hP1 q z
      · have := inA q (Or.inr z)
        exact (zn_P.mp hP q (List.mem_append_right _ (List.mem_append_right _ z))).kept (hk q.1 this.1 this.2)
  · refine zn_D.mpr ⟨?_, fun q hq => ?_⟩
    · rw [List.pairwise_append]
      refine ⟨pa, ?_, fun x hx y hy => ?_⟩
      · rw [List.pairwise_append]
        refine ⟨h1.1, pb, fun x hx y hy e => ?_⟩
        exact (inA y (Or.inr hy)).2 (e ▸ h1.2 x hx)
      · rcases List.mem_append.mp hy with z | z
        · exact fun e => (inA x (Or.inl hx)).2 (e ▸ h1.2 y z)
        · exact pab x hx y (List.mem_append_right _ z)
    · rcases List.mem_append.mp hq with z | z
      · exact h0.2 q (List.mem_append_left _ z)
      · rcases List.mem_append.mp z with z | z
        · exact hF _ (h1.2 q z)
        · exact h0.2 q (List.mem_append_right _ (List.mem_append_right _ z))
/-- an end of a method that writes nothing old, and hands new cells back -/
def zv_n (D : va_G) (cl : List vw_C) (post : Option Value → va_W → Prop) : Array Value → State → Outcome → State → Prop := fun _ sa oc t => (∃ (v : Option Value) (w : va_W), oc = .returned v ∧ post v w ∧ va_P D cl w t.heap ∧ va_D (fun q => sa.heap.size ≤ q) w) ∧ va_F (fun q => sa.heap.size ≤ q) sa t
def zv_NE (E : State → Prop) (l : Launch) (y : MethodName) (wy : List Cond) (rm : Room) (D : va_G) (cl : List vw_C) (tys : List (ClassId × FieldType)) (av : List Value) (ws : va_W) (post : Option Value → va_W → Prop) : Prop := ∀ sz : Nat, Met l y wy rm (va_Pc av (fun U => zv_pre D cl tys ws sz U ∧ E U)) (zv_n D cl post) rm.cells rm.slots (fun q => sz ≤ q)
def zv_RX (E : State → Prop) (l : Launch) (y : MethodName) (wy : List Cond) (rm : Room) (D : va_G) (cl : List vw_C) (tys : List (ClassId × FieldType)) (av : List Value) (ws : va_W) (post : Option Value → Prop) : Prop := ∀ sz : Nat, Met l y wy rm (va_Pc av (fun U => zv_pre D cl tys ws sz U ∧ E U)) (zv_r post) rm.cells rm.slots (fun q => sz ≤ q)
def zv_ME (E : State → Prop) (l : Launch) (y : MethodName) (wy : List Cond) (rm : Room) (D : va_G) (cl : List vw_C) (tys : List (ClassId × FieldType)) (av : List Value) (ws : va_W) (post : Option Value → va_W → Prop) : Prop := ∀ sz : Nat, Met l y wy rm (va_Pc av (fun U => zv_pre D cl tys ws sz U ∧ E U)) (zv_q D cl (va_A ws sz) post) rm.cells rm.slots (va_A ws sz)
/-- a fact of the start that calls keep -/
def zn_B (E : State → Prop) : Prop := ∀ (U : State) (g : JFrame) (mk : MethodId) (a : Array Value), E U → E (U.calling g mk a)
theorem zn_blind {E : State → Prop} (hb : zn_B E) (D : va_G) (cl : List vw_C) (tys : List (ClassId × FieldType)) (ws : va_W) (sz : Nat) (av : List Value) : FrameBlind (va_Pc av (fun U => zv_pre D cl tys ws sz U ∧ E U)) := fun a U g mk q => by
  obtain ⟨q0, ⟨q1, qP, qK, qD⟩, qE⟩ := q
  exact ⟨q0, ⟨q1, qP, va_K.moved (u := U) (U := U.calling g mk a) (Vm.Alike.refl U.vm) qK, qD⟩, hb U g mk a qE⟩
theorem zn_ofM {E : State → Prop} {l : Launch} {y : MethodName} {wy : List Cond} {rm : Room} {D : va_G} {cl : List vw_C} {tys : List (ClassId × FieldType)} {av : List Value} {ws : va_W} {post : Option Value → va_W → Prop} (h : zv_M l y wy rm D cl tys av ws post) : zv_ME E l y wy rm D cl tys av ws post := fun sz => MetFree.mono (h sz) (fun _ _ h => ⟨h.1, h.2.1⟩) (fun _ _ _ _ _ h => h) (fun _ _ _ _ _ h => h)
theorem zn_ofR {E : State → Prop} {l : Launch} {y : MethodName} {wy : List Cond} {rm : Room} {D : va_G} {cl : List vw_C} {tys : List (ClassId × FieldType)} {av : List Value} {ws : va_W} {post : Option Value → Prop} (h : zv_R l y wy rm D cl tys av ws post) : zv_RX E l y wy rm D cl tys av ws post := fun sz => MetFree.mono (h sz) (fun _ _ h => ⟨h.1, h.2.1⟩) (fun _ _ _ _ _ h => h) (fun _ _ _ _ _ h => h)
section ZNC
variable {p : Program} {l : Launch} {e : Env} {R : Room} {s : State} {m : MethodId} {args : Array Value} {below : List Frame} {meth : Method} {c : Code} {Q : State → Prop} {cc : ByteArray} {nL : Nat} {own : String} {Ts : List Cond} {A B : Nat → Prop} {D : va_G} {cl : List vw_C} {tys : List (ClassId × FieldType)} {ws : va_W} {kc ns pc n : Nat} {lv : List (Nat × Value)} {st : List Value}
/-- behind the three kinds of calls -/
theorem zn_cR {Av : Array Value} {g : JFrame} {mc ms : Nat} {rest : List Value} {H : Heap} {locs : List Loc} {ls : Array Slot} {post : Option Value → Prop} (C : zv_C p m c cc nL s args Ts own A) (hr : va_Run p l e R s m args below meth c H locs kc ns mc ms (F0 m pc ls st) rest (zv_r post Av) (fun q => H.size ≤ q)) (hK : va_K D cl tys s) (hP : va_P D cl ws H) (hD : va_D B ws) (hS : va_S A s.heap H locs) (h : lv_has ls nL lv) (kk : ∀ v : Option Value, post v → zv_V p l e R s m args below meth c Q nL D cl A B tys ws (kc + mc) (ns + ms) (pc + 3) lv (v.toList ++ rest)) : W p l e R s m args below meth c H locs kc ns Q (F0 m pc ls st) := by
  intro T hT X
  obtain ⟨v, st₀, t, T', L, h0, X', hL, e1, e2, ⟨⟨v', hv, hpo⟩, hz, hk⟩, stp⟩ := hr T hT X
  cases hv
  rw [h0] at hz hk
  have hz1 : H.size ≤ T'.heap.size := by rw [e1]; exact hz
  have hk1 : ∀ q, q < H.size → T'.heap[q]? = H[q]? := fun q h1 => by rw [e1]; exact hk q h1 (Nat.not_le.mpr h1)
  obtain ⟨t2, a1, b1⟩ := kk v hpo T'.heap (locs ++ L) ls hK (hP.kept (fun k q hq => hk1 q.1 (hP k q hq).lt)) hD ⟨Nat.le_trans hS.1 hz1, fun q h1 h2 => (hk1 q (Nat.lt_of_lt_of_le h1 hS.1)).trans (hS.2.1 q h1 h2), fun q hq => by
    rcases List.mem_append.mp hq with h | h
    · exact hS.2.2 q h
    · exact C.2 _ (Nat.le_trans hS.1 (hL q h))⟩ h T' rfl X'
  exact ⟨t2, stp t2 a1, b1⟩
theorem zn_cN {Av : Array Value} {g : JFrame} {mc ms : Nat} {rest : List Value} {H : Heap} {locs : List Loc} {ls : Array Slot} {post : Option Value → va_W → Prop} (C : zv_C p m c cc nL s args Ts own A) (hB : ∀ q, s.heap.size ≤ q → B q) (hr : va_Run p l e R s m args below meth c H locs kc ns mc ms (F0 m pc ls st) rest (zv_n D cl post Av) (fun q => H.size ≤ q)) (hK : va_K D cl tys s) (hP : va_P D cl ws H) (hD : va_D B ws) (hS : va_S A s.heap H locs) (h : lv_has ls nL lv) (kk : ∀ (v : Option Value) (w : va_W), post v w → (∀ q ∈ w, s.heap.size ≤ q.1) → zv_V p l e R s m args below meth c Q nL D cl A B tys (w ++ ws) (kc + mc) (ns + ms) (pc + 3) lv (v.toList ++ rest)) : W p l e R s m args below meth c H locs kc ns Q (F0 m pc ls st) := by
  intro T hT X
  obtain ⟨v, st₀, t, T', L, h0, X', hL, e1, e2, ⟨⟨v', w, hv, hpo, hP1, hD1⟩, hz, hk⟩, stp⟩ := hr T hT X
  cases hv
  rw [h0] at hz hk hD1
  have hz1 : H.size ≤ T'.heap.size := by rw [e1]; exact hz
  have hk1 : ∀ q, q < H.size → T'.heap[q]? = H[q]? := fun q h1 => by rw [e1]; exact hk q h1 (Nat.not_le.mpr h1)
  have hd := zn_D.mp hD1
  have hPj : va_P D cl (w ++ ws) T'.heap := va_P.app (by rw [e1]; exact hP1) (hP.kept (fun k q hq => hk1 q.1 (hP k q hq).lt))
  have hDj : va_D B (w ++ ws) := by
    have h2 := zn_D.mp hD
    refine zn_D.mpr ⟨?_, fun q hq => ?_⟩
    · rw [List.pairwise_append]
      refine ⟨hd.1, h2.1, fun x hx y hy e => ?_⟩
      have := hd.2 x hx
      have := zn_ad hP hy
      omega
    · rcases List.mem_append.mp hq with z | z
      · exact hB _ (Nat.le_trans hS.1 (hd.2 q z))
      · exact h2.2 q z
  obtain ⟨t2, a1, b1⟩ := kk v w hpo (fun q hq => Nat.le_trans hS.1 (hd.2 q hq)) T'.heap (locs ++ L) ls hK hPj hDj ⟨Nat.le_trans hS.1 hz1, fun q h1 h2 => (hk1 q (Nat.lt_of_lt_of_le h1 hS.1)).trans (hS.2.1 q h1 h2), fun q hq => by
    rcases List.mem_append.mp hq with h | h
    · exact hS.2.2 q h
    · exact C.2 _ (Nat.le_trans hS.1 (hL q h))⟩ h T' rfl X'
  exact ⟨t2, stp t2 a1, b1⟩
theorem zn_cM {Av : Array Value} {g : JFrame} {mc ms : Nat} {rest : List Value} {H : Heap} {locs : List Loc} {ls : Array Slot} {post : Option Value → va_W → Prop} {a wc b : va_W} (C : zv_C p m c cc nL s args Ts own A) (hr : va_Run p l e R s m args below meth c H locs kc ns mc ms (F0 m pc ls st) rest (zv_q D cl (va_A wc H.size) post Av) (va_A wc H.size)) (hK : va_K D cl tys s) (hP : va_P D cl (a ++ (wc ++ b)) H) (hD : va_D A (a ++ (wc ++ b))) (hS : va_S A s.heap H locs) (h : lv_has ls nL lv) (kk : ∀ (v : Option Value) (w : va_W), post v w → zv_V p l e R s m args below meth c Q nL D cl A A tys (a ++ (w ++ b)) (kc + mc) (ns + ms) (pc + 3) lv (v.toList ++ rest)) : W p l e R s m args below meth c H locs kc ns Q (F0 m pc ls st) := by
  have h0 := zn_D.mp hD
  have hFc : ∀ q, va_A wc H.size q → A q := by
    rintro q (⟨k, ev, hke⟩ | z)
    · exact h0.2 (q, ev) (List.mem_append_right _ (List.mem_append_left _ (List.mem_of_getElem? hke)))
    · exact C.2 q (Nat.le_trans hS.1 z)
  intro T hT X
  obtain ⟨v, st₀, t, T', L, hst, X', hL, e1, e2, ⟨⟨v', w, hv, hpo, hP1, hD1⟩, hz, hk⟩, stp⟩ := hr T hT X
  cases hv
  rw [hst] at hz hk
  have hz1 : H.size ≤ T'.heap.size := by rw [e1]; exact hz
  obtain ⟨hPj, hDj⟩ := zn_join (H1 := T'.heap) hP hD (fun q h1 h2 => by rw [e1]; exact hk q h1 h2) hFc (by rw [e1]; exact hP1) hD1
  obtain ⟨t2, a1, b1⟩ := kk v w hpo T'.heap (locs ++ L) ls hK hPj hDj ⟨Nat.le_trans hS.1 hz1, fun q h1 h2 => by rw [e1, hk q (Nat.lt_of_lt_of_le h1 hS.1) (fun z => h2 (hFc q z))]; exact hS.2.1 q h1 h2, fun q hq => by
    rcases List.mem_append.mp hq with h | h
    · exact hS.2.2 q h
    · exact hFc _ (hL q h)⟩ h T' rfl X'
  exact ⟨t2, stp t2 a1, b1⟩
/-- what a caller shows of E where it calls -/
def zn_E (A : Nat → Prop) (s : State) (E : State → Prop) : Prop := ∀ (H : Heap) (locs : List Loc) (U : State), va_S A s.heap H locs → U.heap = H → s.WarmedH U.vm → E U
end ZNC
