/-! ===== one judgement for a walk: the machine at a place, with these cells, these locals, this stack ===== -/
section ZV0
def zv_C (p : Program) (m : MethodId) (c : Code) (cc : ByteArray) (nL : Nat) (s : State) (args : Array Value) (Ts : List Cond) (own : String) (A : Nat → Prop) : Prop := CallFix p m c cc nL s args Ts own ∧ ∀ q, s.heap.size ≤ q → A q
def zv_V (p : Program) (l : Launch) (e : Env) (R : Room) (s : State) (m : MethodId) (args : Array Value) (below : List Frame) (meth : Method) (c : Code) (Q : State → Prop) (nL : Nat) (D : va_G) (cl : List vw_C) (A B : Nat → Prop) (tys : List (ClassId × FieldType)) (ws : va_W) (kc ns pc : Nat) (lv : List (Nat × Value)) (st : List Value) : Prop :=
  ∀ (H : Heap) (locs : List Loc) (ls : Array Slot), va_K D cl tys s → va_P D cl ws H → va_D B ws → va_S A s.heap H locs → lv_has ls nL lv → W p l e R s m args below meth c H locs kc ns Q (F0 m pc ls st)
/-- an end: returned, the world as post says -/
def zv_q (D : va_G) (cl : List vw_C) (A : Nat → Prop) (post : Option Value → va_W → Prop) : Array Value → State → Outcome → State → Prop := fun _ sa oc t => (∃ (v : Option Value) (w : va_W), oc = .returned v ∧ post v w ∧ va_P D cl w t.heap ∧ va_D A w) ∧ va_F A sa t
/-- an end of a method that writes nothing -/
def zv_r (post : Option Value → Prop) : Array Value → State → Outcome → State → Prop := fun _ sa oc t => (∃ v : Option Value, oc = .returned v ∧ post v) ∧ va_F (fun q => sa.heap.size ≤ q) sa t
def zv_pre (D : va_G) (cl : List vw_C) (tys : List (ClassId × FieldType)) (ws : va_W) (sz : Nat) : State → Prop := fun U => U.heap.size = sz ∧ va_P D cl ws U.heap ∧ va_K D cl tys U ∧ va_D (fun _ => True) ws
def zv_M (l : Launch) (y : MethodName) (wy : List Cond) (rm : Room) (D : va_G) (cl : List vw_C) (tys : List (ClassId × FieldType)) (av : List Value) (ws : va_W) (post : Option Value → va_W → Prop) : Prop := ∀ sz : Nat, Met l y wy rm (va_Pc av (zv_pre D cl tys ws sz)) (zv_q D cl (va_A ws sz) post) rm.cells rm.slots (va_A ws sz)
def zv_R (l : Launch) (y : MethodName) (wy : List Cond) (rm : Room) (D : va_G) (cl : List vw_C) (tys : List (ClassId × FieldType)) (av : List Value) (ws : va_W) (post : Option Value → Prop) : Prop := ∀ sz : Nat, Met l y wy rm (va_Pc av (zv_pre D cl tys ws sz)) (zv_r post) rm.cells rm.slots (fun q => sz ≤ q)
theorem zv_blind (D : va_G) (cl : List vw_C) (tys : List (ClassId × FieldType)) (ws : va_W) (sz : Nat) (av : List Value) : FrameBlind (va_Pc av (zv_pre D cl tys ws sz)) := fun a U g mk q => by
  obtain ⟨q0, q1, qP, qK, qD⟩ := q
  exact ⟨q0, q1, qP, va_K.moved (u := U) (U := U.calling g mk a) (Vm.Alike.refl U.vm) qK, qD⟩
theorem zv_subP {D : va_G} {cl : List vw_C} {ws ws' : va_W} {H : Heap} (h : va_P D cl ws H) (is : List Nat) (hs : is.map (fun i => ws[i]?) = ws'.map some) : va_P D cl ws' H := by
  intro k q hk
  have h1 : (is.map (fun i => ws[i]?))[k]? = some (some q) := by rw [hs, List.getElem?_map, hk]; rfl
  rw [List.getElem?_map] at h1
  cases hi : is[k]? with
  | none => rw [hi] at h1; cases h1
  | some i => rw [hi] at h1; exact h i q (Option.some.inj h1)
end ZV0
section ZV1
variable {p : Program} {l : Launch} {e : Env} {R : Room} {s : State} {m : MethodId} {args : Array Value} {below : List Frame} {meth : Method} {c : Code} {Q : State → Prop} {cc : ByteArray} {nL : Nat} {own : String} {Ts : List Cond} {A B : Nat → Prop} {D : va_G} {cl : List vw_C} {tys : List (ClassId × FieldType)} {ws : va_W} {kc ns pc n : Nat} {lv : List (Nat × Value)} {st : List Value}
theorem zv_iload_n (C : zv_C p m c cc nL s args Ts own A) {k : Fin 4} {x : Int32} (hdg : decode cc pc = .ok (.iload_n k, 1)) (n : Nat) (hn : pc + 1 = n) (j : Nat) (hl : lv[j]? = some ((k : Nat), .int x)) (kk : zv_V p l e R s m args below meth c Q nL D cl A B tys ws kc ns n lv (.int x :: st)) : zv_V p l e R s m args below meth c Q nL D cl A B tys ws kc ns pc lv (st) := by
  subst hn
  exact fun H locs ls hK hP hD hS h => lv_iload_n C.1.1 C.1.2.1 hdg rfl (lv_at h j hl) (kk H locs ls hK hP hD hS h)
theorem zv_iload (C : zv_C p m c cc nL s args Ts own A) {i : Nat} {x : Int32} (hdg : decode cc pc = .ok (.iload i, 2)) (n : Nat) (hn : pc + 2 = n) (j : Nat) (hl : lv[j]? = some (i, .int x)) (kk : zv_V p l e R s m args below meth c Q nL D cl A B tys ws kc ns n lv (.int x :: st)) : zv_V p l e R s m args below meth c Q nL D cl A B tys ws kc ns pc lv (st) := by
  subst hn
  exact fun H locs ls hK hP hD hS h => lv_iload C.1.1 C.1.2.1 hdg (lv_at h j hl) (kk H locs ls hK hP hD hS h)
theorem zv_istore_n (C : zv_C p m c cc nL s args Ts own A) {k : Fin 4} {x : Int32} (hdg : decode cc pc = .ok (.istore_n k, 1)) (n : Nat) (hn : pc + 1 = n) (lv' : List (Nat × Value)) (hlt : (k : Nat) < nL) (hl : ((k : Nat), Value.int x) :: lv.filter (fun q => !(q.1 == (k : Nat)) && !(q.1 + 1 == (k : Nat) && q.2.category == 2)) = lv') (kk : zv_V p l e R s m args below meth c Q nL D cl A B tys ws kc ns n lv' (st)) : zv_V p l e R s m args below meth c Q nL D cl A B tys ws kc ns pc lv (.int x :: st) := by
  subst hn
  exact fun H locs ls hK hP hD hS h => lv_istore_n C.1.1 C.1.2.1 hdg rfl h hlt hl (fun ls h => (kk H locs ls hK hP hD hS h))
theorem zv_istore (C : zv_C p m c cc nL s args Ts own A) {i : Nat} {x : Int32} (hdg : decode cc pc = .ok (.istore i, 2)) (n : Nat) (hn : pc + 2 = n) (lv' : List (Nat × Value)) (hlt : i < nL) (hl : (i, Value.int x) :: lv.filter (fun q => !(q.1 == i) && !(q.1 + 1 == i && q.2.category == 2)) = lv') (kk : zv_V p l e R s m args below meth c Q nL D cl A B tys ws kc ns n lv' (st)) : zv_V p l e R s m args below meth c Q nL D cl A B tys ws kc ns pc lv (.int x :: st) := by
  subst hn
  exact fun H locs ls hK hP hD hS h => lv_istore C.1.1 C.1.2.1 hdg h hlt hl (fun ls h => (kk H locs ls hK hP hD hS h))
theorem zv_aload_n (C : zv_C p m c cc nL s args Ts own A) {k : Fin 4} {x : Nat} (hdg : decode cc pc = .ok (.aload_n k, 1)) (n : Nat) (hn : pc + 1 = n) (j : Nat) (hl : lv[j]? = some ((k : Nat), .ref x)) (kk : zv_V p l e R s m args below meth c Q nL D cl A B tys ws kc ns n lv (.ref x :: st)) : zv_V p l e R s m args below meth c Q nL D cl A B tys ws kc ns pc lv (st) := by
  subst hn
  exact fun H locs ls hK hP hD hS h => lv_aload_n C.1.1 C.1.2.1 hdg rfl (lv_at h j hl) (kk H locs ls hK hP hD hS h)
theorem zv_aload (C : zv_C p m c cc nL s args Ts own A) {i : Nat} {x : Nat} (hdg : decode cc pc = .ok (.aload i, 2)) (n : Nat) (hn : pc + 2 = n) (j : Nat) (hl : lv[j]? = some (i, .ref x)) (kk : zv_V p l e R s m args below meth c Q nL D cl A B tys ws kc ns n lv (.ref x :: st)) : zv_V p l e R s m args below meth c Q nL D cl A B tys ws kc ns pc lv (st) := by
  subst hn
  exact fun H locs ls hK hP hD hS h => lv_aload C.1.1 C.1.2.1 hdg (lv_at h j hl) (kk H locs ls hK hP hD hS h)
theorem zv_astore_n (C : zv_C p m c cc nL s args Ts own A) {k : Fin 4} {x : Nat} (hdg : decode cc pc = .ok (.astore_n k, 1)) (n : Nat) (hn : pc + 1 = n) (lv' : List (Nat × Value)) (hlt : (k : Nat) < nL) (hl : ((k : Nat), Value.ref x) :: lv.filter (fun q => !(q.1 == (k : Nat)) && !(q.1 + 1 == (k : Nat) && q.2.category == 2)) = lv') (kk : zv_V p l e R s m args below meth c Q nL D cl A B tys ws kc ns n lv' (st)) : zv_V p l e R s m args below meth c Q nL D cl A B tys ws kc ns pc lv (.ref x :: st) := by
  subst hn
  exact fun H locs ls hK hP hD hS h => lv_astore_n C.1.1 C.1.2.1 hdg rfl h hlt hl (fun ls h => (kk H locs ls hK hP hD hS h))
theorem zv_astore (C : zv_C p m c cc nL s args Ts own A) {i : Nat} {x : Nat} (hdg : decode cc pc = .ok (.astore i, 2)) (n : Nat) (hn : pc + 2 = n) (lv' : List (Nat × Value)) (hlt : i < nL) (hl : (i, Value.ref x) :: lv.filter (fun q => !(q.1 == i) && !(q.1 + 1 == i && q.2.category == 2)) = lv') (kk : zv_V p l e R s m args below meth c Q nL D cl A B tys ws kc ns n lv' (st)) : zv_V p l e R s m args below meth c Q nL D cl A B tys ws kc ns pc lv (.ref x :: st) := by
  subst hn
  exact fun H locs ls hK hP hD hS h => lv_astore C.1.1 C.1.2.1 hdg h hlt hl (fun ls h => (kk H locs ls hK hP hD hS h))
theorem zv_lload_n (C : zv_C p m c cc nL s args Ts own A) {k : Fin 4} {x : Int64} (hdg : decode cc pc = .ok (.lload_n k, 1)) (n : Nat) (hn : pc + 1 = n) (j : Nat) (hl : lv[j]? = some ((k : Nat), .long x)) (kk : zv_V p l e R s m args below meth c Q nL D cl A B tys ws kc ns n lv (.long x :: st)) : zv_V p l e R s m args below meth c Q nL D cl A B tys ws kc ns pc lv (st) := by
  subst hn
  exact fun H locs ls hK hP hD hS h => lv_lload_n C.1.1 C.1.2.1 hdg rfl (lv_at h j hl) (kk H locs ls hK hP hD hS h)
theorem zv_lload (C : zv_C p m c cc nL s args Ts own A) {i : Nat} {x : Int64} (hdg : decode cc pc = .ok (.lload i, 2)) (n : Nat) (hn : pc + 2 = n) (j : Nat) (hl : lv[j]? = some (i, .long x)) (kk : zv_V p l e R s m args below meth c Q nL D cl A B tys ws kc ns n lv (.long x :: st)) : zv_V p l e R s m args below meth c Q nL D cl A B tys ws kc ns pc lv (st) := by
  subst hn
  exact fun H locs ls hK hP hD hS h => lv_lload C.1.1 C.1.2.1 hdg (lv_at h j hl) (kk H locs ls hK hP hD hS h)
theorem zv_lstore_n (C : zv_C p m c cc nL s args Ts own A) {k : Fin 4} {x : Int64} (hdg : decode cc pc = .ok (.lstore_n k, 1)) (n : Nat) (hn : pc + 1 = n) (lv' : List (Nat × Value)) (hlt : (k : Nat) + 1 < nL) (hl : ((k : Nat), Value.long x) :: lv.filter (fun q => !(q.1 == (k : Nat)) && (!(q.1 == (k : Nat) + 1) && !(q.1 + 1 == (k : Nat) && q.2.category == 2))) = lv') (kk : zv_V p l e R s m args below meth c Q nL D cl A B tys ws kc ns n lv' (st)) : zv_V p l e R s m args below meth c Q nL D cl A B tys ws kc ns pc lv (.long x :: st) := by
  subst hn
  exact fun H locs ls hK hP hD hS h => lv_lstore_n C.1.1 C.1.2.1 hdg rfl h hlt hl (fun ls h => (kk H locs ls hK hP hD hS h))
theorem zv_lstore (C : zv_C p m c cc nL s args Ts own A) {i : Nat} {x : Int64} (hdg : decode cc pc = .ok (.lstore i, 2)) (n : Nat) (hn : pc + 2 = n) (lv' : List (Nat × Value)) (hlt : i + 1 < nL) (hl : (i, Value.long x) :: lv.filter (fun q => !(q.1 == i) && (!(q.1 == i + 1) && !(q.1 + 1 == i && q.2.category == 2))) = lv') (kk : zv_V p l e R s m args below meth c Q nL D cl A B tys ws kc ns n lv' (st)) : zv_V p l e R s m args below meth c Q nL D cl A B tys ws kc ns pc lv (.long x :: st) := by
  subst hn
  exact fun H locs ls hK hP hD hS h => lv_lstore C.1.1 C.1.2.1 hdg h hlt hl (fun ls h => (kk H locs ls hK hP hD hS h))
theorem zv_dload (C : zv_C p m c cc nL s args Ts own A) {i : Nat} {x : UInt64} (hdg : decode cc pc = .ok (.dload i, 2)) (n : Nat) (hn : pc + 2 = n) (j : Nat) (hl : lv[j]? = some (i, .double x)) (kk : zv_V p l e R s m args below meth c Q nL D cl A B tys ws kc ns n lv (.double x :: st)) : zv_V p l e R s m args below meth c Q nL D cl A B tys ws kc ns pc lv (st) := by
  subst hn
  exact fun H locs ls hK hP hD hS h => lv_dload C.1.1 C.1.2.1 hdg (lv_at h j hl) (kk H locs ls hK hP hD hS h)
theorem zv_dstore (C : zv_C p m c cc nL s args Ts own A) {i : Nat} {x : UInt64} (hdg : decode cc pc = .ok (.dstore i, 2)) (n : Nat) (hn : pc + 2 = n) (lv' : List (Nat × Value)) (hlt : i + 1 < nL) (hl : (i, Value.double x) :: lv.filter (fun q => !(q.1 == i) && (!(q.1 == i + 1) && !(q.1 + 1 == i && q.2.category == 2))) = lv') (kk : zv_V p l e R s m args below meth c Q nL D cl A B tys ws kc ns n lv' (st)) : zv_V p l e R s m args below meth c Q nL D cl A B tys ws kc ns pc lv (.double x :: st) := by
  subst hn
  exact fun H locs ls hK hP hD hS h => lv_dstore C.1.1 C.1.2.1 hdg h hlt hl (fun ls h => (kk H locs ls hK hP hD hS h))
theorem zv_iinc (C : zv_C p m c cc nL s args Ts own A) {i : Nat} {z : Int} {x v : Int32} (hdg : decode cc pc = .ok (.iinc i z, 3)) (n : Nat) (hn : pc + 3 = n) (lv' : List (Nat × Value)) (j : Nat) (hk : lv[j]? = some (i, .int x)) (hv : x + Int32.ofInt z = v) (hlt : i < nL) (hl : (i, Value.int v) :: lv.filter (fun q => !(q.1 == i) && !(q.1 + 1 == i && q.2.category == 2)) = lv') (kk : zv_V p l e R s m args below meth c Q nL D cl A B tys ws kc ns n lv' (st)) : zv_V p l e R s m args below meth c Q nL D cl A B tys ws kc ns pc lv (st) := by
  subst hn
  exact fun H locs ls hK hP hD hS h => lv_iinc C.1.1 C.1.2.1 hdg h hk hv hlt hl (fun ls h => (kk H locs ls hK hP hD hS h))
theorem zv_iconst (C : zv_C p m c cc nL s args Ts own A) {z : Int} {v : Int32} (hdg : decode cc pc = .ok (.iconst z, 1)) (n : Nat) (hn : pc + 1 = n) (hv : Int32.ofInt z = v) (kk : zv_V p l e R s m args below meth c Q nL D cl A B tys ws kc ns n lv (.int v :: st)) : zv_V p l e R s m args below meth c Q nL D cl A B tys ws kc ns pc lv (st) := by
  subst hn
  exact fun H locs ls hK hP hD hS h => lv_iconst C.1.1 C.1.2.1 hdg hv (kk H locs ls hK hP hD hS h)
theorem zv_bipush (C : zv_C p m c cc nL s args Ts own A) {z : Int} {v : Int32} (hdg : decode cc pc = .ok (.bipush z, 2)) (n : Nat) (hn : pc + 2 = n) (hv : (Int8.ofInt z).toInt32 = v) (kk : zv_V p l e R s m args below meth c Q nL D cl A B tys ws kc ns n lv (.int v :: st)) : zv_V p l e R s m args below meth c Q nL D cl A B tys ws kc ns pc lv (st) := by
  subst hn
  exact fun H locs ls hK hP hD hS h => lv_bipush C.1.1 C.1.2.1 hdg hv (kk H locs ls hK hP hD hS h)
theorem zv_lconst (C : zv_C p m c cc nL s args Ts own A) {z : Fin 2} {v : Int64} (hdg : decode cc pc = .ok (.lconst z, 1)) (n : Nat) (hn : pc + 1 = n) (hv : Int64.ofNat (z : Nat) = v) (kk : zv_V p l e R s m args below meth c Q nL D cl A B tys ws kc ns n lv (.long v :: st)) : zv_V p l e R s m args below meth c Q nL D cl A B tys ws kc ns pc lv (st) := by
  subst hn
  exact fun H locs ls hK hP hD hS h => lv_lconst C.1.1 C.1.2.1 hdg hv (kk H locs ls hK hP hD hS h)
theorem zv_dup (C : zv_C p m c cc nL s args Ts own A) {va : Value} (hdg : decode cc pc = .ok (.dup, 1)) (n : Nat) (hn : pc + 1 = n) (hva : va.category = 1) (kk : zv_V p l e R s m args below meth c Q nL D cl A B tys ws kc ns n lv (va :: va :: st)) : zv_V p l e R s m args below meth c Q nL D cl A B tys ws kc ns pc lv (va :: st) := by
  subst hn
  exact fun H locs ls hK hP hD hS h => lv_dup C.1.1 C.1.2.1 hdg hva (kk H locs ls hK hP hD hS h)
theorem zv_dup2 (C : zv_C p m c cc nL s args Ts own A) {va vb : Value} (hdg : decode cc pc = .ok (.dup2, 1)) (n : Nat) (hn : pc + 1 = n) (hva : va.category = 1) (hvb : vb.category = 1) (kk : zv_V p l e R s m args below meth c Q nL D cl A B tys ws kc ns n lv (va :: vb :: va :: vb :: st)) : zv_V p l e R s m args below meth c Q nL D cl A B tys ws kc ns pc lv (va :: vb :: st) := by
  subst hn
  exact fun H locs ls hK hP hD hS h => lv_dup2_11 C.1.1 C.1.2.1 hdg hva hvb (kk H locs ls hK hP hD hS h)
theorem zv_iadd (C : zv_C p m c cc nL s args Ts own A) {x y v : Int32} (hdg : decode cc pc = .ok (.iadd, 1)) (n : Nat) (hn : pc + 1 = n) (hv : x + y = v) (kk : zv_V p l e R s m args below meth c Q nL D cl A B tys ws kc ns n lv (.int v :: st)) : zv_V p l e R s m args below meth c Q nL D cl A B tys ws kc ns pc lv (.int y :: .int x :: st) := by
  subst hn
  exact fun H locs ls hK hP hD hS h => lv_iadd C.1.1 C.1.2.1 hdg (by rw [hv]; exact (kk H locs ls hK hP hD hS h))
theorem zv_isub (C : zv_C p m c cc nL s args Ts own A) {x y v : Int32} (hdg : decode cc pc = .ok (.isub, 1)) (n : Nat) (hn : pc + 1 = n) (hv : x - y = v) (kk : zv_V p l e R s m args below meth c Q nL D cl A B tys ws kc ns n lv (.int v :: st)) : zv_V p l e R s m args below meth c Q nL D cl A B tys ws kc ns pc lv (.int y :: .int x :: st) := by
  subst hn
  exact fun H locs ls hK hP hD hS h => lv_isub C.1.1 C.1.2.1 hdg (by rw [hv]; exact (kk H locs ls hK hP hD hS h))
theorem zv_imul (C : zv_C p m c cc nL s args Ts own A) {x y v : Int32} (hdg : decode cc pc = .ok (.imul, 1)) (n : Nat) (hn : pc + 1 = n) (hv : x * y = v) (kk : zv_V p l e R s m args below meth c Q nL D cl A B tys ws kc ns n lv (.int v :: st)) : zv_V p l e R s m args below meth c Q nL D cl A B tys ws kc ns pc lv (.int y :: .int x :: st) := by
  subst hn
  exact fun H locs ls hK hP hD hS h => lv_imul C.1.1 C.1.2.1 hdg (by rw [hv]; exact (kk H locs ls hK hP hD hS h))
theorem zv_iand (C : zv_C p m c cc nL s args Ts own A) {x y v : Int32} (hdg : decode cc pc = .ok (.iand, 1)) (n : Nat) (hn : pc + 1 = n) (hv : x &&& y = v) (kk : zv_V p l e R s m args below meth c Q nL D cl A B tys ws kc ns n lv (.int v :: st)) : zv_V p l e R s m args below meth c Q nL D cl A B tys ws kc ns pc lv (.int y :: .int x :: st) := by
  subst hn
  exact fun H locs ls hK hP hD hS h => lv_iand C.1.1 C.1.2.1 hdg (by rw [hv]; exact (kk H locs ls hK hP hD hS h))
theorem zv_ladd (C : zv_C p m c cc nL s args Ts own A) {x y : Int64} (hdg : decode cc pc = .ok (.ladd, 1)) (n : Nat) (hn : pc + 1 = n)  (kk : zv_V p l e R s m args below meth c Q nL D cl A B tys ws kc ns n lv (.long (x + y) :: st)) : zv_V p l e R s m args below meth c Q nL D cl A B tys ws kc ns pc lv (.long y :: .long x :: st) := by
  subst hn
  exact fun H locs ls hK hP hD hS h => lv_ladd C.1.1 C.1.2.1 hdg (kk H locs ls hK hP hD hS h)
theorem zv_lmul (C : zv_C p m c cc nL s args Ts own A) {x y : Int64} (hdg : decode cc pc = .ok (.lmul, 1)) (n : Nat) (hn : pc + 1 = n)  (kk : zv_V p l e R s m args below meth c Q nL D cl A B tys ws kc ns n lv (.long (x * y) :: st)) : zv_V p l e R s m args below meth c Q nL D cl A B tys ws kc ns pc lv (.long y :: .long x :: st) := by
  subst hn
  exact fun H locs ls hK hP hD hS h => lv_lmul C.1.1 C.1.2.1 hdg (kk H locs ls hK hP hD hS h)
theorem zv_i2l (C : zv_C p m c cc nL s args Ts own A) {x : Int32} (hdg : decode cc pc = .ok (.i2l, 1)) (n : Nat) (hn : pc + 1 = n)  (kk : zv_V p l e R s m args below meth c Q nL D cl A B tys ws kc ns n lv (.long x.toInt64 :: st)) : zv_V p l e R s m args below meth c Q nL D cl A B tys ws kc ns pc lv (.int x :: st) := by
  subst hn
  exact fun H locs ls hK hP hD hS h => lv_i2l C.1.1 C.1.2.1 hdg rfl (kk H locs ls hK hP hD hS h)
theorem zv_if_eq (C : zv_C p m c cc nL s args Ts own A) {x : Int32} {off : Int} (hdg : decode cc pc = .ok (.ifCond .eq off, 3)) (n tgt : Nat) (hn : pc + 3 = n) (ht : (pc : Int) + off = (tgt : Int)) (kt : x = 0 → zv_V p l e R s m args below meth c Q nL D cl A B tys ws kc ns tgt lv (st)) (kf : ¬ x = 0 → zv_V p l e R s m args below meth c Q nL D cl A B tys ws kc ns n lv (st)) : zv_V p l e R s m args below meth c Q nL D cl A B tys ws kc ns pc lv (.int x :: st) := by
  subst hn
  exact fun H locs ls hK hP hD hS h => lv_if_eq C.1.1 C.1.2.1 hdg ht (fun q => kt q H locs ls hK hP hD hS h) (fun q => kf q H locs ls hK hP hD hS h)
theorem zv_if_ne (C : zv_C p m c cc nL s args Ts own A) {x : Int32} {off : Int} (hdg : decode cc pc = .ok (.ifCond .ne off, 3)) (n tgt : Nat) (hn : pc + 3 = n) (ht : (pc : Int) + off = (tgt : Int)) (kt : ¬ x = 0 → zv_V p l e R s m args below meth c Q nL D cl A B tys ws kc ns tgt lv (st)) (kf : x = 0 → zv_V p l e R s m args below meth c Q nL D cl A B tys ws kc ns n lv (st)) : zv_V p l e R s m args below meth c Q nL D cl A B tys ws kc ns pc lv (.int x :: st) := by
  subst hn
  exact fun H locs ls hK hP hD hS h => lv_if_ne C.1.1 C.1.2.1 hdg ht (fun q => kt q H locs ls hK hP hD hS h) (fun q => kf q H locs ls hK hP hD hS h)
theorem zv_if_lt (C : zv_C p m c cc nL s args Ts own A) {x : Int32} {off : Int} (hdg : decode cc pc = .ok (.ifCond .lt off, 3)) (n tgt : Nat) (hn : pc + 3 = n) (ht : (pc : Int) + off = (tgt : Int)) (kt : x < 0 → zv_V p l e R s m args below meth c Q nL D cl A B tys ws kc ns tgt lv (st)) (kf : ¬ x < 0 → zv_V p l e R s m args below meth c Q nL D cl A B tys ws kc ns n lv (st)) : zv_V p l e R s m args below meth c Q nL D cl A B tys ws kc ns pc lv (.int x :: st) := by
  subst hn
  exact fun H locs ls hK hP hD hS h => lv_if_lt C.1.1 C.1.2.1 hdg ht (fun q => kt q H locs ls hK hP hD hS h) (fun q => kf q H locs ls hK hP hD hS h)
theorem zv_if_le (C : zv_C p m c cc nL s args Ts own A) {x : Int32} {off : Int} (hdg : decode cc pc = .ok (.ifCond .le off, 3)) (n tgt : Nat) (hn : pc + 3 = n) (ht : (pc : Int) + off = (tgt : Int)) (kt : x ≤ 0 → zv_V p l e R s m args below meth c Q nL D cl A B tys ws kc ns tgt lv (st)) (kf : ¬ x ≤ 0 → zv_V p l e R s m args below meth c Q nL D cl A B tys ws kc ns n lv (st)) : zv_V p l e R s m args below meth c Q nL D cl A B tys ws kc ns pc lv (.int x :: st) := by
  subst hn
  exact fun H locs ls hK hP hD hS h => lv_if_le C.1.1 C.1.2.1 hdg ht (fun q => kt q H locs ls hK hP hD hS h) (fun q => kf q H locs ls hK hP hD hS h)
theorem zv_if_gt (C : zv_C p m c cc nL s args Ts own A) {x : Int32} {off : Int} (hdg : decode cc pc = .ok (.ifCond .gt off, 3)) (n tgt : Nat) (hn : pc + 3 = n) (ht : (pc : Int) + off = (tgt : Int)) (kt : 0 < x → zv_V p l e R s m args below meth c Q nL D cl A B tys ws kc ns tgt lv (st)) (kf : ¬ 0 < x → zv_V p l e R s m args below meth c Q nL D cl A B tys ws kc ns n lv (st)) : zv_V p l e R s m args below meth c Q nL D cl A B tys ws kc ns pc lv (.int x :: st) := by
  subst hn
  exact fun H locs ls hK hP hD hS h => lv_if_gt C.1.1 C.1.2.1 hdg ht (fun q => kt q H locs ls hK hP hD hS h) (fun q => kf q H locs ls hK hP hD hS h)
theorem zv_if_ge (C : zv_C p m c cc nL s args Ts own A) {x : Int32} {off : Int} (hdg : decode cc pc = .ok (.ifCond .ge off, 3)) (n tgt : Nat) (hn : pc + 3 = n) (ht : (pc : Int) + off = (tgt : Int)) (kt : 0 ≤ x → zv_V p l e R s m args below meth c Q nL D cl A B tys ws kc ns tgt lv (st)) (kf : ¬ 0 ≤ x → zv_V p l e R s m args below meth c Q nL D cl A B tys ws kc ns n lv (st)) : zv_V p l e R s m args below meth c Q nL D cl A B tys ws kc ns pc lv (.int x :: st) := by
  subst hn
  exact fun H locs ls hK hP hD hS h => lv_if_ge C.1.1 C.1.2.1 hdg ht (fun q => kt q H locs ls hK hP hD hS h) (fun q => kf q H locs ls hK hP hD hS h)
theorem zv_icmp_eq (C : zv_C p m c cc nL s args Ts own A) {x y : Int32} {off : Int} (hdg : decode cc pc = .ok (.if_icmp .eq off, 3)) (n tgt : Nat) (hn : pc + 3 = n) (ht : (pc : Int) + off = (tgt : Int)) (kt : x = y → zv_V p l e R s m args below meth c Q nL D cl A B tys ws kc ns tgt lv (st)) (kf : ¬ x = y → zv_V p l e R s m args below meth c Q nL D cl A B tys ws kc ns n lv (st)) : zv_V p l e R s m args below meth c Q nL D cl A B tys ws kc ns pc lv (.int y :: .int x :: st) := by
  subst hn
  exact fun H locs ls hK hP hD hS h => lv_icmp_eq C.1.1 C.1.2.1 hdg ht (fun q => kt q H locs ls hK hP hD hS h) (fun q => kf q H locs ls hK hP hD hS h)
theorem zv_icmp_ne (C : zv_C p m c cc nL s args Ts own A) {x y : Int32} {off : Int} (hdg : decode cc pc = .ok (.if_icmp .ne off, 3)) (n tgt : Nat) (hn : pc + 3 = n) (ht : (pc : Int) + off = (tgt : Int)) (kt : ¬ x = y → zv_V p l e R s m args below meth c Q nL D cl A B tys ws kc ns tgt lv (st)) (kf : x = y → zv_V p l e R s m args below meth c Q nL D cl A B tys ws kc ns n lv (st)) : zv_V p l e R s m args below meth c Q nL D cl A B tys ws kc ns pc lv (.int y :: .int x :: st) := by
  subst hn
  exact fun H locs ls hK hP hD hS h => lv_icmp_ne C.1.1 C.1.2.1 hdg ht (fun q => kt q H locs ls hK hP hD hS h) (fun q => kf q H locs ls hK hP hD hS h)
theorem zv_icmp_lt (C : zv_C p m c cc nL s args Ts own A) {x y : Int32} {off : Int} (hdg : decode cc pc = .ok (.if_icmp .lt off, 3)) (n tgt : Nat) (hn : pc + 3 = n) (ht : (pc : Int) + off = (tgt : Int)) (kt : x < y → zv_V p l e R s m args below meth c Q nL D cl A B tys ws kc ns tgt lv (st)) (kf : ¬ x < y → zv_V p l e R s m args below meth c Q nL D cl A B tys ws kc ns n lv (st)) : zv_V p l e R s m args below meth c Q nL D cl A B tys ws kc ns pc lv (.int y :: .int x :: st) := by
  subst hn
  exact fun H locs ls hK hP hD hS h => lv_icmp_lt C.1.1 C.1.2.1 hdg ht (fun q => kt q H locs ls hK hP hD hS h) (fun q => kf q H locs ls hK hP hD hS h)
theorem zv_icmp_le (C : zv_C p m c cc nL s args Ts own A) {x y : Int32} {off : Int} (hdg : decode cc pc = .ok (.if_icmp .le off, 3)) (n tgt : Nat) (hn : pc + 3 = n) (ht : (pc : Int) + off = (tgt : Int)) (kt : x ≤ y → zv_V p l e R s m args below meth c Q nL D cl A B tys ws kc ns tgt lv (st)) (kf : ¬ x ≤ y → zv_V p l e R s m args below meth c Q nL D cl A B tys ws kc ns n lv (st)) : zv_V p l e R s m args below meth c Q nL D cl A B tys ws kc ns pc lv (.int y :: .int x :: st) := by
  subst hn
  exact fun H locs ls hK hP hD hS h => lv_icmp_le C.1.1 C.1.2.1 hdg ht (fun q => kt q H locs ls hK hP hD hS h) (fun q => kf q H locs ls hK hP hD hS h)
theorem zv_icmp_gt (C : zv_C p m c cc nL s args Ts own A) {x y : Int32} {off : Int} (hdg : decode cc pc = .ok (.if_icmp .gt off, 3)) (n tgt : Nat) (hn : pc + 3 = n) (ht : (pc : Int) + off = (tgt : Int)) (kt : y < x → zv_V p l e R s m args below meth c Q nL D cl A B tys ws kc ns tgt lv (st)) (kf : ¬ y < x → zv_V p l e R s m args below meth c Q nL D cl A B tys ws kc ns n lv (st)) : zv_V p l e R s m args below meth c Q nL D cl A B tys ws kc ns pc lv (.int y :: .int x :: st) := by
  subst hn
  exact fun H locs ls hK hP hD hS h => lv_icmp_gt C.1.1 C.1.2.1 hdg ht (fun q => kt q H locs ls hK hP hD hS h) (fun q => kf q H locs ls hK hP hD hS h)
theorem zv_icmp_ge (C : zv_C p m c cc nL s args Ts own A) {x y : Int32} {off : Int} (hdg : decode cc pc = .ok (.if_icmp .ge off, 3)) (n tgt : Nat) (hn : pc + 3 = n) (ht : (pc : Int) + off = (tgt : Int)) (kt : y ≤ x → zv_V p l e R s m args below meth c Q nL D cl A B tys ws kc ns tgt lv (st)) (kf : ¬ y ≤ x → zv_V p l e R s m args below meth c Q nL D cl A B tys ws kc ns n lv (st)) : zv_V p l e R s m args below meth c Q nL D cl A B tys ws kc ns pc lv (.int y :: .int x :: st) := by
  subst hn
  exact fun H locs ls hK hP hD hS h => lv_icmp_ge C.1.1 C.1.2.1 hdg ht (fun q => kt q H locs ls hK hP hD hS h) (fun q => kf q H locs ls hK hP hD hS h)
theorem zv_goto (C : zv_C p m c cc nL s args Ts own A) {off : Int} (hdg : decode cc pc = .ok (.goto off, 3)) (tgt : Nat) (ht : (pc : Int) + off = (tgt : Int)) (kk : zv_V p l e R s m args below meth c Q nL D cl A B tys ws kc ns tgt lv (st)) : zv_V p l e R s m args below meth c Q nL D cl A B tys ws kc ns pc lv (st) := by
  exact fun H locs ls hK hP hD hS h => lv_goto C.1.1 C.1.2.1 hdg ht (kk H locs ls hK hP hD hS h)
theorem zv_get (C : zv_C p m c cc nL s args Ts own A) {C0 : String} {T : u_T} {N ci index a : Nat} {fs : List Value} {v : Value} (hin : ∀ w ∈ u_ws C0 T N, w ∈ Ts) (hc : cl[ci]? = some (C0, T, N)) (hdg : decode cc pc = .ok (.getfield index, 3)) (n : Nat) (hn : pc + 3 = n) (q0 k : Nat) (he : ws[q0]? = some (a, .inr (ci, fs))) (hk : k < N) (hlink : Cond.fieldLink own index (T k).1 (T k).2.1 (T k).2.2.1 ∈ Ts) (hv : fs[k]? = some v) (kk : zv_V p l e R s m args below meth c Q nL D cl A B tys ws kc ns n lv (v :: st)) : zv_V p l e R s m args below meth c Q nL D cl A B tys ws kc ns pc lv (.ref a :: st) := by
  subst hn
  exact fun H locs ls hK hP hD hS h => va_get C.1.1 C.1.2.1 C.1.2.2.2.2 hin C.1.2.2.2.1 hK hP q0 he hc k hk (C.1.2.2.2.2 _ hlink) (fun _ h => h) hv hdg (kk H locs ls hK hP hD hS h)
theorem zv_put (C : zv_C p m c cc nL s args Ts own A) {C0 : String} {T : u_T} {N ci index a : Nat} {fs : List Value} {v : Value} (hin : ∀ w ∈ u_ws C0 T N, w ∈ Ts) (hc : cl[ci]? = some (C0, T, N)) {ty0 : Nat → FieldType} (hty : ∀ k, k < N → parseFieldDescriptor (T k).2.2.1 = some (ty0 k)) (hnm : ∀ a, a < N → ∀ b, b < N → a ≠ b → (T a).2.1 ≠ (T b).2.1) (hdg : decode cc pc = .ok (.putfield index, 3)) (n : Nat) (hn : pc + 3 = n) (q0 k : Nat) (he : ws[q0]? = some (a, .inr (ci, fs))) (hk : k < N) (hlink : Cond.fieldLink own index (T k).1 (T k).2.1 (T k).2.2.1 ∈ Ts) (hfin : (T k).2.2.2 = false) (hnar : narrow (ty0 k) v = v) (hfit : fits (ty0 k) v = true) (hl : k < fs.length) (ws' : va_W) (hw : ws.set q0 (a, .inr (ci, fs.set k v)) = ws') (kk : zv_V p l e R s m args below meth c Q nL D cl A A tys ws' kc ns n lv (st)) : zv_V p l e R s m args below meth c Q nL D cl A A tys ws kc ns pc lv (v :: .ref a :: st) := by
  subst hn; subst hw
  exact fun H locs ls hK hP hD hS h => va_put C.1.1 C.1.2.1 C.1.2.2.2.2 hin ty0 hty hnm C.1.2.2.2.1 hK hP hD hS q0 he hc k hk (C.1.2.2.2.2 _ hlink) (fun _ h => h) hfin (hty k hk) hnar hfit hl hdg (fun H locs hP hD hS => (kk H locs ls hK hP hD hS h))
theorem zv_putF (C : zv_C p m c cc nL s args Ts own A) {C0 : String} {T : u_T} {N ci index a : Nat} {fs : List Value} {v : Value} (hin : ∀ w ∈ u_ws C0 T N, w ∈ Ts) (hc : cl[ci]? = some (C0, T, N)) {ty0 : Nat → FieldType} (hty : ∀ k, k < N → parseFieldDescriptor (T k).2.2.1 = some (ty0 k)) (hnm : ∀ a, a < N → ∀ b, b < N → a ≠ b → (T a).2.1 ≠ (T b).2.1) (hini : meth.name = "<init>") (hdg : decode cc pc = .ok (.putfield index, 3)) (n : Nat) (hn : pc + 3 = n) (q0 k : Nat) (he : ws[q0]? = some (a, .inr (ci, fs))) (hk : k < N) (hlink : Cond.fieldLink own index (T k).1 (T k).2.1 (T k).2.2.1 ∈ Ts) (hfin : (T k).2.2.2 = true) (hdecl : (T k).1 = own) (hnar : narrow (ty0 k) v = v) (hfit : fits (ty0 k) v = true) (hl : k < fs.length) (ws' : va_W) (hw : ws.set q0 (a, .inr (ci, fs.set k v)) = ws') (kk : zv_V p l e R s m args below meth c Q nL D cl A A tys ws' kc ns n lv (st)) : zv_V p l e R s m args below meth c Q nL D cl A A tys ws kc ns pc lv (v :: .ref a :: st) := by
  subst hn; subst hw
  exact fun H locs ls hK hP hD hS h => va_putF C.1.1 C.1.2.1 C.1.2.2.2.2 hin ty0 hty hnm C.1.2.2.2.1 hK hP hD hS q0 he hc k hk (C.1.2.2.2.2 _ hlink) (fun _ h => h) hfin hini hdecl (hty k hk) hnar hfit hl hdg (fun H locs hP hD hS => (kk H locs ls hK hP hD hS h))
theorem zv_in {i : Int32} {j N : Nat} (hi : i = nI j) (hj : j < N) (hN : N < 2 ^ 31) : vp_in i N ∧ i.toNatClampNeg = j := by
  subst hi
  exact ⟨vp_in_nI hj hN, nI_clamp (by omega)⟩
theorem zv_iald (C : zv_C p m c cc nL s args Ts own A) {a N : Nat} {cA : ClassId} {f : Nat → Int32} {i v : Int32} (hdg : decode cc pc = .ok (.iaload, 1)) (n : Nat) (hn : pc + 1 = n) (q0 t0 j : Nat) (ha : ws[q0]? = some (a, .inl (cA, N, .inl f))) (ht : tys[t0]? = some (cA, .int)) (hi : i = nI j) (hj : j < N) (hN : N < 2 ^ 31) (hv : f j = v) (kk : zv_V p l e R s m args below meth c Q nL D cl A B tys ws kc ns n lv (.int v :: st)) : zv_V p l e R s m args below meth c Q nL D cl A B tys ws kc ns pc lv (.int i :: .ref a :: st) := by
  subst hn; subst hv
  obtain ⟨h1, h2⟩ := zv_in hi hj hN
  exact fun H locs ls hK hP hD hS h => va_iald C.1.1 C.1.2.1 hK hP q0 t0 ha ht h1 hdg (by rw [h2]; exact (kk H locs ls hK hP hD hS h))
theorem zv_zald (C : zv_C p m c cc nL s args Ts own A) {a N : Nat} {cA : ClassId} {f : Nat → Int32} {i v : Int32} (hdg : decode cc pc = .ok (.baload, 1)) (n : Nat) (hn : pc + 1 = n) (q0 t0 j : Nat) (ha : ws[q0]? = some (a, .inl (cA, N, .inl f))) (ht : tys[t0]? = some (cA, .boolean)) (hi : i = nI j) (hj : j < N) (hN : N < 2 ^ 31) (hv : f j = v) (kk : zv_V p l e R s m args below meth c Q nL D cl A B tys ws kc ns n lv (.int v :: st)) : zv_V p l e R s m args below meth c Q nL D cl A B tys ws kc ns pc lv (.int i :: .ref a :: st) := by
  subst hn; subst hv
  obtain ⟨h1, h2⟩ := zv_in hi hj hN
  exact fun H locs ls hK hP hD hS h => va_zald C.1.1 C.1.2.1 hK hP q0 t0 ha ht h1 hdg (by rw [h2]; exact (kk H locs ls hK hP hD hS h))
theorem zv_iast (C : zv_C p m c cc nL s args Ts own A) {a N : Nat} {cA : ClassId} {f : Nat → Int32} {i x x' : Int32} (hdg : decode cc pc = .ok (.iastore, 1)) (n : Nat) (hn : pc + 1 = n) (q0 t0 j : Nat) (ha : ws[q0]? = some (a, .inl (cA, N, .inl f))) (ht : tys[t0]? = some (cA, .int)) (hi : i = nI j) (hj : j < N) (hN : N < 2 ^ 31) (hx : x = x') (ws' : va_W) (hw : ws.set q0 (a, .inl (cA, N, .inl (upd f j x'))) = ws') (kk : zv_V p l e R s m args below meth c Q nL D cl A A tys ws' kc ns n lv (st)) : zv_V p l e R s m args below meth c Q nL D cl A A tys ws kc ns pc lv (.int x :: .int i :: .ref a :: st) := by
  subst hn; subst hw; subst hx
  obtain ⟨h1, h2⟩ := zv_in hi hj hN
  subst h2
  exact fun H locs ls hK hP hD hS h => va_iast C.1.1 C.1.2.1 hK hP hD hS q0 t0 ha ht h1 hdg (fun H locs hP hD hS => (kk H locs ls hK hP hD hS h))
theorem zv_zast (C : zv_C p m c cc nL s args Ts own A) {a N : Nat} {cA : ClassId} {f : Nat → Int32} {i x x' : Int32} (hdg : decode cc pc = .ok (.bastore, 1)) (n : Nat) (hn : pc + 1 = n) (q0 t0 j : Nat) (ha : ws[q0]? = some (a, .inl (cA, N, .inl f))) (ht : tys[t0]? = some (cA, .boolean)) (hi : i = nI j) (hj : j < N) (hN : N < 2 ^ 31) (hx : (vp_nar .boolean x) = x') (ws' : va_W) (hw : ws.set q0 (a, .inl (cA, N, .inl (upd f j x'))) = ws') (kk : zv_V p l e R s m args below meth c Q nL D cl A A tys ws' kc ns n lv (st)) : zv_V p l e R s m args below meth c Q nL D cl A A tys ws kc ns pc lv (.int x :: .int i :: .ref a :: st) := by
  subst hn; subst hw; subst hx
  obtain ⟨h1, h2⟩ := zv_in hi hj hN
  subst h2
  exact fun H locs ls hK hP hD hS h => va_zast C.1.1 C.1.2.1 hK hP hD hS q0 t0 ha ht h1 hdg (fun H locs hP hD hS => (kk H locs ls hK hP hD hS h))
theorem zv_lald (C : zv_C p m c cc nL s args Ts own A) {a N : Nat} {cA : ClassId} {f : Nat → Int64} {i : Int32} {v : Int64} (hdg : decode cc pc = .ok (.laload, 1)) (n : Nat) (hn : pc + 1 = n) (q0 t0 j : Nat) (ha : ws[q0]? = some (a, .inl (cA, N, .inr (.inl f)))) (ht : tys[t0]? = some (cA, .long)) (hi : i = nI j) (hj : j < N) (hN : N < 2 ^ 31) (hv : f j = v) (kk : zv_V p l e R s m args below meth c Q nL D cl A B tys ws kc ns n lv (.long v :: st)) : zv_V p l e R s m args below meth c Q nL D cl A B tys ws kc ns pc lv (.int i :: .ref a :: st) := by
  subst hn; subst hv
  obtain ⟨h1, h2⟩ := zv_in hi hj hN
  exact fun H locs ls hK hP hD hS h => va_lald C.1.1 C.1.2.1 hK hP q0 t0 ha ht h1 hdg (by rw [h2]; exact (kk H locs ls hK hP hD hS h))
theorem zv_last (C : zv_C p m c cc nL s args Ts own A) {a N : Nat} {cA : ClassId} {f : Nat → Int64} {i : Int32} {x : Int64} (hdg : decode cc pc = .ok (.lastore, 1)) (n : Nat) (hn : pc + 1 = n) (q0 t0 j : Nat) (ha : ws[q0]? = some (a, .inl (cA, N, .inr (.inl f)))) (ht : tys[t0]? = some (cA, .long)) (hi : i = nI j) (hj : j < N) (hN : N < 2 ^ 31) (ws' : va_W) (hw : ws.set q0 (a, .inl (cA, N, .inr (.inl (vp_updL f j x)))) = ws') (kk : zv_V p l e R s m args below meth c Q nL D cl A A tys ws' kc ns n lv (st)) : zv_V p l e R s m args below meth c Q nL D cl A A tys ws kc ns pc lv (.long x :: .int i :: .ref a :: st) := by
  subst hn; subst hw
  obtain ⟨h1, h2⟩ := zv_in hi hj hN
  subst h2
  exact fun H locs ls hK hP hD hS h => va_last C.1.1 C.1.2.1 hK hP hD hS q0 t0 ha ht h1 hdg (fun H locs hP hD hS => (kk H locs ls hK hP hD hS h))
theorem zv_alen (C : zv_C p m c cc nL s args Ts own A) {a : Nat} {cA : ClassId} {y : vp_A} {ty : FieldType} {v : Int32} (hdg : decode cc pc = .ok (.arraylength, 1)) (n : Nat) (hn : pc + 1 = n) (q0 t0 : Nat) (ha : ws[q0]? = some (a, .inl (cA, y))) (ht : tys[t0]? = some (cA, ty)) (hv : Int32.ofNat y.1 = v) (kk : zv_V p l e R s m args below meth c Q nL D cl A B tys ws kc ns n lv (.int v :: st)) : zv_V p l e R s m args below meth c Q nL D cl A B tys ws kc ns pc lv (.ref a :: st) := by
  subst hn
  exact fun H locs ls hK hP hD hS h => va_alen C.1.1 C.1.2.1 hK hP q0 t0 ha ht hv hdg (kk H locs ls hK hP hD hS h)
theorem zv_sub (is : List Nat) {lv' : List (Nat × Value)} (hl : lv_pick lv is = lv') (kk : zv_V p l e R s m args below meth c Q nL D cl A B tys ws kc ns pc lv' (st)) : zv_V p l e R s m args below meth c Q nL D cl A B tys ws kc ns pc lv (st) := fun H locs ls hK hP hD hS h => kk H locs ls hK hP hD hS (lv_sub h is hl)
theorem zv_perm (is : List Nat) {ws' : va_W} (hn : va_nd is = true) (hs : is.map (fun i => ws[i]?) = ws'.map some) (kk : zv_V p l e R s m args below meth c Q nL D cl A B tys ws' kc ns pc lv (st)) : zv_V p l e R s m args below meth c Q nL D cl A B tys ws kc ns pc lv (st) := fun H locs ls hK hP hD hS h => kk H locs ls hK (zv_subP hP is hs) (hD.sub is hn hs) hS h
theorem zv_go {pc' kc' ns' : Nat} {lv' : List (Nat × Value)} {st' : List Value} (hp : pc = pc') (hl : lv = lv') (hs : st = st') (hk : kc = kc') (hn : ns = ns') (kk : zv_V p l e R s m args below meth c Q nL D cl A B tys ws kc' ns' pc' lv' (st')) : zv_V p l e R s m args below meth c Q nL D cl A B tys ws kc ns pc lv (st) := by subst hp hl hs hk hn; exact kk
theorem zv_wd {ws' : va_W} (hw : ws = ws') (kk : zv_V p l e R s m args below meth c Q nL D cl A B tys ws' kc ns pc lv (st)) : zv_V p l e R s m args below meth c Q nL D cl A B tys ws kc ns pc lv (st) := by subst hw; exact kk
theorem zv_widen {k' n' : Nat} (h1 : kc ≤ k') (h2 : ns ≤ n') (kk : zv_V p l e R s m args below meth c Q nL D cl A B tys ws k' n' pc lv (st)) : zv_V p l e R s m args below meth c Q nL D cl A B tys ws kc ns pc lv (st) := fun H locs ls hK hP hD hS h => W.widen h1 h2 (kk H locs ls hK hP hD hS h)
theorem zv_tys (is : List Nat) {tys' : List (ClassId × FieldType)} (hs : is.filterMap (fun i => tys[i]?) = tys') (kk : zv_V p l e R s m args below meth c Q nL D cl A B tys' ws kc ns pc lv (st)) : zv_V p l e R s m args below meth c Q nL D cl A B tys ws kc ns pc lv (st) := fun H locs ls hK hP hD hS h => kk H locs ls (hK.sub is hs) hP hD hS h
theorem zv_iret (C : zv_C p m c cc nL s args Ts own A) {x : Int32} (hr : meth.sig.returnType = some .int) (hlk : meth.locks = false) {post : Option Value → va_W → Prop} (hQ : Q = MQ below (zv_q D cl A post) args s kc ns A) (hdg : decode cc pc = .ok (.ireturn, 1)) (hp : post (some (.int x)) ws) : zv_V p l e R s m args below meth c Q nL D cl A A tys ws kc ns pc lv ([.int x]) := by
  subst hQ
  exact fun H locs ls hK hP hD hS h => W.iret C.1.1 C.1.2.1 hr (fun t ht hW => ⟨⟨_, ws, rfl, hp, by rw [ht]; exact hP, hD⟩, hS.F ht⟩) hS.2.2 hdg (hlocks := hlk)
theorem zv_iretR (C : zv_C p m c cc nL s args Ts own A) {x : Int32} (hr : meth.sig.returnType = some .int) (hlk : meth.locks = false) {post : Option Value → Prop} (hA : A = fun q => s.heap.size ≤ q) (hQ : Q = MQ below (zv_r post) args s kc ns A) (hdg : decode cc pc = .ok (.ireturn, 1)) (hp : post (some (.int x))) : zv_V p l e R s m args below meth c Q nL D cl A B tys ws kc ns pc lv ([.int x]) := by
  subst hQ
  exact fun H locs ls hK hP hD hS h => W.iret C.1.1 C.1.2.1 hr (fun t ht hW => ⟨⟨_, rfl, hp⟩, by subst hA; exact hS.F ht⟩) hS.2.2 hdg (hlocks := hlk)
theorem zv_lret (C : zv_C p m c cc nL s args Ts own A) {x : Int64} (hr : meth.sig.returnType = some .long) (hlk : meth.locks = false) {post : Option Value → va_W → Prop} (hQ : Q = MQ below (zv_q D cl A post) args s kc ns A) (hdg : decode cc pc = .ok (.lreturn, 1)) (hp : post (some (.long x)) ws) : zv_V p l e R s m args below meth c Q nL D cl A A tys ws kc ns pc lv ([.long x]) := by
  subst hQ
  exact fun H locs ls hK hP hD hS h => W.lret C.1.1 C.1.2.1 hr (fun t ht hW => ⟨⟨_, ws, rfl, hp, by rw [ht]; exact hP, hD⟩, hS.F ht⟩) hS.2.2 hdg (hlocks := hlk)
theorem zv_lretR (C : zv_C p m c cc nL s args Ts own A) {x : Int64} (hr : meth.sig.returnType = some .long) (hlk : meth.locks = false) {post : Option Value → Prop} (hA : A = fun q => s.heap.size ≤ q) (hQ : Q = MQ below (zv_r post) args s kc ns A) (hdg : decode cc pc = .ok (.lreturn, 1)) (hp : post (some (.long x))) : zv_V p l e R s m args below meth c Q nL D cl A B tys ws kc ns pc lv ([.long x]) := by
  subst hQ
  exact fun H locs ls hK hP hD hS h => W.lret C.1.1 C.1.2.1 hr (fun t ht hW => ⟨⟨_, rfl, hp⟩, by subst hA; exact hS.F ht⟩) hS.2.2 hdg (hlocks := hlk)
theorem zv_dret (C : zv_C p m c cc nL s args Ts own A) {x : UInt64} (hr : meth.sig.returnType = some .double) (hlk : meth.locks = false) {post : Option Value → va_W → Prop} (hQ : Q = MQ below (zv_q D cl A post) args s kc ns A) (hdg : decode cc pc = .ok (.dreturn, 1)) (hp : post (some (.double x)) ws) : zv_V p l e R s m args below meth c Q nL D cl A A tys ws kc ns pc lv ([.double x]) := by
  subst hQ
  exact fun H locs ls hK hP hD hS h => W.dret C.1.1 C.1.2.1 hr (fun t ht hW => ⟨⟨_, ws, rfl, hp, by rw [ht]; exact hP, hD⟩, hS.F ht⟩) hS.2.2 hdg (hlocks := hlk)
theorem zv_dretR (C : zv_C p m c cc nL s args Ts own A) {x : UInt64} (hr : meth.sig.returnType = some .double) (hlk : meth.locks = false) {post : Option Value → Prop} (hA : A = fun q => s.heap.size ≤ q) (hQ : Q = MQ below (zv_r post) args s kc ns A) (hdg : decode cc pc = .ok (.dreturn, 1)) (hp : post (some (.double x))) : zv_V p l e R s m args below meth c Q nL D cl A B tys ws kc ns pc lv ([.double x]) := by
  subst hQ
  exact fun H locs ls hK hP hD hS h => W.dret C.1.1 C.1.2.1 hr (fun t ht hW => ⟨⟨_, rfl, hp⟩, by subst hA; exact hS.F ht⟩) hS.2.2 hdg (hlocks := hlk)
theorem zv_vret (C : zv_C p m c cc nL s args Ts own A)  (hr : meth.sig.returnType = none) (hlk : meth.locks = false) {post : Option Value → va_W → Prop} (hQ : Q = MQ below (zv_q D cl A post) args s kc ns A) (hdg : decode cc pc = .ok (.return_, 1)) (hp : post none ws) : zv_V p l e R s m args below meth c Q nL D cl A A tys ws kc ns pc lv ([]) := by
  subst hQ
  exact fun H locs ls hK hP hD hS h => W.vret C.1.1 C.1.2.1 hr (fun t ht hW => ⟨⟨_, ws, rfl, hp, by rw [ht]; exact hP, hD⟩, hS.F ht⟩) hS.2.2 hdg (hlocks := hlk)
theorem zv_vretR (C : zv_C p m c cc nL s args Ts own A)  (hr : meth.sig.returnType = none) (hlk : meth.locks = false) {post : Option Value → Prop} (hA : A = fun q => s.heap.size ≤ q) (hQ : Q = MQ below (zv_r post) args s kc ns A) (hdg : decode cc pc = .ok (.return_, 1)) (hp : post none) : zv_V p l e R s m args below meth c Q nL D cl A B tys ws kc ns pc lv ([]) := by
  subst hQ
  exact fun H locs ls hK hP hD hS h => W.vret C.1.1 C.1.2.1 hr (fun t ht hW => ⟨⟨_, rfl, hp⟩, by subst hA; exact hS.F ht⟩) hS.2.2 hdg (hlocks := hlk)
theorem zv_zret (C : zv_C p m c cc nL s args Ts own A) {x : Int32} (hn : narrow .boolean (.int x) = .int x) (hr : meth.sig.returnType = some .boolean) (hlk : meth.locks = false) {post : Option Value → va_W → Prop} (hQ : Q = MQ below (zv_q D cl A post) args s kc ns A) (hdg : decode cc pc = .ok (.ireturn, 1)) (hp : post (some (.int x)) ws) : zv_V p l e R s m args below meth c Q nL D cl A A tys ws kc ns pc lv ([.int x]) := by
  subst hQ
  exact fun H locs ls hK hP hD hS h => W.zret C.1.1 C.1.2.1 hr hn (fun t ht hW => ⟨⟨_, ws, rfl, hp, by rw [ht]; exact hP, hD⟩, hS.F ht⟩) hS.2.2 hdg (hlocks := hlk)
theorem zv_zretR (C : zv_C p m c cc nL s args Ts own A) {x : Int32} (hn : narrow .boolean (.int x) = .int x) (hr : meth.sig.returnType = some .boolean) (hlk : meth.locks = false) {post : Option Value → Prop} (hA : A = fun q => s.heap.size ≤ q) (hQ : Q = MQ below (zv_r post) args s kc ns A) (hdg : decode cc pc = .ok (.ireturn, 1)) (hp : post (some (.int x))) : zv_V p l e R s m args below meth c Q nL D cl A B tys ws kc ns pc lv ([.int x]) := by
  subst hQ
  exact fun H locs ls hK hP hD hS h => W.zret C.1.1 C.1.2.1 hr hn (fun t ht hW => ⟨⟨_, rfl, hp⟩, by subst hA; exact hS.F ht⟩) hS.2.2 hdg (hlocks := hlk)
end ZV1
section ZV2
theorem zv_M.of {l : Launch} {y : MethodName} {wy ws' : List Cond} {rm : Room} {D : va_G} {cl : List vw_C} {tys : List (ClassId × FieldType)} {av : List Value} {ws : va_W} {post : Option Value → va_W → Prop} (cc : ByteArray) (nL : Nat) (ret : Option FieldType) (hy : plainName y.cls = true) (hw : wy = Cond.code y cc nL ret :: ws') (hl : (lg_sl av).length ≤ nL)
    (body : ∀ (p : Program) (e : Env) (s : State) (m : MethodId) (args : Array Value) (below : List Frame) (meth : Method) (c : Code) (A : Nat → Prop), zv_C p m c cc nL s args wy y.cls A → meth.sig.returnType = ret → meth.locks = false → meth.name = y.name → ∀ (Q : State → Prop), Q = MQ below (zv_q D cl A post) args s rm.cells rm.slots A → zv_V p l e rm s m args below meth c Q nL D cl A A tys ws 0 0 0 (lv_args 0 av) []) : zv_M l y wy rm D cl tys av ws post := by
  intro sz
  refine Met.ofW (cc := cc) (maxL := nL) (ret := ret) hy hw ?_
  intro p e s m args below meth c s₁ B hml hv
  obtain ⟨rfl, hsz, hP, hK, hD0⟩ := hv
  subst hsz
  have hts := atoms_spec (ws := wy) B.pre
  have hown : s.vm.findClass y.cls = some m.cls := findClass_of_methodNamed B.named
  have hnm : meth.name = y.name := (name_of_methodNamed B.named B.method).1
  have hA : ∀ q : Nat, s.heap.size ≤ q → va_A ws s.heap.size q := fun q h => Or.inr h
  have hb := body p e s m av.toArray below meth c (va_A ws s.heap.size) ⟨⟨B.exec, B.bytes, hml, hown, hts⟩, hA⟩ B.returns B.notSynchronized hnm _ rfl
  have hl1 := lv_entry av (n := nL) hl
  rw [lg_entry_eq]
  exact hb s.heap [] _ hK hP hD0.self va_S.rf hl1
theorem zv_R.of {l : Launch} {y : MethodName} {wy ws' : List Cond} {rm : Room} {D : va_G} {cl : List vw_C} {tys : List (ClassId × FieldType)} {av : List Value} {ws : va_W} {post : Option Value → Prop} (cc : ByteArray) (nL : Nat) (ret : Option FieldType) (hy : plainName y.cls = true) (hw : wy = Cond.code y cc nL ret :: ws') (hl : (lg_sl av).length ≤ nL)
    (body : ∀ (p : Program) (e : Env) (s : State) (m : MethodId) (args : Array Value) (below : List Frame) (meth : Method) (c : Code) (A : Nat → Prop), zv_C p m c cc nL s args wy y.cls A → meth.sig.returnType = ret → meth.locks = false → A = (fun q => s.heap.size ≤ q) → ∀ (Q : State → Prop), Q = MQ below (zv_r post) args s rm.cells rm.slots A → zv_V p l e rm s m args below meth c Q nL D cl A (fun _ => True) tys ws 0 0 0 (lv_args 0 av) []) : zv_R l y wy rm D cl tys av ws post := by
  intro sz
  refine Met.ofW (cc := cc) (maxL := nL) (ret := ret) hy hw ?_
  intro p e s m args below meth c s₁ B hml hv
  obtain ⟨rfl, hsz, hP, hK, hD0⟩ := hv
  subst hsz
  have hts := atoms_spec (ws := wy) B.pre
  have hown : s.vm.findClass y.cls = some m.cls := findClass_of_methodNamed B.named
  have hb := body p e s m av.toArray below meth c (fun q => s.heap.size ≤ q) ⟨⟨B.exec, B.bytes, hml, hown, hts⟩, fun q h => h⟩ B.returns B.notSynchronized rfl _ rfl
  have hl1 := lv_entry av (n := nL) hl
  rw [lg_entry_eq]
  exact hb s.heap [] _ hK hP hD0 va_S.rf hl1
end ZV2
section ZV3
variable {p : Program} {l : Launch} {e : Env} {R : Room} {s : State} {m : MethodId} {args : Array Value} {below : List Frame} {meth : Method} {c : Code} {Q : State → Prop} {cc : ByteArray} {nL : Nat} {own : String} {Ts : List Cond} {A B : Nat → Prop} {D : va_G} {cl : List vw_C} {tys : List (ClassId × FieldType)} {ws : va_W} {kc ns pc n : Nat} {lv : List (Nat × Value)} {st : List Value}
theorem zv_callV (C : zv_C p m c cc nL s args Ts own A) {y : MethodName} {wy : List Cond} {rm : Room} {index maxL nA : Nat} {bytes : ByteArray} {ret : Option FieldType} {C0 : String} {b : Addr} {As rest : List Value} {wc wr : va_W} {tyc : List (ClassId × FieldType)} {post : Option Value → va_W → Prop} (hM : zv_M l y wy rm D cl tyc (.ref b :: As) wc post) (cw : CallW R s args own C0 index y bytes maxL ret wy rm rm.cells rm.slots nA) (hdg : decode cc pc = .ok (.invokevirtual index, 3)) (n : Nat) (hn : pc + 3 = n) {ci : Nat} {TN : u_T × Nat} {fs : List Value} (q0 : Nat) (hci : cl[ci]? = some (C0, TN)) (hq0 : wc[q0]? = some (b, .inr (ci, fs))) (hst : st = As.reverse ++ .ref b :: rest) (hnA : As.length = nA) (hroom : (rest.map fun v => v.category).sum ≤ 8) (hcs : kc + rm.cells ≤ R.cells ∧ ns + rm.slots ≤ R.slots) (isT : List Nat) (hT : isT.filterMap (fun i => tys[i]?) = tyc) (isC : List Nat) (hC : isC.map (fun i => ws[i]?) = wc.map some) (hnC : va_nd isC = true) (isR : List Nat) (hRr : isR.map (fun i => ws[i]?) = wr.map some) (hnR : va_nd isR = true) (hdis : ∀ i ∈ isR, i ∉ isC) (kk : ∀ (v : Option Value) (w : va_W), post v w → zv_V p l e R s m args below meth c Q nL D cl A A tys (wr ++ w) (kc + rm.cells) (ns + rm.slots) n lv (v.toList ++ rest)) : zv_V p l e R s m args below meth c Q nL D cl A A tys ws kc ns pc lv (st) := by
  subst hn; subst hst
  intro H locs ls hK hP hD hS h
  have hPc := zv_subP hP isC hC
  have hDc := hD.sub isC hnC hC
  have hKc := hK.sub isT hT
  have hFc := va_free hD hS C.2 isC hC
  have hr := va_runV (l := l) (e := e) (below := below) (meth := meth) (locs := locs) (g := F0 m pc ls (As.reverse ++ .ref b :: rest)) (As := As) (rest := rest) (b := b) C.1 (hM H.size) cw ⟨zv_blind D cl tyc wc H.size _, va_recv hKc hPc hci hq0, fun U hU hW => ⟨rfl, by rw [hU], by rw [hU]; exact hPc, va_K.moved hW.alike hKc, hDc.weaken (fun _ _ _ _ => trivial)⟩⟩ rfl hnA h.1 rfl (lv_room hroom) hdg hcs
  intro T hT X
  obtain ⟨v, st₀, t, T', L, h0, X', hL, e1, e2, ⟨⟨v', w, hv, hpo, hP1, hD1⟩, hz, hk⟩, stp⟩ := hr T hT X
  cases hv
  rw [h0] at hz hk
  have hz1 : H.size ≤ T'.heap.size := by rw [e1]; exact hz
  obtain ⟨hPj, hDj⟩ := va_join (H1 := T'.heap) hP hD isC isR hC hRr hnR hdis (fun q h1 h2 => by rw [e1]; exact hk q h1 h2) hFc (by rw [e1]; exact hP1) hD1
  obtain ⟨t2, a1, b1⟩ := kk v w hpo T'.heap (locs ++ L) ls hK hPj hDj ⟨Nat.le_trans hS.1 hz1, fun q h1 h2 => by rw [e1, hk q (Nat.lt_of_lt_of_le h1 hS.1) (fun z => h2 (hFc q z))]; exact hS.2.1 q h1 h2, fun q hq => by
    rcases List.mem_append.mp hq with h | h
    · exact hS.2.2 q h
    · exact hFc _ (hL q h)⟩ h T' rfl X'
  exact ⟨t2, stp t2 a1, b1⟩
theorem zv_callVR (C : zv_C p m c cc nL s args Ts own A) {y : MethodName} {wy : List Cond} {rm : Room} {index maxL nA : Nat} {bytes : ByteArray} {ret : Option FieldType} {C0 : String} {b : Addr} {As rest : List Value} {wc : va_W} {tyc : List (ClassId × FieldType)} {post : Option Value → Prop} (hM : zv_R l y wy rm D cl tyc (.ref b :: As) wc post) (cw : CallW R s args own C0 index y bytes maxL ret wy rm rm.cells rm.slots nA) (hdg : decode cc pc = .ok (.invokevirtual index, 3)) (n : Nat) (hn : pc + 3 = n) {ci : Nat} {TN : u_T × Nat} {fs : List Value} (q0 : Nat) (hci : cl[ci]? = some (C0, TN)) (hq0 : wc[q0]? = some (b, .inr (ci, fs))) (hst : st = As.reverse ++ .ref b :: rest) (hnA : As.length = nA) (hroom : (rest.map fun v => v.category).sum ≤ 8) (hcs : kc + rm.cells ≤ R.cells ∧ ns + rm.slots ≤ R.slots) (isT : List Nat) (hT : isT.filterMap (fun i => tys[i]?) = tyc) (isC : List Nat) (hC : isC.map (fun i => ws[i]?) = wc.map some) (hnC : va_nd isC = true) (kk : ∀ v : Option Value, post v → zv_V p l e R s m args below meth c Q nL D cl A B tys ws (kc + rm.cells) (ns + rm.slots) n lv (v.toList ++ rest)) : zv_V p l e R s m args below meth c Q nL D cl A B tys ws kc ns pc lv (st) := by
  subst hn; subst hst
  intro H locs ls hK hP hD hS h
  have hPc := zv_subP hP isC hC
  have hDc := hD.sub isC hnC hC
  have hKc := hK.sub isT hT
  have hr := va_runV (l := l) (e := e) (below := below) (meth := meth) (locs := locs) (g := F0 m pc ls (As.reverse ++ .ref b :: rest)) (As := As) (rest := rest) (b := b) C.1 (hM H.size) cw ⟨zv_blind D cl tyc wc H.size _, va_recv hKc hPc hci hq0, fun U hU hW => ⟨rfl, by rw [hU], by rw [hU]; exact hPc, va_K.moved hW.alike hKc, hDc.weaken (fun _ _ _ _ => trivial)⟩⟩ rfl hnA h.1 rfl (lv_room hroom) hdg hcs
  intro T hT X
  obtain ⟨v, st₀, t, T', L, h0, X', hL, e1, e2, ⟨⟨v', hv, hpo⟩, hz, hk⟩, stp⟩ := hr T hT X
  cases hv
  rw [h0] at hz hk
  have hz1 : H.size ≤ T'.heap.size := by rw [e1]; exact hz
  have hk1 : ∀ q, q < H.size → T'.heap[q]? = H[q]? := fun q h1 => by rw [e1]; exact hk q h1 (Nat.not_le.mpr h1)
  obtain ⟨t2, a1, b1⟩ := kk v hpo T'.heap (locs ++ L) ls hK (hP.kept (fun k q hq => hk1 q.1 (hP k q hq).lt)) hD ⟨Nat.le_trans hS.1 hz1, fun q h1 h2 => (hk1 q (Nat.lt_of_lt_of_le h1 hS.1)).trans (hS.2.1 q h1 h2), fun q hq => by
    rcases List.mem_append.mp hq with h | h
    · exact hS.2.2 q h
    · exact C.2 _ (Nat.le_trans hS.1 (hL q h))⟩ h T' rfl X'
  exact ⟨t2, stp t2 a1, b1⟩
theorem zv_callS (C : zv_C p m c cc nL s args Ts own A) {y : MethodName} {wy : List Cond} {rm : Room} {index maxL nA : Nat} {bytes : ByteArray} {ret : Option FieldType} {As rest : List Value} {wc wr : va_W} {tyc : List (ClassId × FieldType)} {post : Option Value → va_W → Prop} (hM : zv_M l y wy rm D cl tyc (As) wc post) (cw : (CallB R s args own index y bytes maxL ret wy rm rm.cells rm.slots nA ∧ (Cond.static y).before args s = true)) (hdg : decode cc pc = .ok (.invokestatic index, 3)) (n : Nat) (hn : pc + 3 = n) (hst : st = As.reverse ++ rest) (hnA : As.length = nA) (hroom : (rest.map fun v => v.category).sum ≤ 8) (hcs : kc + rm.cells ≤ R.cells ∧ ns + rm.slots ≤ R.slots) (isT : List Nat) (hT : isT.filterMap (fun i => tys[i]?) = tyc) (isC : List Nat) (hC : isC.map (fun i => ws[i]?) = wc.map some) (hnC : va_nd isC = true) (isR : List Nat) (hRr : isR.map (fun i => ws[i]?) = wr.map some) (hnR : va_nd isR = true) (hdis : ∀ i ∈ isR, i ∉ isC) (kk : ∀ (v : Option Value) (w : va_W), post v w → zv_V p l e R s m args below meth c Q nL D cl A A tys (wr ++ w) (kc + rm.cells) (ns + rm.slots) n lv (v.toList ++ rest)) : zv_V p l e R s m args below meth c Q nL D cl A A tys ws kc ns pc lv (st) := by
  subst hn; subst hst
  intro H locs ls hK hP hD hS h
  have hPc := zv_subP hP isC hC
  have hDc := hD.sub isC hnC hC
  have hKc := hK.sub isT hT
  have hFc := va_free hD hS C.2 isC hC
  have hr := va_runS (l := l) (e := e) (below := below) (meth := meth) (locs := locs) (g := F0 m pc ls (As.reverse ++ rest)) (As := As) (rest := rest) C.1 (hM H.size) cw ⟨zv_blind D cl tyc wc H.size _, fun U hU hW => ⟨rfl, by rw [hU], by rw [hU]; exact hPc, va_K.moved hW.alike hKc, hDc.weaken (fun _ _ _ _ => trivial)⟩⟩ rfl hnA h.1 rfl (lv_room hroom) hdg hcs
  intro T hT X
  obtain ⟨v, st₀, t, T', L, h0, X', hL, e1, e2, ⟨⟨v', w, hv, hpo, hP1, hD1⟩, hz, hk⟩, stp⟩ := hr T hT X
  cases hv
  rw [h0] at hz hk
  have hz1 : H.size ≤ T'.heap.size := by rw [e1]; exact hz
  obtain ⟨hPj, hDj⟩ := va_join (H1 := T'.heap) hP hD isC isR hC hRr hnR hdis (fun q h1 h2 => by rw [e1]; exact hk q h1 h2) hFc (by rw [e1]; exact hP1) hD1
  obtain ⟨t2, a1, b1⟩ := kk v w hpo T'.heap (locs ++ L) ls hK hPj hDj ⟨Nat.le_trans hS.1 hz1, fun q h1 h2 => by rw [e1, hk q (Nat.lt_of_lt_of_le h1 hS.1) (fun z => h2 (hFc q z))]; exact hS.2.1 q h1 h2, fun q hq => by
    rcases List.mem_append.mp hq with h | h
    · exact hS.2.2 q h
    · exact hFc _ (hL q h)⟩ h T' rfl X'
  exact ⟨t2, stp t2 a1, b1⟩
theorem zv_callSR (C : zv_C p m c cc nL s args Ts own A) {y : MethodName} {wy : List Cond} {rm : Room} {index maxL nA : Nat} {bytes : ByteArray} {ret : Option FieldType} {As rest : List Value} {wc : va_W} {tyc : List (ClassId × FieldType)} {post : Option Value → Prop} (hM : zv_R l y wy rm D cl tyc (As) wc post) (cw : (CallB R s args own index y bytes maxL ret wy rm rm.cells rm.slots nA ∧ (Cond.static y).before args s = true)) (hdg : decode cc pc = .ok (.invokestatic index, 3)) (n : Nat) (hn : pc + 3 = n) (hst : st = As.reverse ++ rest) (hnA : As.length = nA) (hroom : (rest.map fun v => v.category).sum ≤ 8) (hcs : kc + rm.cells ≤ R.cells ∧ ns + rm.slots ≤ R.slots) (isT : List Nat) (hT : isT.filterMap (fun i => tys[i]?) = tyc) (isC : List Nat) (hC : isC.map (fun i => ws[i]?) = wc.map some) (hnC : va_nd isC = true) (kk : ∀ v : Option Value, post v → zv_V p l e R s m args below meth c Q nL D cl A B tys ws (kc + rm.cells) (ns + rm.slots) n lv (v.toList ++ rest)) : zv_V p l e R s m args below meth c Q nL D cl A B tys ws kc ns pc lv (st) := by
  subst hn; subst hst
  intro H locs ls hK hP hD hS h
  have hPc := zv_subP hP isC hC
  have hDc := hD.sub isC hnC hC
  have hKc := hK.sub isT hT
  have hr := va_runS (l := l) (e := e) (below := below) (meth := meth) (locs := locs) (g := F0 m pc ls (As.reverse ++ rest)) (As := As) (rest := rest) C.1 (hM H.size) cw ⟨zv_blind D cl tyc wc H.size _, fun U hU hW => ⟨rfl, by rw [hU], by rw [hU]; exact hPc, va_K.moved hW.alike hKc, hDc.weaken (fun _ _ _ _ => trivial)⟩⟩ rfl hnA h.1 rfl (lv_room hroom) hdg hcs
  intro T hT X
  obtain ⟨v, st₀, t, T', L, h0, X', hL, e1, e2, ⟨⟨v', hv, hpo⟩, hz, hk⟩, stp⟩ := hr T hT X
  cases hv
  rw [h0] at hz hk
  have hz1 : H.size ≤ T'.heap.size := by rw [e1]; exact hz
  have hk1 : ∀ q, q < H.size → T'.heap[q]? = H[q]? := fun q h1 => by rw [e1]; exact hk q h1 (Nat.not_le.mpr h1)
  obtain ⟨t2, a1, b1⟩ := kk v hpo T'.heap (locs ++ L) ls hK (hP.kept (fun k q hq => hk1 q.1 (hP k q hq).lt)) hD ⟨Nat.le_trans hS.1 hz1, fun q h1 h2 => (hk1 q (Nat.lt_of_lt_of_le h1 hS.1)).trans (hS.2.1 q h1 h2), fun q hq => by
    rcases List.mem_append.mp hq with h | h
    · exact hS.2.2 q h
    · exact C.2 _ (Nat.le_trans hS.1 (hL q h))⟩ h T' rfl X'
  exact ⟨t2, stp t2 a1, b1⟩
theorem zv_callI (C : zv_C p m c cc nL s args Ts own A) {y : MethodName} {wy : List Cond} {rm : Room} {index maxL nA : Nat} {bytes : ByteArray} {b : Addr} {As rest : List Value} {wc wr : va_W} {tyc : List (ClassId × FieldType)} {post : Option Value → va_W → Prop} (hM : zv_M l y wy rm D cl tyc (.ref b :: As) wc post) (cw : (CallB R s args own index y bytes maxL none wy rm rm.cells rm.slots nA ∧ y.name = "<init>" ∧ (Cond.instanceMethod y).before args s = true)) (hdg : decode cc pc = .ok (.invokespecial index, 3)) (n : Nat) (hn : pc + 3 = n) (hst : st = As.reverse ++ .ref b :: rest) (hnA : As.length = nA) (hroom : (rest.map fun v => v.category).sum ≤ 8) (hcs : kc + rm.cells ≤ R.cells ∧ ns + rm.slots ≤ R.slots) (isT : List Nat) (hT : isT.filterMap (fun i => tys[i]?) = tyc) (isC : List Nat) (hC : isC.map (fun i => ws[i]?) = wc.map some) (hnC : va_nd isC = true) (isR : List Nat) (hRr : isR.map (fun i => ws[i]?) = wr.map some) (hnR : va_nd isR = true) (hdis : ∀ i ∈ isR, i ∉ isC) (kk : ∀ (v : Option Value) (w : va_W), post v w → zv_V p l e R s m args below meth c Q nL D cl A A tys (wr ++ w) (kc + rm.cells) (ns + rm.slots) n lv (v.toList ++ rest)) : zv_V p l e R s m args below meth c Q nL D cl A A tys ws kc ns pc lv (st) := by
  subst hn; subst hst
  intro H locs ls hK hP hD hS h
  have hPc := zv_subP hP isC hC
  have hDc := hD.sub isC hnC hC
  have hKc := hK.sub isT hT
  have hFc := va_free hD hS C.2 isC hC
  have hr := va_runI (l := l) (e := e) (below := below) (meth := meth) (locs := locs) (g := F0 m pc ls (As.reverse ++ .ref b :: rest)) (As := As) (rest := rest) (b := b) C.1 (hM H.size) cw ⟨zv_blind D cl tyc wc H.size _, fun U hU hW => ⟨rfl, by rw [hU], by rw [hU]; exact hPc, va_K.moved hW.alike hKc, hDc.weaken (fun _ _ _ _ => trivial)⟩⟩ rfl hnA h.1 rfl (lv_room hroom) hdg hcs
  intro T hT X
  obtain ⟨v, st₀, t, T', L, h0, X', hL, e1, e2, ⟨⟨v', w, hv, hpo, hP1, hD1⟩, hz, hk⟩, stp⟩ := hr T hT X
  cases hv
  rw [h0] at hz hk
  have hz1 : H.size ≤ T'.heap.size := by rw [e1]; exact hz
  obtain ⟨hPj, hDj⟩ := va_join (H1 := T'.heap) hP hD isC isR hC hRr hnR hdis (fun q h1 h2 => by rw [e1]; exact hk q h1 h2) hFc (by rw [e1]; exact hP1) hD1
  obtain ⟨t2, a1, b1⟩ := kk v w hpo T'.heap (locs ++ L) ls hK hPj hDj ⟨Nat.le_trans hS.1 hz1, fun q h1 h2 => by rw [e1, hk q (Nat.lt_of_lt_of_le h1 hS.1) (fun z => h2 (hFc q z))]; exact hS.2.1 q h1 h2, fun q hq => by
    rcases List.mem_append.mp hq with h | h
    · exact hS.2.2 q h
    · exact hFc _ (hL q h)⟩ h T' rfl X'
  exact ⟨t2, stp t2 a1, b1⟩
theorem zv_mmax (C : zv_C p m c cc nL s args Ts own A) {index : Nat} {x y : Int32} (hdg : decode cc pc = .ok (.invokestatic index, 3)) (n : Nat) (hn : pc + 3 = n) (hlink : Cond.methodLink own index Lib.Math.max.name ∈ Ts) (hstat : Cond.static Lib.Math.max.name ∈ Ts) (hini : Cond.initialized "java/lang/Math" ∈ Ts) (hcode : Cond.code Lib.Math.max.name Lib.Math.max.code 2 (some .int) ∈ Ts) (hfr : 1 ≤ R.frames) (hlo : (st.map fun v => v.category).sum + 13 ≤ R.locals) (hc : kc ≤ R.cells) (hs : ns ≤ R.slots) (kk : zv_V p l e R s m args below meth c Q nL D cl A B tys ws kc ns n lv (.int (if x < y then y else x) :: st)) : zv_V p l e R s m args below meth c Q nL D cl A B tys ws kc ns pc lv (.int y :: .int x :: st) := by
  subst hn
  exact fun H locs ls hK hP hD hS h => va_mmax C.1.1 C.1.2.1 (C.1.2.2.1.trans h.1.symm) C.1.2.2.2.1 (C.1.2.2.2.2 _ hlink) (C.1.2.2.2.2 _ hstat) (C.1.2.2.2.2 _ hini) (C.1.2.2.2.2 _ hcode) hfr hlo hc hs hdg (kk H locs ls hK hP hD hS h)
theorem zv_mmin (C : zv_C p m c cc nL s args Ts own A) {index : Nat} {x y : Int32} (hdg : decode cc pc = .ok (.invokestatic index, 3)) (n : Nat) (hn : pc + 3 = n) (hlink : Cond.methodLink own index Lib.Math.min.name ∈ Ts) (hstat : Cond.static Lib.Math.min.name ∈ Ts) (hini : Cond.initialized "java/lang/Math" ∈ Ts) (hcode : Cond.code Lib.Math.min.name Lib.Math.min.code 2 (some .int) ∈ Ts) (hfr : 1 ≤ R.frames) (hlo : (st.map fun v => v.category).sum + 13 ≤ R.locals) (hc : kc ≤ R.cells) (hs : ns ≤ R.slots) (kk : zv_V p l e R s m args below meth c Q nL D cl A B tys ws kc ns n lv (.int (if y < x then y else x) :: st)) : zv_V p l e R s m args below meth c Q nL D cl A B tys ws kc ns pc lv (.int y :: .int x :: st) := by
  subst hn
  exact fun H locs ls hK hP hD hS h => va_mmin C.1.1 C.1.2.1 (C.1.2.2.1.trans h.1.symm) C.1.2.2.2.1 (C.1.2.2.2.2 _ hlink) (C.1.2.2.2.2 _ hstat) (C.1.2.2.2.2 _ hini) (C.1.2.2.2.2 _ hcode) hfr hlo hc hs hdg (kk H locs ls hK hP hD hS h)
end ZV3
