/-! ===== rows for new arrays, arrays of arrays, and stores into what is new ===== -/
theorem zn_arr {c : ClassId} {N : Nat} {f g : Nat → Value} (h : ∀ j, j < N → f j = g j) : arrV c N f = arrV c N g := by
  have e : (fun j : Fin N => f j.val) = fun j : Fin N => g j.val := funext (fun j => h _ j.isLt)
  unfold arrV
  rw [e]
abbrev aq (f : Nat → Nat) : (Nat → Int32) ⊕ (Nat → Int64) ⊕ (Nat → UInt32) ⊕ (Nat → UInt64) ⊕ (Nat → Option Nat) := .inr (.inr (.inr (.inr (fun i => some (f i)))))
abbrev tyS (cI cZ cA : ClassId) : List (ClassId × FieldType) := [(cI, .int), (cZ, .boolean), (cA, .array .int)]
theorem zn_ra {U : State} {c1 c2 : ClassId} {t : FieldType} (h1 : va_RA U c1 (.array t)) (h2 : va_RA U c2 (.array t)) : c1 = c2 := Option.some.inj ((Eq.symm h1).trans h2)
theorem zn_asg (vm : Vm) (c : ClassId) : vm.assignable c c = true := by
  show vm.assignableAux (255 + 1) c c = true
  rw [Vm.assignableAux]
  simp
def va_AOA (t : FieldType) (U : State) : Prop := (Cond.arrayOver (.array t)).before #[] U = true
theorem zn_OB : zn_B (va_AOA .int) := fun _ _ _ _ h => h
theorem zn_OW {s U : State} (hW : s.WarmedH U.vm) (h : va_AOA .int s) : va_AOA .int U := by
  have h1 := Cond.arrayOver_setVmC (args := #[]) hW.alike (.array .int)
  unfold va_AOA at h ⊢
  rw [h] at h1
  exact h1
theorem zn_OE {A : Nat → Prop} {s : State} (h : va_AOA .int s) : zn_E A s (va_AOA .int) := fun _ _ _ _ _ hW => zn_OW hW h
theorem zn_TB : zn_B (fun _ => True) := fun _ _ _ _ _ => trivial
theorem zn_TE {A : Nat → Prop} {s : State} : zn_E A s (fun _ => True) := fun _ _ _ _ _ _ => trivial
section ZNR
variable {p : Program} {l : Launch} {e : Env} {R : Room} {s : State} {m : MethodId} {args : Array Value} {below : List Frame} {meth : Method} {c : Code} {Q : State → Prop} {cc : ByteArray} {nL : Nat} {own : String} {Ts : List Cond} {A B : Nat → Prop} {D : va_G} {cl : List vw_C} {tys : List (ClassId × FieldType)} {ws : va_W} {kc ns pc n : Nat} {lv : List (Nat × Value)} {st : List Value}
theorem zn_wP {ws' : va_W} (h1 : ∀ H, va_P D cl ws H → va_P D cl ws' H) (h2 : va_D B ws → va_D B ws') (kk : zv_V p l e R s m args below meth c Q nL D cl A B tys ws' kc ns pc lv st) : zv_V p l e R s m args below meth c Q nL D cl A B tys ws kc ns pc lv st := fun H locs ls hK hP hD hS h => kk H locs ls hK (h1 H hP) (h2 hD) hS h
theorem zn_perm {ws' : va_W} (hs : ws.Perm ws') (kk : zv_V p l e R s m args below meth c Q nL D cl A B tys ws' kc ns pc lv st) : zv_V p l e R s m args below meth c Q nL D cl A B tys ws kc ns pc lv st := zn_wP (fun _ h => zn_Pperm h hs) (fun h => zn_Dperm h hs) kk
theorem zn_part {ws' : va_W} (hs : ws'.Sublist ws) (kk : zv_V p l e R s m args below meth c Q nL D cl A B tys ws' kc ns pc lv st) : zv_V p l e R s m args below meth c Q nL D cl A B tys ws kc ns pc lv st := zn_wP (fun _ h => zn_Psub h hs) (fun h => zn_Dsub h hs) kk
theorem zn_push {D : va_G} {cl : List vw_C} {B : Nat → Prop} {ws : va_W} {ev : va_E} {H H1 : Heap} (hP : va_P D cl ws H) (hD : va_D B ws) (hB : B H.size) (o1 : ∀ q : Nat, q < H.size → H1[q]? = H[q]?) (he : va_at D cl (H.size, ev) H1) : va_P D cl ((H.size, ev) :: ws) H1 ∧ va_D B ((H.size, ev) :: ws) := by
  have h2 := zn_D.mp hD
  refine ⟨zn_P.mpr (fun q hq => ?_), zn_D.mpr ⟨List.pairwise_cons.mpr ⟨fun q hq e => ?_, h2.1⟩, fun q hq => ?_⟩⟩
  · rcases List.mem_cons.mp hq with z | z
    · subst z; exact he
    · exact (zn_P.mp hP q z).kept (o1 q.1 (zn_ad hP z))
  · have := zn_ad hP hq
    have e2 : H.size = q.1 := e
    omega
  · rcases List.mem_cons.mp hq with z | z
    · subst z; exact hB
    · exact h2.2 q z
theorem zn_newa (C : zv_C p m c cc nL s args Ts own A) (hB : ∀ q, s.heap.size ≤ q → B q) {atype : ArrayType} (harr : Cond.arrayClass (newarray.typeOf atype) ∈ Ts) {ty : FieldType} (hty : newarray.typeOf atype = ty) (hdg : decode cc pc = .ok (.newarray atype, 2)) (n : Nat) (hn : pc + 2 = n) {x : Int32} {N' : Nat} {a0 : vp_A} (ha : ∀ cA : ClassId, vp_cell cA a0 = arrV cA N' (fun _ => defaultValue ty)) (t0 : Nat) {cA : ClassId} (ht : tys[t0]? = some (cA, ty)) (hra : ∀ {U : State} {c1 : ClassId}, va_RA U c1 ty → U.vm.findClass ("[" ++ ty.toString) = some c1) (hx : ¬ x < 0) (hN : x.toNatClampNeg = N') (hbytes : N' * componentBytes ty ≤ 536870912) (hcells : kc + 1 ≤ R.cells) (hslots : ns + N' ≤ R.slots) (kk : ∀ q : Nat, s.heap.size ≤ q → zv_V p l e R s m args below meth c Q nL D cl A B tys ((q, .inl (cA, a0)) :: ws) (kc + 1) (ns + N') n lv (.ref q :: st)) : zv_V p l e R s m args below meth c Q nL D cl A B tys ws kc ns pc lv (.int x :: st) := by
  subst hn; subst hty
  intro H locs ls hK hP hD hS h
  refine va_newaK C.1.1 C.1.2.1 (C.1.2.2.2.2 _ harr) rfl hdg rfl hx hN hbytes hcells hslots rfl fun H1 cA2 e1 z1 o1 hAr hNm => ?_
  have he : cA2 = cA := Option.some.inj (hNm.symm.trans (hra (hK.2 t0 _ ht).2))
  subst he
  obtain ⟨hP1, hD1⟩ := zn_push (ev := .inl (cA2, a0)) (H1 := H1) hP hD (hB _ hS.1) o1 (by show H1[H.size]? = some (vp_cell _ _); rw [ha]; exact e1)
  exact kk H.size hS.1 H1 locs ls hK hP1 hD1 ⟨Nat.le_trans hS.1 (by omega), fun x h1 h2 => (o1 x (Nat.lt_of_lt_of_le h1 hS.1)).trans (hS.2.1 x h1 h2), hS.2.2⟩ h
theorem zn_anew (C : zv_C p m c cc nL s args Ts own A) (hB : ∀ q, s.heap.size ≤ q → B q) (hO : va_AOA .int s) {index : Nat} (hcl : Cond.classLink own index "[I" ∈ Ts) (hdg : decode cc pc = .ok (.anewarray index, 3)) (n : Nat) (hn : pc + 3 = n) {x : Int32} {N' : Nat} (t0 : Nat) {cA : ClassId} (ht : tys[t0]? = some (cA, .array .int)) (hx : ¬ x < 0) (hN : x.toNatClampNeg = N') (hbytes : N' * 4 ≤ 536870912) (hcells : kc + 1 ≤ R.cells) (hslots : ns + N' ≤ R.slots) (kk : ∀ q : Nat, s.heap.size ≤ q → zv_V p l e R s m args below meth c Q nL D cl A B tys ((q, .inl (cA, N', .inr (.inr (.inr (.inr (fun _ => none)))))) :: ws) (kc + 1) (ns + N') n lv (.ref q :: st)) : zv_V p l e R s m args below meth c Q nL D cl A B tys ws kc ns pc lv (.int x :: st) := by
  subst hn; subst hN
  intro H locs ls hK hP hD hS h
  refine W.anewA (t := .int) C.1.1 C.1.2.1 C.1.2.2.2.1 (C.1.2.2.2.2 _ hcl) hO rfl hdg rfl hx hbytes hcells hslots fun cA2 kA comp f1 f2 f3 f4 => ?_
  have he : cA2 = cA := Option.some.inj (f1.symm.trans (hK.2 t0 _ ht).2)
  subst he
  generalize hH1 : H.push ({ cls := cA2, slots := Array.replicate x.toNatClampNeg .null, vm := .none } : Cell) = H1
  have z1 : H1.size = H.size + 1 := by rw [← hH1, Array.size_push]
  have e1 : H1[H.size]? = some (arrV cA2 x.toNatClampNeg (fun _ => .null)) := by rw [← hH1, Array.getElem?_push_size, ← arrV_new]
  have o1 : ∀ q : Nat, q < H.size → H1[q]? = H[q]? := fun q hq => by rw [← hH1, Array.getElem?_push, if_neg (Nat.ne_of_lt hq)]
  obtain ⟨hP1, hD1⟩ := zn_push (ev := .inl (cA2, x.toNatClampNeg, .inr (.inr (.inr (.inr (fun _ => none)))))) (H1 := H1) hP hD (hB _ hS.1) o1 (by show H1[H.size]? = some (vp_cell _ _); rw [vp_cell_q]; exact e1)
  exact kk H.size hS.1 H1 locs ls hK hP1 hD1 ⟨Nat.le_trans hS.1 (by omega), fun x h1 h2 => (o1 x (Nat.lt_of_lt_of_le h1 hS.1)).trans (hS.2.1 x h1 h2), hS.2.2⟩ h
theorem zq_cell (c : ClassId) (h : Nat) : zq_o c h 3 = vp_cell c (3, aq (fun i => h + 1 + i)) := by
  rw [vp_cell_q]
  show (((({ cls := c, slots := Array.replicate 3 .null, vm := .none } : Cell).setSlot 0 (.ref (h + 1 + 0))).setSlot 1 (.ref (h + 1 + 1))).setSlot 2 (.ref (h + 1 + 2))) = _
  rw [arrV_new, arrV_store, arrV_store, arrV_store]
  refine zn_arr (fun j hj => ?_)
  have h3 : j = 0 ∨ j = 1 ∨ j = 2 := by omega
  rcases h3 with z | z | z <;> subst z <;> rfl
theorem zn_mna (C : zv_C p m c cc nL s args Ts own A) (hB : ∀ q, s.heap.size ≤ q → B q) (hO : va_AOA .int s) {index : Nat} (hcl : Cond.classLink own index "[[I" ∈ Ts) (harr : Cond.arrayClass .int ∈ Ts) (hdg : decode cc pc = .ok (.multianewarray index 2, 4)) (n : Nat) (hn : pc + 4 = n) {N' : Nat} (hN : N' ≤ 16) (t0 t1 : Nat) {cA cI : ClassId} (ht : tys[t0]? = some (cA, .array .int)) (hti : tys[t1]? = some (cI, .int)) (hcells : kc + 4 ≤ R.cells) (hslots : ns + (3 + 3 * N') ≤ R.slots) (kk : ∀ (q : Nat), s.heap.size ≤ q → zv_V p l e R s m args below meth c Q nL D cl A B tys ((q, .inl (cA, 3, aq (fun i => q + 1 + i))) :: (q + 1, .inl (cI, N', .inl (fun _ => 0))) :: (q + 2, .inl (cI, N', .inl (fun _ => 0))) :: (q + 3, .inl (cI, N', .inl (fun _ => 0))) :: ws) (kc + 4) (ns + (3 + 3 * N')) n lv (.ref q :: st)) : zv_V p l e R s m args below meth c Q nL D cl A B tys ws kc ns pc lv (.int (nI N') :: .int 3 :: st) := by
  subst hn
  intro H locs ls hK hP hD hS h T hT X
  have hc : (nI N').toNatClampNeg = N' := nI_clamp (by omega)
  obtain ⟨vm₁, cA2, comp, f1, f2, X', stp⟩ := zq_step X C.1.1 C.1.2.2.2.1 (C.1.2.2.2.2 _ hcl) hO (C.1.2.2.2.2 _ harr) (g := F0 m pc ls (.int (nI N') :: .int 3 :: st)) rfl (by rw [C.1.2.1]; exact hdg) rfl (nI_nneg (by omega)) (by omega) hcells (by rw [hc]; exact hslots)
  rw [hc] at X' stp
  have e1 : cA2 = cA := Option.some.inj (f1.symm.trans (hK.2 t0 _ ht).2)
  have e2 : comp = cI := Option.some.inj (f2.symm.trans (hK.2 t1 _ hti).2)
  subst e1; subst e2
  have hTh : (T.setVm vm₁).heap = H := hT
  generalize hF : zq_s (T.setVm vm₁) cA2 comp N' 3 = F at X' stp
  obtain ⟨z1, z2, -, -⟩ := zq_sE (T.setVm vm₁) cA2 comp N' 3
  have hold : ∀ q : Nat, q < H.size → F.heap[q]? = H[q]? := fun q hq => by
    have := zq_old (T.setVm vm₁) cA2 comp N' (a := q) (by rw [hTh]; exact hq) 3
    rw [hF, hTh] at this
    exact this
  have hrow : ∀ j : Nat, j < 3 → F.heap[H.size + 1 + j]? = some (vp_cell comp (N', .inl (fun _ => 0))) := fun j hj => by
    have := zq_new (T.setVm vm₁) cA2 comp N' 3 j hj
    rw [hF, hTh] at this
    rw [this, vp_cell_i, arrV_new]
  rw [hF, hTh] at z1 z2
  rw [zq_cell] at z2
  have hsz : s.heap.size ≤ H.size := hS.1
  have h2 := zn_D.mp hD
  have hP1 : va_P D cl ((H.size, .inl (cA2, 3, aq (fun i => H.size + 1 + i))) :: (H.size + 1, .inl (comp, N', .inl (fun _ => 0))) :: (H.size + 2, .inl (comp, N', .inl (fun _ => 0))) :: (H.size + 3, .inl (comp, N', .inl (fun _ => 0))) :: ws) F.heap := zn_P.mpr (fun q hq => by
    rcases List.mem_cons.mp hq with z | hq
    · subst z; exact z2
    rcases List.mem_cons.mp hq with z | hq
    · subst z; exact hrow 0 (by omega)
    rcases List.mem_cons.mp hq with z | hq
    · subst z; exact hrow 1 (by omega)
    rcases List.mem_cons.mp hq with z | hq
    · subst z; exact hrow 2 (by omega)
    exact (zn_P.mp hP q hq).kept (hold q.1 (zn_ad hP hq)))
  have hD1 : va_D B ((H.size, .inl (cA2, 3, aq (fun i => H.size + 1 + i))) :: (H.size + 1, .inl (comp, N', .inl (fun _ => 0))) :: (H.size + 2, .inl (comp, N', .inl (fun _ => 0))) :: (H.size + 3, .inl (comp, N', .inl (fun _ => 0))) :: ws) := by
    refine zn_D.mpr ⟨?_, fun q hq => ?_⟩
    · have hw : ∀ (k : Nat) (q : Nat × va_E), q ∈ ws → ¬ H.size + k = q.1 := fun k q hq e2 => by
        have h9 := zn_ad hP hq
        omega
      refine List.pairwise_cons.mpr ⟨fun q hq => ?_, List.pairwise_cons.mpr ⟨fun q hq => ?_, List.pairwise_cons.mpr ⟨fun q hq => ?_, List.pairwise_cons.mpr ⟨fun q hq => hw 3 q hq, h2.1⟩⟩⟩⟩
      · rcases List.mem_cons.mp hq with z | hq
        · subst z; exact Nat.ne_of_lt (Nat.lt_add_of_pos_right (by omega))
        rcases List.mem_cons.mp hq with z | hq
        · subst z; exact Nat.ne_of_lt (Nat.lt_add_of_pos_right (by omega))
        rcases List.mem_cons.mp hq with z | hq
        · subst z; exact Nat.ne_of_lt (Nat.lt_add_of_pos_right (by omega))
        exact hw 0 q hq
      · rcases List.mem_cons.mp hq with z | hq
        · subst z; exact Nat.ne_of_lt (by show H.size + 1 < H.size + 2; omega)
        rcases List.mem_cons.mp hq with z | hq
        · subst z; exact Nat.ne_of_lt (by show H.size + 1 < H.size + 3; omega)
        exact hw 1 q hq
      · rcases List.mem_cons.mp hq with z | hq
        · subst z; exact Nat.ne_of_lt (by show H.size + 2 < H.size + 3; omega)
        exact hw 2 q hq
    · rcases List.mem_cons.mp hq with z | hq
      · subst z; exact hB _ hsz
      rcases List.mem_cons.mp hq with z | hq
      · subst z; exact hB _ (by show s.heap.size ≤ H.size + 1; omega)
      rcases List.mem_cons.mp hq with z | hq
      · subst z; exact hB _ (by show s.heap.size ≤ H.size + 2; omega)
      rcases List.mem_cons.mp hq with z | hq
      · subst z; exact hB _ (by show s.heap.size ≤ H.size + 3; omega)
      exact h2.2 q hq
  have X2 : Stand p l e R s m args below meth c F locs (kc + 4) (ns + (3 + 3 * N')) := by rw [← Nat.add_assoc]; exact X'
  obtain ⟨t, a1, b1⟩ := kk H.size hsz F.heap locs ls hK hP1 hD1 ⟨by omega, fun x h1 h2 => (hold x (Nat.lt_of_lt_of_le h1 hsz)).trans (hS.2.1 x h1 h2), hS.2.2⟩ h F rfl X2
  refine ⟨t, stp t ?_, b1⟩
  rw [show T.heap.size = H.size by rw [hT]]
  exact a1
theorem zn_aald (C : zv_C p m c cc nL s args Ts own A) {a N : Nat} {cA : ClassId} {f : Nat → Option Nat} {i : Int32} {r : Nat} (hdg : decode cc pc = .ok (.aaload, 1)) (n : Nat) (hn : pc + 1 = n) (q0 t0 j : Nat) (ha : ws[q0]? = some (a, .inl (cA, N, .inr (.inr (.inr (.inr f)))))) (ht : tys[t0]? = some (cA, .array .int)) (hi : i = nI j) (hj : j < N) (hN : N < 2 ^ 31) (hv : f j = some r) (kk : zv_V p l e R s m args below meth c Q nL D cl A B tys ws kc ns n lv (.ref r :: st)) : zv_V p l e R s m args below meth c Q nL D cl A B tys ws kc ns pc lv (.int i :: .ref a :: st) := by
  subst hn
  obtain ⟨h1, h2⟩ := zv_in hi hj hN
  have hlt : i.toNatClampNeg < N := by rw [h2]; exact hj
  exact fun H locs ls hK hP hD hS h => W.aald (v := .ref r) (ty := .array .int) C.1.1 C.1.2.1 (hP q0 _ ha) ((hK.2 t0 _ ht).1 N (fun j => va_rf (f j))) rfl (fun q => by cases q) (by show ¬ (i < 0 ∨ (arrV _ _ _).slots.size ≤ _); rw [arrV_size]; exact h1) (by show (arrV _ _ _).slots[_]? = _; rw [arrV_read _ _ hlt, h2, hv]; rfl) rfl rfl hdg (kk H locs ls hK hP hD hS h)
theorem zn_iast (C : zv_C p m c cc nL s args Ts own A) {a N : Nat} {cA : ClassId} {f : Nat → Int32} {i x x' : Int32} (hdg : decode cc pc = .ok (.iastore, 1)) (n : Nat) (hn : pc + 1 = n) (q0 t0 j : Nat) (ha : ws[q0]? = some (a, .inl (cA, N, .inl f))) (hAa : A a) (ht : tys[t0]? = some (cA, .int)) (hi : i = nI j) (hj : j < N) (hN : N < 2 ^ 31) (hx : x = x') (ws' : va_W) (hw : ws.set q0 (a, .inl (cA, N, .inl (upd f j x'))) = ws') (kk : zv_V p l e R s m args below meth c Q nL D cl A B tys ws' kc ns n lv st) : zv_V p l e R s m args below meth c Q nL D cl A B tys ws kc ns pc lv (.int x :: .int i :: .ref a :: st) := by
  subst hn; subst hw; subst hx
  obtain ⟨h1, h2⟩ := zv_in hi hj hN
  subst h2
  intro H locs ls hK hP hD hS h
  refine W.iast C.1.1 C.1.2.1 (hP q0 _ ha) ((hK.2 t0 _ ht).1 N (fun j => .int (f j))) (fun q => by cases q) (by show ¬ (i < 0 ∨ (arrV _ _ _).slots.size ≤ _); rw [arrV_size]; exact h1) rfl rfl hdg fun H1 e z oq => ?_
  refine kk H1 _ ls hK (hP.set hD ha ?_ oq) (hD.set ha) (hS.put z oq hAa) h
  show H1[a]? = some (vp_cell _ _)
  rw [e, vp_cell_i, vp_cell_i, arrV_store]
  refine congrArg some (zn_arr (fun q _ => ?_))
  by_cases hq : q = i.toNatClampNeg
  · subst hq; simp [updV, upd]
  · simp [updV, upd, hq]
theorem zn_zast (C : zv_C p m c cc nL s args Ts own A) {a N : Nat} {cA : ClassId} {f : Nat → Int32} {i x x' : Int32} (hdg : decode cc pc = .ok (.bastore, 1)) (n : Nat) (hn : pc + 1 = n) (q0 t0 j : Nat) (ha : ws[q0]? = some (a, .inl (cA, N, .inl f))) (hAa : A a) (ht : tys[t0]? = some (cA, .boolean)) (hi : i = nI j) (hj : j < N) (hN : N < 2 ^ 31) (hx : (vp_nar .boolean x) = x') (ws' : va_W) (hw : ws.set q0 (a, .inl (cA, N, .inl (upd f j x'))) = ws') (kk : zv_V p l e R s m args below meth c Q nL D cl A B tys ws' kc ns n lv st) : zv_V p l e R s m args below meth c Q nL D cl A B tys ws kc ns pc lv (.int x :: .int i :: .ref a :: st) := by
  subst hn; subst hw; subst hx
  obtain ⟨h1, h2⟩ := zv_in hi hj hN
  subst h2
  intro H locs ls hK hP hD hS h
  refine W.zast C.1.1 C.1.2.1 (hP q0 _ ha) ((hK.2 t0 _ ht).1 N (fun j => .int (f j))) (fun q => by cases q) (by show ¬ (i < 0 ∨ (arrV _ _ _).slots.size ≤ _); rw [arrV_size]; exact h1) rfl rfl hdg fun H1 e z oq => ?_
  refine kk H1 _ ls hK (hP.set hD ha ?_ oq) (hD.set ha) (hS.put z oq hAa) h
  show H1[a]? = some (vp_cell _ _)
  rw [e, vp_cell_i, vp_cell_i, arrV_store]
  refine congrArg some (zn_arr (fun q _ => ?_))
  by_cases hq : q = i.toNatClampNeg
  · subst hq
    simp [updV, upd, vp_nar]
    try rfl
  · simp [updV, upd, hq]
theorem zn_aast (C : zv_C p m c cc nL s args Ts own A) (hO : va_AOA .int s) {a N v : Nat} {cA cI : ClassId} {y : vp_A} {f : Nat → Option Nat} {i : Int32} (hdg : decode cc pc = .ok (.aastore, 1)) (n : Nat) (hn : pc + 1 = n) (q0 t0 q1 t1 j : Nat) (ha : ws[q0]? = some (a, .inl (cA, N, .inr (.inr (.inr (.inr f)))))) (hAa : A a) (ht : tys[t0]? = some (cA, .array .int)) (hv : ws[q1]? = some (v, .inl (cI, y))) (hti : tys[t1]? = some (cI, .int)) (hi : i = nI j) (hj : j < N) (hN : N < 2 ^ 31) (ws' : va_W) (hw : ws.set q0 (a, .inl (cA, N, .inr (.inr (.inr (.inr (fun k => if k = j then some v else f k)))))) = ws') (kk : zv_V p l e R s m args below meth c Q nL D cl A B tys ws' kc ns n lv st) : zv_V p l e R s m args below meth c Q nL D cl A B tys ws kc ns pc lv (.ref v :: .int i :: .ref a :: st) := by
  subst hn; subst hw
  obtain ⟨h1, h2⟩ := zv_in hi hj hN
  subst h2
  intro H locs ls hK hP hD hS h
  have h0 : ¬ i < 0 := fun q => h1 (Or.inl q)
  obtain ⟨comp, cA2, kA, k3, -, k1, k2, k4⟩ := arrayOverA_spec (args := args) (first := s) (o := none) (idx := []) (s := s) (t := .int) hO
  have eA : cA = cA2 := Option.some.inj (((hK.2 t0 _ ht).2 : s.vm.findClass ("[" ++ (FieldType.array .int).toString) = some cA).symm.trans k4)
  subst eA
  have eI : comp = cI := Option.some.inj (k3.symm.trans (hK.2 t1 _ hti).2)
  subst eI
  obtain ⟨kE, hkE, -⟩ := Vm.findClass_spec k3
  have hvc : H[v]? = some (vp_cell comp y) := hP q1 _ hv
  have hcl : (vp_cell comp y).cls = comp ∧ ∀ q, (vp_cell comp y).vm ≠ .statics q := by
    obtain ⟨N9, y⟩ := y
    rcases y with y | y | y | y | y <;> exact ⟨rfl, fun q z => by cases z⟩
  refine W.aast C.1.1 C.1.2.1 (hP q0 _ ha) (fun q h => by cases h) (fun h => by cases h) k1 k2 rfl hkE ⟨h0, by show _ < (arrV _ _ _).slots.size; rw [arrV_size]; exact hj⟩ hvc hcl.2 (by rw [hcl.1]; exact hkE) (by rw [hcl.1]; exact zn_asg _ _) rfl rfl hdg fun H1 e z oq => ?_
  refine kk H1 _ ls hK (hP.set hD ha ?_ oq) (hD.set ha) (hS.put z oq hAa) h
  show H1[a]? = some (vp_cell _ _)
  rw [e, vp_cell_q, vp_cell_q, arrV_store]
  refine congrArg some (zn_arr (fun q _ => ?_))
  by_cases hq : q = i.toNatClampNeg
  · subst hq; simp [updV, va_rf]
  · simp [updV, hq]
theorem zn_aret (C : zv_C p m c cc nL s args Ts own A) {a : Nat} {rt : FieldType} (hr : meth.sig.returnType = some rt) (hrt : (∃ n, rt = .object n) ∨ ∃ t, rt = .array t) (hlk : meth.locks = false) {post : Option Value → va_W → Prop} (hA : A = fun q => s.heap.size ≤ q) (hQ : Q = MQ below (zv_n D cl post) args s kc ns A) (hdg : decode cc pc = .ok (.areturn, 1)) (w : va_W) (hsub : w.Sublist ws) (hw : ∀ q ∈ w, s.heap.size ≤ q.1) (hp : post (some (.ref a)) w) : zv_V p l e R s m args below meth c Q nL D cl A B tys ws kc ns pc lv [.ref a] := by
  subst hQ
  exact fun H locs ls hK hP hD hS h => W.aret C.1.1 C.1.2.1 hr hrt (Or.inr ⟨a, rfl⟩) (fun t ht hW => ⟨⟨_, w, rfl, hp, by rw [ht]; exact zn_Psub hP hsub, zn_D.mpr ⟨(zn_D.mp (zn_Dsub hD hsub)).1, hw⟩⟩, by subst hA; exact hS.F ht⟩) hS.2.2 hdg (hlocks := hlk)
theorem zn_aretM (C : zv_C p m c cc nL s args Ts own A) {a : Nat} {rt : FieldType} (hr : meth.sig.returnType = some rt) (hrt : (∃ n, rt = .object n) ∨ ∃ t, rt = .array t) (hlk : meth.locks = false) {post : Option Value → va_W → Prop} (hQ : Q = MQ below (zv_q D cl A post) args s kc ns A) (hdg : decode cc pc = .ok (.areturn, 1)) (hp : post (some (.ref a)) ws) : zv_V p l e R s m args below meth c Q nL D cl A A tys ws kc ns pc lv [.ref a] := by
  subst hQ
  exact fun H locs ls hK hP hD hS h => W.aret C.1.1 C.1.2.1 hr hrt (Or.inr ⟨a, rfl⟩) (fun t ht hW => ⟨⟨_, ws, rfl, hp, by rw [ht]; exact hP, hD⟩, hS.F ht⟩) hS.2.2 hdg (hlocks := hlk)
theorem zn_irem (C : zv_C p m c cc nL s args Ts own A) {x y v : Int32} (hdg : decode cc pc = .ok (.irem, 1)) (n : Nat) (hn : pc + 1 = n) (hne : ¬ y = 0) (hv : x - x / y * y = v) (kk : zv_V p l e R s m args below meth c Q nL D cl A B tys ws kc ns n lv (.int v :: st)) : zv_V p l e R s m args below meth c Q nL D cl A B tys ws kc ns pc lv (.int y :: .int x :: st) := by
  subst hn
  exact fun H locs ls hK hP hD hS h => lv_irem C.1.1 C.1.2.1 hdg hne (by rw [hv]; exact (kk H locs ls hK hP hD hS h))
theorem zn_ishr (C : zv_C p m c cc nL s args Ts own A) {x y : Int32} (hdg : decode cc pc = .ok (.ishr, 1)) (n : Nat) (hn : pc + 1 = n) (kk : zv_V p l e R s m args below meth c Q nL D cl A B tys ws kc ns n lv (.int (x >>> (y &&& 31)) :: st)) : zv_V p l e R s m args below meth c Q nL D cl A B tys ws kc ns pc lv (.int y :: .int x :: st) := by
  subst hn
  exact fun H locs ls hK hP hD hS h => lv_ishr C.1.1 C.1.2.1 hdg (kk H locs ls hK hP hD hS h)
theorem zn_ior (C : zv_C p m c cc nL s args Ts own A) {x y v : Int32} (hdg : decode cc pc = .ok (.ior, 1)) (n : Nat) (hn : pc + 1 = n) (hv : x ||| y = v) (kk : zv_V p l e R s m args below meth c Q nL D cl A B tys ws kc ns n lv (.int v :: st)) : zv_V p l e R s m args below meth c Q nL D cl A B tys ws kc ns pc lv (.int y :: .int x :: st) := by
  subst hn
  exact fun H locs ls hK hP hD hS h => lv_ior C.1.1 C.1.2.1 hdg (by rw [hv]; exact (kk H locs ls hK hP hD hS h))
theorem zn_ldc (C : zv_C p m c cc nL s args Ts own A) {index : Nat} {v : Int32} (hdg : decode cc pc = .ok (.ldc index, 2)) (n : Nat) (hn : pc + 2 = n) (hconst : Cond.constant own index v ∈ Ts) (kk : zv_V p l e R s m args below meth c Q nL D cl A B tys ws kc ns n lv (.int v :: st)) : zv_V p l e R s m args below meth c Q nL D cl A B tys ws kc ns pc lv st := by
  subst hn
  exact fun H locs ls hK hP hD hS h => lv_ldc C.1.1 C.1.2.1 C.1.2.2.2.1 (C.1.2.2.2.2 _ hconst) hdg (kk H locs ls hK hP hD hS h)
theorem zn_pop (C : zv_C p m c cc nL s args Ts own A) {va : Value} (hdg : decode cc pc = .ok (.pop, 1)) (n : Nat) (hn : pc + 1 = n) (hva : va.category = 1) (kk : zv_V p l e R s m args below meth c Q nL D cl A B tys ws kc ns n lv st) : zv_V p l e R s m args below meth c Q nL D cl A B tys ws kc ns pc lv (va :: st) := by
  subst hn
  exact fun H locs ls hK hP hD hS h => lv_pop C.1.1 C.1.2.1 hdg hva (kk H locs ls hK hP hD hS h)
theorem zn_ifnn (C : zv_C p m c cc nL s args Ts own A) {x : Nat} {off : Int} (hdg : decode cc pc = .ok (.ifnonnull off, 3)) (tgt : Nat) (ht : (pc : Int) + off = (tgt : Int)) (kk : zv_V p l e R s m args below meth c Q nL D cl A B tys ws kc ns tgt lv st) : zv_V p l e R s m args below meth c Q nL D cl A B tys ws kc ns pc lv (.ref x :: st) := fun H locs ls hK hP hD hS h => lv_ifnonnull C.1.1 C.1.2.1 hdg ht (kk H locs ls hK hP hD hS h)
end ZNR
section ZNO
theorem zv_NE.of {E : State → Prop} {l : Launch} {y : MethodName} {wy ws' : List Cond} {rm : Room} {D : va_G} {cl : List vw_C} {tys : List (ClassId × FieldType)} {av : List Value} {ws : va_W} {post : Option Value → va_W → Prop} (cc : ByteArray) (nL : Nat) (ret : Option FieldType) (hy : plainName y.cls = true) (hw : wy = Cond.code y cc nL ret :: ws') (hl : (lg_sl av).length ≤ nL)
    (body : ∀ (p : Program) (e : Env) (s : State) (m : MethodId) (args : Array Value) (below : List Frame) (meth : Method) (c : Code) (A : Nat → Prop), zv_C p m c cc nL s args wy y.cls A → meth.sig.returnType = ret → meth.locks = false → A = (fun q => s.heap.size ≤ q) → E s → ∀ (Q : State → Prop), Q = MQ below (zv_n D cl post) args s rm.cells rm.slots A → zv_V p l e rm s m args below meth c Q nL D cl A (fun _ => True) tys ws 0 0 0 (lv_args 0 av) []) : zv_NE E l y wy rm D cl tys av ws post := by
  intro sz
  refine Met.ofW (cc := cc) (maxL := nL) (ret := ret) hy hw ?_
  intro p e s m args below meth c s₁ B hml hv
  obtain ⟨rfl, ⟨hsz, hP, hK, hD0⟩, hE⟩ := hv
  subst hsz
  have hts := atoms_spec (ws := wy) B.pre
  have hown : s.vm.findClass y.cls = some m.cls := findClass_of_methodNamed B.named
  have hb := body p e s m av.toArray below meth c (fun q => s.heap.size ≤ q) ⟨⟨B.exec, B.bytes, hml, hown, hts⟩, fun q h => h⟩ B.returns B.notSynchronized rfl hE _ rfl
  have hl1 := lv_entry av (n := nL) hl
  rw [lg_entry_eq]
  exact hb s.heap [] _ hK hP hD0 va_S.rf hl1
theorem zv_RX.of {E : State → Prop} {l : Launch} {y : MethodName} {wy ws' : List Cond} {rm : Room} {D : va_G} {cl : List vw_C} {tys : List (ClassId × FieldType)} {av : List Value} {ws : va_W} {post : Option Value → Prop} (cc : ByteArray) (nL : Nat) (ret : Option FieldType) (hy : plainName y.cls = true) (hw : wy = Cond.code y cc nL ret :: ws') (hl : (lg_sl av).length ≤ nL)
    (body : ∀ (p : Program) (e : Env) (s : State) (m : MethodId) (args : Array Value) (below : List Frame) (meth : Method) (c : Code) (A : Nat → Prop), zv_C p m c cc nL s args wy y.cls A → meth.sig.returnType = ret → meth.locks = false → A = (fun q => s.heap.size ≤ q) → E s → ∀ (Q : State → Prop), Q = MQ below (zv_r post) args s rm.cells rm.slots A → zv_V p l e rm s m args below meth c Q nL D cl A (fun _ => True) tys ws 0 0 0 (lv_args 0 av) []) : zv_RX E l y wy rm D cl tys av ws post := by
  intro sz
  refine Met.ofW (cc := cc) (maxL := nL) (ret := ret) hy hw ?_
  intro p e s m args below meth c s₁ B hml hv
  obtain ⟨rfl, ⟨hsz, hP, hK, hD0⟩, hE⟩ := hv
  subst hsz
  have hts := atoms_spec (ws := wy) B.pre
  have hown : s.vm.findClass y.cls = some m.cls := findClass_of_methodNamed B.named
  have hb := body p e s m av.toArray below meth c (fun q => s.heap.size ≤ q) ⟨⟨B.exec, B.bytes, hml, hown, hts⟩, fun q h => h⟩ B.returns B.notSynchronized rfl hE _ rfl
  have hl1 := lv_entry av (n := nL) hl
  rw [lg_entry_eq]
  exact hb s.heap [] _ hK hP hD0 va_S.rf hl1
theorem zv_ME.of {E : State → Prop} {l : Launch} {y : MethodName} {wy ws' : List Cond} {rm : Room} {D : va_G} {cl : List vw_C} {tys : List (ClassId × FieldType)} {av : List Value} {ws : va_W} {post : Option Value → va_W → Prop} (cc : ByteArray) (nL : Nat) (ret : Option FieldType) (hy : plainName y.cls = true) (hw : wy = Cond.code y cc nL ret :: ws') (hl : (lg_sl av).length ≤ nL)
    (body : ∀ (p : Program) (e : Env) (s : State) (m : MethodId) (args : Array Value) (below : List Frame) (meth : Method) (c : Code) (A : Nat → Prop), zv_C p m c cc nL s args wy y.cls A → meth.sig.returnType = ret → meth.locks = false → meth.name = y.name → A = va_A ws s.heap.size → E s → ∀ (Q : State → Prop), Q = MQ below (zv_q D cl A post) args s rm.cells rm.slots A → zv_V p l e rm s m args below meth c Q nL D cl A A tys ws 0 0 0 (lv_args 0 av) []) : zv_ME E l y wy rm D cl tys av ws post := by
  intro sz
  refine Met.ofW (cc := cc) (maxL := nL) (ret := ret) hy hw ?_
  intro p e s m args below meth c s₁ B hml hv
  obtain ⟨rfl, ⟨hsz, hP, hK, hD0⟩, hE⟩ := hv
  subst hsz
  have hts := atoms_spec (ws := wy) B.pre
  have hown : s.vm.findClass y.cls = some m.cls := findClass_of_methodNamed B.named
  have hnm : meth.name = y.name := (name_of_methodNamed B.named B.method).1
  have hA : ∀ q : Nat, s.heap.size ≤ q → va_A ws s.heap.size q := fun q h => Or.inr h
  have hb := body p e s m av.toArray below meth c (va_A ws s.heap.size) ⟨⟨B.exec, B.bytes, hml, hown, hts⟩, hA⟩ B.returns B.notSynchronized hnm rfl hE _ rfl
  have hl1 := lv_entry av (n := nL) hl
  rw [lg_entry_eq]
  exact hb s.heap [] _ hK hP hD0.self va_S.rf hl1
end ZNO
