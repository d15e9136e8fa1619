/-! ===== methods with a table: they end themselves ===== -/
theorem zw_ofH {l : Launch} {y : MethodName} {ws ws' : List Cond} {rm : Room} {Pc : Array Value → State → Prop} {Qc : Array Value → State → Outcome → State → Prop} {mc ms : Nat} {free : Addr → Prop} {cc : ByteArray} {maxL : Nat} {ret : Option FieldType} {hh : List (Nat × Nat × Nat × Nat)}
    (hy : plainName y.cls = true) (hw : ws = Cond.codeWith y cc maxL ret hh :: ws')
    (body : ∀ p e s m args below meth c s₁, BodyLoose p l y (headSpec ws rm) cc maxL ret e s m args below meth c s₁ → c.maxLocals = maxL → Pc args s →
      W p l e (headSpec ws rm).room s m args below meth c s.heap [] 0 0 (MQ below Qc args s mc ms free) (entryFrame m args maxL)) : Met l y ws rm Pc Qc mc ms free := by
  refine MetFree.of_bodyS (code := cc) (maxLocals := maxL) (ret := ret) hy ?_ ?_
  · intro args s m h hn
    obtain ⟨m9, meth, c, hn9, h1, h2, h3, h4, -, h5, h6, -⟩ := Cond.codeWith_spec (atoms_spec (ws := ws) h _ (by rw [hw]; exact List.mem_cons_self))
    cases hn.symm.trans hn9
    exact ⟨meth, c, h1, h2, h3, h4, h5, h6⟩
  · intro p e s m args below meth c s₁ B hml hP _
    have hh0 : s₁.heap = s.heap := by rw [B.state]; rfl
    obtain ⟨t, a1, o, b1, b2, b3⟩ := body p e s m args below meth c s₁ B hml hP s₁ hh0 (Stand.of_body B)
    exact ⟨t, o, a1, b1, b2, ⟨b3.1, b3.2⟩⟩
def zv_RE (l : Launch) (y : MethodName) (wy : List Cond) (rm : Room) (D : va_G) (cl : List vw_C) (tys : List (ClassId × FieldType)) (av : List Value) (ws : va_W) (post : Option Value → Prop) : Prop := ∀ sz : Nat, Met l y wy rm (va_Pc av (fun U => zv_pre D cl tys ws sz U ∧ zx_E U)) (zv_r post) rm.cells rm.slots (fun q => sz ≤ q)
theorem zw_M.of {l : Launch} {y : MethodName} {wy ws' : List Cond} {rm : Room} {D : va_G} {cl : List vw_C} {tys : List (ClassId × FieldType)} {av : List Value} {ws : va_W} {post : Option Value → va_W → Prop} (cc : ByteArray) (nL : Nat) (ret : Option FieldType) (hh : List (Nat × Nat × Nat × Nat)) (hy : plainName y.cls = true) (hw : wy = Cond.codeWith y cc nL ret hh :: ws') (hl : (lg_sl av).length ≤ nL)
    (body : ∀ (p : Program) (e : Env) (s : State) (m : MethodId) (args : Array Value) (below : List Frame) (meth : Method) (c : Code) (A : Nat → Prop), zv_C p m c cc nL s args wy y.cls A → meth.sig.returnType = ret → meth.locks = false → ∀ (Q : State → Prop), Q = MQ below (zv_q D cl A post) args s rm.cells rm.slots A → zv_V p l e rm s m args below meth c Q nL D cl A A tys ws 0 0 0 (lv_args 0 av) []) : zv_M l y wy rm D cl tys av ws post := by
  intro sz
  refine zw_ofH (cc := cc) (maxL := nL) (ret := ret) (hh := hh) hy hw ?_
  intro p e s m args below meth c s₁ B hml hv
  obtain ⟨rfl, hsz, hP, hK, hD0⟩ := hv
  subst hsz
  have hts := atoms_spec (ws := wy) B.pre
  have hown : s.vm.findClass y.cls = some m.cls := findClass_of_methodNamed B.named
  have hA : ∀ q : Nat, s.heap.size ≤ q → va_A ws s.heap.size q := fun q h => Or.inr h
  have hb := body p e s m av.toArray below meth c (va_A ws s.heap.size) ⟨⟨B.exec, B.bytes, hml, hown, hts⟩, hA⟩ B.returns B.notSynchronized _ rfl
  have hl1 := lv_entry av (n := nL) hl
  rw [lg_entry_eq]
  exact hb s.heap [] _ hK hP hD0.self va_S.rf hl1
theorem zw_RE.of {l : Launch} {y : MethodName} {wy ws' : List Cond} {rm : Room} {D : va_G} {cl : List vw_C} {tys : List (ClassId × FieldType)} {av : List Value} {ws : va_W} {post : Option Value → Prop} (cc : ByteArray) (nL : Nat) (ret : Option FieldType) (hh : List (Nat × Nat × Nat × Nat)) (hy : plainName y.cls = true) (hw : wy = Cond.codeWith y cc nL ret hh :: ws') (hl : (lg_sl av).length ≤ nL)
    (body : ∀ (p : Program) (e : Env) (s : State) (m : MethodId) (args : Array Value) (below : List Frame) (meth : Method) (c : Code) (A : Nat → Prop), zv_C p m c cc nL s args wy y.cls A → c.exceptionTable.toList = tableOf hh → meth.sig.returnType = ret → meth.locks = false → A = (fun q => s.heap.size ≤ q) → zx_E s → ∀ (Q : State → Prop), Q = MQ below (zv_r post) args s rm.cells rm.slots A → zv_V p l e rm s m args below meth c Q nL D cl A (fun _ => True) tys ws 0 0 0 (lv_args 0 av) []) : zv_RE l y wy rm D cl tys av ws post := by
  intro sz
  refine zw_ofH (cc := cc) (maxL := nL) (ret := ret) (hh := hh) hy hw ?_
  intro p e s m args below meth c s₁ B hml hv
  obtain ⟨rfl, ⟨hsz, hP, hK, hD0⟩, hE⟩ := hv
  subst hsz
  have hts := atoms_spec (ws := wy) B.pre
  have htab := vx_table (x := y) B (hts _ (by rw [hw]; exact List.mem_cons_self))
  have hown : s.vm.findClass y.cls = some m.cls := findClass_of_methodNamed B.named
  have hb := body p e s m av.toArray below meth c (fun q => s.heap.size ≤ q) ⟨⟨B.exec, B.bytes, hml, hown, hts⟩, fun q h => h⟩ htab B.returns B.notSynchronized rfl hE _ rfl
  have hl1 := lv_entry av (n := nL) hl
  rw [lg_entry_eq]
  exact hb s.heap [] _ hK hP hD0 va_S.rf hl1
section ZVW
variable {p : Program} {l : Launch} {e : Env} {R : Room} {s : State} {m : MethodId} {args : Array Value} {below : List Frame} {meth : Method} {c : Code} {Q : State → Prop} {cc : ByteArray} {nL : Nat} {own : String} {Ts : List Cond} {A B : Nat → Prop} {D : va_G} {cl : List vw_C} {tys : List (ClassId × FieldType)} {ws : va_W} {kc ns pc n : Nat} {lv : List (Nat × Value)} {st : List Value}
theorem zv_callW (C : zv_C p m c cc nL s args Ts own A) {y : MethodName} {wy : List Cond} {rm : Room} {index maxL nA : Nat} {bytes : ByteArray} {ret : Option FieldType} {hh : List (Nat × Nat × Nat × Nat)} {As rest : List Value} {wc wr : va_W} {tyc : List (ClassId × FieldType)} {post : Option Value → va_W → Prop} (hM : zv_M l y wy rm D cl tyc As wc post) (cw : vx_CSW R s args own index y bytes maxL ret hh wy rm rm.cells rm.slots nA) (hdg : decode cc pc = .ok (.invokestatic index, 3)) (n : Nat) (hn : pc + 3 = n) (hst : st = As.reverse ++ rest) (hnA : As.length = nA) (hroom : (rest.map fun v => v.category).sum ≤ 8) (hcs : kc + rm.cells ≤ R.cells ∧ ns + rm.slots ≤ R.slots) (isT : List Nat) (hT : isT.filterMap (fun i => tys[i]?) = tyc) (isC : List Nat) (hC : isC.map (fun i => ws[i]?) = wc.map some) (hnC : va_nd isC = true) (isR : List Nat) (hRr : isR.map (fun i => ws[i]?) = wr.map some) (hnR : va_nd isR = true) (hdis : ∀ i ∈ isR, i ∉ isC)
    (kk : ∀ (v : Option Value) (w : va_W), post v w → zv_V p l e R s m args below meth c Q nL D cl A A tys (wr ++ w) (kc + rm.cells) (ns + rm.slots) n lv (v.toList ++ rest)) : zv_V p l e R s m args below meth c Q nL D cl A A tys ws kc ns pc lv st := by
  subst hn; subst hst
  intro H locs ls hK hP hD hS h
  have hPc := zv_subP hP isC hC
  have hDc := hD.sub isC hnC hC
  have hKc := hK.sub isT hT
  have hFc := va_free hD hS C.2 isC hC
  have hr := vx_runSW (l := l) (e := e) (below := below) (meth := meth) (locs := locs) (g := F0 m pc ls (As.reverse ++ rest)) (As := As) (rest := rest) C.1 (hM H.size) cw ⟨zv_blind D cl tyc wc H.size _, fun U hU hW => ⟨rfl, by rw [hU], by rw [hU]; exact hPc, va_K.moved hW.alike hKc, hDc.weaken (fun _ _ _ _ => trivial)⟩⟩ rfl hnA h.1 rfl (lv_room hroom) hdg hcs
  intro T hT X
  obtain ⟨v, st₀, t, T', L, h0, X', hL, e1, e2, ⟨⟨v', w, hv, hpo, hP1, hD1⟩, hz, hk⟩, stp⟩ := hr T hT X
  cases hv
  rw [h0] at hz hk
  have hz1 : H.size ≤ T'.heap.size := by rw [e1]; exact hz
  obtain ⟨hPj, hDj⟩ := va_join (H1 := T'.heap) hP hD isC isR hC hRr hnR hdis (fun q h1 h2 => by rw [e1]; exact hk q h1 h2) hFc (by rw [e1]; exact hP1) hD1
  obtain ⟨t2, a1, b1⟩ := kk v w hpo T'.heap (locs ++ L) ls hK hPj hDj ⟨Nat.le_trans hS.1 hz1, fun q h1 h2 => by rw [e1, hk q (Nat.lt_of_lt_of_le h1 hS.1) (fun z => h2 (hFc q z))]; exact hS.2.1 q h1 h2, fun q hq => by
    rcases List.mem_append.mp hq with h | h
    · exact hS.2.2 q h
    · exact hFc _ (hL q h)⟩ h T' rfl X'
  exact ⟨t2, stp t2 a1, b1⟩
theorem zv_callWE (C : zv_C p m c cc nL s args Ts own A) (hA : A = fun q => s.heap.size ≤ q) (hE : zx_E s) {y : MethodName} {wy : List Cond} {rm : Room} {index maxL nA : Nat} {bytes : ByteArray} {ret : Option FieldType} {hh : List (Nat × Nat × Nat × Nat)} {As rest : List Value} {wc : va_W} {tyc : List (ClassId × FieldType)} {post : Option Value → Prop} (hM : zv_RE l y wy rm D cl tyc As wc post) (cw : vx_CSW R s args own index y bytes maxL ret hh wy rm rm.cells rm.slots nA) (hdg : decode cc pc = .ok (.invokestatic index, 3)) (n : Nat) (hn : pc + 3 = n) (hst : st = As.reverse ++ rest) (hnA : As.length = nA) (hroom : (rest.map fun v => v.category).sum ≤ 8) (hcs : kc + rm.cells ≤ R.cells ∧ ns + rm.slots ≤ R.slots) (isT : List Nat) (hT : isT.filterMap (fun i => tys[i]?) = tyc) (isC : List Nat) (hC : isC.map (fun i => ws[i]?) = wc.map some) (hnC : va_nd isC = true)
    (kk : ∀ v : Option Value, post v → zv_V p l e R s m args below meth c Q nL D cl A B tys ws (kc + rm.cells) (ns + rm.slots) n lv (v.toList ++ rest)) : zv_V p l e R s m args below meth c Q nL D cl A B tys ws kc ns pc lv st := by
  subst hn; subst hst
  intro H locs ls hK hP hD hS h
  have hPc := zv_subP hP isC hC
  have hDc := hD.sub isC hnC hC
  have hKc := hK.sub isT hT
  have hold : ∀ q, q < s.heap.size → H[q]? = s.heap[q]? := fun q hq => hS.2.1 q hq (by rw [hA]; exact Nat.not_le.mpr hq)
  have hr := vx_runSW (l := l) (e := e) (below := below) (meth := meth) (locs := locs) (g := F0 m pc ls (As.reverse ++ rest)) (As := As) (rest := rest) C.1 (hM H.size) cw ⟨zx_blind D cl tyc wc H.size _, fun U hU hW => ⟨rfl, ⟨by rw [hU], by rw [hU]; exact hPc, va_K.moved hW.alike hKc, hDc.weaken (fun _ _ _ _ => trivial)⟩, hE.step hW (by rw [hU]; exact hS.1) (fun q hq => by rw [hU]; exact hold q hq)⟩⟩ rfl hnA h.1 rfl (lv_room hroom) hdg hcs
  intro T hT X
  obtain ⟨v, st₀, t, T', L, h0, X', hL, e1, e2, ⟨⟨v', hv, hpo⟩, hz, hk⟩, stp⟩ := hr T hT X
  cases hv
  rw [h0] at hz hk
  have hz1 : H.size ≤ T'.heap.size := by rw [e1]; exact hz
  have hk1 : ∀ q, q < H.size → T'.heap[q]? = H[q]? := fun q h1 => by rw [e1]; exact hk q h1 (Nat.not_le.mpr h1)
  obtain ⟨t2, a1, b1⟩ := kk v hpo T'.heap (locs ++ L) ls hK (hP.kept (fun k q hq => hk1 q.1 (hP k q hq).lt)) hD ⟨Nat.le_trans hS.1 hz1, fun q h1 h2 => (hk1 q (Nat.lt_of_lt_of_le h1 hS.1)).trans (hS.2.1 q h1 h2), fun q hq => by
    rcases List.mem_append.mp hq with h | h
    · exact hS.2.2 q h
    · exact C.2 _ (Nat.le_trans hS.1 (hL q h))⟩ h T' rfl X'
  exact ⟨t2, stp t2 a1, b1⟩
end ZVW
