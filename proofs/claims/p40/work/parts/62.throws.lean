/-! ===== calls that throw ===== -/
abbrev xNames : List String := ["java/lang/RuntimeException", "java/lang/Exception"]
abbrev xIO : String := "java/lang/IndexOutOfBoundsException"
abbrev xIA : String := "java/lang/IllegalArgumentException"
abbrev xIS : String := "java/lang/IllegalStateException"
def exS : List (Nat × String) := [(235, "there is no such place"), (238, "there is no such bridge"), (240, "there are 16 places"), (242, "a name is 0 to 9"), (244, "years are 1 to 50"), (50, "water is 0 to 99"), (55, "swell is -9 to 9"), (66, "a place does not lead to itself"), (73, "ways do not lead in a ring"), (90, "the rule is 0 or 1"), (98, "there are 16 bridges")]
abbrev xIn (X : String) : MethodName := ⟨X, "<init>", "(Ljava/lang/String;)V"⟩
def xBad : List Cond := [.declares (xIn "java/lang/RuntimeException"), .declares (xIn "java/lang/Exception"), .declares (xIn "java/lang/Throwable"), .castable xIO xIO, .castable xIA xIA, .castable xIS xIS]
def xNc : List (String × String) := []
theorem xb_io : ∀ w ∈ (vx_atS RX1 237 xIO xNames).filter (fun w => !goodWord w), w ∈ xBad := by decide +kernel
theorem xb_ia : ∀ w ∈ (vx_atS RX1 52 xIA xNames).filter (fun w => !goodWord w), w ∈ xBad := by decide +kernel
theorem xb_is : ∀ w ∈ (vx_atS RX1 68 xIS xNames).filter (fun w => !goodWord w), w ∈ xBad := by decide +kernel
def xMv : Cond → Bool
  | .declares _ | .castable .. => true
  | _ => false
theorem xMv_moved {u U : State} (hvm : u.vm.Alike U.vm) {w : Cond} (hw : xMv w = true) {A A' : Array Value} (h : w.before A u = true) : w.before A' U = true := by
  have tr : ∀ {c : Cond}, c.onTables = true → c.before A (u.setVm U.vm) = true → c.before A' U = true := by
    intro c hc h
    have e := Cond.onTables_vm (A := A) (A' := A') (U := u) (U' := U) U.vm c hc
    have hU : U.setVm U.vm = U := rfl
    rw [hU] at e
    rw [← e]
    exact h
  cases w <;> first | (simp [xMv] at hw; done) | skip
  · exact tr rfl (by rw [Cond.declares_setVm hvm]; exact h)
  · exact tr rfl (by rw [Cond.castable_setVm hvm]; exact h)
theorem xBad_mv : ∀ w ∈ xBad, xMv w = true := by decide +kernel
def zx_E (U : State) : Prop := (∀ q ∈ exS, ∃ sa, vk_R RX1 q.1 q.2 sa U) ∧ (∀ w ∈ xBad, w.before #[] U = true) ∧ (∀ q ∈ xNc, va_Nc q.1 q.2 U) ∧ vx_Zq Bundle.tN "UNASSIGNED_STACK" Bundle.steD (fun q => U.heap.size ≤ q) U U.heap ∧ vx_Zq Bundle.tN "SUPPRESSED_SENTINEL" Bundle.listD (fun q => U.heap.size ≤ q) U U.heap
theorem zx_E.step {s U : State} (h : zx_E s) (hW : s.WarmedH U.vm) (hz : s.heap.size ≤ U.heap.size) (hk : ∀ q, q < s.heap.size → U.heap[q]? = s.heap[q]?) : zx_E U := by
  obtain ⟨h1, h2, h3, h4, h5⟩ := h
  refine ⟨fun q hq => ?_, fun w hw => xMv_moved hW.alike (xBad_mv w hw) (h2 w hw), fun q hq => va_Nc.moved hW.alike (h3 q hq), ?_, ?_⟩
  · obtain ⟨sa, h⟩ := h1 q hq
    exact ⟨sa, vk_R.warm hW h⟩
  · exact ((vx_Zq.moved hW.alike h4).kept (fun a ha _ => hk a ha)).narrow (fun q hq => Nat.le_trans hz hq)
  · exact ((vx_Zq.moved hW.alike h5).kept (fun a ha _ => hk a ha)).narrow (fun q hq => Nat.le_trans hz hq)
theorem zx_E.calling {U : State} (h : zx_E U) (g : JFrame) (mk : MethodId) (a : Array Value) : zx_E (U.calling g mk a) := by
  obtain ⟨h1, h2, h3, h4, h5⟩ := h
  have hvm : U.vm.Alike (U.calling g mk a).vm := Vm.Alike.refl U.vm
  refine ⟨fun q hq => ?_, fun w hw => xMv_moved hvm (xBad_mv w hw) (h2 w hw), fun q hq => va_Nc.moved hvm (h3 q hq), vx_Zq.moved hvm h4, vx_Zq.moved hvm h5⟩
  obtain ⟨sa, h⟩ := h1 q hq
  exact ⟨sa, vk_R.same rfl h⟩
def zx_X (E : String) : String → State → State → Prop := fun E' sa t => E' = E ∧ va_F (fun q => sa.heap.size ≤ q) sa t
def zv_T (l : Launch) (y : MethodName) (wy : List Cond) (rm : Room) (E : String) (D : va_G) (cl : List vw_C) (tys : List (ClassId × FieldType)) (av : List Value) (ws : va_W) : Prop := ∀ sz : Nat, vx_Met l y wy rm (va_Pc av (fun U => zv_pre D cl tys ws sz U ∧ zx_E U)) (fun _ _ _ _ => False) (zx_X E) rm.cells rm.slots (fun q => sz ≤ q)
theorem zx_blind (D : va_G) (cl : List vw_C) (tys : List (ClassId × FieldType)) (ws : va_W) (sz : Nat) (av : List Value) : FrameBlind (va_Pc av (fun U => zv_pre D cl tys ws sz U ∧ zx_E U)) := fun a U g mk q => by
  obtain ⟨q0, ⟨q1, qP, qK, qD⟩, qE⟩ := q
  exact ⟨q0, ⟨q1, qP, va_K.moved (u := U) (U := U.calling g mk a) (Vm.Alike.refl U.vm) qK, qD⟩, qE.calling g mk a⟩
theorem zv_T.of {l : Launch} {y : MethodName} {wy ws' : List Cond} {rm : Room} {E : String} {D : va_G} {cl : List vw_C} {tys : List (ClassId × FieldType)} {av : List Value} {ws : va_W} (cc : ByteArray) (nL : Nat) (ret : Option FieldType) (hy : plainName y.cls = true) (hw : wy = Cond.code y cc nL ret :: ws') (hl : (lg_sl av).length ≤ nL)
    (body : ∀ (p : Program) (e : Env) (s : State) (m : MethodId) (args : Array Value) (below : List Frame) (meth : Method) (c : Code) (A : Nat → Prop), zv_C p m c cc nL s args wy y.cls A → (∀ x ∈ c.exceptionTable.toList, False) → meth.locks = false → A = (fun q => s.heap.size ≤ q) → zx_E s → ∀ (Q : State → Prop), Q = vx_MQ below (fun _ _ _ _ => False) (zx_X E) args s rm.cells rm.slots A → zv_V p l e rm s m args below meth c Q nL D cl A (fun _ => True) tys ws 0 0 0 (lv_args 0 av) []) : zv_T l y wy rm E D cl tys av ws := by
  intro sz
  refine vx_ofW (cc := cc) (maxL := nL) (ret := ret) hy hw ?_
  intro p e s m args below meth c s₁ B hml htab hv
  obtain ⟨rfl, ⟨hsz, hP, hK, hD0⟩, hE⟩ := hv
  subst hsz
  have hts := atoms_spec (ws := wy) B.pre
  have hown : s.vm.findClass y.cls = some m.cls := findClass_of_methodNamed B.named
  have hb := body p e s m av.toArray below meth c (fun q => s.heap.size ≤ q) ⟨⟨B.exec, B.bytes, hml, hown, hts⟩, fun q h => h⟩ htab B.notSynchronized rfl hE _ rfl
  have hl1 := lv_entry av (n := nL) hl
  rw [lg_entry_eq]
  exact hb s.heap [] _ hK hP hD0 va_S.rf hl1
section ZVT
variable {p : Program} {l : Launch} {e : Env} {R : Room} {s : State} {m : MethodId} {args : Array Value} {below : List Frame} {meth : Method} {c : Code} {Q : State → Prop} {cc : ByteArray} {nL : Nat} {own : String} {Ts : List Cond} {A B : Nat → Prop} {D : va_G} {cl : List vw_C} {tys : List (ClassId × FieldType)} {ws : va_W} {kc ns pc n : Nat} {lv : List (Nat × Value)} {st : List Value}
theorem zv_thr (C : zv_C p m c cc nL s args Ts RX1 A) (hA : A = fun q => s.heap.size ≤ q) (hl : l.stackTraces = false) (hE : zx_E s) (htab : ∀ x ∈ c.exceptionTable.toList, False) (hlk : meth.locks = false) {E text : String} {ik is ic : Nat} {mc ms : Nat} (hQ : Q = vx_MQ below (fun _ _ _ _ => False) (zx_X E) args s mc ms A)
    (d0 : decode cc pc = .ok (.new ik, 3)) (d3 : decode cc (pc + 3) = .ok (.dup, 1)) (d4 : decode cc (pc + 4) = .ok (.ldc is, 2)) (d6 : decode cc (pc + 6) = .ok (.invokespecial ic, 3)) (d9 : decode cc (pc + 9) = .ok (.athrow, 1))
    (hcls : Bundle.fit E = true) (hk : Cond.classLink RX1 ik E ∈ Ts) (hini : Cond.initialized E ∈ Ts) (hstr : (is, text) ∈ exS) (hat : ∀ w ∈ (vx_atS RX1 ic E xNames).filter goodWord, w ∈ Ts) (hbad : ∀ w ∈ (vx_atS RX1 ic E xNames).filter (fun w => !goodWord w), w ∈ xBad)
    (hgood : ∀ w ∈ Cond.classLink RX1 ik E :: Cond.initialized E :: vx_atS RX1 ic E xNames, vx_ot w = true)
    (hR : 5 < R.frames ∧ 90 ≤ R.locals ∧ kc + 1 ≤ R.cells ∧ ns + 6 ≤ R.slots) (hst : (st.map fun v => v.category).sum ≤ 8) (hc : kc + 1 ≤ mc) (hs : ns + 6 ≤ ms) : zv_V p l e R s m args below meth c Q nL D cl A B tys ws kc ns pc lv st := by
  subst hQ
  intro H locs ls hK hP hD hS h
  obtain ⟨sa, hsa⟩ := hE.1 _ hstr
  have hts := C.1.2.2.2.2
  refine vx_throwS (A := A) (own := RX1) (cls := E) (text := text) (names := xNames) (ik := ik) (is := is) (ic := ic) C.1.1 C.1.2.1 hl C.1.2.2.2.1 hcls (by decide) (hts _ hk) (hts _ hini) hsa (vx_hat (fun w hw => hts w (hat w hw)) hbad (fun w hw => xMv_moved (Vm.Alike.refl s.vm) (xBad_mv w hw) (hE.2.1 w hw))) hgood (by rw [hA]; exact hE.2.2.2.1) (by rw [hA]; exact hE.2.2.2.2) hS (h.1.trans C.1.2.2.1.symm) d0 d3 d4 d6 d9 (fun x hx => (htab x hx).elim) (show 2 + 3 < R.frames from hR.1) (show _ + (13 * (2 + 1) + 43) ≤ R.locals by omega) hR.2.2.1 hR.2.2.2 hlk (fun t _ hz hk => ⟨rfl, Nat.le_trans hS.1 hz, fun q h1 h2 => (hk q (Nat.lt_of_lt_of_le h1 hS.1)).trans (hS.2.1 q h1 (by rw [hA]; exact h2))⟩) hS.2.2 hc hs
/-- what a call that throws gives, whoever goes on -/
def zx_K (p : Program) (l : Launch) (e : Env) (R : Room) (s : State) (m : MethodId) (args : Array Value) (below : List Frame) (meth : Method) (c : Code) (Q : State → Prop) (nL : Nat) (D : va_G) (cl : List vw_C) (A B : Nat → Prop) (tys : List (ClassId × FieldType)) (ws : va_W) (kc ns pc : Nat) (lv : List (Nat × Value)) (rest : List Value) (E : String) : Prop :=
  ∀ (H : Heap) (locs : List Loc) (ls : Array Slot) (ce : Cell) (q : Addr), va_K D cl tys s → va_P D cl ws H → va_D B ws → va_S A s.heap H locs → lv_has ls nL lv → H[q]? = some ce → ce.vm = .none → s.vm.findClass E = some ce.cls → vx_W p l e R s m args below meth c H locs kc ns Q (F0 m pc ls rest) q
theorem zv_tV (C : zv_C p m c cc nL s args Ts own A) (hA : A = fun q => s.heap.size ≤ q) (hE : zx_E s) {y : MethodName} {wy : List Cond} {rm : Room} {index maxL nA : Nat} {bytes : ByteArray} {ret : Option FieldType} {C0 E : String} {b : Addr} {As rest : List Value} {wc : va_W} {tyc : List (ClassId × FieldType)} (hM : zv_T l y wy rm E D cl tyc (.ref b :: As) wc) (cw : CallW R s args own C0 index y bytes maxL ret wy rm rm.cells rm.slots nA) (hdg : decode cc pc = .ok (.invokevirtual index, 3)) {ci : Nat} {TN : u_T × Nat} {fs : List Value} (q0 : Nat) (hci : cl[ci]? = some (C0, TN)) (hq0 : wc[q0]? = some (b, .inr (ci, fs))) (hst : st = As.reverse ++ .ref b :: rest) (hnA : As.length = nA) (hroom : (rest.map fun v => v.category).sum ≤ 8) (hcs : kc + rm.cells ≤ R.cells ∧ ns + rm.slots ≤ R.slots) (isT : List Nat) (hT : isT.filterMap (fun i => tys[i]?) = tyc) (isC : List Nat) (hC : isC.map (fun i => ws[i]?) = wc.map some) (hnC : va_nd isC = true)
    (kk : zx_K p l e R s m args below meth c Q nL D cl A B tys ws (kc + rm.cells) (ns + rm.slots) pc lv rest E) : zv_V p l e R s m args below meth c Q nL D cl A B tys ws kc ns pc lv st := by
  subst hst
  intro H locs ls hK hP hD hS h
  have hPc := zv_subP hP isC hC
  have hDc := hD.sub isC hnC hC
  have hKc := hK.sub isT hT
  have hold : ∀ q, q < s.heap.size → H[q]? = s.heap[q]? := fun q hq => hS.2.1 q hq (by rw [hA]; exact Nat.not_le.mpr hq)
  have hr := vx_runV (l := l) (e := e) (below := below) (meth := meth) (locs := locs) (g := F0 m pc ls (As.reverse ++ .ref b :: rest)) (As := As) (rest := rest) (b := b) C.1 (hM H.size) cw ⟨zx_blind D cl tyc wc H.size _, va_recv hKc hPc hci hq0, fun U hU hW => ⟨rfl, ⟨by rw [hU], by rw [hU]; exact hPc, va_K.moved hW.alike hKc, hDc.weaken (fun _ _ _ _ => trivial)⟩, hE.step hW (by rw [hU]; exact hS.1) (fun q hq => by rw [hU]; exact hold q hq)⟩⟩ rfl hnA h.1 rfl (lv_room hroom) hdg hcs
  intro T hT X
  rcases hr T hT X with ⟨_, _, _, _, _, _, _, _, _, _, hF, _⟩ | ⟨q, st₀, t, T', L, E', ce, h0, X', hL, e1, e2, ⟨hEq, hF⟩, hce, hcv, hcl, stp⟩
  · exact hF.elim
  subst hEq
  have hz1 : H.size ≤ T'.heap.size := by rw [e1, ← h0]; exact hF.1
  have hk1 : ∀ z, z < H.size → T'.heap[z]? = H[z]? := fun z hz => by rw [e1, ← h0]; exact hF.2 z (by rw [h0]; exact hz) (by rw [h0]; exact Nat.not_le.mpr hz)
  obtain ⟨t2, a1, b1⟩ := kk T'.heap (locs ++ L) ls ce q hK (hP.kept (fun k z hz => hk1 z.1 (hP k z hz).lt)) hD ⟨Nat.le_trans hS.1 hz1, fun z h1 h2 => (hk1 z (Nat.lt_of_lt_of_le h1 hS.1)).trans (hS.2.1 z h1 h2), fun z hz => by
    rcases List.mem_append.mp hz with h | h
    · exact hS.2.2 z h
    · exact C.2 _ (Nat.le_trans hS.1 (hL z h))⟩ h (by rw [e1]; exact hce) hcv hcl T' rfl X'
  exact ⟨t2, stp.trans a1, b1⟩
theorem zv_tS (C : zv_C p m c cc nL s args Ts own A) (hA : A = fun q => s.heap.size ≤ q) (hE : zx_E s) {y : MethodName} {wy : List Cond} {rm : Room} {index maxL nA : Nat} {bytes : ByteArray} {ret : Option FieldType} {E : String} {As rest : List Value} {wc : va_W} {tyc : List (ClassId × FieldType)} (hM : zv_T l y wy rm E D cl tyc As wc) (cw : CallB R s args own index y bytes maxL ret wy rm rm.cells rm.slots nA ∧ (Cond.static y).before args s = true) (hdg : decode cc pc = .ok (.invokestatic index, 3)) (hst : st = As.reverse ++ rest) (hnA : As.length = nA) (hroom : (rest.map fun v => v.category).sum ≤ 8) (hcs : kc + rm.cells ≤ R.cells ∧ ns + rm.slots ≤ R.slots) (isT : List Nat) (hT : isT.filterMap (fun i => tys[i]?) = tyc) (isC : List Nat) (hC : isC.map (fun i => ws[i]?) = wc.map some) (hnC : va_nd isC = true)
    (kk : zx_K p l e R s m args below meth c Q nL D cl A B tys ws (kc + rm.cells) (ns + rm.slots) pc lv rest E) : zv_V p l e R s m args below meth c Q nL D cl A B tys ws kc ns pc lv st := by
  subst hst
  intro H locs ls hK hP hD hS h
  have hPc := zv_subP hP isC hC
  have hDc := hD.sub isC hnC hC
  have hKc := hK.sub isT hT
  have hold : ∀ q, q < s.heap.size → H[q]? = s.heap[q]? := fun q hq => hS.2.1 q hq (by rw [hA]; exact Nat.not_le.mpr hq)
  have hr := vx_runS (l := l) (e := e) (below := below) (meth := meth) (locs := locs) (g := F0 m pc ls (As.reverse ++ rest)) (As := As) (rest := rest) C.1 (hM H.size) cw ⟨zx_blind D cl tyc wc H.size _, fun U hU hW => ⟨rfl, ⟨by rw [hU], by rw [hU]; exact hPc, va_K.moved hW.alike hKc, hDc.weaken (fun _ _ _ _ => trivial)⟩, hE.step hW (by rw [hU]; exact hS.1) (fun q hq => by rw [hU]; exact hold q hq)⟩⟩ rfl hnA h.1 rfl (lv_room hroom) hdg hcs
  intro T hT X
  rcases hr T hT X with ⟨_, _, _, _, _, _, _, _, _, _, hF, _⟩ | ⟨q, st₀, t, T', L, E', ce, h0, X', hL, e1, e2, ⟨hEq, hF⟩, hce, hcv, hcl, stp⟩
  · exact hF.elim
  subst hEq
  have hz1 : H.size ≤ T'.heap.size := by rw [e1, ← h0]; exact hF.1
  have hk1 : ∀ z, z < H.size → T'.heap[z]? = H[z]? := fun z hz => by rw [e1, ← h0]; exact hF.2 z (by rw [h0]; exact hz) (by rw [h0]; exact Nat.not_le.mpr hz)
  obtain ⟨t2, a1, b1⟩ := kk T'.heap (locs ++ L) ls ce q hK (hP.kept (fun k z hz => hk1 z.1 (hP k z hz).lt)) hD ⟨Nat.le_trans hS.1 hz1, fun z h1 h2 => (hk1 z (Nat.lt_of_lt_of_le h1 hS.1)).trans (hS.2.1 z h1 h2), fun z hz => by
    rcases List.mem_append.mp hz with h | h
    · exact hS.2.2 z h
    · exact C.2 _ (Nat.le_trans hS.1 (hL z h))⟩ h (by rw [e1]; exact hce) hcv hcl T' rfl X'
  exact ⟨t2, stp.trans a1, b1⟩
/-- it goes on to the caller -/
theorem zx_up (C : zv_C p m c cc nL s args Ts own A) (hA : A = fun q => s.heap.size ≤ q) (htab : ∀ x ∈ c.exceptionTable.toList, False) (hlk : meth.locks = false) {E : String} {mc ms : Nat} {rest : List Value} (hQ : Q = vx_MQ below (fun _ _ _ _ => False) (zx_X E) args s mc ms A) (hc : kc ≤ mc) (hs : ns ≤ ms) : zx_K p l e R s m args below meth c Q nL D cl A B tys ws kc ns pc lv rest E := by
  subst hQ
  intro H locs ls ce q hK hP hD hS h hce hcv hcl
  exact vx_outP (own := own) C.1.2.2.2.1 hlk (fun z hz => (htab z hz).elim) hce hcv hcl (fun t ht _ => ⟨rfl, by rw [ht]; exact hS.1, fun z h1 h2 => by rw [ht]; exact hS.2.1 z h1 (by rw [hA]; exact h2)⟩) hS.2.2 hc hs
/-- it is caught -/
theorem zx_catch (C : zv_C p m c cc nL s args Ts own A) {E : String} {rest : List Value} (hE : zx_E s) (hcE : Cond.castable E E ∈ xBad) (pre : List ExceptionTableEntry) (x : ExceptionTableEntry) (suf : List ExceptionTableEntry) (hsplit : c.exceptionTable.toList = pre ++ x :: suf) (hpass : ∀ z ∈ pre, covers z pc = false ∨ (z.catchType ≠ 0 ∧ ∃ nm : String, Cond.classLink own z.catchType nm ∈ Ts ∧ (E, nm) ∈ xNc)) (hx : covers x pc = true) (h0 : x.catchType ≠ 0) (hlink : Cond.classLink own x.catchType E ∈ Ts) (hp : Nat) (hhp : x.handlerPc = hp)
    (kk : ∀ q : Nat, zv_V p l e R s m args below meth c Q nL D cl A B tys ws kc ns hp lv [.ref q]) : zx_K p l e R s m args below meth c Q nL D cl A B tys ws kc ns pc lv rest E := by
  subst hhp
  intro H locs ls ce q hK hP hD hS h hce hcv hcl
  have hts := C.1.2.2.2.2
  exact vx_catch (own := own) (name := E) C.1.2.2.2.1 pre x suf hsplit (fun z hz => (hpass z hz).imp id (fun ⟨h1, nm, h2, h3⟩ => ⟨h1, nm, hts _ h2, hE.2.2.1 _ h3⟩)) hx h0 (hts _ hlink) (xMv_moved (Vm.Alike.refl s.vm) (xBad_mv _ hcE) (hE.2.1 _ hcE)) hce hcv hcl (kk q H locs ls hK hP hD hS h)
end ZVT
