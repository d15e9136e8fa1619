section
-- ===== PART A: goes FIRST, ahead of the names: the tables' words, and 'selects' of the private methods out of them =====
/-- a private method of a class that the tables say can be made, by its rows of tables_1 -/
def lw_okq (q : MethodName × Nat) : Prop := (q.1.cls ≠ "java/lang/invoke/MethodHandle" ∧ q.1.cls ≠ "java/lang/invoke/VarHandle") ∧ Cond.instantiable q.1.cls q.2 ∈ tables_1 ∧ Cond.privateMethod q.1 ∈ tables_1 ∧ Cond.instanceMethod q.1 ∈ tables_1
theorem lw_p0 : lw_okq (⟨"RiverNames", "requirePlace", "(I)V"⟩, 6) := ⟨⟨by decide +kernel, by decide +kernel⟩, List.mem_of_getElem? (i := 12) (by decide +kernel), List.mem_of_getElem? (i := 100) (by decide +kernel), List.mem_of_getElem? (i := 101) (by decide +kernel)⟩
theorem lw_p1 : lw_okq (⟨"java/lang/Throwable", "fillInStackTrace", "(I)Ljava/lang/Throwable;"⟩, 6) := ⟨⟨by decide +kernel, by decide +kernel⟩, List.mem_of_getElem? (i := 146) (by decide +kernel), List.mem_of_getElem? (i := 144) (by decide +kernel), List.mem_of_getElem? (i := 145) (by decide +kernel)⟩
theorem lw_p2 : lw_okq (⟨"RiverNames$Land", "settle", "()V"⟩, 16) := ⟨⟨by decide +kernel, by decide +kernel⟩, List.mem_of_getElem? (i := 20) (by decide +kernel), List.mem_of_getElem? (i := 180) (by decide +kernel), List.mem_of_getElem? (i := 181) (by decide +kernel)⟩
theorem lw_p3 : lw_okq (⟨"RiverNames$Land", "rise", "(I)V"⟩, 16) := ⟨⟨by decide +kernel, by decide +kernel⟩, List.mem_of_getElem? (i := 20) (by decide +kernel), List.mem_of_getElem? (i := 184) (by decide +kernel), List.mem_of_getElem? (i := 185) (by decide +kernel)⟩
theorem lw_p4 : lw_okq (⟨"RiverNames$Land", "argue", "(IIII)V"⟩, 16) := ⟨⟨by decide +kernel, by decide +kernel⟩, List.mem_of_getElem? (i := 20) (by decide +kernel), List.mem_of_getElem? (i := 188) (by decide +kernel), List.mem_of_getElem? (i := 189) (by decide +kernel)⟩
theorem lw_p5 : lw_okq (⟨"RiverNames$Land", "flowOn", "(II)V"⟩, 16) := ⟨⟨by decide +kernel, by decide +kernel⟩, List.mem_of_getElem? (i := 20) (by decide +kernel), List.mem_of_getElem? (i := 192) (by decide +kernel), List.mem_of_getElem? (i := 193) (by decide +kernel)⟩
theorem lw_p6 : lw_okq (⟨"RiverNames", "countInsults", "()I"⟩, 6) := ⟨⟨by decide +kernel, by decide +kernel⟩, List.mem_of_getElem? (i := 12) (by decide +kernel), List.mem_of_getElem? (i := 250) (by decide +kernel), List.mem_of_getElem? (i := 251) (by decide +kernel)⟩
theorem lw_p7 : lw_okq (⟨"RiverNames", "suffersInsult", "(I)Z"⟩, 6) := ⟨⟨by decide +kernel, by decide +kernel⟩, List.mem_of_getElem? (i := 12) (by decide +kernel), List.mem_of_getElem? (i := 254) (by decide +kernel), List.mem_of_getElem? (i := 255) (by decide +kernel)⟩
theorem lw_p8 : lw_okq (⟨"RiverNames", "requireBridge", "(I)V"⟩, 6) := ⟨⟨by decide +kernel, by decide +kernel⟩, List.mem_of_getElem? (i := 12) (by decide +kernel), List.mem_of_getElem? (i := 387) (by decide +kernel), List.mem_of_getElem? (i := 388) (by decide +kernel)⟩
theorem lw_p9 : lw_okq (⟨"RiverNames", "mixPlace", "(JI)J"⟩, 6) := ⟨⟨by decide +kernel, by decide +kernel⟩, List.mem_of_getElem? (i := 12) (by decide +kernel), List.mem_of_getElem? (i := 457) (by decide +kernel), List.mem_of_getElem? (i := 458) (by decide +kernel)⟩
theorem lw_p10 : lw_okq (⟨"RiverNames", "mixBridge", "(JI)J"⟩, 6) := ⟨⟨by decide +kernel, by decide +kernel⟩, List.mem_of_getElem? (i := 12) (by decide +kernel), List.mem_of_getElem? (i := 474) (by decide +kernel), List.mem_of_getElem? (i := 475) (by decide +kernel)⟩
theorem lw_p11 : lw_okq (⟨"RiverNamesLaw$Sim", "winner", "(I[[I)I"⟩, 4) := ⟨⟨by decide +kernel, by decide +kernel⟩, List.mem_of_getElem? (i := 504) (by decide +kernel), List.mem_of_getElem? (i := 502) (by decide +kernel), List.mem_of_getElem? (i := 503) (by decide +kernel)⟩
theorem lw_p12 : lw_okq (⟨"RiverNames", "requireRoomForPlace", "()V"⟩, 6) := ⟨⟨by decide +kernel, by decide +kernel⟩, List.mem_of_getElem? (i := 12) (by decide +kernel), List.mem_of_getElem? (i := 568) (by decide +kernel), List.mem_of_getElem? (i := 569) (by decide +kernel)⟩
theorem lw_p13 : lw_okq (⟨"RiverNames$Land", "countSteps", "(I)I"⟩, 16) := ⟨⟨by decide +kernel, by decide +kernel⟩, List.mem_of_getElem? (i := 20) (by decide +kernel), List.mem_of_getElem? (i := 613) (by decide +kernel), List.mem_of_getElem? (i := 614) (by decide +kernel)⟩
def lw_privs_1 : List (MethodName × Nat) := [(⟨"RiverNames", "requirePlace", "(I)V"⟩, 6), (⟨"java/lang/Throwable", "fillInStackTrace", "(I)Ljava/lang/Throwable;"⟩, 6), (⟨"RiverNames$Land", "settle", "()V"⟩, 16), (⟨"RiverNames$Land", "rise", "(I)V"⟩, 16), (⟨"RiverNames$Land", "argue", "(IIII)V"⟩, 16), (⟨"RiverNames$Land", "flowOn", "(II)V"⟩, 16), (⟨"RiverNames", "countInsults", "()I"⟩, 6), (⟨"RiverNames", "suffersInsult", "(I)Z"⟩, 6), (⟨"RiverNames", "requireBridge", "(I)V"⟩, 6), (⟨"RiverNames", "mixPlace", "(JI)J"⟩, 6), (⟨"RiverNames", "mixBridge", "(JI)J"⟩, 6), (⟨"RiverNamesLaw$Sim", "winner", "(I[[I)I"⟩, 4), (⟨"RiverNames", "requireRoomForPlace", "()V"⟩, 6), (⟨"RiverNames$Land", "countSteps", "(I)I"⟩, 16)]
theorem lw_r1 : ∀ q ∈ lw_privs_1, lw_okq q := List.forall_mem_cons.mpr ⟨lw_p0, List.forall_mem_cons.mpr ⟨lw_p1, List.forall_mem_cons.mpr ⟨lw_p2, List.forall_mem_cons.mpr ⟨lw_p3, List.forall_mem_cons.mpr ⟨lw_p4, List.forall_mem_cons.mpr ⟨lw_p5, List.forall_mem_cons.mpr ⟨lw_p6, List.forall_mem_cons.mpr ⟨lw_p7, List.forall_mem_cons.mpr ⟨lw_p8, List.forall_mem_cons.mpr ⟨lw_p9, List.forall_mem_cons.mpr ⟨lw_p10, List.forall_mem_cons.mpr ⟨lw_p11, List.forall_mem_cons.mpr ⟨lw_p12, List.forall_mem_cons.mpr ⟨lw_p13, fun _ h => absurd h List.not_mem_nil⟩⟩⟩⟩⟩⟩⟩⟩⟩⟩⟩⟩⟩⟩
def lw_privs : List (MethodName × Nat) := lw_privs_1
def lw_tbl : List Cond := k2_sels lw_privs ++ tables_1
theorem lw_privs_ok : ∀ q ∈ lw_privs, lw_okq q := lw_r1
/-- the streams that the claim lets the run draw from -/
abbrev lw_cs : List Choice := [Jvm.Choice.named "NaN.bits"]
theorem lw_bits : nanBits ∈ lw_cs := by first | decide | exact List.mem_cons_self | simp [lw_cs, nanBits]
end
section
/-! ===== BEGIN words of one list among another's, by their places ===== -/
theorem goodIn_r {big : List Cond} (ws : List Cond) (ps : List Nat) (hp : ws = ps.filterMap (fun i => big[i]?)) (h : ws.all goodWord = true) : GoodIn big ws := by
  intro w hw
  have h1 := List.all_eq_true.mp h w hw
  rw [hp] at hw
  obtain ⟨i, -, hi⟩ := List.mem_filterMap.mp hw
  have hm : w ∈ big := by first | exact List.mem_of_getElem? hi | exact List.getElem?_mem hi
  exact ⟨hm, good_of_word h1⟩
theorem goodIn_app {big a b : List Cond} (ha : GoodIn big a) (hb : GoodIn big b) : GoodIn big (a ++ b) := fun w h => (List.mem_append.mp h).elim (ha w) (hb w)
theorem goodIn_ca {big a b : List Cond} {c : Cond} (ha : GoodIn big (c :: a)) (hb : GoodIn big b) : GoodIn big (c :: (a ++ b)) := fun w h => (List.mem_cons.mp h).elim (fun e => ha w (List.mem_cons.mpr (Or.inl e))) (fun h => (List.mem_append.mp h).elim (fun h => ha w (List.mem_cons.mpr (Or.inr h))) (hb w))
theorem goodIn_sub {big ws : List Cond} (hm : ∀ w ∈ ws, w ∈ big) (h : ws.all goodWord = true) : GoodIn big ws := fun w hw => ⟨hm w hw, good_of_word (List.all_eq_true.mp h w hw)⟩
/-! ===== END ===== -/

/-! ===== BEGIN exceptions that leave a method, and their catching by the caller (launches without stack traces) ===== -/
section VXA
/-! The laws vx_back, vx_callV, vx_callS, vx_callSW, vx_throw0, vx_throwS follow proofs of the library, with one case more: JvmDerived/Free/Laws.lean (Back.of_free), Shelf42/LK1.lean (callV, callS), Shelf/KitTraced.lean (throwNew0V, throwNewS). -/
/-- where a method has thrown q: the class by its name, the cell, what was written, the world -/
def vx_T (XC : String → State → State → Prop) (st : State) (q : Addr) (t : State) (mc ms : Nat) (free : Addr → Prop) : Prop :=
  ∃ (E : String) (ce : Cell) (L : List Loc), XC E st t ∧ t.heap[q]? = some ce ∧ ce.vm = .none ∧ st.vm.findClass E = some ce.cls ∧ st.WarmedH t.vm ∧ st.sameButNew ({ t with vm := st.vm } : State) L mc ms ∧ ∀ z ∈ L, free z.base
def vx_Q (Qc : Array Value → State → Outcome → State → Prop) (XC : String → State → State → Prop) (mc ms : Nat) (free : Addr → Prop) : Array Value → State → Outcome → State → Prop := fun a st o t =>
  (Qc a st o t ∧ ∃ L, FrameEnd st o t L mc ms ∧ ∀ q ∈ L, free q.base) ∨ ∃ q, o = .threw q ∧ vx_T XC st q t mc ms free
/-- a callee that returns or throws -/
def vx_Met (l : Launch) (y : MethodName) (ws : List Cond) (rm : Room) (Pc : Array Value → State → Prop) (Qc : Array Value → State → Outcome → State → Prop) (XC : String → State → State → Prop) (mc ms : Nat) (free : Addr → Prop) : Prop :=
  MetFree l y (headSpec ws rm) Pc (fun _ _ _ _ _ => True) (vx_Q Qc XC mc ms free)
def vx_Post (XC : String → State → State → Prop) (mc ms : Nat) (free : Addr → Prop) : Pt → Array Value → Addr → Pt → Prop := fun A a q B =>
  ∃ (g : JFrame) (mk : MethodId) (t : State) (L : List Loc) (E : String) (ce : Cell), B.U.heap = t.heap ∧ B.U.vm = t.vm ∧ XC E (A.U.calling g mk a) t ∧ t.heap[q]? = some ce ∧ ce.vm = .none ∧ A.U.vm.findClass E = some ce.cls ∧ B.locs = A.locs ++ L ∧ (∀ z ∈ L, free z.base) ∧ B.cells = A.cells + mc ∧ B.slots = A.slots + ms
def vx_Back (l : Launch) (R : Room) (p : Program) (e : Env) (below : List Frame) (s : State) (sargs : Array Value) (y : MethodName) (len W9 : Nat)
    (Pre : Pt → Array Value → Prop) (Post : Pt → Array Value → Option Value → Pt → Prop) (PostX : Pt → Array Value → Addr → Pt → Prop) : Prop :=
  ∀ (m : MethodId) (meth : Method) (c : Code) (A : Pt) (g : JFrame) (ig : Instr) (mk : MethodId) (a : Array Value),
    Stand p l e R s m sargs below meth c A.U A.locs A.cells A.slots → g.method = m → g.locals.size = c.maxLocals → decode c.code g.pc = .ok (ig, len) →
    2 * g.monitorRoom + (g.stack.map fun v => v.category).sum ≤ W9 → A.U.methodNamed? y = some mk → Pre A a →
    (∃ (v : Option Value) (B : Pt), Stand p l e R s m sargs below meth c B.U B.locs B.cells B.slots ∧ Post A a v B ∧
      Steps p.tables e below (doInvoke e (A.U.setTop g) [] mk a).1 (B.U.setTop { g with pc := g.pc + len, stack := v.toList ++ g.stack })) ∨
    (∃ (q : Addr) (B : Pt), Stand p l e R s m sargs below meth c B.U B.locs B.cells B.slots ∧ PostX A a q B ∧
      Steps p.tables e below (doInvoke e (A.U.setTop g) [] mk a).1 ((B.U.setTop g).pushFrame (.throwing q)))
section Payer
variable {l : Launch} {R : Room} {p : Program} {e : Env} {below : List Frame} {s : State} {sargs : Array Value} {y : MethodName} {len W9 : Nat}
theorem vx_back {ws : List Cond} {rm : Room} {Pc : Array Value → State → Prop} {Qc : Array Value → State → Outcome → State → Prop} {XC : String → State → State → Prop} {mc ms : Nat} {free : Addr → Prop} {bytes : ByteArray} {maxL : Nat} {ret : Option FieldType}
    (hM : vx_Met l y ws rm Pc Qc XC mc ms free) (hblind : FrameBlind Pc) (hrc : rm.cells = mc) (hrs : rm.slots = ms)
    (hframes : rm.frames + 1 ≤ R.frames) (hlocals : W9 + (maxL + 11) + rm.locals ≤ R.locals)
    (hws : ∀ w ∈ ws, ∀ a' U, s.WarmedH U.vm → w.before a' U = true) (hcode : Cond.code y bytes maxL ret ∈ ws) (hinit : ∀ a' U, s.WarmedH U.vm → (Cond.initialized y.cls).before a' U = true) :
    vx_Back l R p e below s sargs y len W9 (PreOf R mc ms Pc) (PostOf Qc mc ms free) (vx_Post XC mc ms free) := by
  intro m meth c A g ig mk a X hg hsize hdg hW hn hp
  have h1 : (headSpec ws rm).pre.before a A.U = true := atoms_intro fun w hw => hws w hw _ _ X.warmed
  have h2 : (Cond.code y bytes maxL ret).before a A.U = true := hws _ hcode _ _ X.warmed
  have h3 : (Cond.initialized y.cls).before a A.U = true := hinit _ _ X.warmed
  have h4 : A.cells + (headSpec ws rm).room.cells ≤ R.cells := by rw [show (headSpec ws rm).room.cells = mc from hrc]; exact hp.1
  have h5 : A.slots + (headSpec ws rm).room.slots ≤ R.slots := by rw [show (headSpec ws rm).room.slots = ms from hrs]; exact hp.2.1
  have hPc : Pc a (A.U.calling g mk a) := hblind _ _ _ _ hp.2.2
  obtain ⟨U, Ls, c0, s0⟩ := A
  dsimp only [Pt.U, Pt.locs, Pt.cells, Pt.slots] at h1 h2 h3 h4 h5 X hn hPc ⊢
  obtain ⟨methY, cY, hmY, hcY, -, hlY, -, -, -, -⟩ := Cond.code_spec hn h2
  obtain ⟨kY, hkY, -⟩ := className_of_methodNamed hn
  have hinitY : kY.init = .initialized := Cond.initialized_spec (findClass_of_methodNamed hn) hkY h3
  have h : At U g.method c below := by rw [hg]; exact X.here
  have hlocals9 : W9 + (maxL + 11) + (headSpec ws rm).room.locals ≤ R.locals := hlocals
  have happ : (headSpec ws rm).appliesLoose y e.platform (U.calling g mk a) = true :=
    Spec.appliesLoose_calling (g := g) h hdg hn hkY hinitY
      (X.room_calling (g := g) (R' := (headSpec ws rm).room) hsize hmY hcY hframes (by rw [hlY]; omega) h4 h5) h1
  obtain ⟨mid, hmid⟩ := h.above
  have hfr : (U.setTop g).frames = (.java g :: mid) ++ below := by rw [State.frames_setTop' g h.top, hmid]; rfl
  obtain ⟨o, s₂, hsteps, -, hend, hq⟩ := Steps.callFree hM p X.admits X.cas X.clock (acts := []) hfr happ hPc trivial
  have hq' : vx_Q Qc XC mc ms free a (U.calling g mk a) o s₂ := hq
  rw [State.frames_setTop' g h.top] at hend
  obtain ⟨g₀, hg0⟩ := Option.isSome_iff_exists.mp h.top
  obtain ⟨r, hr⟩ := State.topJava?_eq_some.mp hg0
  have hr' : (({ U with heap := s₂.heap, slotsUsed := s₂.slotsUsed } : State).setVm s₂.vm).frames = .java g₀ :: r := hr
  rcases hq' with ⟨hqc, L, hfe, hL⟩ | ⟨q, rfl, E, ce, L, hx, hce, hcv, hcl, hW₂, hsm, hL⟩
  · obtain ⟨⟨v, rfl⟩, hW₂, e2, q2, q3, q4, q5, q6⟩ := id hfe
    have e3 : s₂ = ({ (U.calling g mk a).setFrames s₂.frames with heap := s₂.heap, slotsUsed := s₂.slotsUsed } : State).setVm s₂.vm := by
      have : s₂ = ({ s₂ with vm := (U.calling g mk a).vm } : State).setVm s₂.vm := rfl
      rw [e2] at this
      exact this
    obtain ⟨c₂, i₂, len₂, hc₂, hd₂, hf₂⟩ := hend
    have hW' : U.WarmedH s₂.vm := hW₂
    have hcc : c₂ = c := by
      have h1 : s₂.code? g.method = U.code? g.method := by
        rw [State.code?_eq, State.code?_eq, hW'.alike.method?]
      exact Option.some.inj (hc₂.symm.trans (h1.trans h.code))
    subst hcc
    have hlen : len₂ = len := by rw [hdg] at hd₂; cases hd₂; rfl
    subst hlen
    have hs₂ : s₂ = (({ U with heap := s₂.heap, slotsUsed := s₂.slotsUsed } : State).setVm s₂.vm).setTop { g with pc := g.pc + len₂, stack := v.toList ++ g.stack } := by
      refine e3.trans ?_
      rw [hf₂, State.calling_eq h.top, State.setFrames_setFrames, State.setTop_of_frames _ hr', hr]
      rfl
    have hsame : U.sameButNew ({ U with heap := s₂.heap, slotsUsed := s₂.slotsUsed } : State) L mc ms := by
      refine ⟨?_, q2, q3, q4, q5, q6⟩
      obtain ⟨t, ht, -⟩ := State.frames_cons hr
      show ({ U with heap := s₂.heap, slotsUsed := s₂.slotsUsed } : State) = { U.setFrames U.frames with heap := s₂.heap, slotsUsed := s₂.slotsUsed }
      rw [State.setFrames_self ht]
    subst hg
    refine Or.inl ⟨v, ⟨(({ U with heap := s₂.heap, slotsUsed := s₂.slotsUsed } : State).setVm s₂.vm), Ls ++ L, c0 + mc, s0 + ms⟩,
      ⟨X.admits, X.cas, X.clock, X.frames, X.room, X.hears, X.method, X.code, (X.here.setHeapUsed s₂.heap s₂.slotsUsed).setVm hW'.alike, X.tail, State.WarmedH.trans X.warmed hW', X.limits, X.bytes, X.same.trans (hsame.setVm s.vm)⟩,
      ⟨g, mk, s₂, L, rfl, rfl, hqc, rfl, hL, rfl, rfl⟩, ?_⟩
    show Steps p.tables e below _ ((({ U with heap := s₂.heap, slotsUsed := s₂.slotsUsed } : State).setVm s₂.vm).setTop { g with pc := g.pc + len₂, stack := v.toList ++ g.stack })
    rw [← hs₂]
    exact hsteps
  · obtain ⟨e2, q2, q3, q4, q5, q6⟩ := id hsm
    have e3 : s₂ = ({ (U.calling g mk a).setFrames s₂.frames with heap := s₂.heap, slotsUsed := s₂.slotsUsed } : State).setVm s₂.vm := by
      have : s₂ = ({ s₂ with vm := (U.calling g mk a).vm } : State).setVm s₂.vm := rfl
      rw [e2] at this
      exact this
    have hf₂ : s₂.frames = .throwing q :: .java g :: U.frames.tail := hend
    have hW' : U.WarmedH s₂.vm := hW₂
    have hs₂ : s₂ = ((({ U with heap := s₂.heap, slotsUsed := s₂.slotsUsed } : State).setVm s₂.vm).setTop g).pushFrame (.throwing q) := by
      refine e3.trans ?_
      rw [hf₂, State.calling_eq h.top, State.setFrames_setFrames, State.pushFrame, State.frames_setTop _ hr', State.setTop_of_frames _ hr', State.setFrames_setFrames, hr]
      rfl
    have hsame : U.sameButNew ({ U with heap := s₂.heap, slotsUsed := s₂.slotsUsed } : State) L mc ms := by
      refine ⟨?_, q2, q3, q4, q5, q6⟩
      obtain ⟨t, ht, -⟩ := State.frames_cons hr
      show ({ U with heap := s₂.heap, slotsUsed := s₂.slotsUsed } : State) = { U.setFrames U.frames with heap := s₂.heap, slotsUsed := s₂.slotsUsed }
      rw [State.setFrames_self ht]
    subst hg
    refine Or.inr ⟨q, ⟨(({ U with heap := s₂.heap, slotsUsed := s₂.slotsUsed } : State).setVm s₂.vm), Ls ++ L, c0 + mc, s0 + ms⟩,
      ⟨X.admits, X.cas, X.clock, X.frames, X.room, X.hears, X.method, X.code, (X.here.setHeapUsed s₂.heap s₂.slotsUsed).setVm hW'.alike, X.tail, State.WarmedH.trans X.warmed hW', X.limits, X.bytes, X.same.trans (hsame.setVm s.vm)⟩,
      ⟨g, mk, s₂, L, E, ce, rfl, rfl, hx, hce, hcv, hcl, rfl, hL, rfl, rfl⟩, ?_⟩
    show Steps p.tables e below _ (((({ U with heap := s₂.heap, slotsUsed := s₂.slotsUsed } : State).setVm s₂.vm).setTop g).pushFrame (.throwing q))
    rw [← hs₂]
    exact hsteps
end Payer
section Calls
variable {p : Program} {l : Launch} {e : Env} {R : Room} {s : State} {m : MethodId} {args : Array Value} {below : List Frame} {meth : Method} {c : Code} {T : State} {locs : List Loc} {cells slots : Nat}
theorem vx_callV (X : Stand p l e R s m args below meth c T locs cells slots) (hexec : p.tables.exec = Jvm.exec) {own C : String} {index : Nat} {y : MethodName} {bytes : ByteArray} {maxL : Nat} {ret : Option FieldType}
    (hown : s.vm.findClass own = some m.cls) (hlink : (Cond.methodLink own index y).before args s = true) (hinst : (Cond.instanceMethod y).before args s = true) (hsel : (Cond.selects C y y).before args s = true)
    (hcode : (Cond.code y bytes maxL ret).before args s = true) (hy : y.cls ≠ "java/lang/invoke/MethodHandle" ∧ y.cls ≠ "java/lang/invoke/VarHandle")
    {W9 : Nat} {Pre : Pt → Array Value → Prop} {Post : Pt → Array Value → Option Value → Pt → Prop} {PostX : Pt → Array Value → Addr → Pt → Prop} (hK : vx_Back l R p e below s args y 3 W9 Pre Post PostX)
    {b : Addr} {cellB : Cell} (hcell : T.heap[b]? = some cellB) (hobj : cellB.vm.isStatics = false) (hcls : s.vm.findClass C = some cellB.cls)
    {g : JFrame} (hg : g.method = m) (hsize : g.locals.size = c.maxLocals) {argsL rest : List Value} (hlen : ∀ sig, parseMethodDescriptor y.desc = some sig → argsL.length = sig.parameters.length)
    (hstack : g.stack = argsL.reverse ++ .ref b :: rest) (hW : 2 * g.monitorRoom + (rest.map fun v => v.category).sum ≤ W9) (hdg : decode c.code g.pc = .ok (.invokevirtual index, 3))
    (hpre : ∀ vm₁, s.WarmedH vm₁ → Pre ⟨T.setVm vm₁, locs, cells, slots⟩ (Value.ref b :: argsL).toArray) :
    (∃ (v : Option Value) (vm₁ : Vm) (B : Pt), s.WarmedH vm₁ ∧ Stand p l e R s m args below meth c B.U B.locs B.cells B.slots ∧ Post ⟨T.setVm vm₁, locs, cells, slots⟩ (Value.ref b :: argsL).toArray v B ∧
      ∀ target, Steps p.tables e below (B.U.setTop { g with pc := g.pc + 3, stack := v.toList ++ rest }) target → Steps p.tables e below (T.setTop g) target) ∨
    (∃ (q : Addr) (vm₁ : Vm) (B : Pt), s.WarmedH vm₁ ∧ Stand p l e R s m args below meth c B.U B.locs B.cells B.slots ∧ PostX ⟨T.setVm vm₁, locs, cells, slots⟩ (Value.ref b :: argsL).toArray q B ∧
      Steps p.tables e below (T.setTop g) ((B.U.setTop { g with stack := rest }).pushFrame (.throwing q))) := by
  obtain ⟨mk, methM, hnamed, hmethM, hstM, habM⟩ := Cond.instanceMethod_spec hinst
  obtain ⟨methM', cM, hmethM', -, -, -, -, -, -, hsigM⟩ := Cond.code_spec hnamed hcode
  cases hmethM.symm.trans hmethM'
  obtain ⟨c2, r2, m2, q1, q2, q3, q4, kP, hkP, hkPi⟩ := Cond.selects_spec hsel
  cases hcls.symm.trans q1
  cases (State.methodFound?_of_named hnamed hy).symm.trans q2
  cases hnamed.symm.trans q3
  have hselP : selectMethod e.platform s.vm cellB.cls mk = .method mk := by rw [Launch.admits_selectMethod X.admits]; exact q4
  obtain ⟨vm₁, X₁, hstep₁⟩ := X.invokevirtual hexec hown hlink hnamed hmethM hstM hkP hkPi hy (a := b) (cell := cellB) hcell
    (fun z h => by rw [h] at hobj; cases hobj) hselP hmethM habM hkP hkPi (g := g) hg (argsL := argsL) (rest := rest) (hlen _ hsigM) hstack hdg
  rcases hK m meth c ⟨T.setVm vm₁, locs, cells, slots⟩ { g with stack := rest } (.invokevirtual index) mk (Value.ref b :: argsL).toArray X₁ hg hsize hdg hW (X₁.named hnamed) (hpre vm₁ X₁.warmed) with ⟨v, B, X', hpost, hsteps⟩ | ⟨q, B, X', hpost, hsteps⟩
  · exact Or.inl ⟨v, vm₁, B, X₁.warmed, X', hpost, fun target h => hstep₁ _ fun acts => by rw [doInvoke_state]; exact hsteps.trans h⟩
  · exact Or.inr ⟨q, vm₁, B, X₁.warmed, X', hpost, hstep₁ _ fun acts => by rw [doInvoke_state]; exact hsteps⟩
theorem vx_callS (X : Stand p l e R s m args below meth c T locs cells slots) (hexec : p.tables.exec = Jvm.exec) {own : String} {index : Nat} {y : MethodName} {bytes : ByteArray} {maxL : Nat} {ret : Option FieldType}
    (hown : s.vm.findClass own = some m.cls) (hlink : (Cond.methodLink own index y).before args s = true) (hstat : (Cond.static y).before args s = true) (hinit : (Cond.initialized y.cls).before args s = true)
    (hcode : (Cond.code y bytes maxL ret).before args s = true) (hy : y.cls ≠ "java/lang/invoke/MethodHandle" ∧ y.cls ≠ "java/lang/invoke/VarHandle")
    {W9 : Nat} {Pre : Pt → Array Value → Prop} {Post : Pt → Array Value → Option Value → Pt → Prop} {PostX : Pt → Array Value → Addr → Pt → Prop} (hK : vx_Back l R p e below s args y 3 W9 Pre Post PostX)
    {g : JFrame} (hg : g.method = m) (hsize : g.locals.size = c.maxLocals) {argsL rest : List Value} (hlen : ∀ sig, parseMethodDescriptor y.desc = some sig → argsL.length = sig.parameters.length)
    (hstack : g.stack = argsL.reverse ++ rest) (hW : 2 * g.monitorRoom + (rest.map fun v => v.category).sum ≤ W9) (hdg : decode c.code g.pc = .ok (.invokestatic index, 3))
    (hpre : ∀ vm₁, s.WarmedH vm₁ → Pre ⟨T.setVm vm₁, locs, cells, slots⟩ argsL.toArray) :
    (∃ (v : Option Value) (vm₁ : Vm) (B : Pt), s.WarmedH vm₁ ∧ Stand p l e R s m args below meth c B.U B.locs B.cells B.slots ∧ Post ⟨T.setVm vm₁, locs, cells, slots⟩ argsL.toArray v B ∧
      ∀ target, Steps p.tables e below (B.U.setTop { g with pc := g.pc + 3, stack := v.toList ++ rest }) target → Steps p.tables e below (T.setTop g) target) ∨
    (∃ (q : Addr) (vm₁ : Vm) (B : Pt), s.WarmedH vm₁ ∧ Stand p l e R s m args below meth c B.U B.locs B.cells B.slots ∧ PostX ⟨T.setVm vm₁, locs, cells, slots⟩ argsL.toArray q B ∧
      Steps p.tables e below (T.setTop g) ((B.U.setTop { g with stack := rest }).pushFrame (.throwing q))) := by
  obtain ⟨mk, hnamed⟩ := Cond.code_named hcode
  obtain ⟨methM, cM, hmethM, -, -, -, -, -, -, hsigM⟩ := Cond.code_spec hnamed hcode
  have hstatic : methM.isStatic = true := Cond.static_spec hnamed hmethM hstat
  obtain ⟨kP, hkP, -⟩ := className_of_methodNamed hnamed
  have hinitP : kP.init = .initialized := Cond.initialized_spec (findClass_of_methodNamed hnamed) hkP hinit
  obtain ⟨vm₁, X₁, hstep₁⟩ := X.invokestatic hexec hown hlink hnamed hmethM hstatic hkP hinitP hy (g := g) hg (argsL := argsL) (rest := rest) (hlen _ hsigM) hstack hdg
  rcases hK m meth c ⟨T.setVm vm₁, locs, cells, slots⟩ { g with stack := rest } (.invokestatic index) mk argsL.toArray X₁ hg hsize hdg hW (X₁.named hnamed) (hpre vm₁ X₁.warmed) with ⟨v, B, X', hpost, hsteps⟩ | ⟨q, B, X', hpost, hsteps⟩
  · exact Or.inl ⟨v, vm₁, B, X₁.warmed, X', hpost, fun target h => hstep₁ _ fun acts => by rw [doInvoke_state]; exact hsteps.trans h⟩
  · exact Or.inr ⟨q, vm₁, B, X₁.warmed, X', hpost, hstep₁ _ fun acts => by rw [doInvoke_state]; exact hsteps⟩
end Calls
theorem vx_cls {s : State} {T : State} {vm₁ : Vm} {E : String} {k : ClassId} (hW : s.WarmedH vm₁) (h : (T.setVm vm₁).vm.findClass E = some k) : s.vm.findClass E = some k := by
  have h1 : vm₁.findClass E = some k := h
  rw [hW.alike.findClass] at h1
  exact h1
/-- the method's frame g, with q thrown over it -/
def vx_W (p : Program) (l : Launch) (e : Env) (R : Room) (s : State) (m : MethodId) (args : Array Value) (below : List Frame) (meth : Method) (c : Code) (H : Heap) (locs : List Loc) (cells slots : Nat) (Q : State → Prop) (g : JFrame) (q : Addr) : Prop :=
  ∀ T : State, T.heap = H → Stand p l e R s m args below meth c T locs cells slots → ∃ t, Steps p.tables e below ((T.setTop g).pushFrame (.throwing q)) t ∧ Q t
def vx_Run (p : Program) (l : Launch) (e : Env) (R : Room) (s : State) (m : MethodId) (args : Array Value) (below : List Frame) (meth : Method) (c : Code) (H : Heap) (locs : List Loc) (cells slots mc ms : Nat) (g : JFrame) (rest : List Value) (Qa : State → Outcome → State → Prop) (XC : String → State → State → Prop) (free : Addr → Prop) : Prop :=
  ∀ T : State, T.heap = H → Stand p l e R s m args below meth c T locs cells slots →
    (∃ (v : Option Value) (st₀ t T' : State) (L : List Loc), st₀.heap = H ∧ Stand p l e R s m args below meth c T' (locs ++ L) (cells + mc) (slots + ms) ∧ (∀ q ∈ L, free q.base) ∧ T'.heap = t.heap ∧ T'.vm = t.vm ∧ Qa st₀ (.returned v) t ∧
      Goes p e below T g T' { g with pc := g.pc + 3, stack := v.toList ++ rest }) ∨
    (∃ (q : Addr) (st₀ t T' : State) (L : List Loc) (E : String) (ce : Cell), st₀.heap = H ∧ Stand p l e R s m args below meth c T' (locs ++ L) (cells + mc) (slots + ms) ∧ (∀ z ∈ L, free z.base) ∧ T'.heap = t.heap ∧ T'.vm = t.vm ∧ XC E st₀ t ∧ t.heap[q]? = some ce ∧ ce.vm = .none ∧ s.vm.findClass E = some ce.cls ∧
      Steps p.tables e below (T.setTop g) ((T'.setTop { g with stack := rest }).pushFrame (.throwing q)))
def vx_X {S : Type} (px : S → Prop) (B : String → S → State → Prop) (A : Nat → Prop) : String → State → State → Prop := fun E st t => ∃ u : S, px u ∧ B E u t ∧ va_F A st t
section Runs
variable {p : Program} {l : Launch} {e : Env} {R : Room} {s : State} {m : MethodId} {args : Array Value} {below : List Frame} {meth : Method} {c : Code} {H : Heap} {locs : List Loc} {cells slots : Nat}
variable {y : MethodName} {bytes cc : ByteArray} {maxL nL mc ms n index : Nat} {ret : Option FieldType} {ws : List Cond} {rm : Room} {Pc : Array Value → State → Prop} {Qc : Array Value → State → Outcome → State → Prop} {XC : String → State → State → Prop} {free : Addr → Prop} {Ts : List Cond} {own C : String} {b : Addr} {As rest : List Value} {g : JFrame}
theorem vx_callBack (cb : CallB R s args own index y bytes maxL ret ws rm mc ms n) (hM : vx_Met l y ws rm Pc Qc XC mc ms free) (hbl : FrameBlind Pc) : vx_Back l R p e below s args y 3 8 (PreOf R mc ms Pc) (PostOf Qc mc ms free) (vx_Post XC mc ms free) := by
  obtain ⟨hrc, hrs, hfr, hlo, hws, hcw, -, hini, -⟩ := cb
  exact vx_back (bytes := bytes) (maxL := maxL) (ret := ret) hM hbl hrc hrs hfr hlo hws hcw (fun a' U hW => word_at hW (Or.inl (by first | rfl | simp [Cond.onTables, Cond.keeps, Cond.steady])) hini)
theorem vx_runV (S : CallFix p m c cc nL s args Ts own) (hM : vx_Met l y ws rm Pc Qc XC mc ms free) (cw : CallW R s args own C index y bytes maxL ret ws rm mc ms n) (hp : PreV s H C b Pc As)
    (hg : g.method = m) (hn : As.length = n) (hsize : g.locals.size = nL) (hstack : g.stack = As.reverse ++ .ref b :: rest) (hW : 2 * g.monitorRoom + (rest.map fun v => v.category).sum ≤ 8) (hdg : decode cc g.pc = .ok (.invokevirtual index, 3)) (hf : cells + mc ≤ R.cells ∧ slots + ms ≤ R.slots) :
    vx_Run p l e R s m args below meth c H locs cells slots mc ms g rest (Qc (Value.ref b :: As).toArray) XC free := by
  have hK : vx_Back l R p e below s args y 3 8 (PreOf R mc ms Pc) (PostOf Qc mc ms free) (vx_Post XC mc ms free) := vx_callBack cw.1 hM hp.1
  obtain ⟨⟨-, -, -, -, -, -, hcode, -, hy, hlen, hl⟩, hin, hse⟩ := cw
  obtain ⟨hx, hb, hml, ho, -⟩ := S
  obtain ⟨-, ⟨cellB, hcB, hoB, hclB⟩, hPc⟩ := hp
  intro T hT X
  rcases vx_callV X hx (C := C) (bytes := bytes) (maxL := maxL) (ret := ret) ho hl hin hse hcode hy hK (by rw [hT]; exact hcB) hoB hclB hg (hsize.trans hml.symm) (argsL := As) (rest := rest) (fun sig h => hn.trans (hlen sig h)) hstack hW (by rw [hb]; exact hdg)
    (fun vm₁ hW₁ => ⟨hf.1, hf.2, hPc (T.setVm vm₁) hT hW₁⟩) with ⟨v, vm₁, ⟨U', l2, c2, s2⟩, hW₁, X', ⟨g', mk, t, L, e1, e2, hq, h1, hL, h2, h3⟩, st⟩ | ⟨q, vm₁, ⟨U', l2, c2, s2⟩, hW₁, X', ⟨g', mk, t, L, E, ce, e1, e2, hq, hce, hcv, hcl, h1, hL, h2, h3⟩, st⟩
  · dsimp only [Pt.U, Pt.locs, Pt.cells, Pt.slots] at X' e1 e2 h1 h2 h3 st
    subst h1; subst h2; subst h3
    exact Or.inl ⟨v, (T.setVm vm₁).calling g' mk (Value.ref b :: As).toArray, t, U', L, hT, X', hL, e1, e2, hq, st⟩
  · dsimp only [Pt.U, Pt.locs, Pt.cells, Pt.slots] at X' e1 e2 h1 h2 h3 st hcl
    subst h1; subst h2; subst h3
    exact Or.inr ⟨q, (T.setVm vm₁).calling g' mk (Value.ref b :: As).toArray, t, U', L, E, ce, hT, X', hL, e1, e2, hq, hce, hcv, vx_cls hW₁ hcl, st⟩
theorem vx_runS (S : CallFix p m c cc nL s args Ts own) (hM : vx_Met l y ws rm Pc Qc XC mc ms free) (cw : CallB R s args own index y bytes maxL ret ws rm mc ms n ∧ (Cond.static y).before args s = true) (hp : PreS s H Pc As)
    (hg : g.method = m) (hn : As.length = n) (hsize : g.locals.size = nL) (hstack : g.stack = As.reverse ++ rest) (hW : 2 * g.monitorRoom + (rest.map fun v => v.category).sum ≤ 8) (hdg : decode cc g.pc = .ok (.invokestatic index, 3)) (hf : cells + mc ≤ R.cells ∧ slots + ms ≤ R.slots) :
    vx_Run p l e R s m args below meth c H locs cells slots mc ms g rest (Qc As.toArray) XC free := by
  have hK : vx_Back l R p e below s args y 3 8 (PreOf R mc ms Pc) (PostOf Qc mc ms free) (vx_Post XC mc ms free) := vx_callBack cw.1 hM hp.1
  obtain ⟨⟨-, -, -, -, -, -, hcode, hini, hy, hlen, hl⟩, hstt⟩ := cw
  obtain ⟨hx, hb, hml, ho, -⟩ := S
  intro T hT X
  rcases vx_callS X hx (bytes := bytes) (maxL := maxL) (ret := ret) ho hl hstt hini hcode hy hK hg (hsize.trans hml.symm) (argsL := As) (rest := rest) (fun sig h => hn.trans (hlen sig h)) hstack hW (by rw [hb]; exact hdg)
    (fun vm₁ hW₁ => ⟨hf.1, hf.2, hp.2 (T.setVm vm₁) hT hW₁⟩) with ⟨v, vm₁, ⟨U', l2, c2, s2⟩, hW₁, X', ⟨g', mk, t, L, e1, e2, hq, h1, hL, h2, h3⟩, st⟩ | ⟨q, vm₁, ⟨U', l2, c2, s2⟩, hW₁, X', ⟨g', mk, t, L, E, ce, e1, e2, hq, hce, hcv, hcl, h1, hL, h2, h3⟩, st⟩
  · dsimp only [Pt.U, Pt.locs, Pt.cells, Pt.slots] at X' e1 e2 h1 h2 h3 st
    subst h1; subst h2; subst h3
    exact Or.inl ⟨v, (T.setVm vm₁).calling g' mk As.toArray, t, U', L, hT, X', hL, e1, e2, hq, st⟩
  · dsimp only [Pt.U, Pt.locs, Pt.cells, Pt.slots] at X' e1 e2 h1 h2 h3 st hcl
    subst h1; subst h2; subst h3
    exact Or.inr ⟨q, (T.setVm vm₁).calling g' mk As.toArray, t, U', L, E, ce, hT, X', hL, e1, e2, hq, hce, hcv, vx_cls hW₁ hcl, st⟩
end Runs
section Rows
variable {p : Program} {l : Launch} {e : Env} {R : Room} {s : State} {m : MethodId} {args : Array Value} {below : List Frame} {meth : Method} {c : Code} {H : Heap} {locs : List Loc} {cells slots : Nat} {Q : State → Prop}
variable {mc ms : Nat} {free : Addr → Prop} {A0 A1 : Nat → Prop} {H0 : Heap} {a : Array Value} {pc : Nat} {ls : Array Slot} {st0 rest : List Value}
theorem vx_keep {st₀ t T' : State} {L : List Loc} (h0 : st₀.heap = H) (e1 : T'.heap = t.heap) (hS : va_S A0 H0 H locs) (hA : ∀ q, q < H.size → A1 q → A0 q) (hf : ∀ q, free q → A0 q) (hL : ∀ q ∈ L, free q.base) (hF : va_F A1 st₀ t) :
    H.size ≤ T'.heap.size ∧ (∀ q : Nat, q < H.size → ¬ A1 q → T'.heap[q]? = H[q]?) ∧ va_S A0 H0 T'.heap (locs ++ L) := by
  obtain ⟨hz, hk⟩ := hF
  rw [h0] at hz hk
  exact ⟨by rw [e1]; exact hz, fun q h1 h2 => by rw [e1]; exact hk q h1 h2,
    ⟨Nat.le_trans hS.1 (by rw [e1]; exact hz), fun q h1 h2 => by rw [e1, hk q (Nat.lt_of_lt_of_le h1 hS.1) (fun z => h2 (hA q (Nat.lt_of_lt_of_le h1 hS.1) z))]; exact hS.2.1 q h1 h2, fun q hq => by
      rcases List.mem_append.mp hq with h | h
      · exact hS.2.2 q h
      · exact hf _ (hL q h)⟩⟩
theorem vx_calli {S SX : Type} {post : Int32 → S → Prop} {px : SX → Prop} {B : S → State → Prop} {BX : String → SX → State → Prop} {AX : Nat → Prop} (hr : vx_Run p l e R s m args below meth c H locs cells slots mc ms (F0 m pc ls st0) rest (va_Qi post B A1 a) (vx_X px BX AX) free) (hS : va_S A0 H0 H locs) (hA : ∀ q, q < H.size → A1 q → A0 q) (hf : ∀ q, free q → A0 q) (hAX : ∀ q, q < H.size → AX q → A0 q)
    (kx : ∀ (E : String) (ce : Cell) (q9 : Addr) (u : SX) (t : State) (H1 : Heap) (locs1 : List Loc), t.heap = H1 → s.vm.Alike t.vm → px u → BX E u t → H.size ≤ H1.size → (∀ q : Nat, q < H.size → ¬ AX q → H1[q]? = H[q]?) → va_S A0 H0 H1 locs1 → H1[q9]? = some ce → ce.vm = .none → s.vm.findClass E = some ce.cls → vx_W p l e R s m args below meth c H1 locs1 (cells + mc) (slots + ms) Q (F0 m pc ls rest) q9)
    (kk : ∀ (r : Int32) (u : S) (t : State) (H1 : Heap) (locs1 : List Loc), t.heap = H1 → s.vm.Alike t.vm → post r u → B u t → H.size ≤ H1.size → (∀ q : Nat, q < H.size → ¬ A1 q → H1[q]? = H[q]?) → va_S A0 H0 H1 locs1 → W p l e R s m args below meth c H1 locs1 (cells + mc) (slots + ms) Q (F0 m (pc + 3) ls (.int r :: rest))) : W p l e R s m args below meth c H locs cells slots Q (F0 m pc ls st0) := by
  intro T hT X
  rcases hr T hT X with ⟨v, st₀, t, T', L, h0, X', hL, e1, e2, ⟨⟨r, u, hv, hp, hb⟩, hF⟩, st⟩ | ⟨q, st₀, t, T', L, E, ce, h0, X', hL, e1, e2, ⟨u, hp, hb, hF⟩, hce, hcv, hcl, st⟩
  · cases hv
    obtain ⟨k1, k2, k3⟩ := vx_keep h0 e1 hS hA hf hL hF
    obtain ⟨t2, a1, b1⟩ := kk r u t T'.heap (locs ++ L) e1.symm (by rw [← e2]; exact X'.warmed.alike) hp hb k1 k2 k3 T' rfl X'
    exact ⟨t2, st t2 a1, b1⟩
  · obtain ⟨k1, k2, k3⟩ := vx_keep h0 e1 hS hAX hf hL hF
    obtain ⟨t2, a1, b1⟩ := kx E ce q u t T'.heap (locs ++ L) e1.symm (by rw [← e2]; exact X'.warmed.alike) hp hb k1 k2 k3 (by rw [e1]; exact hce) hcv hcl T' rfl X'
    exact ⟨t2, st.trans a1, b1⟩
theorem vx_calll {S SX : Type} {post : Int64 → S → Prop} {px : SX → Prop} {B : S → State → Prop} {BX : String → SX → State → Prop} {AX : Nat → Prop} (hr : vx_Run p l e R s m args below meth c H locs cells slots mc ms (F0 m pc ls st0) rest (va_Ql post B A1 a) (vx_X px BX AX) free) (hS : va_S A0 H0 H locs) (hA : ∀ q, q < H.size → A1 q → A0 q) (hf : ∀ q, free q → A0 q) (hAX : ∀ q, q < H.size → AX q → A0 q)
    (kx : ∀ (E : String) (ce : Cell) (q9 : Addr) (u : SX) (t : State) (H1 : Heap) (locs1 : List Loc), t.heap = H1 → s.vm.Alike t.vm → px u → BX E u t → H.size ≤ H1.size → (∀ q : Nat, q < H.size → ¬ AX q → H1[q]? = H[q]?) → va_S A0 H0 H1 locs1 → H1[q9]? = some ce → ce.vm = .none → s.vm.findClass E = some ce.cls → vx_W p l e R s m args below meth c H1 locs1 (cells + mc) (slots + ms) Q (F0 m pc ls rest) q9)
    (kk : ∀ (r : Int64) (u : S) (t : State) (H1 : Heap) (locs1 : List Loc), t.heap = H1 → s.vm.Alike t.vm → post r u → B u t → H.size ≤ H1.size → (∀ q : Nat, q < H.size → ¬ A1 q → H1[q]? = H[q]?) → va_S A0 H0 H1 locs1 → W p l e R s m args below meth c H1 locs1 (cells + mc) (slots + ms) Q (F0 m (pc + 3) ls (.long r :: rest))) : W p l e R s m args below meth c H locs cells slots Q (F0 m pc ls st0) := by
  intro T hT X
  rcases hr T hT X with ⟨v, st₀, t, T', L, h0, X', hL, e1, e2, ⟨⟨r, u, hv, hp, hb⟩, hF⟩, st⟩ | ⟨q, st₀, t, T', L, E, ce, h0, X', hL, e1, e2, ⟨u, hp, hb, hF⟩, hce, hcv, hcl, st⟩
  · cases hv
    obtain ⟨k1, k2, k3⟩ := vx_keep h0 e1 hS hA hf hL hF
    obtain ⟨t2, a1, b1⟩ := kk r u t T'.heap (locs ++ L) e1.symm (by rw [← e2]; exact X'.warmed.alike) hp hb k1 k2 k3 T' rfl X'
    exact ⟨t2, st t2 a1, b1⟩
  · obtain ⟨k1, k2, k3⟩ := vx_keep h0 e1 hS hAX hf hL hF
    obtain ⟨t2, a1, b1⟩ := kx E ce q u t T'.heap (locs ++ L) e1.symm (by rw [← e2]; exact X'.warmed.alike) hp hb k1 k2 k3 (by rw [e1]; exact hce) hcv hcl T' rfl X'
    exact ⟨t2, st.trans a1, b1⟩
theorem vx_callf {S SX : Type} {post : UInt32 → S → Prop} {px : SX → Prop} {B : S → State → Prop} {BX : String → SX → State → Prop} {AX : Nat → Prop} (hr : vx_Run p l e R s m args below meth c H locs cells slots mc ms (F0 m pc ls st0) rest (va_Qf post B A1 a) (vx_X px BX AX) free) (hS : va_S A0 H0 H locs) (hA : ∀ q, q < H.size → A1 q → A0 q) (hf : ∀ q, free q → A0 q) (hAX : ∀ q, q < H.size → AX q → A0 q)
    (kx : ∀ (E : String) (ce : Cell) (q9 : Addr) (u : SX) (t : State) (H1 : Heap) (locs1 : List Loc), t.heap = H1 → s.vm.Alike t.vm → px u → BX E u t → H.size ≤ H1.size → (∀ q : Nat, q < H.size → ¬ AX q → H1[q]? = H[q]?) → va_S A0 H0 H1 locs1 → H1[q9]? = some ce → ce.vm = .none → s.vm.findClass E = some ce.cls → vx_W p l e R s m args below meth c H1 locs1 (cells + mc) (slots + ms) Q (F0 m pc ls rest) q9)
    (kk : ∀ (r : UInt32) (u : S) (t : State) (H1 : Heap) (locs1 : List Loc), t.heap = H1 → s.vm.Alike t.vm → post r u → B u t → H.size ≤ H1.size → (∀ q : Nat, q < H.size → ¬ A1 q → H1[q]? = H[q]?) → va_S A0 H0 H1 locs1 → W p l e R s m args below meth c H1 locs1 (cells + mc) (slots + ms) Q (F0 m (pc + 3) ls (.float r :: rest))) : W p l e R s m args below meth c H locs cells slots Q (F0 m pc ls st0) := by
  intro T hT X
  rcases hr T hT X with ⟨v, st₀, t, T', L, h0, X', hL, e1, e2, ⟨⟨r, u, hv, hp, hb⟩, hF⟩, st⟩ | ⟨q, st₀, t, T', L, E, ce, h0, X', hL, e1, e2, ⟨u, hp, hb, hF⟩, hce, hcv, hcl, st⟩
  · cases hv
    obtain ⟨k1, k2, k3⟩ := vx_keep h0 e1 hS hA hf hL hF
    obtain ⟨t2, a1, b1⟩ := kk r u t T'.heap (locs ++ L) e1.symm (by rw [← e2]; exact X'.warmed.alike) hp hb k1 k2 k3 T' rfl X'
    exact ⟨t2, st t2 a1, b1⟩
  · obtain ⟨k1, k2, k3⟩ := vx_keep h0 e1 hS hAX hf hL hF
    obtain ⟨t2, a1, b1⟩ := kx E ce q u t T'.heap (locs ++ L) e1.symm (by rw [← e2]; exact X'.warmed.alike) hp hb k1 k2 k3 (by rw [e1]; exact hce) hcv hcl T' rfl X'
    exact ⟨t2, st.trans a1, b1⟩
theorem vx_calld {S SX : Type} {post : UInt64 → S → Prop} {px : SX → Prop} {B : S → State → Prop} {BX : String → SX → State → Prop} {AX : Nat → Prop} (hr : vx_Run p l e R s m args below meth c H locs cells slots mc ms (F0 m pc ls st0) rest (va_Qd post B A1 a) (vx_X px BX AX) free) (hS : va_S A0 H0 H locs) (hA : ∀ q, q < H.size → A1 q → A0 q) (hf : ∀ q, free q → A0 q) (hAX : ∀ q, q < H.size → AX q → A0 q)
    (kx : ∀ (E : String) (ce : Cell) (q9 : Addr) (u : SX) (t : State) (H1 : Heap) (locs1 : List Loc), t.heap = H1 → s.vm.Alike t.vm → px u → BX E u t → H.size ≤ H1.size → (∀ q : Nat, q < H.size → ¬ AX q → H1[q]? = H[q]?) → va_S A0 H0 H1 locs1 → H1[q9]? = some ce → ce.vm = .none → s.vm.findClass E = some ce.cls → vx_W p l e R s m args below meth c H1 locs1 (cells + mc) (slots + ms) Q (F0 m pc ls rest) q9)
    (kk : ∀ (r : UInt64) (u : S) (t : State) (H1 : Heap) (locs1 : List Loc), t.heap = H1 → s.vm.Alike t.vm → post r u → B u t → H.size ≤ H1.size → (∀ q : Nat, q < H.size → ¬ A1 q → H1[q]? = H[q]?) → va_S A0 H0 H1 locs1 → W p l e R s m args below meth c H1 locs1 (cells + mc) (slots + ms) Q (F0 m (pc + 3) ls (.double r :: rest))) : W p l e R s m args below meth c H locs cells slots Q (F0 m pc ls st0) := by
  intro T hT X
  rcases hr T hT X with ⟨v, st₀, t, T', L, h0, X', hL, e1, e2, ⟨⟨r, u, hv, hp, hb⟩, hF⟩, st⟩ | ⟨q, st₀, t, T', L, E, ce, h0, X', hL, e1, e2, ⟨u, hp, hb, hF⟩, hce, hcv, hcl, st⟩
  · cases hv
    obtain ⟨k1, k2, k3⟩ := vx_keep h0 e1 hS hA hf hL hF
    obtain ⟨t2, a1, b1⟩ := kk r u t T'.heap (locs ++ L) e1.symm (by rw [← e2]; exact X'.warmed.alike) hp hb k1 k2 k3 T' rfl X'
    exact ⟨t2, st t2 a1, b1⟩
  · obtain ⟨k1, k2, k3⟩ := vx_keep h0 e1 hS hAX hf hL hF
    obtain ⟨t2, a1, b1⟩ := kx E ce q u t T'.heap (locs ++ L) e1.symm (by rw [← e2]; exact X'.warmed.alike) hp hb k1 k2 k3 (by rw [e1]; exact hce) hcv hcl T' rfl X'
    exact ⟨t2, st.trans a1, b1⟩
theorem vx_callv {S SX : Type} {post : S → Prop} {px : SX → Prop} {B : S → State → Prop} {BX : String → SX → State → Prop} {AX : Nat → Prop} (hr : vx_Run p l e R s m args below meth c H locs cells slots mc ms (F0 m pc ls st0) rest (va_Qv post B A1 a) (vx_X px BX AX) free) (hS : va_S A0 H0 H locs) (hA : ∀ q, q < H.size → A1 q → A0 q) (hf : ∀ q, free q → A0 q) (hAX : ∀ q, q < H.size → AX q → A0 q)
    (kx : ∀ (E : String) (ce : Cell) (q9 : Addr) (u : SX) (t : State) (H1 : Heap) (locs1 : List Loc), t.heap = H1 → s.vm.Alike t.vm → px u → BX E u t → H.size ≤ H1.size → (∀ q : Nat, q < H.size → ¬ AX q → H1[q]? = H[q]?) → va_S A0 H0 H1 locs1 → H1[q9]? = some ce → ce.vm = .none → s.vm.findClass E = some ce.cls → vx_W p l e R s m args below meth c H1 locs1 (cells + mc) (slots + ms) Q (F0 m pc ls rest) q9)
    (kk : ∀ (u : S) (t : State) (H1 : Heap) (locs1 : List Loc), t.heap = H1 → s.vm.Alike t.vm → post u → B u t → H.size ≤ H1.size → (∀ q : Nat, q < H.size → ¬ A1 q → H1[q]? = H[q]?) → va_S A0 H0 H1 locs1 → W p l e R s m args below meth c H1 locs1 (cells + mc) (slots + ms) Q (F0 m (pc + 3) ls (rest))) : W p l e R s m args below meth c H locs cells slots Q (F0 m pc ls st0) := by
  intro T hT X
  rcases hr T hT X with ⟨v, st₀, t, T', L, h0, X', hL, e1, e2, ⟨⟨u, hv, hp, hb⟩, hF⟩, st⟩ | ⟨q, st₀, t, T', L, E, ce, h0, X', hL, e1, e2, ⟨u, hp, hb, hF⟩, hce, hcv, hcl, st⟩
  · cases hv
    obtain ⟨k1, k2, k3⟩ := vx_keep h0 e1 hS hA hf hL hF
    obtain ⟨t2, a1, b1⟩ := kk u t T'.heap (locs ++ L) e1.symm (by rw [← e2]; exact X'.warmed.alike) hp hb k1 k2 k3 T' rfl X'
    exact ⟨t2, st t2 a1, b1⟩
  · obtain ⟨k1, k2, k3⟩ := vx_keep h0 e1 hS hAX hf hL hF
    obtain ⟨t2, a1, b1⟩ := kx E ce q u t T'.heap (locs ++ L) e1.symm (by rw [← e2]; exact X'.warmed.alike) hp hb k1 k2 k3 (by rw [e1]; exact hce) hcv hcl T' rfl X'
    exact ⟨t2, st.trans a1, b1⟩
/-- caught by the row x of this method's table; the rows ahead don't take it -/
theorem vx_catch {own name : String} {E : String} {ce : Cell} {q : Addr} (hown : s.vm.findClass own = some m.cls) (pre : List ExceptionTableEntry) (x : ExceptionTableEntry) (suf : List ExceptionTableEntry) (hsplit : c.exceptionTable.toList = pre ++ x :: suf)
    (hpass : ∀ z ∈ pre, covers z pc = false ∨ (z.catchType ≠ 0 ∧ ∃ nm : String, (Cond.classLink own z.catchType nm).before args s = true ∧ va_Nc E nm s)) (hx : covers x pc = true) (h0 : x.catchType ≠ 0)
    (hlink : (Cond.classLink own x.catchType name).before args s = true) (hcast : (Cond.castable E name).before args s = true) (hcell : H[q]? = some ce) (hv : ce.vm = .none) (hcl : s.vm.findClass E = some ce.cls)
    (kk : W p l e R s m args below meth c H locs cells slots Q (F0 m x.handlerPc ls [.ref q])) : vx_W p l e R s m args below meth c H locs cells slots Q (F0 m pc ls rest) q := by
  intro T hT X
  have hpl : e.platform.magicAccessors = ({} : Platform).magicAccessors := by rw [X.admits.platform]
  obtain ⟨c3, c4, hc3, hc4, hasg⟩ := Cond.castable_spec hcast
  cases Option.some.inj (hc3.symm.trans hcl)
  obtain ⟨c5, hc5, hcl5⟩ := Cond.classLink_spec hown hlink e.platform hpl
  cases Option.some.inj (hc4.symm.trans hc5)
  obtain ⟨vm', X', st⟩ := X.thenCaughtThrough q (g := F0 m pc ls rest) rfl (Steps.refl _) (by rw [hT]; exact hcell) (by rw [hv]; rfl) (by obtain ⟨k9, h9, -⟩ := Vm.findClass_spec hcl; exact ⟨k9, h9⟩) pre x suf hsplit
    (fun z hz => by
      rcases hpass z hz with h | ⟨hz0, nm, hl1, hn1⟩
      · exact Or.inl h
      · obtain ⟨c6, hc6, hcl6⟩ := Cond.classLink_spec hown hl1 e.platform hpl
        obtain ⟨a8, b8, h1, h2, h3⟩ := hn1
        cases Option.some.inj (h1.symm.trans hcl)
        cases Option.some.inj (h2.symm.trans hc6)
        exact Or.inr ⟨hz0, _, hcl6, h3⟩) hx (Or.inr ⟨h0, c4, hcl5, hasg⟩)
  obtain ⟨t, a1, b1⟩ := kk (T.setVm vm') hT X'
  exact ⟨t, st.trans a1, b1⟩
end Rows
section Ends
variable {p : Program} {l : Launch} {e : Env} {R : Room} {s : State} {m : MethodId} {args : Array Value} {below : List Frame} {meth : Method} {c : Code} {H : Heap} {locs : List Loc} {cells slots : Nat} {Q : State → Prop}
variable {mc ms : Nat} {free : Addr → Prop} {A0 A1 : Nat → Prop} {H0 : Heap} {a : Array Value} {ls : Array Slot} {st0 rest : List Value}
variable {Qc : Array Value → State → Outcome → State → Prop} {XC : String → State → State → Prop}
/-- what a body that may throw owes at its end -/
def vx_MQ (below : List Frame) (Qc : Array Value → State → Outcome → State → Prop) (XC : String → State → State → Prop) (a : Array Value) (s : State) (mc ms : Nat) (free : Addr → Prop) : State → Prop := fun t =>
  ∃ o, t.status = .running ∧ Ended t below o ∧ vx_Q Qc XC mc ms free a s o t
theorem vx_ret {g : JFrame} {mc ms : Nat} (k : W p l e R s m args below meth c H locs cells slots (MQ below Qc args s mc ms free) g) : W p l e R s m args below meth c H locs cells slots (vx_MQ below Qc XC args s mc ms free) g := by
  intro T hT X
  obtain ⟨t, a1, o, b1, b2, b3, b4⟩ := k T hT X
  exact ⟨t, a1, o, b1, b2, Or.inl ⟨b3, b4⟩⟩
/-- not caught here: it goes on to the caller -/
theorem vx_widen {g : JFrame} {q : Addr} {k n : Nat} (h1 : cells ≤ k) (h2 : slots ≤ n) (kk : vx_W p l e R s m args below meth c H locs k n Q g q) : vx_W p l e R s m args below meth c H locs cells slots Q g q := fun T hT X => kk T hT (stand_widen X h1 h2)
theorem vx_out {pc : Nat} {E : String} {ce : Cell} {q : Addr} {mc ms : Nat} (hout : ∀ x ∈ c.exceptionTable.toList, covers x pc = false) (hlocks : meth.locks = false) (hcell : H[q]? = some ce) (hv : ce.vm = .none) (hcl : s.vm.findClass E = some ce.cls)
    (hx : ∀ t : State, t.heap = H → s.vm.Alike t.vm → XC E s t) (hf : ∀ z ∈ locs, free z.base) (hc : cells ≤ mc) (hs : slots ≤ ms) :
    vx_W p l e R s m args below meth c H locs cells slots (vx_MQ below Qc XC args s mc ms free) (F0 m pc ls rest) q := by
  intro T hT X
  obtain ⟨st1, hrun, hend, hW, hsm⟩ := X.leaveThrown q (g := F0 m pc ls rest) rfl rfl rfl hout hlocks
  have hcell9 : (T.setFrames (.throwing q :: below)).heap[q]? = some ce := by
    show T.heap[q]? = some ce
    rw [hT]; exact hcell
  exact ⟨_, st1, .threw q, hrun, hend, Or.inr ⟨q, rfl, E, ce, locs, hx _ hT hW.alike, hcell9, hv, hcl, hW, hsm.mono hc hs, hf⟩⟩
theorem vx_frame {U : State} {k n : Nat} (h : s.sameButNew ({ U with vm := s.vm } : State) locs k n) : s.heap.size ≤ U.heap.size ∧ ∀ q : Nat, q < s.heap.size → (∀ z ∈ locs, z.base ≠ q) → U.heap[q]? = s.heap[q]? := by
  obtain ⟨-, h2, -, -, -, h6⟩ := h
  refine ⟨h2, fun q hq hz => ?_⟩
  obtain ⟨c9, e1, e2, e3, e4⟩ := h6 q _ (Array.getElem?_eq_getElem hq)
  have hs : c9.slots = (s.heap[q]).slots := Array.ext_getElem? fun i => e4 i fun hm => hz _ hm rfl
  have h9 : c9 = s.heap[q] := by
    rw [hs] at e2
    exact e2
  have e5 : U.heap[q]? = some c9 := e1
  rw [e5, h9, Array.getElem?_eq_getElem hq]
/-- the words of a throw but the four that speak of the heap -/
def vx_no (w : Cond) : Bool := decide (w ≠ .isRef (.static Bundle.tN "UNASSIGNED_STACK" Bundle.steD)) && decide (w ≠ .isRef (.static Bundle.tN "SUPPRESSED_SENTINEL" Bundle.listD)) && decide (w ≠ .laysStatic Bundle.tN "UNASSIGNED_STACK" Bundle.steD) && decide (w ≠ .laysStatic Bundle.tN "SUPPRESSED_SENTINEL" Bundle.listD)
def vx_at0 (own : String) (ic : Nat) (X : String) (names : List String) : List Cond := (Bundle.ownAtoms0 own ic X names).filter vx_no
def vx_atS (own : String) (ic : Nat) (X : String) (names : List String) : List Cond := (Bundle.ownAtoms own ic X names).filter vx_no
/-- a word that the tables alone decide, or a good one -/
def vx_ot (w : Cond) : Bool := w.onTables || goodWord w
theorem vx_ot_at {args a' : Array Value} {s U : State} {w : Cond} (hW : s.WarmedH U.vm) (hvm : s.vm = U.vm) (hg : vx_ot w = true) (h : w.before args s = true) : w.before a' U = true := by
  simp only [vx_ot, Bool.or_eq_true] at hg
  rcases hg with hg | hg
  · exact va_tabs hg hvm h
  · exact word_at hW (good_of_word hg) h
/-- a list's words: the good ones out of the method's own list, the others by premises of their own -/
theorem vx_hat {args : Array Value} {s : State} {L B : List Cond} (h1 : ∀ w ∈ L.filter goodWord, w.before args s = true) (h2 : ∀ w ∈ L.filter (fun w => !goodWord w), w ∈ B) (h3 : ∀ w ∈ B, w.before args s = true) : ∀ w ∈ L, w.before args s = true := by
  intro w hw
  by_cases g : goodWord w = true
  · exact h1 w (List.mem_filter.mpr ⟨hw, g⟩)
  · refine h3 w (h2 w (List.mem_filter.mpr ⟨hw, ?_⟩))
    show (!goodWord w) = true
    cases hgw : goodWord w
    · rfl
    · exact absurd hgw g
theorem vx_c {args : Array Value} {s : State} {w : Cond} {B : List Cond} (h : w.before args s = true) (t : ∀ w ∈ B, w.before args s = true) : ∀ w' ∈ w :: B, w'.before args s = true := fun w' h' => (List.mem_cons.mp h').elim (fun e => by rw [e]; exact h) (t w')
theorem vx_n {args : Array Value} {s : State} : ∀ w ∈ ([] : List Cond), w.before args s = true := fun _ h => nomatch h
theorem vx_own {args : Array Value} {s : State} {L : List Cond} (h1 : ∀ w ∈ L.filter vx_no, w.before args s = true)
    (hU : (Cond.isRef (.static Bundle.tN "UNASSIGNED_STACK" Bundle.steD)).before args s = true) (hN : (Cond.isRef (.static Bundle.tN "SUPPRESSED_SENTINEL" Bundle.listD)).before args s = true)
    (lU : (Cond.laysStatic Bundle.tN "UNASSIGNED_STACK" Bundle.steD).before args s = true) (lN : (Cond.laysStatic Bundle.tN "SUPPRESSED_SENTINEL" Bundle.listD).before args s = true) : ∀ w ∈ L, w.before args s = true := by
  intro w hw
  by_cases e1 : w = .isRef (.static Bundle.tN "UNASSIGNED_STACK" Bundle.steD)
  · rw [e1]; exact hU
  · by_cases e2 : w = .isRef (.static Bundle.tN "SUPPRESSED_SENTINEL" Bundle.listD)
    · rw [e2]; exact hN
    · by_cases e3 : w = .laysStatic Bundle.tN "UNASSIGNED_STACK" Bundle.steD
      · rw [e3]; exact lU
      · by_cases e4 : w = .laysStatic Bundle.tN "SUPPRESSED_SENTINEL" Bundle.listD
        · rw [e4]; exact lN
        · exact h1 w (List.mem_filter.mpr ⟨hw, by unfold vx_no; rw [decide_eq_true e1, decide_eq_true e2, decide_eq_true e3, decide_eq_true e4]; rfl⟩)
/-- where a static field lies, its class's statics cell in H -/
def vx_L (C n d : String) (A : Nat → Prop) (U : State) (H : Heap) : Prop := ∃ (c : ClassId) (k : Class) (i : Nat) (f : Field) (a : Nat) (cell : Cell), U.vm.findClass C = some c ∧ U.fieldFound? C n d = some (c, k, i, f) ∧ f.isStatic = true ∧ k.statics = some a ∧ H[a]? = some cell ∧ cell.vm.isStatics = true ∧ cell.cls = c ∧ f.slot < cell.slots.size ∧ k.staticTypes[f.slot]? = some f.type ∧ ¬ A a
theorem vx_L.moved {C n d : String} {A : Nat → Prop} {u U : State} {H : Heap} (hvm : u.vm.Alike U.vm) (h : vx_L C n d A u H) : vx_L C n d A U H := by
  obtain ⟨c, k, i, f, a, cell, h1, h2, h3, h4, h5, h6, h7, h8, h9, h10⟩ := h
  obtain ⟨k', hi', he⟩ := State.fieldFound?_setVm hvm h2
  exact ⟨c, k', i, f, a, cell, by rw [hvm.findClass]; exact h1, hi', h3, by rw [he]; exact h4, h5, h6, h7, h8, by rw [he]; exact h9, h10⟩
theorem vx_L.kept {C n d : String} {A : Nat → Prop} {U : State} {H H1 : Heap} (h : vx_L C n d A U H) (hq : ∀ a : Nat, a < H.size → ¬ A a → H1[a]? = H[a]?) : vx_L C n d A U H1 := by
  obtain ⟨c, k, i, f, a, cell, h1, h2, h3, h4, h5, h6, h7, h8, h9, h10⟩ := h
  exact ⟨c, k, i, f, a, cell, h1, h2, h3, h4, by rw [hq a (Array.getElem?_eq_some_iff.mp h5).1 h10]; exact h5, h6, h7, h8, h9, h10⟩
theorem vx_L.narrow {C n d : String} {A B : Nat → Prop} {U : State} {H : Heap} (h : vx_L C n d A U H) (hAB : ∀ q, B q → A q) : vx_L C n d B U H := by
  obtain ⟨c, k, i, f, a, cell, h1, h2, h3, h4, h5, h6, h7, h8, h9, h10⟩ := h
  exact ⟨c, k, i, f, a, cell, h1, h2, h3, h4, h5, h6, h7, h8, h9, fun z => h10 (hAB _ z)⟩
theorem vx_L.word {C n d : String} {A : Nat → Prop} {s : State} {args : Array Value} (h : vx_L C n d A s s.heap) : (Cond.laysStatic C n d).before args s = true := by
  obtain ⟨c, k, i, f, a, cell, h1, h2, h3, h4, h5, h6, h7, h8, h9, -⟩ := h
  show (Cond.laysStatic C n d).holds args s none s [] = true
  exact Cond.laysStatic_of h1 h2 h3 h4 h5 h6 h7 h8 h9
/-- .. and what it holds: null or some reference -/
def vx_Zq (C n d : String) (A : Nat → Prop) (U : State) (H : Heap) : Prop := va_Zq C n d A U H ∧ vx_L C n d A U H
theorem vx_Zq.moved {C n d : String} {A : Nat → Prop} {u U : State} {H : Heap} (hvm : u.vm.Alike U.vm) (h : vx_Zq C n d A u H) : vx_Zq C n d A U H := ⟨va_Zq.moved hvm h.1, vx_L.moved hvm h.2⟩
theorem vx_Zq.kept {C n d : String} {A : Nat → Prop} {U : State} {H H1 : Heap} (h : vx_Zq C n d A U H) (hq : ∀ a : Nat, a < H.size → ¬ A a → H1[a]? = H[a]?) : vx_Zq C n d A U H1 := ⟨va_Zq.kept h.1 hq, vx_L.kept h.2 hq⟩
theorem vx_Zq.narrow {C n d : String} {A B : Nat → Prop} {U : State} {H : Heap} (h : vx_Zq C n d A U H) (hAB : ∀ q, B q → A q) : vx_Zq C n d B U H := ⟨va_Zq.narrow h.1 hAB, vx_L.narrow h.2 hAB⟩
theorem vx_Zqof {args : Array Value} {s : State} {C n d : String} {A : Nat → Prop} (hl : (Cond.laysStatic C n d).before args s = true) (hini : (Cond.initialized C).before args s = true) (h : (Cond.isRef (.static C n d)).before args s = true) (hA : ∀ a : Nat, a < s.heap.size → ¬ A a) : vx_Zq C n d A s s.heap := by
  refine ⟨va_Zqof hl hini h hA, ?_⟩
  obtain ⟨c, k, i, f, a, cell, h1, h2, h3, h4, h5, h6, h7, h8, h9⟩ := Cond.laysStatic_spec hl
  exact ⟨c, k, i, f, a, cell, h1, h2, h3, h4, h5, h6, h7, h8, h9, hA a (Array.getElem?_eq_some_iff.mp h5).1⟩
theorem vx_isRef {C n d : String} {v : Value} {A : Nat → Prop} {s : State} {args : Array Value} (h : va_Z C n d v A s s.heap) (hv : v.isRef = true) : (Cond.isRef (.static C n d)).before args s = true := by
  obtain ⟨cf, kf, fi, f, a, cell, h1, h2, h3, h4, h5, h6, h7, -⟩ := h
  have he : (Term.static C n d).eval args s none [] s = some v := by
    simp [Term.eval, State.fieldNamed?, h1, h2, h4, h5, h6, h7]
  simp only [Cond.before, Cond.holds, Cond.value, he]
  cases v <;> simp_all [Value.isRef]
theorem vx_isRefq {C n d : String} {A : Nat → Prop} {s : State} {args : Array Value} (h : va_Zq C n d A s s.heap) : (Cond.isRef (.static C n d)).before args s = true := by
  rcases h with h | ⟨t, h⟩
  · exact vx_isRef h rfl
  · exact vx_isRef h rfl
/-- the same frame, seen from here: as if the method were called anew in this heap -/
theorem vx_rebase {T : State} (X : Stand p l e R s m args below meth c T locs cells slots) {R' : Room} (hf : R'.frames ≤ R.frames) (hl : R'.locals ≤ R.locals) (hc : cells + R'.cells ≤ R.cells) (hs : slots + R'.slots ≤ R.slots) :
    Stand p l e R' ((T.setVm s.vm).setFrames (.invoking m args :: below)) m args below meth c T [] 0 0 := by
  have htop : (T.setVm s.vm).topJava?.isSome := X.here.top
  have hF : ((T.setVm s.vm).setFrames (.invoking m args :: below)).frames = .invoking m args :: below := State.frames_setFrames _ (State.cur_lt_of_top htop)
  obtain ⟨g₀, hg0⟩ := Option.isSome_iff_exists.mp htop
  obtain ⟨r, hr⟩ := State.topJava?_eq_some.mp hg0
  have hl9 : e.platform.stackLimits (T.setVm s.vm).me = e.platform.stackLimits s.me := X.limits
  have hb9 : (T.setVm s.vm).me.stackBytes = s.me.stackBytes := X.bytes
  refine ⟨X.admits, X.cas, X.clock, hF, ?_, X.hears, X.method, X.code, X.here, X.tail, X.warmed, ?_, ?_, ?_⟩
  · have h := X.room
    have hU : ((T.setVm s.vm).setFrames (.invoking m args :: below)).localsInUse = s.localsInUse := by
      rw [State.localsInUse_invoking hF (meth := meth) (c := c) X.method X.code, State.localsInUse_invoking X.frames X.method X.code]
    simp only [State.hasRoom, Bool.and_eq_true, decide_eq_true_eq] at h ⊢
    obtain ⟨⟨⟨⟨h1, h2, h3, h4, h5, h6⟩, h7⟩, h8⟩, h9⟩ := h
    rw [X.frames, List.length_cons] at h2 h3
    have q1 := X.heapSize
    have q2 := X.used
    simp only [hF, hU, List.length_cons, State.stackLimits_setFrames, State.stackBytes_setFrames, hl9, hb9]
    refine ⟨⟨⟨⟨by omega, by omega, by omega, by omega, by omega, h6⟩, ?_⟩, ?_⟩, X.book⟩
    · show T.heap.size + R'.cells ≤ e.platform.maxCells
      omega
    · show T.slotsUsed + R'.slots ≤ e.platform.maxSlots
      omega
  · rw [State.stackLimits_setFrames]; rfl
  · rw [State.stackBytes_setFrames]; rfl
  · refine ⟨?_, Nat.le_refl _, Nat.le_refl _, ?_, ?_, fun a c9 h9 => ⟨c9, h9, rfl, rfl, fun _ _ => rfl⟩⟩
    · obtain ⟨t, ht, -⟩ := State.frames_cons hr
      show T.setVm s.vm = { ((T.setVm s.vm).setFrames (.invoking m args :: below)).setFrames (T.setVm s.vm).frames with heap := T.heap, slotsUsed := T.slotsUsed }
      rw [State.setFrames_setFrames, State.setFrames_self ht]
      rfl
    · show T.slotsUsed = T.slotsUsed + ((T.heap.toList.drop T.heap.size).map (·.slots.size)).sum
      rw [List.drop_eq_nil_of_le (Nat.le_of_eq Array.length_toList)]
      rfl
    · show ((T.heap.toList.drop T.heap.size).map (·.slots.size)).sum ≤ 0
      rw [List.drop_eq_nil_of_le (Nat.le_of_eq Array.length_toList)]
      exact Nat.le_refl _
/-- 'throw new E()': new; dup; invokespecial; athrow -/
theorem vx_throw0 {cc : ByteArray} {pc : Nat} (hexec : p.tables.exec = Jvm.exec) (hb : c.code = cc) (hl : l.stackTraces = false) {own cls : String} {names : List String} {ik ic mc ms : Nat} {A : Nat → Prop}
    (hown : s.vm.findClass own = some m.cls) (hcls : Bundle.fit cls = true) (hnames : ∀ n ∈ names, Bundle.fit n = true)
    (hk : (Cond.classLink own ik cls).before args s = true) (hini : (Cond.initialized cls).before args s = true) (hat : ∀ w ∈ vx_at0 own ic cls names, w.before args s = true)
    (hgood : ∀ w ∈ Cond.classLink own ik cls :: Cond.initialized cls :: vx_at0 own ic cls names, vx_ot w = true)
    (hU : vx_Zq Bundle.tN "UNASSIGNED_STACK" Bundle.steD A s s.heap) (hN : vx_Zq Bundle.tN "SUPPRESSED_SENTINEL" Bundle.listD A s s.heap) (hS : va_S A s.heap H locs) (hsize : ls.size = c.maxLocals)
    (d0 : decode cc pc = .ok (.new ik, 3)) (d3 : decode cc (pc + 3) = .ok (.dup, 1)) (d4 : decode cc (pc + 4) = .ok (.invokespecial ic, 3)) (d7 : decode cc (pc + 7) = .ok (.athrow, 1))
    (hout : ∀ x ∈ c.exceptionTable.toList, covers x (pc + 7) = false)
    (hRframes : names.length + 3 < R.frames) (hRlocals : (rest.map fun v => v.category).sum + (13 * (names.length + 1) + 42) ≤ R.locals) (hRcells : cells + 1 ≤ R.cells) (hRslots : slots + 6 ≤ R.slots) (hlocks : meth.locks = false)
    (hx : ∀ t : State, s.vm.Alike t.vm → H.size ≤ t.heap.size → (∀ q : Nat, q < H.size → t.heap[q]? = H[q]?) → XC cls s t)
    (hf : ∀ z ∈ locs, free z.base) (hc : cells + 1 ≤ mc) (hs : slots + 6 ≤ ms) :
    W p l e R s m args below meth c H locs cells slots (vx_MQ below Qc XC args s mc ms free) (F0 m pc ls rest) := by
  intro T hT X
  have htr : e.platform.stackTraces = false := (show e.platform.stackTraces = l.stackTraces by rw [X.admits.platform]).trans hl
  have Y := vx_rebase X (R' := { frames := R.frames, locals := R.locals, cells := 1, slots := 6 }) (Nat.le_refl _) (Nat.le_refl _) hRcells hRslots
  obtain ⟨s', hA⟩ : ∃ z, z = (T.setVm s.vm).setFrames (.invoking m args :: below) := ⟨_, rfl⟩
  rw [← hA] at Y
  have hvm : s'.vm = s.vm := by rw [hA]; rfl
  have hhp : s'.heap = H := by rw [hA]; exact hT
  have hW0 : s.WarmedH s'.vm := by rw [hvm]; exact State.WarmedH.refl s
  have hat' : ∀ w ∈ vx_at0 own ic cls names, w.before args s' = true := fun w hw => vx_ot_at hW0 hvm.symm (hgood w (List.mem_cons_of_mem _ (List.mem_cons_of_mem _ hw))) (hat w hw)
  have hk' : (Cond.classLink own ik cls).before args s' = true := vx_ot_at hW0 hvm.symm (hgood _ List.mem_cons_self) hk
  have hini' : (Cond.initialized cls).before args s' = true := vx_ot_at hW0 hvm.symm (hgood _ (List.mem_cons_of_mem _ List.mem_cons_self)) hini
  have hU' : vx_Zq Bundle.tN "UNASSIGNED_STACK" Bundle.steD A s' s'.heap := by rw [hhp]; exact vx_Zq.moved hW0.alike (hU.kept hS.2.1)
  have hN' : vx_Zq Bundle.tN "SUPPRESSED_SENTINEL" Bundle.listD A s' s'.heap := by rw [hhp]; exact vx_Zq.moved hW0.alike (hN.kept hS.2.1)
  have h : ∀ w ∈ Bundle.ownAtoms0 own ic cls names, w.before args s' = true := vx_own hat' (vx_isRefq hU'.1) (vx_isRefq hN'.1) hU'.2.word hN'.2.word
  have hown' : s'.vm.findClass own = some m.cls := by rw [hvm]; exact hown
  have hins : (Cond.instantiable cls 6).before args s' = true := h _ (by simp [Bundle.ownAtoms0])
  obtain ⟨vm₁, cX, kX, hfX, hkX, -, -, X₁, st1⟩ := Y.newCold hexec (own := own) (C := cls) (index := ik) (n := 6) hown' hk' hins hini'
    (g := F0 m pc ls rest) rfl (by rw [hb]; exact d0) (Nat.le_refl _) (Nat.le_refl _)
  generalize hT1 : (T.setVm vm₁).pushCell { cls := cX, slots := kX.instanceTypes.map defaultValue, vm := .none } = T1 at X₁ st1
  have hcat : (Value.ref T.heap.size).category = 1 := rfl
  have hcellA : T1.heap[T.heap.size]? = some (freshCell cX kX) := by rw [← hT1]; exact State.heap_pushCell_size _ _
  have d3' : decode c.code (pc + 3) = .ok (.dup, 1) := by rw [hb]; exact d3
  obtain ⟨U, hsteps, hrun, hend, hW, hsame, ce, hce, hO⟩ := X₁.ctorThrow0 hexec htr (own := own) (cls := cls) (names := names) (ic := ic) hown' hcls hnames h (fun x hx => nomatch hx) hfX hkX hcellA (by rw [hhp, hT]; exact Nat.le_refl _)
    (g := { method := m, pc := pc + 4, locals := ls, stack := .ref T.heap.size :: .ref T.heap.size :: rest, locked := none }) rfl hsize rfl rfl (rest := rest) rfl
    (by rw [hb]; exact d4) (by rw [hb]; exact d7) hout hRframes (by simp only [List.map_cons, List.sum_cons, hcat]; omega) hlocks
  obtain ⟨f1, f2⟩ := vx_frame hsame
  rw [hhp] at f1 f2
  have hWs : s.WarmedH U.vm := State.WarmedH.trans hW0 hW
  have hcl : s.vm.findClass cls = some ce.cls := by
    have h9 := hO.cls
    rw [hvm] at h9
    exact h9
  have hall : s.sameButNew ({ U with vm := s.vm } : State) locs mc ms := by
    subst hA
    obtain ⟨e1, e2⟩ := hsame
    rw [State.setFrames_setFrames] at e1
    have h2 : (T.setVm s.vm).sameButNew ({ U with vm := s.vm } : State) [] (0 + 1) (0 + 6) := ⟨e1, e2⟩
    have h3 := X.same.trans h2
    rw [List.append_nil] at h3
    exact h3.mono hc hs
  refine ⟨U, ?_, .threw T.heap.size, hrun, hend, Or.inr ⟨T.heap.size, rfl, cls, ce, locs, hx U hWs.alike f1 (fun q hq => f2 q hq (fun z hz => nomatch hz)), hce, hO.vm, hcl, hWs, hall, hf⟩⟩
  refine st1 _ ?_
  show Steps p.tables e below (T1.setTop { method := m, pc := pc + 3, locals := ls, stack := .ref T.heap.size :: rest, locked := none }) _
  jvm_step X₁.here [X₁.here.top, hexec, d3', Value.category]
  exact hsteps
/-- 'throw new E("text")': new; dup; ldc; invokespecial; athrow -/
theorem vx_throwS {cc : ByteArray} {pc : Nat} (hexec : p.tables.exec = Jvm.exec) (hb : c.code = cc) (hl : l.stackTraces = false) {own cls text : String} {names : List String} {ik is ic mc ms sa : Nat} {A : Nat → Prop}
    (hown : s.vm.findClass own = some m.cls) (hcls : Bundle.fit cls = true) (hnames : ∀ n ∈ names, Bundle.fit n = true)
    (hk : (Cond.classLink own ik cls).before args s = true) (hini : (Cond.initialized cls).before args s = true) (hstr : vk_R own is text sa s) (hat : ∀ w ∈ vx_atS own ic cls names, w.before args s = true)
    (hgood : ∀ w ∈ Cond.classLink own ik cls :: Cond.initialized cls :: vx_atS own ic cls names, vx_ot w = true)
    (hU : vx_Zq Bundle.tN "UNASSIGNED_STACK" Bundle.steD A s s.heap) (hN : vx_Zq Bundle.tN "SUPPRESSED_SENTINEL" Bundle.listD A s s.heap) (hS : va_S A s.heap H locs) (hsize : ls.size = c.maxLocals)
    (d0 : decode cc pc = .ok (.new ik, 3)) (d3 : decode cc (pc + 3) = .ok (.dup, 1)) (d4 : decode cc (pc + 4) = .ok (.ldc is, 2)) (d6 : decode cc (pc + 6) = .ok (.invokespecial ic, 3)) (d9 : decode cc (pc + 9) = .ok (.athrow, 1))
    (hout : ∀ x ∈ c.exceptionTable.toList, covers x (pc + 9) = false)
    (hRframes : names.length + 3 < R.frames) (hRlocals : (rest.map fun v => v.category).sum + (13 * (names.length + 1) + 43) ≤ R.locals) (hRcells : cells + 1 ≤ R.cells) (hRslots : slots + 6 ≤ R.slots) (hlocks : meth.locks = false)
    (hx : ∀ t : State, s.vm.Alike t.vm → H.size ≤ t.heap.size → (∀ q : Nat, q < H.size → t.heap[q]? = H[q]?) → XC cls s t)
    (hf : ∀ z ∈ locs, free z.base) (hc : cells + 1 ≤ mc) (hs : slots + 6 ≤ ms) :
    W p l e R s m args below meth c H locs cells slots (vx_MQ below Qc XC args s mc ms free) (F0 m pc ls rest) := by
  intro T hT X
  have htr : e.platform.stackTraces = false := (show e.platform.stackTraces = l.stackTraces by rw [X.admits.platform]).trans hl
  have Y := vx_rebase X (R' := { frames := R.frames, locals := R.locals, cells := 1, slots := 6 }) (Nat.le_refl _) (Nat.le_refl _) hRcells hRslots
  obtain ⟨s', hA⟩ : ∃ z, z = (T.setVm s.vm).setFrames (.invoking m args :: below) := ⟨_, rfl⟩
  rw [← hA] at Y
  have hvm : s'.vm = s.vm := by rw [hA]; rfl
  have hhp : s'.heap = H := by rw [hA]; exact hT
  have hW0 : s.WarmedH s'.vm := by rw [hvm]; exact State.WarmedH.refl s
  have hat' : ∀ w ∈ vx_atS own ic cls names, w.before args s' = true := fun w hw => vx_ot_at hW0 hvm.symm (hgood w (List.mem_cons_of_mem _ (List.mem_cons_of_mem _ hw))) (hat w hw)
  have hk' : (Cond.classLink own ik cls).before args s' = true := vx_ot_at hW0 hvm.symm (hgood _ List.mem_cons_self) hk
  have hini' : (Cond.initialized cls).before args s' = true := vx_ot_at hW0 hvm.symm (hgood _ (List.mem_cons_of_mem _ List.mem_cons_self)) hini
  have hU' : vx_Zq Bundle.tN "UNASSIGNED_STACK" Bundle.steD A s' s'.heap := by rw [hhp]; exact vx_Zq.moved hW0.alike (hU.kept hS.2.1)
  have hN' : vx_Zq Bundle.tN "SUPPRESSED_SENTINEL" Bundle.listD A s' s'.heap := by rw [hhp]; exact vx_Zq.moved hW0.alike (hN.kept hS.2.1)
  have h : ∀ w ∈ Bundle.ownAtoms own ic cls names, w.before args s' = true := vx_own hat' (vx_isRefq hU'.1) (vx_isRefq hN'.1) hU'.2.word hN'.2.word
  have hown' : s'.vm.findClass own = some m.cls := by rw [hvm]; exact hown
  have hins : (Cond.instantiable cls 6).before args s' = true := h _ (by simp [Bundle.ownAtoms])
  obtain ⟨vm₁, cX, kX, hfX, hkX, -, -, X₁, st1⟩ := Y.newCold hexec (own := own) (C := cls) (index := ik) (n := 6) hown' hk' hins hini'
    (g := F0 m pc ls rest) rfl (by rw [hb]; exact d0) (Nat.le_refl _) (Nat.le_refl _)
  generalize hT1 : (T.setVm vm₁).pushCell { cls := cX, slots := kX.instanceTypes.map defaultValue, vm := .none } = T1 at X₁ st1
  have hcat : (Value.ref T.heap.size).category = 1 := rfl
  have hcellA : T1.heap[T.heap.size]? = some (freshCell cX kX) := by rw [← hT1]; exact State.heap_pushCell_size _ _
  have d3' : decode c.code (pc + 3) = .ok (.dup, 1) := by rw [hb]; exact d3
  have d4' : decode c.code (pc + 4) = .ok (.ldc is, 2) := by rw [hb]; exact d4
  have hstr' : vk_R own is text sa s' := vk_R.warm hW0 hstr
  obtain ⟨U, hsteps, hrun, hend, hW, hsame, ce, hce, hO⟩ := X₁.ctorThrowS hexec htr (own := own) (cls := cls) (names := names) (ic := ic) hown' hcls hnames h (fun x hx => nomatch hx) hfX hkX hcellA (by rw [hhp, hT]; exact Nat.le_refl _) (msg := .ref sa) rfl
    (g := { method := m, pc := pc + 6, locals := ls, stack := .ref sa :: .ref T.heap.size :: .ref T.heap.size :: rest, locked := none }) rfl hsize rfl rfl (rest := rest) rfl
    (by rw [hb]; exact d6) (by rw [hb]; exact d9) hout hRframes (by simp only [List.map_cons, List.sum_cons, hcat]; omega) hlocks
  obtain ⟨f1, f2⟩ := vx_frame hsame
  rw [hhp] at f1 f2
  have hWs : s.WarmedH U.vm := State.WarmedH.trans hW0 hW
  have hcl : s.vm.findClass cls = some ce.cls := by
    have h9 := hO.cls
    rw [hvm] at h9
    exact h9
  have hall : s.sameButNew ({ U with vm := s.vm } : State) locs mc ms := by
    subst hA
    obtain ⟨e1, e2⟩ := hsame
    rw [State.setFrames_setFrames] at e1
    have h2 : (T.setVm s.vm).sameButNew ({ U with vm := s.vm } : State) [] (0 + 1) (0 + 6) := ⟨e1, e2⟩
    have h3 := X.same.trans h2
    rw [List.append_nil] at h3
    exact h3.mono hc hs
  refine ⟨U, ?_, .threw T.heap.size, hrun, hend, Or.inr ⟨T.heap.size, rfl, cls, ce, locs, hx U hWs.alike f1 (fun q hq => f2 q hq (fun z hz => nomatch hz)), hce, hO.vm, hcl, hWs, hall, hf⟩⟩
  refine st1 _ ?_
  show Steps p.tables e below (T1.setTop { method := m, pc := pc + 3, locals := ls, stack := .ref T.heap.size :: rest, locked := none }) _
  jvm_step X₁.here [X₁.here.top, hexec, d3', Value.category]
  exact X₁.ldcString hexec (own := own) (text := text) (index := is) (a := sa) hown' hstr'.1 hstr'.2
    (g := { method := m, pc := pc + 4, locals := ls, stack := .ref T.heap.size :: .ref T.heap.size :: rest, locked := none }) rfl d4' _ hsteps
/-- 'throw new E("text")', the text by a wide index -/
theorem vx_throwSW {cc : ByteArray} {pc : Nat} (hexec : p.tables.exec = Jvm.exec) (hb : c.code = cc) (hl : l.stackTraces = false) {own cls text : String} {names : List String} {ik is ic mc ms sa : Nat} {A : Nat → Prop}
    (hown : s.vm.findClass own = some m.cls) (hcls : Bundle.fit cls = true) (hnames : ∀ n ∈ names, Bundle.fit n = true)
    (hk : (Cond.classLink own ik cls).before args s = true) (hini : (Cond.initialized cls).before args s = true) (hstr : vk_R own is text sa s) (hat : ∀ w ∈ vx_atS own ic cls names, w.before args s = true)
    (hgood : ∀ w ∈ Cond.classLink own ik cls :: Cond.initialized cls :: vx_atS own ic cls names, vx_ot w = true)
    (hU : vx_Zq Bundle.tN "UNASSIGNED_STACK" Bundle.steD A s s.heap) (hN : vx_Zq Bundle.tN "SUPPRESSED_SENTINEL" Bundle.listD A s s.heap) (hS : va_S A s.heap H locs) (hsize : ls.size = c.maxLocals)
    (d0 : decode cc pc = .ok (.new ik, 3)) (d3 : decode cc (pc + 3) = .ok (.dup, 1)) (d4 : decode cc (pc + 4) = .ok (.ldc_w is, 3)) (d7 : decode cc (pc + 7) = .ok (.invokespecial ic, 3)) (d10 : decode cc (pc + 10) = .ok (.athrow, 1))
    (hout : ∀ x ∈ c.exceptionTable.toList, covers x (pc + 10) = false)
    (hRframes : names.length + 3 < R.frames) (hRlocals : (rest.map fun v => v.category).sum + (13 * (names.length + 1) + 43) ≤ R.locals) (hRcells : cells + 1 ≤ R.cells) (hRslots : slots + 6 ≤ R.slots) (hlocks : meth.locks = false)
    (hx : ∀ t : State, s.vm.Alike t.vm → H.size ≤ t.heap.size → (∀ q : Nat, q < H.size → t.heap[q]? = H[q]?) → XC cls s t)
    (hf : ∀ z ∈ locs, free z.base) (hc : cells + 1 ≤ mc) (hs : slots + 6 ≤ ms) :
    W p l e R s m args below meth c H locs cells slots (vx_MQ below Qc XC args s mc ms free) (F0 m pc ls rest) := by
  intro T hT X
  have htr : e.platform.stackTraces = false := (show e.platform.stackTraces = l.stackTraces by rw [X.admits.platform]).trans hl
  have Y := vx_rebase X (R' := { frames := R.frames, locals := R.locals, cells := 1, slots := 6 }) (Nat.le_refl _) (Nat.le_refl _) hRcells hRslots
  obtain ⟨s', hA⟩ : ∃ z, z = (T.setVm s.vm).setFrames (.invoking m args :: below) := ⟨_, rfl⟩
  rw [← hA] at Y
  have hvm : s'.vm = s.vm := by rw [hA]; rfl
  have hhp : s'.heap = H := by rw [hA]; exact hT
  have hW0 : s.WarmedH s'.vm := by rw [hvm]; exact State.WarmedH.refl s
  have hat' : ∀ w ∈ vx_atS own ic cls names, w.before args s' = true := fun w hw => vx_ot_at hW0 hvm.symm (hgood w (List.mem_cons_of_mem _ (List.mem_cons_of_mem _ hw))) (hat w hw)
  have hk' : (Cond.classLink own ik cls).before args s' = true := vx_ot_at hW0 hvm.symm (hgood _ List.mem_cons_self) hk
  have hini' : (Cond.initialized cls).before args s' = true := vx_ot_at hW0 hvm.symm (hgood _ (List.mem_cons_of_mem _ List.mem_cons_self)) hini
  have hU' : vx_Zq Bundle.tN "UNASSIGNED_STACK" Bundle.steD A s' s'.heap := by rw [hhp]; exact vx_Zq.moved hW0.alike (hU.kept hS.2.1)
  have hN' : vx_Zq Bundle.tN "SUPPRESSED_SENTINEL" Bundle.listD A s' s'.heap := by rw [hhp]; exact vx_Zq.moved hW0.alike (hN.kept hS.2.1)
  have h : ∀ w ∈ Bundle.ownAtoms own ic cls names, w.before args s' = true := vx_own hat' (vx_isRefq hU'.1) (vx_isRefq hN'.1) hU'.2.word hN'.2.word
  have hown' : s'.vm.findClass own = some m.cls := by rw [hvm]; exact hown
  have hins : (Cond.instantiable cls 6).before args s' = true := h _ (by simp [Bundle.ownAtoms])
  obtain ⟨vm₁, cX, kX, hfX, hkX, -, -, X₁, st1⟩ := Y.newCold hexec (own := own) (C := cls) (index := ik) (n := 6) hown' hk' hins hini'
    (g := F0 m pc ls rest) rfl (by rw [hb]; exact d0) (Nat.le_refl _) (Nat.le_refl _)
  generalize hT1 : (T.setVm vm₁).pushCell { cls := cX, slots := kX.instanceTypes.map defaultValue, vm := .none } = T1 at X₁ st1
  have hcat : (Value.ref T.heap.size).category = 1 := rfl
  have hcellA : T1.heap[T.heap.size]? = some (freshCell cX kX) := by rw [← hT1]; exact State.heap_pushCell_size _ _
  have d3' : decode c.code (pc + 3) = .ok (.dup, 1) := by rw [hb]; exact d3
  have d4' : decode c.code (pc + 4) = .ok (.ldc_w is, 3) := by rw [hb]; exact d4
  have hstr' : vk_R own is text sa s' := vk_R.warm hW0 hstr
  obtain ⟨U, hsteps, hrun, hend, hW, hsame, ce, hce, hO⟩ := X₁.ctorThrowS hexec htr (own := own) (cls := cls) (names := names) (ic := ic) hown' hcls hnames h (fun x hx => nomatch hx) hfX hkX hcellA (by rw [hhp, hT]; exact Nat.le_refl _) (msg := .ref sa) rfl
    (g := { method := m, pc := pc + 7, locals := ls, stack := .ref sa :: .ref T.heap.size :: .ref T.heap.size :: rest, locked := none }) rfl hsize rfl rfl (rest := rest) rfl
    (by rw [hb]; exact d7) (by rw [hb]; exact d10) hout hRframes (by simp only [List.map_cons, List.sum_cons, hcat]; omega) hlocks
  obtain ⟨f1, f2⟩ := vx_frame hsame
  rw [hhp] at f1 f2
  have hWs : s.WarmedH U.vm := State.WarmedH.trans hW0 hW
  have hcl : s.vm.findClass cls = some ce.cls := by
    have h9 := hO.cls
    rw [hvm] at h9
    exact h9
  have hall : s.sameButNew ({ U with vm := s.vm } : State) locs mc ms := by
    subst hA
    obtain ⟨e1, e2⟩ := hsame
    rw [State.setFrames_setFrames] at e1
    have h2 : (T.setVm s.vm).sameButNew ({ U with vm := s.vm } : State) [] (0 + 1) (0 + 6) := ⟨e1, e2⟩
    have h3 := X.same.trans h2
    rw [List.append_nil] at h3
    exact h3.mono hc hs
  refine ⟨U, ?_, .threw T.heap.size, hrun, hend, Or.inr ⟨T.heap.size, rfl, cls, ce, locs, hx U hWs.alike f1 (fun q hq => f2 q hq (fun z hz => nomatch hz)), hce, hO.vm, hcl, hWs, hall, hf⟩⟩
  refine st1 _ ?_
  show Steps p.tables e below (T1.setTop { method := m, pc := pc + 3, locals := ls, stack := .ref T.heap.size :: rest, locked := none }) _
  jvm_step X₁.here [X₁.here.top, hexec, d3', Value.category]
  exact X₁.ldcStringW hexec (own := own) (text := text) (index := is) (a := sa) hown' hstr'.1 hstr'.2
    (g := { method := m, pc := pc + 4, locals := ls, stack := .ref T.heap.size :: .ref T.heap.size :: rest, locked := none }) rfl d4' _ hsteps
end Ends
section Bodies
variable {l : Launch}
theorem vx_ofW {y : MethodName} {ws ws' : List Cond} {rm : Room} {Pc : Array Value → State → Prop} {Qc : Array Value → State → Outcome → State → Prop} {XC : String → State → State → Prop} {mc ms : Nat} {free : Addr → Prop} {cc : ByteArray} {maxL : Nat} {ret : Option FieldType}
    (hy : plainName y.cls = true) (hw : ws = Cond.code y cc maxL ret :: ws')
    (body : ∀ p e s m args below meth c s₁, BodyLoose p l y (headSpec ws rm) cc maxL ret e s m args below meth c s₁ → c.maxLocals = maxL → (∀ x ∈ c.exceptionTable.toList, False) → Pc args s →
      W p l e (headSpec ws rm).room s m args below meth c s.heap [] 0 0 (vx_MQ below Qc XC args s mc ms free) (entryFrame m args maxL)) : vx_Met l y ws rm Pc Qc XC mc ms free := by
  refine MetFree.of_bodyS (code := cc) (maxLocals := maxL) (ret := ret) hy ?_ ?_
  · intro args s m h hn
    obtain ⟨meth, c, h1, h2, h3, h4, h5, h6, -, -⟩ := Cond.code_spec hn (atoms_spec (ws := ws) h _ (by rw [hw]; exact List.mem_cons_self))
    exact ⟨meth, c, h1, h2, h3, h4, h5, h6⟩
  · intro p e s m args below meth c s₁ B hml hP _
    have hh0 : s₁.heap = s.heap := by rw [B.state]; rfl
    have ht : ∀ x ∈ c.exceptionTable.toList, False := by
      obtain ⟨meth9, c9, h1, h2, -, -, -, -, h7, -⟩ := Cond.code_spec B.named (atoms_spec (ws := ws) B.pre _ (by rw [hw]; exact List.mem_cons_self))
      cases Option.some.inj (h1.symm.trans B.method)
      cases Option.some.inj (h2.symm.trans (Stand.of_body B).code)
      intro x hx
      rw [Array.isEmpty_iff.mp h7] at hx
      cases hx
    obtain ⟨t, a1, o, b1, b2, b3⟩ := body p e s m args below meth c s₁ B hml ht hP s₁ hh0 (Stand.of_body B)
    exact ⟨t, o, a1, b1, b2, b3⟩
/-- the table of a body with handlers -/
theorem vx_table {p : Program} {x y : MethodName} {S : Spec} {cc bytes : ByteArray} {maxL maxL' : Nat} {ret ret' : Option FieldType} {e : Env} {s s₁ : State} {m : MethodId} {args : Array Value} {below : List Frame} {meth : Method} {c : Code} {hh : List (Nat × Nat × Nat × Nat)}
    (B : BodyLoose p l y S cc maxL ret e s m args below meth c s₁) (h : (Cond.codeWith y bytes maxL' ret' hh).before args s = true) : c.exceptionTable.toList = tableOf hh := by
  obtain ⟨m9, meth9, c9, hn9, h1, h2, -, -, h6, -⟩ := Cond.codeWith_spec h
  cases Option.some.inj (hn9.symm.trans B.named)
  cases Option.some.inj (h1.symm.trans B.method)
  cases Option.some.inj (h2.symm.trans (Stand.of_body B).code)
  rw [← h6, table_eq]
end Bodies
end VXA
/-! ===== END ===== -/
/-! ===== BEGIN a static call of a method with an exception table ===== -/
section VXS
variable {p : Program} {l : Launch} {e : Env} {R : Room} {s : State} {m : MethodId} {args : Array Value} {below : List Frame} {meth : Method} {c : Code} {T : State} {H : Heap} {locs : List Loc} {cells slots : Nat}
abbrev vx_CSW (R : Room) (s : State) (args : Array Value) (own : String) (index : Nat) (y : MethodName) (bytes : ByteArray) (maxL : Nat) (ret : Option FieldType) (hh : List (Nat × Nat × Nat × Nat)) (ws : List Cond) (rm : Room) (mc ms n : Nat) : Prop :=
  (rm.cells = mc ∧ rm.slots = ms ∧ rm.frames + 1 ≤ R.frames ∧ 8 + (maxL + 11) + rm.locals ≤ R.locals ∧ (∀ w ∈ ws, ∀ (a' : Array Value) (U : State), s.WarmedH U.vm → w.before a' U = true) ∧ Cond.codeWith y bytes maxL ret hh ∈ ws) ∧
  (Cond.codeWith y bytes maxL ret hh).before args s = true ∧ (Cond.initialized y.cls).before args s = true ∧ (y.cls ≠ "java/lang/invoke/MethodHandle" ∧ y.cls ≠ "java/lang/invoke/VarHandle") ∧
  (∀ sig, parseMethodDescriptor y.desc = some sig → n = sig.parameters.length) ∧ (Cond.methodLink own index y).before args s = true ∧ (Cond.static y).before args s = true
theorem vx_cwSW {own : String} {index maxL mc ms : Nat} {y : MethodName} {bytes : ByteArray} {ret : Option FieldType} {hh : List (Nat × Nat × Nat × Nat)} {Ts ws ws' : List Cond} {rm : Room} (n : Nat) (ht : ∀ w ∈ Ts, w.before args s = true) (hT : GoodIn Ts (va_wsS own index y ws)) (hw : ws = Cond.codeWith y bytes maxL ret hh :: ws') (hrc : rm.cells = mc) (hrs : rm.slots = ms)
    (hd : y.cls ≠ "java/lang/invoke/MethodHandle" ∧ y.cls ≠ "java/lang/invoke/VarHandle" ∧ (parseMethodDescriptor y.desc).map (fun d => d.parameters.length) = some n) (hR : rm.frames + 1 ≤ R.frames ∧ 8 + (maxL + 11) + rm.locals ≤ R.locals) :
    vx_CSW R s args own index y bytes maxL ret hh ws rm mc ms n := by
  have ok : ∀ w ∈ va_wsS own index y ws, w.before args s = true := fun w h => ht w (hT w h).1
  have hG : GoodIn Ts ws := fun w h => hT w (by unfold va_wsS; exact List.mem_append_right _ h)
  have hc : Cond.codeWith y bytes maxL ret hh ∈ ws := by rw [hw]; exact List.mem_cons_self
  refine ⟨⟨hrc, hrs, hR.1, hR.2, pay_in ht hG, hc⟩, ht _ (hG _ hc).1, ok _ (by simp [va_wsS]), ⟨hd.1, hd.2.1⟩, fun sig h => ?_, ok _ (by simp [va_wsS]), ok _ (by simp [va_wsS])⟩
  have h2 := hd.2.2
  rw [h] at h2
  exact (Option.some.inj h2).symm
theorem vx_callSW (X : Stand p l e R s m args below meth c T locs cells slots) (hexec : p.tables.exec = Jvm.exec) {own : String} {index : Nat} {y : MethodName} {bytes : ByteArray} {maxL : Nat} {ret : Option FieldType} {hh : List (Nat × Nat × Nat × Nat)}
    (hown : s.vm.findClass own = some m.cls) (hlink : (Cond.methodLink own index y).before args s = true) (hstat : (Cond.static y).before args s = true) (hinit : (Cond.initialized y.cls).before args s = true)
    (hcode : (Cond.codeWith y bytes maxL ret hh).before args s = true) (hy : y.cls ≠ "java/lang/invoke/MethodHandle" ∧ y.cls ≠ "java/lang/invoke/VarHandle")
    {W9 : Nat} {Pre : Pt → Array Value → Prop} {Post : Pt → Array Value → Option Value → Pt → Prop} (hK : Back l R p e below s args y 3 W9 Pre Post)
    {g : JFrame} (hg : g.method = m) (hsize : g.locals.size = c.maxLocals) {argsL rest : List Value} (hlen : ∀ sig, parseMethodDescriptor y.desc = some sig → argsL.length = sig.parameters.length)
    (hstack : g.stack = argsL.reverse ++ rest) (hW : 2 * g.monitorRoom + (rest.map fun v => v.category).sum ≤ W9) (hdg : decode c.code g.pc = .ok (.invokestatic index, 3))
    (hpre : ∀ vm₁, s.WarmedH vm₁ → Pre ⟨T.setVm vm₁, locs, cells, slots⟩ argsL.toArray) :
    ∃ (v : Option Value) (vm₁ : Vm) (B : Pt), s.WarmedH vm₁ ∧ Stand p l e R s m args below meth c B.U B.locs B.cells B.slots ∧ Post ⟨T.setVm vm₁, locs, cells, slots⟩ argsL.toArray v B ∧
      ∀ target, Steps p.tables e below (B.U.setTop { g with pc := g.pc + 3, stack := v.toList ++ rest }) target → Steps p.tables e below (T.setTop g) target := by
  obtain ⟨mk, methM, cM, hnamed, hmethM, -, -, -, -, -, -, hsigM⟩ := Cond.codeWith_spec hcode
  have hstatic : methM.isStatic = true := Cond.static_spec hnamed hmethM hstat
  obtain ⟨kP, hkP, -⟩ := className_of_methodNamed hnamed
  have hinitP : kP.init = .initialized := Cond.initialized_spec (findClass_of_methodNamed hnamed) hkP hinit
  obtain ⟨vm₁, X₁, hstep₁⟩ := X.invokestatic hexec hown hlink hnamed hmethM hstatic hkP hinitP hy (g := g) hg (argsL := argsL) (rest := rest) (hlen _ hsigM) hstack hdg
  obtain ⟨v, B, X', hpost, hsteps⟩ := hK m meth c ⟨T.setVm vm₁, locs, cells, slots⟩ { g with stack := rest } (.invokestatic index) mk argsL.toArray X₁ hg hsize hdg hW (X₁.named hnamed) (hpre vm₁ X₁.warmed)
  exact ⟨v, vm₁, B, X₁.warmed, X', hpost, fun target h => hstep₁ _ fun acts => by rw [doInvoke_state]; exact hsteps.trans h⟩
theorem vx_runSW {y : MethodName} {bytes cc : ByteArray} {maxL nL mc ms n index : Nat} {ret : Option FieldType} {hh : List (Nat × Nat × Nat × Nat)} {ws : List Cond} {rm : Room} {Pc : Array Value → State → Prop} {Qc : Array Value → State → Outcome → State → Prop} {free : Addr → Prop} {Ts : List Cond} {own : String} {As rest : List Value} {g : JFrame}
    (S : CallFix p m c cc nL s args Ts own) (hM : Met l y ws rm Pc Qc mc ms free) (cw : vx_CSW R s args own index y bytes maxL ret hh ws rm mc ms n) (hp : PreS s H Pc As)
    (hg : g.method = m) (hn : As.length = n) (hsize : g.locals.size = nL) (hstack : g.stack = As.reverse ++ rest) (hW : 2 * g.monitorRoom + (rest.map fun v => v.category).sum ≤ 8) (hdg : decode cc g.pc = .ok (.invokestatic index, 3)) (hf : cells + mc ≤ R.cells ∧ slots + ms ≤ R.slots) :
    va_Run p l e R s m args below meth c H locs cells slots mc ms g rest (Qc As.toArray) (free) := by
  obtain ⟨⟨hrc, hrs, hfr, hlo, hws, hcw⟩, hcode, hini, hy, hlen, hl, hstt⟩ := cw
  have hK : Back l R p e below s args y 3 8 (PreOf R mc ms Pc) (PostOf Qc mc ms free) := va_backW (hh := hh) (bytes := bytes) (maxL := maxL) (ret := ret) hM hp.1 hrc hrs hfr hlo hws hcw (fun a' U hW => word_at hW (Or.inl (by first | rfl | simp [Cond.onTables, Cond.keeps, Cond.steady])) hini)
  obtain ⟨hx, hb, hml, ho, -⟩ := S
  intro T hT X
  obtain ⟨v, vm₁, ⟨U', l2, c2, s2⟩, hW₁, X', ⟨g', mk, t, L, e1, e2, hq, h1, hL, h2, h3⟩, st⟩ := vx_callSW X hx (hh := hh) (bytes := bytes) (maxL := maxL) (ret := ret) ho hl hstt hini hcode hy hK hg (hsize.trans hml.symm) (argsL := As) (rest := rest) (fun sig h => hn.trans (hlen sig h)) hstack hW (by rw [hb]; exact hdg)
    (fun vm₁ hW₁ => ⟨hf.1, hf.2, hp.2 (T.setVm vm₁) hT hW₁⟩)
  dsimp only [Pt.U, Pt.locs, Pt.cells, Pt.slots] at X' e1 e2 h1 h2 h3 st
  subst h1; subst h2; subst h3
  exact ⟨v, (T.setVm vm₁).calling g' mk As.toArray, t, U', L, hT, X', hL, e1, e2, hq, st⟩
/-- not caught here, past rows that name other classes: it goes on to the caller -/
theorem vx_outP {p : Program} {l : Launch} {e : Env} {R : Room} {s : State} {m : MethodId} {args : Array Value} {below : List Frame} {meth : Method} {c : Code} {H : Heap} {locs : List Loc} {cells slots : Nat} {free : Addr → Prop} {ls : Array Slot} {rest : List Value} {Qc : Array Value → State → Outcome → State → Prop} {XC : String → State → State → Prop}
    {pc : Nat} {own E : String} {ce : Cell} {q : Addr} {mc ms : Nat} (hown : s.vm.findClass own = some m.cls) (hlocks : meth.locks = false)
    (hpass : ∀ z ∈ c.exceptionTable.toList, covers z pc = false ∨ (z.catchType ≠ 0 ∧ ∃ nm : String, (Cond.classLink own z.catchType nm).before args s = true ∧ va_Nc E nm s)) (hcell : H[q]? = some ce) (hv : ce.vm = .none) (hcl : s.vm.findClass E = some ce.cls)
    (hx : ∀ t : State, t.heap = H → s.vm.Alike t.vm → XC E s t) (hf : ∀ z ∈ locs, free z.base) (hc : cells ≤ mc) (hs : slots ≤ ms) :
    vx_W p l e R s m args below meth c H locs cells slots (vx_MQ below Qc XC args s mc ms free) (F0 m pc ls rest) q := by
  intro T hT X
  have hpl : e.platform.magicAccessors = ({} : Platform).magicAccessors := by rw [X.admits.platform]
  obtain ⟨vm', hW', X', st⟩ := X.outThrough hlocks q (g := F0 m pc ls rest) rfl rfl rfl (cell := ce) (by rw [hT]; exact hcell) (by rw [hv]; rfl)
    (by obtain ⟨k9, h9, -⟩ := Vm.findClass_spec hcl; exact ⟨k9, h9⟩) (fun z hz => by
      rcases hpass z hz with h | ⟨hz0, nm, hl1, hn1⟩
      · exact Or.inl h
      · obtain ⟨c6, hc6, hcl6⟩ := Cond.classLink_spec hown hl1 e.platform hpl
        obtain ⟨a8, b8, h1, h2, h3⟩ := hn1
        cases Option.some.inj (h1.symm.trans hcl)
        cases Option.some.inj (h2.symm.trans hc6)
        exact Or.inr ⟨hz0, _, hcl6, h3⟩)
  obtain ⟨g₀, hfr⟩ := X'.frames_eq
  have hcell9 : ((T.setVm vm').setFrames (.throwing q :: below)).heap[q]? = some ce := by
    show T.heap[q]? = some ce
    rw [hT]; exact hcell
  have hend : Ended ((T.setVm vm').setFrames (.throwing q :: below)) below (.threw q) := State.frames_setFrames _ (State.cur_lt_of_frames hfr)
  refine ⟨(T.setVm vm').setFrames (.throwing q :: below), ?_, .threw q, X'.here.running, hend, Or.inr ⟨q, rfl, E, ce, locs, hx _ hT (X'.ends _).1.alike, hcell9, hv, hcl, (X'.ends _).1, (X'.ends _).2.mono hc hs, hf⟩⟩
  rw [X.pushThrowing_eq]
  exact st
/-- a thing of a world lies in the heap -/
theorem vx_lt {D : va_G} {cl : List vw_C} {ws : va_W} {H1 : Heap} (h : va_P D cl ws H1) {k : Nat} {q : Nat × va_E} (hk : ws[k]? = some q) : q.1 < H1.size := (h k q hk).lt
end VXS
/-! ===== END ===== -/
/-! ===== BEGIN methods with a table of their own: called by a name, returning or throwing ===== -/
section VXH
/-! vx_backW, vx_callVX, vx_callSX, vx_callVW, vx_runVW, vx_runVX, vx_runSX, vx_ofWH follow the same proofs as their sisters above (Free/Laws.lean, Shelf42/LK1.lean); vx_outP calls Shelf42/NT130.lean (outThrough). -/
section
variable {l : Launch} {R : Room} {p : Program} {e : Env} {below : List Frame} {s : State} {sargs : Array Value} {y : MethodName} {len W9 : Nat}
theorem vx_backW {ws : List Cond} {rm : Room} {Pc : Array Value → State → Prop} {Qc : Array Value → State → Outcome → State → Prop} {XC : String → State → State → Prop} {mc ms : Nat} {free : Addr → Prop} {bytes : ByteArray} {maxL : Nat} {ret : Option FieldType} {hh : List (Nat × Nat × Nat × Nat)}
    (hM : vx_Met l y ws rm Pc Qc XC mc ms free) (hblind : FrameBlind Pc) (hrc : rm.cells = mc) (hrs : rm.slots = ms)
    (hframes : rm.frames + 1 ≤ R.frames) (hlocals : W9 + (maxL + 11) + rm.locals ≤ R.locals)
    (hws : ∀ w ∈ ws, ∀ a' U, s.WarmedH U.vm → w.before a' U = true) (hcode : Cond.codeWith y bytes maxL ret hh ∈ ws) (hinit : ∀ a' U, s.WarmedH U.vm → (Cond.initialized y.cls).before a' U = true) :
    vx_Back l R p e below s sargs y len W9 (PreOf R mc ms Pc) (PostOf Qc mc ms free) (vx_Post XC mc ms free) := by
  intro m meth c A g ig mk a X hg hsize hdg hW hn hp
  have h1 : (headSpec ws rm).pre.before a A.U = true := atoms_intro fun w hw => hws w hw _ _ X.warmed
  have h2 : (Cond.codeWith y bytes maxL ret hh).before a A.U = true := hws _ hcode _ _ X.warmed
  have h3 : (Cond.initialized y.cls).before a A.U = true := hinit _ _ X.warmed
  have h4 : A.cells + (headSpec ws rm).room.cells ≤ R.cells := by rw [show (headSpec ws rm).room.cells = mc from hrc]; exact hp.1
  have h5 : A.slots + (headSpec ws rm).room.slots ≤ R.slots := by rw [show (headSpec ws rm).room.slots = ms from hrs]; exact hp.2.1
  have hPc : Pc a (A.U.calling g mk a) := hblind _ _ _ _ hp.2.2
  obtain ⟨U, Ls, c0, s0⟩ := A
  dsimp only [Pt.U, Pt.locs, Pt.cells, Pt.slots] at h1 h2 h3 h4 h5 X hn hPc ⊢
  obtain ⟨m9, methY, cY, hn9, hmY, hcY, -, hlY, -⟩ := Cond.codeWith_spec h2
  cases Option.some.inj (hn9.symm.trans hn)
  obtain ⟨kY, hkY, -⟩ := className_of_methodNamed hn
  have hinitY : kY.init = .initialized := Cond.initialized_spec (findClass_of_methodNamed hn) hkY h3
  have h : At U g.method c below := by rw [hg]; exact X.here
  have hlocals9 : W9 + (maxL + 11) + (headSpec ws rm).room.locals ≤ R.locals := hlocals
  have happ : (headSpec ws rm).appliesLoose y e.platform (U.calling g mk a) = true :=
    Spec.appliesLoose_calling (g := g) h hdg hn hkY hinitY
      (X.room_calling (g := g) (R' := (headSpec ws rm).room) hsize hmY hcY hframes (by rw [hlY]; omega) h4 h5) h1
  obtain ⟨mid, hmid⟩ := h.above
  have hfr : (U.setTop g).frames = (.java g :: mid) ++ below := by rw [State.frames_setTop' g h.top, hmid]; rfl
  obtain ⟨o, s₂, hsteps, -, hend, hq⟩ := Steps.callFree hM p X.admits X.cas X.clock (acts := []) hfr happ hPc trivial
  have hq' : vx_Q Qc XC mc ms free a (U.calling g mk a) o s₂ := hq
  rw [State.frames_setTop' g h.top] at hend
  obtain ⟨g₀, hg0⟩ := Option.isSome_iff_exists.mp h.top
  obtain ⟨r, hr⟩ := State.topJava?_eq_some.mp hg0
  have hr' : (({ U with heap := s₂.heap, slotsUsed := s₂.slotsUsed } : State).setVm s₂.vm).frames = .java g₀ :: r := hr
  rcases hq' with ⟨hqc, L, hfe, hL⟩ | ⟨q, rfl, E, ce, L, hx, hce, hcv, hcl, hW₂, hsm, hL⟩
  · obtain ⟨⟨v, rfl⟩, hW₂, e2, q2, q3, q4, q5, q6⟩ := id hfe
    have e3 : s₂ = ({ (U.calling g mk a).setFrames s₂.frames with heap := s₂.heap, slotsUsed := s₂.slotsUsed } : State).setVm s₂.vm := by
      have : s₂ = ({ s₂ with vm := (U.calling g mk a).vm } : State).setVm s₂.vm := rfl
      rw [e2] at this
      exact this
    obtain ⟨c₂, i₂, len₂, hc₂, hd₂, hf₂⟩ := hend
    have hW' : U.WarmedH s₂.vm := hW₂
    have hcc : c₂ = c := by
      have h1 : s₂.code? g.method = U.code? g.method := by
        rw [State.code?_eq, State.code?_eq, hW'.alike.method?]
      exact Option.some.inj (hc₂.symm.trans (h1.trans h.code))
    subst hcc
    have hlen : len₂ = len := by rw [hdg] at hd₂; cases hd₂; rfl
    subst hlen
    have hs₂ : s₂ = (({ U with heap := s₂.heap, slotsUsed := s₂.slotsUsed } : State).setVm s₂.vm).setTop { g with pc := g.pc + len₂, stack := v.toList ++ g.stack } := by
      refine e3.trans ?_
      rw [hf₂, State.calling_eq h.top, State.setFrames_setFrames, State.setTop_of_frames _ hr', hr]
      rfl
    have hsame : U.sameButNew ({ U with heap := s₂.heap, slotsUsed := s₂.slotsUsed } : State) L mc ms := by
      refine ⟨?_, q2, q3, q4, q5, q6⟩
      obtain ⟨t, ht, -⟩ := State.frames_cons hr
      show ({ U with heap := s₂.heap, slotsUsed := s₂.slotsUsed } : State) = { U.setFrames U.frames with heap := s₂.heap, slotsUsed := s₂.slotsUsed }
      rw [State.setFrames_self ht]
    subst hg
    refine Or.inl ⟨v, ⟨(({ U with heap := s₂.heap, slotsUsed := s₂.slotsUsed } : State).setVm s₂.vm), Ls ++ L, c0 + mc, s0 + ms⟩,
      ⟨X.admits, X.cas, X.clock, X.frames, X.room, X.hears, X.method, X.code, (X.here.setHeapUsed s₂.heap s₂.slotsUsed).setVm hW'.alike, X.tail, State.WarmedH.trans X.warmed hW', X.limits, X.bytes, X.same.trans (hsame.setVm s.vm)⟩,
      ⟨g, mk, s₂, L, rfl, rfl, hqc, rfl, hL, rfl, rfl⟩, ?_⟩
    show Steps p.tables e below _ ((({ U with heap := s₂.heap, slotsUsed := s₂.slotsUsed } : State).setVm s₂.vm).setTop { g with pc := g.pc + len₂, stack := v.toList ++ g.stack })
    rw [← hs₂]
    exact hsteps
  · obtain ⟨e2, q2, q3, q4, q5, q6⟩ := id hsm
    have e3 : s₂ = ({ (U.calling g mk a).setFrames s₂.frames with heap := s₂.heap, slotsUsed := s₂.slotsUsed } : State).setVm s₂.vm := by
      have : s₂ = ({ s₂ with vm := (U.calling g mk a).vm } : State).setVm s₂.vm := rfl
      rw [e2] at this
      exact this
    have hf₂ : s₂.frames = .throwing q :: .java g :: U.frames.tail := hend
    have hW' : U.WarmedH s₂.vm := hW₂
    have hs₂ : s₂ = ((({ U with heap := s₂.heap, slotsUsed := s₂.slotsUsed } : State).setVm s₂.vm).setTop g).pushFrame (.throwing q) := by
      refine e3.trans ?_
      rw [hf₂, State.calling_eq h.top, State.setFrames_setFrames, State.pushFrame, State.frames_setTop _ hr', State.setTop_of_frames _ hr', State.setFrames_setFrames, hr]
      rfl
    have hsame : U.sameButNew ({ U with heap := s₂.heap, slotsUsed := s₂.slotsUsed } : State) L mc ms := by
      refine ⟨?_, q2, q3, q4, q5, q6⟩
      obtain ⟨t, ht, -⟩ := State.frames_cons hr
      show ({ U with heap := s₂.heap, slotsUsed := s₂.slotsUsed } : State) = { U.setFrames U.frames with heap := s₂.heap, slotsUsed := s₂.slotsUsed }
      rw [State.setFrames_self ht]
    subst hg
    refine Or.inr ⟨q, ⟨(({ U with heap := s₂.heap, slotsUsed := s₂.slotsUsed } : State).setVm s₂.vm), Ls ++ L, c0 + mc, s0 + ms⟩,
      ⟨X.admits, X.cas, X.clock, X.frames, X.room, X.hears, X.method, X.code, (X.here.setHeapUsed s₂.heap s₂.slotsUsed).setVm hW'.alike, X.tail, State.WarmedH.trans X.warmed hW', X.limits, X.bytes, X.same.trans (hsame.setVm s.vm)⟩,
      ⟨g, mk, s₂, L, E, ce, rfl, rfl, hx, hce, hcv, hcl, rfl, hL, rfl, rfl⟩, ?_⟩
    show Steps p.tables e below _ (((({ U with heap := s₂.heap, slotsUsed := s₂.slotsUsed } : State).setVm s₂.vm).setTop g).pushFrame (.throwing q))
    rw [← hs₂]
    exact hsteps
end
variable {p : Program} {l : Launch} {e : Env} {R : Room} {s : State} {m : MethodId} {args : Array Value} {below : List Frame} {meth : Method} {c : Code} {T : State} {H : Heap} {locs : List Loc} {cells slots : Nat}
theorem vx_callVX (X : Stand p l e R s m args below meth c T locs cells slots) (hexec : p.tables.exec = Jvm.exec) {own C : String} {index : Nat} {y : MethodName} {bytes : ByteArray} {maxL : Nat} {ret : Option FieldType} {hh : List (Nat × Nat × Nat × Nat)}
    (hown : s.vm.findClass own = some m.cls) (hlink : (Cond.methodLink own index y).before args s = true) (hinst : (Cond.instanceMethod y).before args s = true) (hsel : (Cond.selects C y y).before args s = true)
    (hcode : (Cond.codeWith y bytes maxL ret hh).before args s = true) (hy : y.cls ≠ "java/lang/invoke/MethodHandle" ∧ y.cls ≠ "java/lang/invoke/VarHandle")
    {W9 : Nat} {Pre : Pt → Array Value → Prop} {Post : Pt → Array Value → Option Value → Pt → Prop} {PostX : Pt → Array Value → Addr → Pt → Prop} (hK : vx_Back l R p e below s args y 3 W9 Pre Post PostX)
    {b : Addr} {cellB : Cell} (hcell : T.heap[b]? = some cellB) (hobj : cellB.vm.isStatics = false) (hcls : s.vm.findClass C = some cellB.cls)
    {g : JFrame} (hg : g.method = m) (hsize : g.locals.size = c.maxLocals) {argsL rest : List Value} (hlen : ∀ sig, parseMethodDescriptor y.desc = some sig → argsL.length = sig.parameters.length)
    (hstack : g.stack = argsL.reverse ++ .ref b :: rest) (hW : 2 * g.monitorRoom + (rest.map fun v => v.category).sum ≤ W9) (hdg : decode c.code g.pc = .ok (.invokevirtual index, 3))
    (hpre : ∀ vm₁, s.WarmedH vm₁ → Pre ⟨T.setVm vm₁, locs, cells, slots⟩ (Value.ref b :: argsL).toArray) :
    (∃ (v : Option Value) (vm₁ : Vm) (B : Pt), s.WarmedH vm₁ ∧ Stand p l e R s m args below meth c B.U B.locs B.cells B.slots ∧ Post ⟨T.setVm vm₁, locs, cells, slots⟩ (Value.ref b :: argsL).toArray v B ∧
      ∀ target, Steps p.tables e below (B.U.setTop { g with pc := g.pc + 3, stack := v.toList ++ rest }) target → Steps p.tables e below (T.setTop g) target) ∨
    (∃ (q : Addr) (vm₁ : Vm) (B : Pt), s.WarmedH vm₁ ∧ Stand p l e R s m args below meth c B.U B.locs B.cells B.slots ∧ PostX ⟨T.setVm vm₁, locs, cells, slots⟩ (Value.ref b :: argsL).toArray q B ∧
      Steps p.tables e below (T.setTop g) ((B.U.setTop { g with stack := rest }).pushFrame (.throwing q))) := by
  obtain ⟨mk, methM, hnamed, hmethM, hstM, habM⟩ := Cond.instanceMethod_spec hinst
  obtain ⟨m8, methM', cM, hn8, hmethM', -, -, -, -, -, -, hsigM⟩ := Cond.codeWith_spec hcode
  cases Option.some.inj (hn8.symm.trans hnamed)
  cases hmethM.symm.trans hmethM'
  obtain ⟨c2, r2, m2, q1, q2, q3, q4, kP, hkP, hkPi⟩ := Cond.selects_spec hsel
  cases hcls.symm.trans q1
  cases (State.methodFound?_of_named hnamed hy).symm.trans q2
  cases hnamed.symm.trans q3
  have hselP : selectMethod e.platform s.vm cellB.cls mk = .method mk := by rw [Launch.admits_selectMethod X.admits]; exact q4
  obtain ⟨vm₁, X₁, hstep₁⟩ := X.invokevirtual hexec hown hlink hnamed hmethM hstM hkP hkPi hy (a := b) (cell := cellB) hcell
    (fun z h => by rw [h] at hobj; cases hobj) hselP hmethM habM hkP hkPi (g := g) hg (argsL := argsL) (rest := rest) (hlen _ hsigM) hstack hdg
  rcases hK m meth c ⟨T.setVm vm₁, locs, cells, slots⟩ { g with stack := rest } (.invokevirtual index) mk (Value.ref b :: argsL).toArray X₁ hg hsize hdg hW (X₁.named hnamed) (hpre vm₁ X₁.warmed) with ⟨v, B, X', hpost, hsteps⟩ | ⟨q, B, X', hpost, hsteps⟩
  · exact Or.inl ⟨v, vm₁, B, X₁.warmed, X', hpost, fun target h => hstep₁ _ fun acts => by rw [doInvoke_state]; exact hsteps.trans h⟩
  · exact Or.inr ⟨q, vm₁, B, X₁.warmed, X', hpost, hstep₁ _ fun acts => by rw [doInvoke_state]; exact hsteps⟩
theorem vx_callSX (X : Stand p l e R s m args below meth c T locs cells slots) (hexec : p.tables.exec = Jvm.exec) {own : String} {index : Nat} {y : MethodName} {bytes : ByteArray} {maxL : Nat} {ret : Option FieldType} {hh : List (Nat × Nat × Nat × Nat)}
    (hown : s.vm.findClass own = some m.cls) (hlink : (Cond.methodLink own index y).before args s = true) (hstat : (Cond.static y).before args s = true) (hinit : (Cond.initialized y.cls).before args s = true)
    (hcode : (Cond.codeWith y bytes maxL ret hh).before args s = true) (hy : y.cls ≠ "java/lang/invoke/MethodHandle" ∧ y.cls ≠ "java/lang/invoke/VarHandle")
    {W9 : Nat} {Pre : Pt → Array Value → Prop} {Post : Pt → Array Value → Option Value → Pt → Prop} {PostX : Pt → Array Value → Addr → Pt → Prop} (hK : vx_Back l R p e below s args y 3 W9 Pre Post PostX)
    {g : JFrame} (hg : g.method = m) (hsize : g.locals.size = c.maxLocals) {argsL rest : List Value} (hlen : ∀ sig, parseMethodDescriptor y.desc = some sig → argsL.length = sig.parameters.length)
    (hstack : g.stack = argsL.reverse ++ rest) (hW : 2 * g.monitorRoom + (rest.map fun v => v.category).sum ≤ W9) (hdg : decode c.code g.pc = .ok (.invokestatic index, 3))
    (hpre : ∀ vm₁, s.WarmedH vm₁ → Pre ⟨T.setVm vm₁, locs, cells, slots⟩ argsL.toArray) :
    (∃ (v : Option Value) (vm₁ : Vm) (B : Pt), s.WarmedH vm₁ ∧ Stand p l e R s m args below meth c B.U B.locs B.cells B.slots ∧ Post ⟨T.setVm vm₁, locs, cells, slots⟩ argsL.toArray v B ∧
      ∀ target, Steps p.tables e below (B.U.setTop { g with pc := g.pc + 3, stack := v.toList ++ rest }) target → Steps p.tables e below (T.setTop g) target) ∨
    (∃ (q : Addr) (vm₁ : Vm) (B : Pt), s.WarmedH vm₁ ∧ Stand p l e R s m args below meth c B.U B.locs B.cells B.slots ∧ PostX ⟨T.setVm vm₁, locs, cells, slots⟩ argsL.toArray q B ∧
      Steps p.tables e below (T.setTop g) ((B.U.setTop { g with stack := rest }).pushFrame (.throwing q))) := by
  obtain ⟨mk, methM, cM, hnamed, hmethM, -, -, -, -, -, -, hsigM⟩ := Cond.codeWith_spec hcode
  have hstatic : methM.isStatic = true := Cond.static_spec hnamed hmethM hstat
  obtain ⟨kP, hkP, -⟩ := className_of_methodNamed hnamed
  have hinitP : kP.init = .initialized := Cond.initialized_spec (findClass_of_methodNamed hnamed) hkP hinit
  obtain ⟨vm₁, X₁, hstep₁⟩ := X.invokestatic hexec hown hlink hnamed hmethM hstatic hkP hinitP hy (g := g) hg (argsL := argsL) (rest := rest) (hlen _ hsigM) hstack hdg
  rcases hK m meth c ⟨T.setVm vm₁, locs, cells, slots⟩ { g with stack := rest } (.invokestatic index) mk argsL.toArray X₁ hg hsize hdg hW (X₁.named hnamed) (hpre vm₁ X₁.warmed) with ⟨v, B, X', hpost, hsteps⟩ | ⟨q, B, X', hpost, hsteps⟩
  · exact Or.inl ⟨v, vm₁, B, X₁.warmed, X', hpost, fun target h => hstep₁ _ fun acts => by rw [doInvoke_state]; exact hsteps.trans h⟩
  · exact Or.inr ⟨q, vm₁, B, X₁.warmed, X', hpost, hstep₁ _ fun acts => by rw [doInvoke_state]; exact hsteps⟩
theorem vx_callVW (X : Stand p l e R s m args below meth c T locs cells slots) (hexec : p.tables.exec = Jvm.exec) {own C : String} {index : Nat} {y : MethodName} {bytes : ByteArray} {maxL : Nat} {ret : Option FieldType} {hh : List (Nat × Nat × Nat × Nat)}
    (hown : s.vm.findClass own = some m.cls) (hlink : (Cond.methodLink own index y).before args s = true) (hinst : (Cond.instanceMethod y).before args s = true) (hsel : (Cond.selects C y y).before args s = true)
    (hcode : (Cond.codeWith y bytes maxL ret hh).before args s = true) (hy : y.cls ≠ "java/lang/invoke/MethodHandle" ∧ y.cls ≠ "java/lang/invoke/VarHandle")
    {W9 : Nat} {Pre : Pt → Array Value → Prop} {Post : Pt → Array Value → Option Value → Pt → Prop} (hK : Back l R p e below s args y 3 W9 Pre Post)
    {b : Addr} {cellB : Cell} (hcell : T.heap[b]? = some cellB) (hobj : cellB.vm.isStatics = false) (hcls : s.vm.findClass C = some cellB.cls)
    {g : JFrame} (hg : g.method = m) (hsize : g.locals.size = c.maxLocals) {argsL rest : List Value} (hlen : ∀ sig, parseMethodDescriptor y.desc = some sig → argsL.length = sig.parameters.length)
    (hstack : g.stack = argsL.reverse ++ .ref b :: rest) (hW : 2 * g.monitorRoom + (rest.map fun v => v.category).sum ≤ W9) (hdg : decode c.code g.pc = .ok (.invokevirtual index, 3))
    (hpre : ∀ vm₁, s.WarmedH vm₁ → Pre ⟨T.setVm vm₁, locs, cells, slots⟩ (Value.ref b :: argsL).toArray) :
    ∃ (v : Option Value) (vm₁ : Vm) (B : Pt), s.WarmedH vm₁ ∧ Stand p l e R s m args below meth c B.U B.locs B.cells B.slots ∧ Post ⟨T.setVm vm₁, locs, cells, slots⟩ (Value.ref b :: argsL).toArray v B ∧
      ∀ target, Steps p.tables e below (B.U.setTop { g with pc := g.pc + 3, stack := v.toList ++ rest }) target → Steps p.tables e below (T.setTop g) target := by
  obtain ⟨mk, methM, hnamed, hmethM, hstM, habM⟩ := Cond.instanceMethod_spec hinst
  obtain ⟨m8, methM', cM, hn8, hmethM', -, -, -, -, -, -, hsigM⟩ := Cond.codeWith_spec hcode
  cases Option.some.inj (hn8.symm.trans hnamed)
  cases hmethM.symm.trans hmethM'
  obtain ⟨c2, r2, m2, q1, q2, q3, q4, kP, hkP, hkPi⟩ := Cond.selects_spec hsel
  cases hcls.symm.trans q1
  cases (State.methodFound?_of_named hnamed hy).symm.trans q2
  cases hnamed.symm.trans q3
  have hselP : selectMethod e.platform s.vm cellB.cls mk = .method mk := by rw [Launch.admits_selectMethod X.admits]; exact q4
  obtain ⟨vm₁, X₁, hstep₁⟩ := X.invokevirtual hexec hown hlink hnamed hmethM hstM hkP hkPi hy (a := b) (cell := cellB) hcell
    (fun z h => by rw [h] at hobj; cases hobj) hselP hmethM habM hkP hkPi (g := g) hg (argsL := argsL) (rest := rest) (hlen _ hsigM) hstack hdg
  obtain ⟨v, B, X', hpost, hsteps⟩ := hK m meth c ⟨T.setVm vm₁, locs, cells, slots⟩ { g with stack := rest } (.invokevirtual index) mk (Value.ref b :: argsL).toArray X₁ hg hsize hdg hW (X₁.named hnamed) (hpre vm₁ X₁.warmed)
  exact ⟨v, vm₁, B, X₁.warmed, X', hpost, fun target h => hstep₁ _ fun acts => by rw [doInvoke_state]; exact hsteps.trans h⟩
abbrev vx_CVW (R : Room) (s : State) (args : Array Value) (own C : String) (index : Nat) (y : MethodName) (bytes : ByteArray) (maxL : Nat) (ret : Option FieldType) (hh : List (Nat × Nat × Nat × Nat)) (ws : List Cond) (rm : Room) (mc ms n : Nat) : Prop :=
  (rm.cells = mc ∧ rm.slots = ms ∧ rm.frames + 1 ≤ R.frames ∧ 8 + (maxL + 11) + rm.locals ≤ R.locals ∧ (∀ w ∈ ws, ∀ (a' : Array Value) (U : State), s.WarmedH U.vm → w.before a' U = true) ∧ Cond.codeWith y bytes maxL ret hh ∈ ws) ∧
  (Cond.codeWith y bytes maxL ret hh).before args s = true ∧ (Cond.initialized y.cls).before args s = true ∧ (y.cls ≠ "java/lang/invoke/MethodHandle" ∧ y.cls ≠ "java/lang/invoke/VarHandle") ∧
  (∀ sig, parseMethodDescriptor y.desc = some sig → n = sig.parameters.length) ∧ (Cond.methodLink own index y).before args s = true ∧ (Cond.instanceMethod y).before args s = true ∧ (Cond.selects C y y).before args s = true
theorem vx_cwVW {own C : String} {index maxL mc ms : Nat} {y : MethodName} {bytes : ByteArray} {ret : Option FieldType} {hh : List (Nat × Nat × Nat × Nat)} {Ts ws ws' : List Cond} {rm : Room} (n : Nat) (ht : ∀ w ∈ Ts, w.before args s = true) (hT : GoodIn Ts (wsV own index C y ws)) (hw : ws = Cond.codeWith y bytes maxL ret hh :: ws') (hrc : rm.cells = mc) (hrs : rm.slots = ms)
    (hd : y.cls = C ∧ y.cls ≠ "java/lang/invoke/MethodHandle" ∧ y.cls ≠ "java/lang/invoke/VarHandle" ∧ (parseMethodDescriptor y.desc).map (fun d => d.parameters.length) = some n) (hR : rm.frames + 1 ≤ R.frames ∧ 8 + (maxL + 11) + rm.locals ≤ R.locals) :
    vx_CVW R s args own C index y bytes maxL ret hh ws rm mc ms n := by
  obtain ⟨hC, hd⟩ := hd
  subst hC
  have ok : ∀ w ∈ wsV own index y.cls y ws, w.before args s = true := fun w h => ht w (hT w h).1
  have hG : GoodIn Ts ws := fun w h => hT w (by unfold wsV; exact List.mem_append_right _ h)
  have hc : Cond.codeWith y bytes maxL ret hh ∈ ws := by rw [hw]; exact List.mem_cons_self
  refine ⟨⟨hrc, hrs, hR.1, hR.2, pay_in ht hG, hc⟩, ht _ (hG _ hc).1, ok _ (by simp [wsV]), ⟨hd.1, hd.2.1⟩, fun sig h => ?_, ok _ (by simp [wsV]), ok _ (by simp [wsV]), ok _ (by simp [wsV])⟩
  have h2 := hd.2.2
  rw [h] at h2
  exact (Option.some.inj h2).symm
theorem vx_runVW {y : MethodName} {bytes cc : ByteArray} {maxL nL mc ms n index : Nat} {ret : Option FieldType} {hh : List (Nat × Nat × Nat × Nat)} {ws : List Cond} {rm : Room} {Pc : Array Value → State → Prop} {Qc : Array Value → State → Outcome → State → Prop} {free : Addr → Prop} {Ts : List Cond} {own C : String} {b : Addr} {As rest : List Value} {g : JFrame}
    (S : CallFix p m c cc nL s args Ts own) (hM : Met l y ws rm Pc Qc mc ms free) (cw : vx_CVW R s args own C index y bytes maxL ret hh ws rm mc ms n) (hp : PreV s H C b Pc As)
    (hg : g.method = m) (hn : As.length = n) (hsize : g.locals.size = nL) (hstack : g.stack = As.reverse ++ .ref b :: rest) (hW : 2 * g.monitorRoom + (rest.map fun v => v.category).sum ≤ 8) (hdg : decode cc g.pc = .ok (.invokevirtual index, 3)) (hf : cells + mc ≤ R.cells ∧ slots + ms ≤ R.slots) :
    va_Run p l e R s m args below meth c H locs cells slots mc ms g rest (Qc (Value.ref b :: As).toArray) free := by
  obtain ⟨⟨hrc, hrs, hfr, hlo, hws, hcw⟩, hcode, hini, hy, hlen, hl, hin, hse⟩ := cw
  have hK : Back l R p e below s args y 3 8 (PreOf R mc ms Pc) (PostOf Qc mc ms free) := va_backW (hh := hh) (bytes := bytes) (maxL := maxL) (ret := ret) hM hp.1 hrc hrs hfr hlo hws hcw (fun a' U hW => word_at hW (Or.inl (by first | rfl | simp [Cond.onTables, Cond.keeps, Cond.steady])) hini)
  obtain ⟨hx, hb, hml, ho, -⟩ := S
  obtain ⟨-, ⟨cellB, hcB, hoB, hclB⟩, hPc⟩ := hp
  intro T hT X
  obtain ⟨v, vm₁, ⟨U', l2, c2, s2⟩, hW₁, X', ⟨g', mk, t, L, e1, e2, hq, h1, hL, h2, h3⟩, st⟩ := vx_callVW X hx (C := C) (hh := hh) (bytes := bytes) (maxL := maxL) (ret := ret) ho hl hin hse hcode hy hK (by rw [hT]; exact hcB) hoB hclB hg (hsize.trans hml.symm) (argsL := As) (rest := rest) (fun sig h => hn.trans (hlen sig h)) hstack hW (by rw [hb]; exact hdg)
    (fun vm₁ hW₁ => ⟨hf.1, hf.2, hPc (T.setVm vm₁) hT hW₁⟩)
  dsimp only [Pt.U, Pt.locs, Pt.cells, Pt.slots] at X' e1 e2 h1 h2 h3 st
  subst h1; subst h2; subst h3
  exact ⟨v, (T.setVm vm₁).calling g' mk (Value.ref b :: As).toArray, t, U', L, hT, X', hL, e1, e2, hq, st⟩
section
variable {y : MethodName} {bytes cc : ByteArray} {maxL nL mc ms n index : Nat} {ret : Option FieldType} {ws : List Cond} {rm : Room} {Pc : Array Value → State → Prop} {Qc : Array Value → State → Outcome → State → Prop} {XC : String → State → State → Prop} {free : Addr → Prop} {Ts : List Cond} {own C : String} {b : Addr} {As rest : List Value} {g : JFrame}
theorem vx_runVX {hh : List (Nat × Nat × Nat × Nat)} (S : CallFix p m c cc nL s args Ts own) (hM : vx_Met l y ws rm Pc Qc XC mc ms free) (cw : vx_CVW R s args own C index y bytes maxL ret hh ws rm mc ms n) (hp : PreV s H C b Pc As)
    (hg : g.method = m) (hn : As.length = n) (hsize : g.locals.size = nL) (hstack : g.stack = As.reverse ++ .ref b :: rest) (hW : 2 * g.monitorRoom + (rest.map fun v => v.category).sum ≤ 8) (hdg : decode cc g.pc = .ok (.invokevirtual index, 3)) (hf : cells + mc ≤ R.cells ∧ slots + ms ≤ R.slots) :
    vx_Run p l e R s m args below meth c H locs cells slots mc ms g rest (Qc (Value.ref b :: As).toArray) XC free := by
  obtain ⟨⟨hrc, hrs, hfr, hlo, hws, hcw⟩, hcode, hini, hy, hlen, hl, hin, hse⟩ := cw
  have hK : vx_Back l R p e below s args y 3 8 (PreOf R mc ms Pc) (PostOf Qc mc ms free) (vx_Post XC mc ms free) := vx_backW (hh := hh) (bytes := bytes) (maxL := maxL) (ret := ret) hM hp.1 hrc hrs hfr hlo hws hcw (fun a' U hW => word_at hW (Or.inl (by first | rfl | simp [Cond.onTables, Cond.keeps, Cond.steady])) hini)
  obtain ⟨hx, hb, hml, ho, -⟩ := S
  obtain ⟨-, ⟨cellB, hcB, hoB, hclB⟩, hPc⟩ := hp
  intro T hT X
  rcases vx_callVX X hx (C := C) (hh := hh) (bytes := bytes) (maxL := maxL) (ret := ret) ho hl hin hse hcode hy hK (by rw [hT]; exact hcB) hoB hclB hg (hsize.trans hml.symm) (argsL := As) (rest := rest) (fun sig h => hn.trans (hlen sig h)) hstack hW (by rw [hb]; exact hdg)
    (fun vm₁ hW₁ => ⟨hf.1, hf.2, hPc (T.setVm vm₁) hT hW₁⟩) with ⟨v, vm₁, ⟨U', l2, c2, s2⟩, hW₁, X', ⟨g', mk, t, L, e1, e2, hq, h1, hL, h2, h3⟩, st⟩ | ⟨q, vm₁, ⟨U', l2, c2, s2⟩, hW₁, X', ⟨g', mk, t, L, E, ce, e1, e2, hq, hce, hcv, hcl, h1, hL, h2, h3⟩, st⟩
  · dsimp only [Pt.U, Pt.locs, Pt.cells, Pt.slots] at X' e1 e2 h1 h2 h3 st
    subst h1; subst h2; subst h3
    exact Or.inl ⟨v, (T.setVm vm₁).calling g' mk (Value.ref b :: As).toArray, t, U', L, hT, X', hL, e1, e2, hq, st⟩
  · dsimp only [Pt.U, Pt.locs, Pt.cells, Pt.slots] at X' e1 e2 h1 h2 h3 st hcl
    subst h1; subst h2; subst h3
    exact Or.inr ⟨q, (T.setVm vm₁).calling g' mk (Value.ref b :: As).toArray, t, U', L, E, ce, hT, X', hL, e1, e2, hq, hce, hcv, vx_cls hW₁ hcl, st⟩
theorem vx_runSX {hh : List (Nat × Nat × Nat × Nat)} (S : CallFix p m c cc nL s args Ts own) (hM : vx_Met l y ws rm Pc Qc XC mc ms free) (cw : vx_CSW R s args own index y bytes maxL ret hh ws rm mc ms n) (hp : PreS s H Pc As)
    (hg : g.method = m) (hn : As.length = n) (hsize : g.locals.size = nL) (hstack : g.stack = As.reverse ++ rest) (hW : 2 * g.monitorRoom + (rest.map fun v => v.category).sum ≤ 8) (hdg : decode cc g.pc = .ok (.invokestatic index, 3)) (hf : cells + mc ≤ R.cells ∧ slots + ms ≤ R.slots) :
    vx_Run p l e R s m args below meth c H locs cells slots mc ms g rest (Qc As.toArray) XC free := by
  obtain ⟨⟨hrc, hrs, hfr, hlo, hws, hcw⟩, hcode, hini, hy, hlen, hl, hstt⟩ := cw
  have hK : vx_Back l R p e below s args y 3 8 (PreOf R mc ms Pc) (PostOf Qc mc ms free) (vx_Post XC mc ms free) := vx_backW (hh := hh) (bytes := bytes) (maxL := maxL) (ret := ret) hM hp.1 hrc hrs hfr hlo hws hcw (fun a' U hW => word_at hW (Or.inl (by first | rfl | simp [Cond.onTables, Cond.keeps, Cond.steady])) hini)
  obtain ⟨hx, hb, hml, ho, -⟩ := S
  intro T hT X
  rcases vx_callSX X hx (hh := hh) (bytes := bytes) (maxL := maxL) (ret := ret) ho hl hstt hini hcode hy hK hg (hsize.trans hml.symm) (argsL := As) (rest := rest) (fun sig h => hn.trans (hlen sig h)) hstack hW (by rw [hb]; exact hdg)
    (fun vm₁ hW₁ => ⟨hf.1, hf.2, hp.2 (T.setVm vm₁) hT hW₁⟩) with ⟨v, vm₁, ⟨U', l2, c2, s2⟩, hW₁, X', ⟨g', mk, t, L, e1, e2, hq, h1, hL, h2, h3⟩, st⟩ | ⟨q, vm₁, ⟨U', l2, c2, s2⟩, hW₁, X', ⟨g', mk, t, L, E, ce, e1, e2, hq, hce, hcv, hcl, h1, hL, h2, h3⟩, st⟩
  · dsimp only [Pt.U, Pt.locs, Pt.cells, Pt.slots] at X' e1 e2 h1 h2 h3 st
    subst h1; subst h2; subst h3
    exact Or.inl ⟨v, (T.setVm vm₁).calling g' mk As.toArray, t, U', L, hT, X', hL, e1, e2, hq, st⟩
  · dsimp only [Pt.U, Pt.locs, Pt.cells, Pt.slots] at X' e1 e2 h1 h2 h3 st hcl
    subst h1; subst h2; subst h3
    exact Or.inr ⟨q, (T.setVm vm₁).calling g' mk As.toArray, t, U', L, E, ce, hT, X', hL, e1, e2, hq, hce, hcv, vx_cls hW₁ hcl, st⟩
end
end VXH
theorem vx_ofWH {l : Launch} {y : MethodName} {ws ws' : List Cond} {rm : Room} {Pc : Array Value → State → Prop} {Qc : Array Value → State → Outcome → State → Prop} {XC : String → State → State → Prop} {mc ms : Nat} {free : Addr → Prop} {cc : ByteArray} {maxL : Nat} {ret : Option FieldType} {hh : List (Nat × Nat × Nat × Nat)}
    (hy : plainName y.cls = true) (hw : ws = Cond.codeWith y cc maxL ret hh :: ws')
    (body : ∀ p e s m args below meth c s₁, BodyLoose p l y (headSpec ws rm) cc maxL ret e s m args below meth c s₁ → c.maxLocals = maxL → Pc args s →
      W p l e (headSpec ws rm).room s m args below meth c s.heap [] 0 0 (vx_MQ below Qc XC args s mc ms free) (entryFrame m args maxL)) : vx_Met l y ws rm Pc Qc XC mc ms free := by
  refine MetFree.of_bodyS (code := cc) (maxLocals := maxL) (ret := ret) hy ?_ ?_
  · intro args s m h hn
    obtain ⟨m9, meth, c, hn9, h1, h2, h3, h4, -, h5, h6, -⟩ := Cond.codeWith_spec (atoms_spec (ws := ws) h _ (by rw [hw]; exact List.mem_cons_self))
    cases hn.symm.trans hn9
    exact ⟨meth, c, h1, h2, h3, h4, h5, h6⟩
  · intro p e s m args below meth c s₁ B hml hP _
    have hh0 : s₁.heap = s.heap := by rw [B.state]; rfl
    obtain ⟨t, a1, o, b1, b2, b3⟩ := body p e s m args below meth c s₁ B hml hP s₁ hh0 (Stand.of_body B)
    exact ⟨t, o, a1, b1, b2, b3⟩
/-! ===== END ===== -/
end
section
def RX0 : String := "RiverNames$Land"
def TX0 : u_T := fun k => match k with
  | 0 => ("RiverNames$Land", "count", "I", false)
  | 1 => ("RiverNames$Land", "rule", "I", false)
  | 2 => ("RiverNames$Land", "ways", "[I", true)
  | 3 => ("RiverNames$Land", "stepsToSea", "[I", true)
  | 4 => ("RiverNames$Land", "sprung", "[Z", true)
  | 5 => ("RiverNames$Land", "springNames", "[I", true)
  | 6 => ("RiverNames$Land", "springWater", "[I", true)
  | 7 => ("RiverNames$Land", "swells", "[I", true)
  | 8 => ("RiverNames$Land", "deltas", "[Z", true)
  | 9 => ("RiverNames$Land", "water", "[I", true)
  | 10 => ("RiverNames$Land", "lengths", "[I", true)
  | 11 => ("RiverNames$Land", "names", "[I", true)
  | 12 => ("RiverNames$Land", "arguers", "[I", true)
  | 13 => ("RiverNames$Land", "disputed", "[Z", true)
  | 14 => ("RiverNames$Land", "winners", "[I", true)
  | _ => ("RiverNames$Land", "strengths", "[I", true)
def tyX0 : Nat → FieldType := fun k => match k with
  | 0 => .int
  | 1 => .int
  | 2 => .array .int
  | 3 => .array .int
  | 4 => .array .boolean
  | 5 => .array .int
  | 6 => .array .int
  | 7 => .array .int
  | 8 => .array .boolean
  | 9 => .array .int
  | 10 => .array .int
  | 11 => .array .int
  | 12 => .array .int
  | 13 => .array .boolean
  | 14 => .array .int
  | _ => .array .int
abbrev wsX00 : List Cond := u_ws RX0 TX0 16
theorem nmX0 : ∀ a, a < 16 → ∀ b, b < 16 → a ≠ b → (TX0 a).2.1 ≠ (TX0 b).2.1 := by decide +kernel
theorem tyX0_ok : ∀ k, k < 16 → parseFieldDescriptor (TX0 k).2.2.1 = some (tyX0 k) := by decide +kernel
abbrev cX0_init : ByteArray := prog_2_method_1_code
def yX0_init : MethodName := ⟨RX0, "<init>", "()V"⟩
abbrev cX0_size : ByteArray := prog_2_method_2_code
def yX0_size : MethodName := ⟨RX0, "size", "()I"⟩
abbrev cX0_ruleNow : ByteArray := prog_2_method_3_code
def yX0_ruleNow : MethodName := ⟨RX0, "ruleNow", "()I"⟩
abbrev cX0_isPlace : ByteArray := prog_2_method_4_code
def yX0_isPlace : MethodName := ⟨RX0, "isPlace", "(I)Z"⟩
abbrev cX0_next : ByteArray := prog_2_method_5_code
def yX0_next : MethodName := ⟨RX0, "next", "(I)I"⟩
abbrev cX0_isSprung : ByteArray := prog_2_method_6_code
def yX0_isSprung : MethodName := ⟨RX0, "isSprung", "(I)Z"⟩
abbrev cX0_springWaterOf : ByteArray := prog_2_method_7_code
def yX0_springWaterOf : MethodName := ⟨RX0, "springWaterOf", "(I)I"⟩
abbrev cX0_isDelta : ByteArray := prog_2_method_8_code
def yX0_isDelta : MethodName := ⟨RX0, "isDelta", "(I)Z"⟩
abbrev cX0_waterOf : ByteArray := prog_2_method_9_code
def yX0_waterOf : MethodName := ⟨RX0, "waterOf", "(I)I"⟩
abbrev cX0_lengthOf : ByteArray := prog_2_method_10_code
def yX0_lengthOf : MethodName := ⟨RX0, "lengthOf", "(I)I"⟩
abbrev cX0_nameOf : ByteArray := prog_2_method_11_code
def yX0_nameOf : MethodName := ⟨RX0, "nameOf", "(I)I"⟩
abbrev cX0_arguersAt : ByteArray := prog_2_method_12_code
def yX0_arguersAt : MethodName := ⟨RX0, "arguersAt", "(I)I"⟩
abbrev cX0_isDisputed : ByteArray := prog_2_method_13_code
def yX0_isDisputed : MethodName := ⟨RX0, "isDisputed", "(I)Z"⟩
abbrev cX0_addBare : ByteArray := prog_2_method_14_code
def yX0_addBare : MethodName := ⟨RX0, "addBare", "()I"⟩
abbrev cX0_addSprung : ByteArray := prog_2_method_15_code
def yX0_addSprung : MethodName := ⟨RX0, "addSprung", "(III)I"⟩
abbrev cX0_leadOn : ByteArray := prog_2_method_16_code
def yX0_leadOn : MethodName := ⟨RX0, "leadOn", "(II)V"⟩
abbrev cX0_toggleDelta : ByteArray := prog_2_method_17_code
def yX0_toggleDelta : MethodName := ⟨RX0, "toggleDelta", "(I)V"⟩
abbrev cX0_useRule : ByteArray := prog_2_method_18_code
def yX0_useRule : MethodName := ⟨RX0, "useRule", "(I)V"⟩
abbrev cX0_dryUp : ByteArray := prog_2_method_19_code
def yX0_dryUp : MethodName := ⟨RX0, "dryUp", "(I)V"⟩
abbrev cX0_swellFor : ByteArray := prog_2_method_20_code
def yX0_swellFor : MethodName := ⟨RX0, "swellFor", "(I)V"⟩
abbrev cX0_takeOver : ByteArray := prog_2_method_21_code
def yX0_takeOver : MethodName := ⟨RX0, "takeOver", "(LRiverNames$Land;)V"⟩
abbrev cX0_countNamed : ByteArray := prog_2_method_22_code
def yX0_countNamed : MethodName := ⟨RX0, "countNamed", "(I)I"⟩
abbrev cX0_countNamedOtherThan : ByteArray := prog_2_method_23_code
def yX0_countNamedOtherThan : MethodName := ⟨RX0, "countNamedOtherThan", "(LRiverNames$Land;)I"⟩
abbrev cX0_flowsTo : ByteArray := prog_2_method_24_code
def yX0_flowsTo : MethodName := ⟨RX0, "flowsTo", "(II)Z"⟩
abbrev cX0_lastOnWay : ByteArray := prog_2_method_25_code
def yX0_lastOnWay : MethodName := ⟨RX0, "lastOnWay", "(I)I"⟩
abbrev cX0_firstCommon : ByteArray := prog_2_method_26_code
def yX0_firstCommon : MethodName := ⟨RX0, "firstCommon", "(II)I"⟩
abbrev cX0_countSteps : ByteArray := prog_2_method_27_code
def yX0_countSteps : MethodName := ⟨RX0, "countSteps", "(I)I"⟩
abbrev cX0_settle : ByteArray := prog_2_method_28_code
def yX0_settle : MethodName := ⟨RX0, "settle", "()V"⟩
abbrev cX0_rise : ByteArray := prog_2_method_29_code
def yX0_rise : MethodName := ⟨RX0, "rise", "(I)V"⟩
abbrev cX0_flowOn : ByteArray := prog_2_method_30_code
def yX0_flowOn : MethodName := ⟨RX0, "flowOn", "(II)V"⟩
abbrev cX0_argue : ByteArray := prog_2_method_31_code
def yX0_argue : MethodName := ⟨RX0, "argue", "(IIII)V"⟩
def RX1 : String := "RiverNames"
def TX1 : u_T := fun k => match k with
  | 0 => ("RiverNames", "land", "LRiverNames$Land;", true)
  | 1 => ("RiverNames", "trial", "LRiverNames$Land;", true)
  | 2 => ("RiverNames", "bridgePlaces", "[I", true)
  | 3 => ("RiverNames", "bridgeNames", "[I", true)
  | 4 => ("RiverNames", "bridgeCount", "I", false)
  | _ => ("RiverNames", "yearNow", "I", false)
def tyX1 : Nat → FieldType := fun k => match k with
  | 0 => .object "RiverNames$Land"
  | 1 => .object "RiverNames$Land"
  | 2 => .array .int
  | 3 => .array .int
  | 4 => .int
  | _ => .int
abbrev wsX10 : List Cond := u_ws RX1 TX1 6
theorem nmX1 : ∀ a, a < 6 → ∀ b, b < 6 → a ≠ b → (TX1 a).2.1 ≠ (TX1 b).2.1 := by decide +kernel
theorem tyX1_ok : ∀ k, k < 6 → parseFieldDescriptor (TX1 k).2.2.1 = some (tyX1 k) := by decide +kernel
abbrev cX1_init : ByteArray := prog_1_method_1_code
def yX1_init : MethodName := ⟨RX1, "<init>", "()V"⟩
abbrev cX1_addPlace : ByteArray := prog_1_method_2_code
def yX1_addPlace : MethodName := ⟨RX1, "addPlace", "()I"⟩
abbrev cX1_addSpring : ByteArray := prog_1_method_3_code
def yX1_addSpring : MethodName := ⟨RX1, "addSpring", "(III)I"⟩
abbrev cX1_lead : ByteArray := prog_1_method_4_code
def yX1_lead : MethodName := ⟨RX1, "lead", "(II)I"⟩
abbrev cX1_turnDelta : ByteArray := prog_1_method_5_code
def yX1_turnDelta : MethodName := ⟨RX1, "turnDelta", "(I)Z"⟩
abbrev cX1_setRule : ByteArray := prog_1_method_6_code
def yX1_setRule : MethodName := ⟨RX1, "setRule", "(I)I"⟩
abbrev cX1_build : ByteArray := prog_1_method_7_code
def yX1_build : MethodName := ⟨RX1, "build", "(I)I"⟩
abbrev cX1_pass : ByteArray := prog_1_method_8_code
def yX1_pass : MethodName := ⟨RX1, "pass", "(I)I"⟩
abbrev cX1_year : ByteArray := prog_1_method_9_code
def yX1_year : MethodName := ⟨RX1, "year", "()I"⟩
abbrev cX1_places : ByteArray := prog_1_method_10_code
def yX1_places : MethodName := ⟨RX1, "places", "()I"⟩
abbrev cX1_leadsTo : ByteArray := prog_1_method_11_code
def yX1_leadsTo : MethodName := ⟨RX1, "leadsTo", "(I)I"⟩
abbrev cX1_hasSpring : ByteArray := prog_1_method_12_code
def yX1_hasSpring : MethodName := ⟨RX1, "hasSpring", "(I)Z"⟩
abbrev cX1_springOf : ByteArray := prog_1_method_13_code
def yX1_springOf : MethodName := ⟨RX1, "springOf", "(I)I"⟩
abbrev cX1_waterAt : ByteArray := prog_1_method_14_code
def yX1_waterAt : MethodName := ⟨RX1, "waterAt", "(I)I"⟩
abbrev cX1_lengthAt : ByteArray := prog_1_method_15_code
def yX1_lengthAt : MethodName := ⟨RX1, "lengthAt", "(I)I"⟩
abbrev cX1_mouthOf : ByteArray := prog_1_method_16_code
def yX1_mouthOf : MethodName := ⟨RX1, "mouthOf", "(I)I"⟩
abbrev cX1_isAbove : ByteArray := prog_1_method_17_code
def yX1_isAbove : MethodName := ⟨RX1, "isAbove", "(II)Z"⟩
abbrev cX1_placesAbove : ByteArray := prog_1_method_18_code
def yX1_placesAbove : MethodName := ⟨RX1, "placesAbove", "(I)I"⟩
abbrev cX1_meeting : ByteArray := prog_1_method_19_code
def yX1_meeting : MethodName := ⟨RX1, "meeting", "(II)I"⟩
abbrev cX1_nameAt : ByteArray := prog_1_method_20_code
def yX1_nameAt : MethodName := ⟨RX1, "nameAt", "(I)I"⟩
abbrev cX1_arguing : ByteArray := prog_1_method_21_code
def yX1_arguing : MethodName := ⟨RX1, "arguing", "(I)I"⟩
abbrev cX1_isArgued : ByteArray := prog_1_method_22_code
def yX1_isArgued : MethodName := ⟨RX1, "isArgued", "(I)Z"⟩
abbrev cX1_placesNamed : ByteArray := prog_1_method_23_code
def yX1_placesNamed : MethodName := ⟨RX1, "placesNamed", "(I)I"⟩
abbrev cX1_greatestName : ByteArray := prog_1_method_24_code
def yX1_greatestName : MethodName := ⟨RX1, "greatestName", "()I"⟩
abbrev cX1_nameless : ByteArray := prog_1_method_25_code
def yX1_nameless : MethodName := ⟨RX1, "nameless", "()I"⟩
abbrev cX1_bridges : ByteArray := prog_1_method_26_code
def yX1_bridges : MethodName := ⟨RX1, "bridges", "()I"⟩
abbrev cX1_placeOf : ByteArray := prog_1_method_27_code
def yX1_placeOf : MethodName := ⟨RX1, "placeOf", "(I)I"⟩
abbrev cX1_keeps : ByteArray := prog_1_method_28_code
def yX1_keeps : MethodName := ⟨RX1, "keeps", "(I)I"⟩
abbrev cX1_isInsulted : ByteArray := prog_1_method_29_code
def yX1_isInsulted : MethodName := ⟨RX1, "isInsulted", "(I)Z"⟩
abbrev cX1_insults : ByteArray := prog_1_method_30_code
def yX1_insults : MethodName := ⟨RX1, "insults", "()I"⟩
abbrev cX1_insultsAt : ByteArray := prog_1_method_31_code
def yX1_insultsAt : MethodName := ⟨RX1, "insultsAt", "(I)I"⟩
abbrev cX1_nameIn : ByteArray := prog_1_method_32_code
def yX1_nameIn : MethodName := ⟨RX1, "nameIn", "(II)I"⟩
abbrev cX1_yearsUntilRenamed : ByteArray := prog_1_method_33_code
def yX1_yearsUntilRenamed : MethodName := ⟨RX1, "yearsUntilRenamed", "(I)I"⟩
abbrev cX1_weightiestSpring : ByteArray := prog_1_method_34_code
def yX1_weightiestSpring : MethodName := ⟨RX1, "weightiestSpring", "()I"⟩
abbrev cX1_renamedByDelta : ByteArray := prog_1_method_35_code
def yX1_renamedByDelta : MethodName := ⟨RX1, "renamedByDelta", "(I)I"⟩
abbrev cX1_renamedByRule : ByteArray := prog_1_method_36_code
def yX1_renamedByRule : MethodName := ⟨RX1, "renamedByRule", "()I"⟩
abbrev cX1_meanMouth : ByteArray := prog_1_method_37_code
def yX1_meanMouth : MethodName := ⟨RX1, "meanMouth", "()D"⟩
abbrev cX1_digest : ByteArray := prog_1_method_38_code
def yX1_digest : MethodName := ⟨RX1, "digest", "()J"⟩
abbrev cX1_mixPlace : ByteArray := prog_1_method_39_code
def yX1_mixPlace : MethodName := ⟨RX1, "mixPlace", "(JI)J"⟩
abbrev cX1_mixBridge : ByteArray := prog_1_method_40_code
def yX1_mixBridge : MethodName := ⟨RX1, "mixBridge", "(JI)J"⟩
abbrev cX1_mix : ByteArray := prog_1_method_41_code
def yX1_mix : MethodName := ⟨RX1, "mix", "(JJ)J"⟩
abbrev cX1_bit : ByteArray := prog_1_method_42_code
def yX1_bit : MethodName := ⟨RX1, "bit", "(Z)J"⟩
abbrev cX1_suffersInsult : ByteArray := prog_1_method_43_code
def yX1_suffersInsult : MethodName := ⟨RX1, "suffersInsult", "(I)Z"⟩
abbrev cX1_countInsults : ByteArray := prog_1_method_44_code
def yX1_countInsults : MethodName := ⟨RX1, "countInsults", "()I"⟩
abbrev cX1_isWithin : ByteArray := prog_1_method_45_code
def yX1_isWithin : MethodName := ⟨RX1, "isWithin", "(III)Z"⟩
abbrev cX1_requirePlace : ByteArray := prog_1_method_46_code
def yX1_requirePlace : MethodName := ⟨RX1, "requirePlace", "(I)V"⟩
abbrev cX1_requireBridge : ByteArray := prog_1_method_47_code
def yX1_requireBridge : MethodName := ⟨RX1, "requireBridge", "(I)V"⟩
abbrev cX1_requireRoomForPlace : ByteArray := prog_1_method_48_code
def yX1_requireRoomForPlace : MethodName := ⟨RX1, "requireRoomForPlace", "()V"⟩
abbrev cX1_requireName : ByteArray := prog_1_method_49_code
def yX1_requireName : MethodName := ⟨RX1, "requireName", "(I)V"⟩
abbrev cX1_requireYears : ByteArray := prog_1_method_50_code
def yX1_requireYears : MethodName := ⟨RX1, "requireYears", "(I)V"⟩
def RX2 : String := "RiverNamesLaw$Sim"
def TX2 : u_T := fun k => match k with
  | 0 => ("RiverNamesLaw$Sim", "rule", "I", false)
  | 1 => ("RiverNamesLaw$Sim", "year", "I", false)
  | 2 => ("RiverNamesLaw$Sim", "places", "[[I", false)
  | _ => ("RiverNamesLaw$Sim", "bridges", "[[I", false)
def tyX2 : Nat → FieldType := fun k => match k with
  | 0 => .int
  | 1 => .int
  | 2 => .array (.array .int)
  | _ => .array (.array .int)
abbrev wsX20 : List Cond := u_ws RX2 TX2 4
theorem nmX2 : ∀ a, a < 4 → ∀ b, b < 4 → a ≠ b → (TX2 a).2.1 ≠ (TX2 b).2.1 := by decide +kernel
theorem tyX2_ok : ∀ k, k < 4 → parseFieldDescriptor (TX2 k).2.2.1 = some (tyX2 k) := by decide +kernel
abbrev cX2_init : ByteArray := prog_4_method_1_code
def yX2_init : MethodName := ⟨RX2, "<init>", "()V"⟩
abbrev cX2_with : ByteArray := prog_4_method_2_code
def yX2_with : MethodName := ⟨RX2, "with", "([[I[I)[[I"⟩
abbrev cX2_isAbove : ByteArray := prog_4_method_4_code
def yX2_isAbove : MethodName := ⟨RX2, "isAbove", "(II)Z"⟩
abbrev cX2_hasWater : ByteArray := prog_4_method_5_code
def yX2_hasWater : MethodName := ⟨RX2, "hasWater", "(I)Z"⟩
abbrev cX2_flow : ByteArray := prog_4_method_6_code
def yX2_flow : MethodName := ⟨RX2, "flow", "()[[I"⟩
abbrev cX2_arguers : ByteArray := prog_4_method_7_code
def yX2_arguers : MethodName := ⟨RX2, "arguers", "(I[I)[I"⟩
abbrev cX2_called : ByteArray := prog_4_method_8_code
def yX2_called : MethodName := ⟨RX2, "called", "(II[I)I"⟩
abbrev cX2_winner : ByteArray := prog_4_method_9_code
def yX2_winner : MethodName := ⟨RX2, "winner", "(I[[I)I"⟩
abbrev cX2_names : ByteArray := prog_4_method_10_code
def yX2_names : MethodName := ⟨RX2, "names", "()[I"⟩
abbrev cX2_differ : ByteArray := prog_4_method_11_code
def yX2_differ : MethodName := ⟨RX2, "differ", "([I[I)I"⟩
abbrev cX2_pass : ByteArray := prog_4_method_12_code
def yX2_pass : MethodName := ⟨RX2, "pass", "(I)V"⟩
abbrev cX2_insults : ByteArray := prog_4_method_13_code
def yX2_insults : MethodName := ⟨RX2, "insults", "([I)I"⟩
abbrev cX2_isSame : ByteArray := prog_4_method_14_code
def yX2_isSame : MethodName := ⟨RX2, "isSame", "(LRiverNames;)Z"⟩
def RX3 : String := "RiverNamesModel"
def TX3 : u_T := fun k => match k with
  | _ => ("", "", "", false)
def tyX3 : Nat → FieldType := fun k => match k with
  | _ => .int
abbrev wsX30 : List Cond := u_ws RX3 TX3 0
theorem nmX3 : ∀ a, a < 0 → ∀ b, b < 0 → a ≠ b → (TX3 a).2.1 ≠ (TX3 b).2.1 := by decide +kernel
theorem tyX3_ok : ∀ k, k < 0 → parseFieldDescriptor (TX3 k).2.2.1 = some (tyX3 k) := by decide +kernel
def RJ9 : String := "java/lang/Math"
def TJ9 : u_T := fun k => match k with
  | _ => ("", "", "", false)
def tyJ9 : Nat → FieldType := fun k => match k with
  | _ => .int
abbrev wsJ90 : List Cond := u_ws RJ9 TJ9 0
theorem nmJ9 : ∀ a, a < 0 → ∀ b, b < 0 → a ≠ b → (TJ9 a).2.1 ≠ (TJ9 b).2.1 := by decide +kernel
theorem tyJ9_ok : ∀ k, k < 0 → parseFieldDescriptor (TJ9 k).2.2.1 = some (tyJ9 k) := by decide +kernel
abbrev cJ9_max_7cf53 : ByteArray := prog_10_method_65_code
def yJ9_max_7cf53 : MethodName := ⟨RJ9, "max", "(II)I"⟩
abbrev cJ9_min_7cf53 : ByteArray := prog_10_method_69_code
def yJ9_min_7cf53 : MethodName := ⟨RJ9, "min", "(II)I"⟩
def RJ0 : String := "java/lang/String"
def TJ0 : u_T := fun k => match k with
  | _ => ("", "", "", false)
def tyJ0 : Nat → FieldType := fun k => match k with
  | _ => .int
abbrev wsJ00 : List Cond := u_ws RJ0 TJ0 0
theorem nmJ0 : ∀ a, a < 0 → ∀ b, b < 0 → a ≠ b → (TJ0 a).2.1 ≠ (TJ0 b).2.1 := by decide +kernel
theorem tyJ0_ok : ∀ k, k < 0 → parseFieldDescriptor (TJ0 k).2.2.1 = some (tyJ0 k) := by decide +kernel
def RL : String := "RiverNamesLaw"
abbrev cL_below : ByteArray := method_2_code
def yL_below : MethodName := ⟨RL, "below", "(II)I"⟩
abbrev cL_cell : ByteArray := method_3_code
def yL_cell : MethodName := ⟨RL, "cell", "([II)I"⟩
abbrev cL_act : ByteArray := method_4_code
def yL_act : MethodName := ⟨RL, "act", "(LRiverNames;LRiverNamesLaw$Sim;I)Z"⟩
abbrev cL_build : ByteArray := method_5_code
def yL_build : MethodName := ⟨RL, "build", "(LRiverNames;[I)LRiverNamesLaw$Sim;"⟩
abbrev cL_law : ByteArray := code
def yL_law : MethodName := ⟨RL, "law", "([I)Z"⟩
abbrev cL_names : ByteArray := method_7_code
def yL_names : MethodName := ⟨RL, "names", "(LRiverNames;)[I"⟩
def wsX0_init : List Cond := .code yX0_init cX0_init 1 none :: ([.methodLink RX0 3 objectInit, .instanceMethod objectInit, .code objectInit ⟨#[0xb1]⟩ 1 none, .fieldLink RX0 9 "RiverNames$Land" "count" "I", .fieldLink RX0 15 "RiverNames$Land" "rule" "I", .arrayClass .int, .fieldLink RX0 18 "RiverNames$Land" "ways" "[I", .fieldLink RX0 22 "RiverNames$Land" "stepsToSea" "[I", .arrayClass .boolean, .fieldLink RX0 25 "RiverNames$Land" "sprung" "[Z", .fieldLink RX0 29 "RiverNames$Land" "springNames" "[I", .fieldLink RX0 32 "RiverNames$Land" "springWater" "[I", .fieldLink RX0 35 "RiverNames$Land" "swells" "[I", .fieldLink RX0 38 "RiverNames$Land" "deltas" "[Z", .fieldLink RX0 41 "RiverNames$Land" "water" "[I", .fieldLink RX0 44 "RiverNames$Land" "lengths" "[I", .fieldLink RX0 47 "RiverNames$Land" "names" "[I", .fieldLink RX0 50 "RiverNames$Land" "arguers" "[I", .fieldLink RX0 53 "RiverNames$Land" "disputed" "[Z", .fieldLink RX0 56 "RiverNames$Land" "winners" "[I", .fieldLink RX0 59 "RiverNames$Land" "strengths" "[I"] ++ wsX00)
def wsX0_size : List Cond := .code yX0_size cX0_size 1 (some .int) :: ([.fieldLink RX0 9 "RiverNames$Land" "count" "I"] ++ wsX00)
def wsX0_ruleNow : List Cond := .code yX0_ruleNow cX0_ruleNow 1 (some .int) :: ([.fieldLink RX0 15 "RiverNames$Land" "rule" "I"] ++ wsX00)
def wsX0_isPlace : List Cond := .code yX0_isPlace cX0_isPlace 2 (some .boolean) :: ([.fieldLink RX0 9 "RiverNames$Land" "count" "I"] ++ wsX00)
def wsX0_next : List Cond := .code yX0_next cX0_next 2 (some .int) :: ([.fieldLink RX0 18 "RiverNames$Land" "ways" "[I"] ++ wsX00)
def wsX0_isSprung : List Cond := .code yX0_isSprung cX0_isSprung 2 (some .boolean) :: ([.fieldLink RX0 25 "RiverNames$Land" "sprung" "[Z"] ++ wsX00)
def wsX0_springWaterOf : List Cond := .code yX0_springWaterOf cX0_springWaterOf 2 (some .int) :: ([.fieldLink RX0 32 "RiverNames$Land" "springWater" "[I"] ++ wsX00)
def wsX0_isDelta : List Cond := .code yX0_isDelta cX0_isDelta 2 (some .boolean) :: ([.fieldLink RX0 38 "RiverNames$Land" "deltas" "[Z"] ++ wsX00)
def wsX0_waterOf : List Cond := .code yX0_waterOf cX0_waterOf 2 (some .int) :: ([.fieldLink RX0 41 "RiverNames$Land" "water" "[I"] ++ wsX00)
def wsX0_lengthOf : List Cond := .code yX0_lengthOf cX0_lengthOf 2 (some .int) :: ([.fieldLink RX0 44 "RiverNames$Land" "lengths" "[I"] ++ wsX00)
def wsX0_nameOf : List Cond := .code yX0_nameOf cX0_nameOf 2 (some .int) :: ([.fieldLink RX0 47 "RiverNames$Land" "names" "[I"] ++ wsX00)
def wsX0_arguersAt : List Cond := .code yX0_arguersAt cX0_arguersAt 2 (some .int) :: ([.fieldLink RX0 50 "RiverNames$Land" "arguers" "[I"] ++ wsX00)
def wsX0_isDisputed : List Cond := .code yX0_isDisputed cX0_isDisputed 2 (some .boolean) :: ([.fieldLink RX0 53 "RiverNames$Land" "disputed" "[Z"] ++ wsX00)
def wsX0_argue : List Cond := .code yX0_argue cX0_argue 6 none :: ([.fieldLink RX0 38 "RiverNames$Land" "deltas" "[Z", .fieldLink RX0 50 "RiverNames$Land" "arguers" "[I", .fieldLink RX0 47 "RiverNames$Land" "names" "[I", .fieldLink RX0 53 "RiverNames$Land" "disputed" "[Z", .fieldLink RX0 56 "RiverNames$Land" "winners" "[I", .fieldLink RX0 59 "RiverNames$Land" "strengths" "[I"] ++ wsX00)
def wsX0_rise : List Cond := .code yX0_rise cX0_rise 4 none :: ([.fieldLink RX0 32 "RiverNames$Land" "springWater" "[I", .fieldLink RX0 41 "RiverNames$Land" "water" "[I", .fieldLink RX0 44 "RiverNames$Land" "lengths" "[I", .fieldLink RX0 47 "RiverNames$Land" "names" "[I", .fieldLink RX0 50 "RiverNames$Land" "arguers" "[I", .fieldLink RX0 53 "RiverNames$Land" "disputed" "[Z", .fieldLink RX0 56 "RiverNames$Land" "winners" "[I", .fieldLink RX0 59 "RiverNames$Land" "strengths" "[I", .fieldLink RX0 15 "RiverNames$Land" "rule" "I", .fieldLink RX0 29 "RiverNames$Land" "springNames" "[I", .methodLink RX0 94 yX0_argue, .instanceMethod yX0_argue, .selects RX0 yX0_argue yX0_argue, .initialized RX0, .code yX0_argue cX0_argue 6 none, .fieldLink RX0 38 "RiverNames$Land" "deltas" "[Z"] ++ wsX00)
def wsX0_flowOn : List Cond := .code yX0_flowOn cX0_flowOn 4 none :: ([.fieldLink RX0 41 "RiverNames$Land" "water" "[I", .fieldLink RX0 44 "RiverNames$Land" "lengths" "[I", .methodLink RX0 75 Lib.Math.max.name, .static Lib.Math.max.name, .initialized "java/lang/Math", .code Lib.Math.max.name Lib.Math.max.code 2 (some .int), .fieldLink RX0 47 "RiverNames$Land" "names" "[I", .fieldLink RX0 15 "RiverNames$Land" "rule" "I", .methodLink RX0 78 yX0_isPlace, .instanceMethod yX0_isPlace, .selects RX0 yX0_isPlace yX0_isPlace, .initialized RX0, .code yX0_isPlace cX0_isPlace 2 (some .boolean), .fieldLink RX0 9 "RiverNames$Land" "count" "I", .methodLink RX0 94 yX0_argue, .instanceMethod yX0_argue, .selects RX0 yX0_argue yX0_argue, .code yX0_argue cX0_argue 6 none, .fieldLink RX0 38 "RiverNames$Land" "deltas" "[Z", .fieldLink RX0 50 "RiverNames$Land" "arguers" "[I", .fieldLink RX0 53 "RiverNames$Land" "disputed" "[Z", .fieldLink RX0 56 "RiverNames$Land" "winners" "[I", .fieldLink RX0 59 "RiverNames$Land" "strengths" "[I"] ++ wsX00)
def wsX0_settle_r1 : List Cond := [Cond.fieldLink RX0 9 "RiverNames$Land" "count" "I", Cond.fieldLink RX0 22 "RiverNames$Land" "stepsToSea" "[I", Cond.fieldLink RX0 18 "RiverNames$Land" "ways" "[I", Cond.methodLink RX0 86 yX0_rise, Cond.instanceMethod yX0_rise, Cond.selects RX0 yX0_rise yX0_rise, Cond.initialized RX0, Cond.code yX0_rise cX0_rise 4 none, Cond.fieldLink RX0 32 "RiverNames$Land" "springWater" "[I", Cond.fieldLink RX0 41 "RiverNames$Land" "water" "[I", Cond.fieldLink RX0 44 "RiverNames$Land" "lengths" "[I", Cond.fieldLink RX0 47 "RiverNames$Land" "names" "[I", Cond.fieldLink RX0 50 "RiverNames$Land" "arguers" "[I", Cond.fieldLink RX0 53 "RiverNames$Land" "disputed" "[Z", Cond.fieldLink RX0 56 "RiverNames$Land" "winners" "[I", Cond.fieldLink RX0 59 "RiverNames$Land" "strengths" "[I", Cond.fieldLink RX0 15 "RiverNames$Land" "rule" "I", Cond.fieldLink RX0 29 "RiverNames$Land" "springNames" "[I", Cond.methodLink RX0 94 yX0_argue, Cond.instanceMethod yX0_argue, Cond.selects RX0 yX0_argue yX0_argue, Cond.code yX0_argue cX0_argue 6 none, Cond.fieldLink RX0 38 "RiverNames$Land" "deltas" "[Z", Cond.methodLink RX0 90 yX0_flowOn]
def wsX0_settle_r2 : List Cond := [Cond.instanceMethod yX0_flowOn, Cond.selects RX0 yX0_flowOn yX0_flowOn, Cond.code yX0_flowOn cX0_flowOn 4 none, Cond.methodLink RX0 75 Lib.Math.max.name, Cond.static Lib.Math.max.name, Cond.initialized "java/lang/Math", Cond.code Lib.Math.max.name Lib.Math.max.code 2 (some .int), Cond.methodLink RX0 78 yX0_isPlace, Cond.instanceMethod yX0_isPlace, Cond.selects RX0 yX0_isPlace yX0_isPlace, Cond.code yX0_isPlace cX0_isPlace 2 (some .boolean)]
def wsX0_settle : List Cond := .code yX0_settle cX0_settle 3 none :: ((wsX0_settle_r1 ++ wsX0_settle_r2) ++ wsX00)
def wsX0_addBare_r1 : List Cond := [Cond.fieldLink RX0 9 "RiverNames$Land" "count" "I", Cond.fieldLink RX0 18 "RiverNames$Land" "ways" "[I", Cond.methodLink RX0 62 yX0_settle, Cond.instanceMethod yX0_settle, Cond.selects RX0 yX0_settle yX0_settle, Cond.initialized RX0, Cond.code yX0_settle cX0_settle 3 none, Cond.fieldLink RX0 22 "RiverNames$Land" "stepsToSea" "[I", Cond.methodLink RX0 86 yX0_rise, Cond.instanceMethod yX0_rise, Cond.selects RX0 yX0_rise yX0_rise, Cond.code yX0_rise cX0_rise 4 none, Cond.fieldLink RX0 32 "RiverNames$Land" "springWater" "[I", Cond.fieldLink RX0 41 "RiverNames$Land" "water" "[I", Cond.fieldLink RX0 44 "RiverNames$Land" "lengths" "[I", Cond.fieldLink RX0 47 "RiverNames$Land" "names" "[I", Cond.fieldLink RX0 50 "RiverNames$Land" "arguers" "[I", Cond.fieldLink RX0 53 "RiverNames$Land" "disputed" "[Z", Cond.fieldLink RX0 56 "RiverNames$Land" "winners" "[I", Cond.fieldLink RX0 59 "RiverNames$Land" "strengths" "[I", Cond.fieldLink RX0 15 "RiverNames$Land" "rule" "I", Cond.fieldLink RX0 29 "RiverNames$Land" "springNames" "[I", Cond.methodLink RX0 94 yX0_argue, Cond.instanceMethod yX0_argue]
def wsX0_addBare_r2 : List Cond := [Cond.selects RX0 yX0_argue yX0_argue, Cond.code yX0_argue cX0_argue 6 none, Cond.fieldLink RX0 38 "RiverNames$Land" "deltas" "[Z", Cond.methodLink RX0 90 yX0_flowOn, Cond.instanceMethod yX0_flowOn, Cond.selects RX0 yX0_flowOn yX0_flowOn, Cond.code yX0_flowOn cX0_flowOn 4 none, Cond.methodLink RX0 75 Lib.Math.max.name, Cond.static Lib.Math.max.name, Cond.initialized "java/lang/Math", Cond.code Lib.Math.max.name Lib.Math.max.code 2 (some .int), Cond.methodLink RX0 78 yX0_isPlace, Cond.instanceMethod yX0_isPlace, Cond.selects RX0 yX0_isPlace yX0_isPlace, Cond.code yX0_isPlace cX0_isPlace 2 (some .boolean)]
def wsX0_addBare : List Cond := .code yX0_addBare cX0_addBare 2 (some .int) :: ((wsX0_addBare_r1 ++ wsX0_addBare_r2) ++ wsX00)
def wsX0_addSprung_r1 : List Cond := [Cond.fieldLink RX0 9 "RiverNames$Land" "count" "I", Cond.fieldLink RX0 18 "RiverNames$Land" "ways" "[I", Cond.fieldLink RX0 25 "RiverNames$Land" "sprung" "[Z", Cond.fieldLink RX0 29 "RiverNames$Land" "springNames" "[I", Cond.fieldLink RX0 32 "RiverNames$Land" "springWater" "[I", Cond.fieldLink RX0 35 "RiverNames$Land" "swells" "[I", Cond.methodLink RX0 62 yX0_settle, Cond.instanceMethod yX0_settle, Cond.selects RX0 yX0_settle yX0_settle, Cond.initialized RX0, Cond.code yX0_settle cX0_settle 3 none, Cond.fieldLink RX0 22 "RiverNames$Land" "stepsToSea" "[I", Cond.methodLink RX0 86 yX0_rise, Cond.instanceMethod yX0_rise, Cond.selects RX0 yX0_rise yX0_rise, Cond.code yX0_rise cX0_rise 4 none, Cond.fieldLink RX0 41 "RiverNames$Land" "water" "[I", Cond.fieldLink RX0 44 "RiverNames$Land" "lengths" "[I", Cond.fieldLink RX0 47 "RiverNames$Land" "names" "[I", Cond.fieldLink RX0 50 "RiverNames$Land" "arguers" "[I", Cond.fieldLink RX0 53 "RiverNames$Land" "disputed" "[Z", Cond.fieldLink RX0 56 "RiverNames$Land" "winners" "[I", Cond.fieldLink RX0 59 "RiverNames$Land" "strengths" "[I", Cond.fieldLink RX0 15 "RiverNames$Land" "rule" "I"]
def wsX0_addSprung_r2 : List Cond := [Cond.methodLink RX0 94 yX0_argue, Cond.instanceMethod yX0_argue, Cond.selects RX0 yX0_argue yX0_argue, Cond.code yX0_argue cX0_argue 6 none, Cond.fieldLink RX0 38 "RiverNames$Land" "deltas" "[Z", Cond.methodLink RX0 90 yX0_flowOn, Cond.instanceMethod yX0_flowOn, Cond.selects RX0 yX0_flowOn yX0_flowOn, Cond.code yX0_flowOn cX0_flowOn 4 none, Cond.methodLink RX0 75 Lib.Math.max.name, Cond.static Lib.Math.max.name, Cond.initialized "java/lang/Math", Cond.code Lib.Math.max.name Lib.Math.max.code 2 (some .int), Cond.methodLink RX0 78 yX0_isPlace, Cond.instanceMethod yX0_isPlace, Cond.selects RX0 yX0_isPlace yX0_isPlace, Cond.code yX0_isPlace cX0_isPlace 2 (some .boolean)]
def wsX0_addSprung : List Cond := .code yX0_addSprung cX0_addSprung 5 (some .int) :: ((wsX0_addSprung_r1 ++ wsX0_addSprung_r2) ++ wsX00)
def wsX0_countSteps : List Cond := .code yX0_countSteps cX0_countSteps 4 (some .int) :: ([.fieldLink RX0 18 "RiverNames$Land" "ways" "[I", .methodLink RX0 78 yX0_isPlace, .instanceMethod yX0_isPlace, .selects RX0 yX0_isPlace yX0_isPlace, .initialized RX0, .code yX0_isPlace cX0_isPlace 2 (some .boolean), .fieldLink RX0 9 "RiverNames$Land" "count" "I"] ++ wsX00)
def wsX0_leadOn_r1 : List Cond := [Cond.fieldLink RX0 18 "RiverNames$Land" "ways" "[I", Cond.fieldLink RX0 9 "RiverNames$Land" "count" "I", Cond.fieldLink RX0 22 "RiverNames$Land" "stepsToSea" "[I", Cond.methodLink RX0 65 yX0_countSteps, Cond.instanceMethod yX0_countSteps, Cond.selects RX0 yX0_countSteps yX0_countSteps, Cond.initialized RX0, Cond.code yX0_countSteps cX0_countSteps 4 (some .int), Cond.methodLink RX0 78 yX0_isPlace, Cond.instanceMethod yX0_isPlace, Cond.selects RX0 yX0_isPlace yX0_isPlace, Cond.code yX0_isPlace cX0_isPlace 2 (some .boolean), Cond.methodLink RX0 62 yX0_settle, Cond.instanceMethod yX0_settle, Cond.selects RX0 yX0_settle yX0_settle, Cond.code yX0_settle cX0_settle 3 none, Cond.methodLink RX0 86 yX0_rise, Cond.instanceMethod yX0_rise, Cond.selects RX0 yX0_rise yX0_rise, Cond.code yX0_rise cX0_rise 4 none, Cond.fieldLink RX0 32 "RiverNames$Land" "springWater" "[I", Cond.fieldLink RX0 41 "RiverNames$Land" "water" "[I", Cond.fieldLink RX0 44 "RiverNames$Land" "lengths" "[I", Cond.fieldLink RX0 47 "RiverNames$Land" "names" "[I"]
def wsX0_leadOn_r2 : List Cond := [Cond.fieldLink RX0 50 "RiverNames$Land" "arguers" "[I", Cond.fieldLink RX0 53 "RiverNames$Land" "disputed" "[Z", Cond.fieldLink RX0 56 "RiverNames$Land" "winners" "[I", Cond.fieldLink RX0 59 "RiverNames$Land" "strengths" "[I", Cond.fieldLink RX0 15 "RiverNames$Land" "rule" "I", Cond.fieldLink RX0 29 "RiverNames$Land" "springNames" "[I", Cond.methodLink RX0 94 yX0_argue, Cond.instanceMethod yX0_argue, Cond.selects RX0 yX0_argue yX0_argue, Cond.code yX0_argue cX0_argue 6 none, Cond.fieldLink RX0 38 "RiverNames$Land" "deltas" "[Z", Cond.methodLink RX0 90 yX0_flowOn, Cond.instanceMethod yX0_flowOn, Cond.selects RX0 yX0_flowOn yX0_flowOn, Cond.code yX0_flowOn cX0_flowOn 4 none, Cond.methodLink RX0 75 Lib.Math.max.name, Cond.static Lib.Math.max.name, Cond.initialized "java/lang/Math", Cond.code Lib.Math.max.name Lib.Math.max.code 2 (some .int)]
def wsX0_leadOn : List Cond := .code yX0_leadOn cX0_leadOn 4 none :: ((wsX0_leadOn_r1 ++ wsX0_leadOn_r2) ++ wsX00)
def wsX0_toggleDelta_r1 : List Cond := [Cond.fieldLink RX0 38 "RiverNames$Land" "deltas" "[Z", Cond.methodLink RX0 62 yX0_settle, Cond.instanceMethod yX0_settle, Cond.selects RX0 yX0_settle yX0_settle, Cond.initialized RX0, Cond.code yX0_settle cX0_settle 3 none, Cond.fieldLink RX0 9 "RiverNames$Land" "count" "I", Cond.fieldLink RX0 22 "RiverNames$Land" "stepsToSea" "[I", Cond.fieldLink RX0 18 "RiverNames$Land" "ways" "[I", Cond.methodLink RX0 86 yX0_rise, Cond.instanceMethod yX0_rise, Cond.selects RX0 yX0_rise yX0_rise, Cond.code yX0_rise cX0_rise 4 none, Cond.fieldLink RX0 32 "RiverNames$Land" "springWater" "[I", Cond.fieldLink RX0 41 "RiverNames$Land" "water" "[I", Cond.fieldLink RX0 44 "RiverNames$Land" "lengths" "[I", Cond.fieldLink RX0 47 "RiverNames$Land" "names" "[I", Cond.fieldLink RX0 50 "RiverNames$Land" "arguers" "[I", Cond.fieldLink RX0 53 "RiverNames$Land" "disputed" "[Z", Cond.fieldLink RX0 56 "RiverNames$Land" "winners" "[I", Cond.fieldLink RX0 59 "RiverNames$Land" "strengths" "[I", Cond.fieldLink RX0 15 "RiverNames$Land" "rule" "I", Cond.fieldLink RX0 29 "RiverNames$Land" "springNames" "[I", Cond.methodLink RX0 94 yX0_argue]
def wsX0_toggleDelta_r2 : List Cond := [Cond.instanceMethod yX0_argue, Cond.selects RX0 yX0_argue yX0_argue, Cond.code yX0_argue cX0_argue 6 none, Cond.methodLink RX0 90 yX0_flowOn, Cond.instanceMethod yX0_flowOn, Cond.selects RX0 yX0_flowOn yX0_flowOn, Cond.code yX0_flowOn cX0_flowOn 4 none, Cond.methodLink RX0 75 Lib.Math.max.name, Cond.static Lib.Math.max.name, Cond.initialized "java/lang/Math", Cond.code Lib.Math.max.name Lib.Math.max.code 2 (some .int), Cond.methodLink RX0 78 yX0_isPlace, Cond.instanceMethod yX0_isPlace, Cond.selects RX0 yX0_isPlace yX0_isPlace, Cond.code yX0_isPlace cX0_isPlace 2 (some .boolean)]
def wsX0_toggleDelta : List Cond := .code yX0_toggleDelta cX0_toggleDelta 2 none :: ((wsX0_toggleDelta_r1 ++ wsX0_toggleDelta_r2) ++ wsX00)
def wsX0_useRule_r1 : List Cond := [Cond.fieldLink RX0 15 "RiverNames$Land" "rule" "I", Cond.methodLink RX0 62 yX0_settle, Cond.instanceMethod yX0_settle, Cond.selects RX0 yX0_settle yX0_settle, Cond.initialized RX0, Cond.code yX0_settle cX0_settle 3 none, Cond.fieldLink RX0 9 "RiverNames$Land" "count" "I", Cond.fieldLink RX0 22 "RiverNames$Land" "stepsToSea" "[I", Cond.fieldLink RX0 18 "RiverNames$Land" "ways" "[I", Cond.methodLink RX0 86 yX0_rise, Cond.instanceMethod yX0_rise, Cond.selects RX0 yX0_rise yX0_rise, Cond.code yX0_rise cX0_rise 4 none, Cond.fieldLink RX0 32 "RiverNames$Land" "springWater" "[I", Cond.fieldLink RX0 41 "RiverNames$Land" "water" "[I", Cond.fieldLink RX0 44 "RiverNames$Land" "lengths" "[I", Cond.fieldLink RX0 47 "RiverNames$Land" "names" "[I", Cond.fieldLink RX0 50 "RiverNames$Land" "arguers" "[I", Cond.fieldLink RX0 53 "RiverNames$Land" "disputed" "[Z", Cond.fieldLink RX0 56 "RiverNames$Land" "winners" "[I", Cond.fieldLink RX0 59 "RiverNames$Land" "strengths" "[I", Cond.fieldLink RX0 29 "RiverNames$Land" "springNames" "[I", Cond.methodLink RX0 94 yX0_argue, Cond.instanceMethod yX0_argue]
def wsX0_useRule_r2 : List Cond := [Cond.selects RX0 yX0_argue yX0_argue, Cond.code yX0_argue cX0_argue 6 none, Cond.fieldLink RX0 38 "RiverNames$Land" "deltas" "[Z", Cond.methodLink RX0 90 yX0_flowOn, Cond.instanceMethod yX0_flowOn, Cond.selects RX0 yX0_flowOn yX0_flowOn, Cond.code yX0_flowOn cX0_flowOn 4 none, Cond.methodLink RX0 75 Lib.Math.max.name, Cond.static Lib.Math.max.name, Cond.initialized "java/lang/Math", Cond.code Lib.Math.max.name Lib.Math.max.code 2 (some .int), Cond.methodLink RX0 78 yX0_isPlace, Cond.instanceMethod yX0_isPlace, Cond.selects RX0 yX0_isPlace yX0_isPlace, Cond.code yX0_isPlace cX0_isPlace 2 (some .boolean)]
def wsX0_useRule : List Cond := .code yX0_useRule cX0_useRule 2 none :: ((wsX0_useRule_r1 ++ wsX0_useRule_r2) ++ wsX00)
def wsX0_dryUp_r1 : List Cond := [Cond.fieldLink RX0 32 "RiverNames$Land" "springWater" "[I", Cond.methodLink RX0 62 yX0_settle, Cond.instanceMethod yX0_settle, Cond.selects RX0 yX0_settle yX0_settle, Cond.initialized RX0, Cond.code yX0_settle cX0_settle 3 none, Cond.fieldLink RX0 9 "RiverNames$Land" "count" "I", Cond.fieldLink RX0 22 "RiverNames$Land" "stepsToSea" "[I", Cond.fieldLink RX0 18 "RiverNames$Land" "ways" "[I", Cond.methodLink RX0 86 yX0_rise, Cond.instanceMethod yX0_rise, Cond.selects RX0 yX0_rise yX0_rise, Cond.code yX0_rise cX0_rise 4 none, Cond.fieldLink RX0 41 "RiverNames$Land" "water" "[I", Cond.fieldLink RX0 44 "RiverNames$Land" "lengths" "[I", Cond.fieldLink RX0 47 "RiverNames$Land" "names" "[I", Cond.fieldLink RX0 50 "RiverNames$Land" "arguers" "[I", Cond.fieldLink RX0 53 "RiverNames$Land" "disputed" "[Z", Cond.fieldLink RX0 56 "RiverNames$Land" "winners" "[I", Cond.fieldLink RX0 59 "RiverNames$Land" "strengths" "[I", Cond.fieldLink RX0 15 "RiverNames$Land" "rule" "I", Cond.fieldLink RX0 29 "RiverNames$Land" "springNames" "[I", Cond.methodLink RX0 94 yX0_argue, Cond.instanceMethod yX0_argue]
def wsX0_dryUp_r2 : List Cond := [Cond.selects RX0 yX0_argue yX0_argue, Cond.code yX0_argue cX0_argue 6 none, Cond.fieldLink RX0 38 "RiverNames$Land" "deltas" "[Z", Cond.methodLink RX0 90 yX0_flowOn, Cond.instanceMethod yX0_flowOn, Cond.selects RX0 yX0_flowOn yX0_flowOn, Cond.code yX0_flowOn cX0_flowOn 4 none, Cond.methodLink RX0 75 Lib.Math.max.name, Cond.static Lib.Math.max.name, Cond.initialized "java/lang/Math", Cond.code Lib.Math.max.name Lib.Math.max.code 2 (some .int), Cond.methodLink RX0 78 yX0_isPlace, Cond.instanceMethod yX0_isPlace, Cond.selects RX0 yX0_isPlace yX0_isPlace, Cond.code yX0_isPlace cX0_isPlace 2 (some .boolean)]
def wsX0_dryUp : List Cond := .code yX0_dryUp cX0_dryUp 2 none :: ((wsX0_dryUp_r1 ++ wsX0_dryUp_r2) ++ wsX00)
def wsX0_swellFor_r1 : List Cond := [Cond.fieldLink RX0 9 "RiverNames$Land" "count" "I", Cond.fieldLink RX0 32 "RiverNames$Land" "springWater" "[I", Cond.fieldLink RX0 35 "RiverNames$Land" "swells" "[I", Cond.methodLink RX0 69 Lib.Math.min.name, Cond.static Lib.Math.min.name, Cond.initialized "java/lang/Math", Cond.code Lib.Math.min.name Lib.Math.min.code 2 (some .int), Cond.methodLink RX0 75 Lib.Math.max.name, Cond.static Lib.Math.max.name, Cond.code Lib.Math.max.name Lib.Math.max.code 2 (some .int), Cond.methodLink RX0 62 yX0_settle, Cond.instanceMethod yX0_settle, Cond.selects RX0 yX0_settle yX0_settle, Cond.initialized RX0, Cond.code yX0_settle cX0_settle 3 none, Cond.fieldLink RX0 22 "RiverNames$Land" "stepsToSea" "[I", Cond.fieldLink RX0 18 "RiverNames$Land" "ways" "[I", Cond.methodLink RX0 86 yX0_rise, Cond.instanceMethod yX0_rise, Cond.selects RX0 yX0_rise yX0_rise, Cond.code yX0_rise cX0_rise 4 none, Cond.fieldLink RX0 41 "RiverNames$Land" "water" "[I", Cond.fieldLink RX0 44 "RiverNames$Land" "lengths" "[I", Cond.fieldLink RX0 47 "RiverNames$Land" "names" "[I"]
def wsX0_swellFor_r2 : List Cond := [Cond.fieldLink RX0 50 "RiverNames$Land" "arguers" "[I", Cond.fieldLink RX0 53 "RiverNames$Land" "disputed" "[Z", Cond.fieldLink RX0 56 "RiverNames$Land" "winners" "[I", Cond.fieldLink RX0 59 "RiverNames$Land" "strengths" "[I", Cond.fieldLink RX0 15 "RiverNames$Land" "rule" "I", Cond.fieldLink RX0 29 "RiverNames$Land" "springNames" "[I", Cond.methodLink RX0 94 yX0_argue, Cond.instanceMethod yX0_argue, Cond.selects RX0 yX0_argue yX0_argue, Cond.code yX0_argue cX0_argue 6 none, Cond.fieldLink RX0 38 "RiverNames$Land" "deltas" "[Z", Cond.methodLink RX0 90 yX0_flowOn, Cond.instanceMethod yX0_flowOn, Cond.selects RX0 yX0_flowOn yX0_flowOn, Cond.code yX0_flowOn cX0_flowOn 4 none, Cond.methodLink RX0 78 yX0_isPlace, Cond.instanceMethod yX0_isPlace, Cond.selects RX0 yX0_isPlace yX0_isPlace, Cond.code yX0_isPlace cX0_isPlace 2 (some .boolean)]
def wsX0_swellFor : List Cond := .code yX0_swellFor cX0_swellFor 4 none :: ((wsX0_swellFor_r1 ++ wsX0_swellFor_r2) ++ wsX00)
def wsX0_takeOver : List Cond := .code yX0_takeOver cX0_takeOver 3 none :: ([.fieldLink RX0 9 "RiverNames$Land" "count" "I", .fieldLink RX0 15 "RiverNames$Land" "rule" "I", .fieldLink RX0 18 "RiverNames$Land" "ways" "[I", .fieldLink RX0 22 "RiverNames$Land" "stepsToSea" "[I", .fieldLink RX0 25 "RiverNames$Land" "sprung" "[Z", .fieldLink RX0 29 "RiverNames$Land" "springNames" "[I", .fieldLink RX0 32 "RiverNames$Land" "springWater" "[I", .fieldLink RX0 35 "RiverNames$Land" "swells" "[I", .fieldLink RX0 38 "RiverNames$Land" "deltas" "[Z"] ++ wsX00)
def wsX0_countNamed : List Cond := .code yX0_countNamed cX0_countNamed 4 (some .int) :: ([.fieldLink RX0 9 "RiverNames$Land" "count" "I", .fieldLink RX0 47 "RiverNames$Land" "names" "[I"] ++ wsX00)
def wsX0_countNamedOtherThan : List Cond := .code yX0_countNamedOtherThan cX0_countNamedOtherThan 4 (some .int) :: ([.fieldLink RX0 9 "RiverNames$Land" "count" "I", .fieldLink RX0 47 "RiverNames$Land" "names" "[I"] ++ wsX00)
def wsX0_flowsTo : List Cond := .code yX0_flowsTo cX0_flowsTo 5 (some .boolean) :: ([.fieldLink RX0 18 "RiverNames$Land" "ways" "[I", .methodLink RX0 78 yX0_isPlace, .instanceMethod yX0_isPlace, .selects RX0 yX0_isPlace yX0_isPlace, .initialized RX0, .code yX0_isPlace cX0_isPlace 2 (some .boolean), .fieldLink RX0 9 "RiverNames$Land" "count" "I"] ++ wsX00)
def wsX0_lastOnWay : List Cond := .code yX0_lastOnWay cX0_lastOnWay 4 (some .int) :: ([.fieldLink RX0 18 "RiverNames$Land" "ways" "[I", .methodLink RX0 78 yX0_isPlace, .instanceMethod yX0_isPlace, .selects RX0 yX0_isPlace yX0_isPlace, .initialized RX0, .code yX0_isPlace cX0_isPlace 2 (some .boolean), .fieldLink RX0 9 "RiverNames$Land" "count" "I"] ++ wsX00)
def wsX0_firstCommon : List Cond := .code yX0_firstCommon cX0_firstCommon 5 (some .int) :: ([.fieldLink RX0 18 "RiverNames$Land" "ways" "[I", .methodLink RX0 78 yX0_isPlace, .instanceMethod yX0_isPlace, .selects RX0 yX0_isPlace yX0_isPlace, .initialized RX0, .code yX0_isPlace cX0_isPlace 2 (some .boolean), .fieldLink RX0 9 "RiverNames$Land" "count" "I", .methodLink RX0 82 yX0_flowsTo, .instanceMethod yX0_flowsTo, .selects RX0 yX0_flowsTo yX0_flowsTo, .code yX0_flowsTo cX0_flowsTo 5 (some .boolean)] ++ wsX00)
def wsX1_init_r1 : List Cond := [Cond.methodLink RX1 1 objectInit, Cond.instanceMethod objectInit, Cond.code objectInit ⟨#[0xb1]⟩ 1 none, Cond.classLink RX1 7 RX0, Cond.instantiable RX0 16, Cond.initialized RX0, Cond.fieldLink RX1 10 "RiverNames" "land" "LRiverNames$Land;", Cond.fieldLink RX1 16 "RiverNames" "trial" "LRiverNames$Land;", Cond.arrayClass .int, Cond.fieldLink RX1 19 "RiverNames" "bridgePlaces" "[I", Cond.fieldLink RX1 23 "RiverNames" "bridgeNames" "[I", Cond.fieldLink RX1 26 "RiverNames" "bridgeCount" "I", Cond.fieldLink RX1 30 "RiverNames" "yearNow" "I", Cond.methodLink RX1 9 yX0_init, Cond.instanceMethod yX0_init, Cond.code yX0_init cX0_init 1 none, Cond.methodLink RX0 3 objectInit, Cond.fieldLink RX0 9 "RiverNames$Land" "count" "I", Cond.fieldLink RX0 15 "RiverNames$Land" "rule" "I", Cond.fieldLink RX0 18 "RiverNames$Land" "ways" "[I", Cond.fieldLink RX0 22 "RiverNames$Land" "stepsToSea" "[I", Cond.arrayClass .boolean, Cond.fieldLink RX0 25 "RiverNames$Land" "sprung" "[Z", Cond.fieldLink RX0 29 "RiverNames$Land" "springNames" "[I"]
def wsX1_init_r2 : List Cond := [Cond.fieldLink RX0 32 "RiverNames$Land" "springWater" "[I", Cond.fieldLink RX0 35 "RiverNames$Land" "swells" "[I", Cond.fieldLink RX0 38 "RiverNames$Land" "deltas" "[Z", Cond.fieldLink RX0 41 "RiverNames$Land" "water" "[I", Cond.fieldLink RX0 44 "RiverNames$Land" "lengths" "[I", Cond.fieldLink RX0 47 "RiverNames$Land" "names" "[I", Cond.fieldLink RX0 50 "RiverNames$Land" "arguers" "[I", Cond.fieldLink RX0 53 "RiverNames$Land" "disputed" "[Z", Cond.fieldLink RX0 56 "RiverNames$Land" "winners" "[I", Cond.fieldLink RX0 59 "RiverNames$Land" "strengths" "[I"]
def wsX1_init : List Cond := .code yX1_init cX1_init 1 none :: ((wsX1_init_r1 ++ wsX1_init_r2) ++ wsX00 ++ wsX10)
def wsX1_requireRoomForPlace : List Cond := .code yX1_requireRoomForPlace cX1_requireRoomForPlace 1 none :: ([.classLink RX1 64 "java/lang/IllegalStateException", .initialized "java/lang/IllegalStateException", .fieldLink RX1 10 "RiverNames" "land" "LRiverNames$Land;", .methodLink RX1 112 yX0_size, .instanceMethod yX0_size, .selects RX0 yX0_size yX0_size, .initialized RX0, .code yX0_size cX0_size 1 (some .int), .fieldLink RX0 9 "RiverNames$Land" "count" "I"] ++ wsX10 ++ wsX00 ++ (vx_atS RX1 68 "java/lang/IllegalStateException" ["java/lang/RuntimeException", "java/lang/Exception"]).filter goodWord)
def wsX1_addPlace_r1 : List Cond := [Cond.fieldLink RX1 10 "RiverNames" "land" "LRiverNames$Land;", Cond.methodLink RX1 33 yX1_requireRoomForPlace, Cond.instanceMethod yX1_requireRoomForPlace, Cond.selects RX1 yX1_requireRoomForPlace yX1_requireRoomForPlace, Cond.initialized RX1, Cond.code yX1_requireRoomForPlace cX1_requireRoomForPlace 1 none, Cond.classLink RX1 64 "java/lang/IllegalStateException", Cond.initialized "java/lang/IllegalStateException", Cond.methodLink RX1 112 yX0_size, Cond.instanceMethod yX0_size, Cond.selects RX0 yX0_size yX0_size, Cond.initialized RX0, Cond.code yX0_size cX0_size 1 (some .int), Cond.fieldLink RX0 9 "RiverNames$Land" "count" "I", Cond.methodLink RX1 36 yX0_addBare, Cond.instanceMethod yX0_addBare, Cond.selects RX0 yX0_addBare yX0_addBare, Cond.code yX0_addBare cX0_addBare 2 (some .int), Cond.fieldLink RX0 18 "RiverNames$Land" "ways" "[I", Cond.methodLink RX0 62 yX0_settle, Cond.instanceMethod yX0_settle, Cond.selects RX0 yX0_settle yX0_settle, Cond.code yX0_settle cX0_settle 3 none, Cond.fieldLink RX0 22 "RiverNames$Land" "stepsToSea" "[I"]
def wsX1_addPlace_r2 : List Cond := [Cond.methodLink RX0 86 yX0_rise, Cond.instanceMethod yX0_rise, Cond.selects RX0 yX0_rise yX0_rise, Cond.code yX0_rise cX0_rise 4 none, Cond.fieldLink RX0 32 "RiverNames$Land" "springWater" "[I", Cond.fieldLink RX0 41 "RiverNames$Land" "water" "[I", Cond.fieldLink RX0 44 "RiverNames$Land" "lengths" "[I", Cond.fieldLink RX0 47 "RiverNames$Land" "names" "[I", Cond.fieldLink RX0 50 "RiverNames$Land" "arguers" "[I", Cond.fieldLink RX0 53 "RiverNames$Land" "disputed" "[Z", Cond.fieldLink RX0 56 "RiverNames$Land" "winners" "[I", Cond.fieldLink RX0 59 "RiverNames$Land" "strengths" "[I", Cond.fieldLink RX0 15 "RiverNames$Land" "rule" "I", Cond.fieldLink RX0 29 "RiverNames$Land" "springNames" "[I", Cond.methodLink RX0 94 yX0_argue, Cond.instanceMethod yX0_argue, Cond.selects RX0 yX0_argue yX0_argue, Cond.code yX0_argue cX0_argue 6 none, Cond.fieldLink RX0 38 "RiverNames$Land" "deltas" "[Z", Cond.methodLink RX0 90 yX0_flowOn, Cond.instanceMethod yX0_flowOn, Cond.selects RX0 yX0_flowOn yX0_flowOn, Cond.code yX0_flowOn cX0_flowOn 4 none, Cond.methodLink RX0 75 Lib.Math.max.name]
def wsX1_addPlace_r3 : List Cond := [Cond.static Lib.Math.max.name, Cond.initialized "java/lang/Math", Cond.code Lib.Math.max.name Lib.Math.max.code 2 (some .int), Cond.methodLink RX0 78 yX0_isPlace, Cond.instanceMethod yX0_isPlace, Cond.selects RX0 yX0_isPlace yX0_isPlace, Cond.code yX0_isPlace cX0_isPlace 2 (some .boolean)]
def wsX1_addPlace : List Cond := .code yX1_addPlace cX1_addPlace 1 (some .int) :: ((wsX1_addPlace_r1 ++ (wsX1_addPlace_r2 ++ wsX1_addPlace_r3)) ++ wsX10 ++ wsX00 ++ (vx_atS RX1 68 "java/lang/IllegalStateException" ["java/lang/RuntimeException", "java/lang/Exception"]).filter goodWord)
def wsX1_isWithin : List Cond := .code yX1_isWithin cX1_isWithin 3 (some .boolean) :: ([])
def wsX1_requireName : List Cond := .code yX1_requireName cX1_requireName 1 none :: ([.classLink RX1 233 "java/lang/IndexOutOfBoundsException", .initialized "java/lang/IndexOutOfBoundsException", .methodLink RX1 44 yX1_isWithin, .static yX1_isWithin, .initialized RX1, .code yX1_isWithin cX1_isWithin 3 (some .boolean)] ++ (vx_atS RX1 237 "java/lang/IndexOutOfBoundsException" ["java/lang/RuntimeException", "java/lang/Exception"]).filter goodWord)
def wsX1_addSpring_r1 : List Cond := [Cond.classLink RX1 48 "java/lang/IllegalArgumentException", Cond.initialized "java/lang/IllegalArgumentException", Cond.fieldLink RX1 10 "RiverNames" "land" "LRiverNames$Land;", Cond.methodLink RX1 40 yX1_requireName, Cond.static yX1_requireName, Cond.initialized RX1, Cond.code yX1_requireName cX1_requireName 1 none, Cond.classLink RX1 233 "java/lang/IndexOutOfBoundsException", Cond.initialized "java/lang/IndexOutOfBoundsException", Cond.methodLink RX1 44 yX1_isWithin, Cond.static yX1_isWithin, Cond.code yX1_isWithin cX1_isWithin 3 (some .boolean), Cond.methodLink RX1 33 yX1_requireRoomForPlace, Cond.instanceMethod yX1_requireRoomForPlace, Cond.selects RX1 yX1_requireRoomForPlace yX1_requireRoomForPlace, Cond.code yX1_requireRoomForPlace cX1_requireRoomForPlace 1 none, Cond.classLink RX1 64 "java/lang/IllegalStateException", Cond.initialized "java/lang/IllegalStateException", Cond.methodLink RX1 112 yX0_size, Cond.instanceMethod yX0_size, Cond.selects RX0 yX0_size yX0_size, Cond.initialized RX0, Cond.code yX0_size cX0_size 1 (some .int), Cond.fieldLink RX0 9 "RiverNames$Land" "count" "I"]
def wsX1_addSpring_r2 : List Cond := [Cond.methodLink RX1 57 yX0_addSprung, Cond.instanceMethod yX0_addSprung, Cond.selects RX0 yX0_addSprung yX0_addSprung, Cond.code yX0_addSprung cX0_addSprung 5 (some .int), Cond.fieldLink RX0 18 "RiverNames$Land" "ways" "[I", Cond.fieldLink RX0 25 "RiverNames$Land" "sprung" "[Z", Cond.fieldLink RX0 29 "RiverNames$Land" "springNames" "[I", Cond.fieldLink RX0 32 "RiverNames$Land" "springWater" "[I", Cond.fieldLink RX0 35 "RiverNames$Land" "swells" "[I", Cond.methodLink RX0 62 yX0_settle, Cond.instanceMethod yX0_settle, Cond.selects RX0 yX0_settle yX0_settle, Cond.code yX0_settle cX0_settle 3 none, Cond.fieldLink RX0 22 "RiverNames$Land" "stepsToSea" "[I", Cond.methodLink RX0 86 yX0_rise, Cond.instanceMethod yX0_rise, Cond.selects RX0 yX0_rise yX0_rise, Cond.code yX0_rise cX0_rise 4 none, Cond.fieldLink RX0 41 "RiverNames$Land" "water" "[I", Cond.fieldLink RX0 44 "RiverNames$Land" "lengths" "[I", Cond.fieldLink RX0 47 "RiverNames$Land" "names" "[I", Cond.fieldLink RX0 50 "RiverNames$Land" "arguers" "[I", Cond.fieldLink RX0 53 "RiverNames$Land" "disputed" "[Z", Cond.fieldLink RX0 56 "RiverNames$Land" "winners" "[I"]
def wsX1_addSpring_r3 : List Cond := [Cond.fieldLink RX0 59 "RiverNames$Land" "strengths" "[I", Cond.fieldLink RX0 15 "RiverNames$Land" "rule" "I", Cond.methodLink RX0 94 yX0_argue, Cond.instanceMethod yX0_argue, Cond.selects RX0 yX0_argue yX0_argue, Cond.code yX0_argue cX0_argue 6 none, Cond.fieldLink RX0 38 "RiverNames$Land" "deltas" "[Z", Cond.methodLink RX0 90 yX0_flowOn, Cond.instanceMethod yX0_flowOn, Cond.selects RX0 yX0_flowOn yX0_flowOn, Cond.code yX0_flowOn cX0_flowOn 4 none, Cond.methodLink RX0 75 Lib.Math.max.name, Cond.static Lib.Math.max.name, Cond.initialized "java/lang/Math", Cond.code Lib.Math.max.name Lib.Math.max.code 2 (some .int), Cond.methodLink RX0 78 yX0_isPlace, Cond.instanceMethod yX0_isPlace, Cond.selects RX0 yX0_isPlace yX0_isPlace, Cond.code yX0_isPlace cX0_isPlace 2 (some .boolean)]
def wsX1_addSpring : List Cond := .code yX1_addSpring cX1_addSpring 4 (some .int) :: ((wsX1_addSpring_r1 ++ (wsX1_addSpring_r2 ++ wsX1_addSpring_r3)) ++ wsX10 ++ wsX00 ++ (vx_atS RX1 52 "java/lang/IllegalArgumentException" ["java/lang/RuntimeException", "java/lang/Exception"]).filter goodWord ++ (vx_atS RX1 237 "java/lang/IndexOutOfBoundsException" ["java/lang/RuntimeException", "java/lang/Exception"]).filter goodWord ++ (vx_atS RX1 68 "java/lang/IllegalStateException" ["java/lang/RuntimeException", "java/lang/Exception"]).filter goodWord)
def wsX1_requirePlace : List Cond := .code yX1_requirePlace cX1_requirePlace 2 none :: ([.classLink RX1 233 "java/lang/IndexOutOfBoundsException", .initialized "java/lang/IndexOutOfBoundsException", .fieldLink RX1 10 "RiverNames" "land" "LRiverNames$Land;", .methodLink RX1 230 yX0_isPlace, .instanceMethod yX0_isPlace, .selects RX0 yX0_isPlace yX0_isPlace, .initialized RX0, .code yX0_isPlace cX0_isPlace 2 (some .boolean), .fieldLink RX0 9 "RiverNames$Land" "count" "I"] ++ wsX10 ++ wsX00 ++ (vx_atS RX1 237 "java/lang/IndexOutOfBoundsException" ["java/lang/RuntimeException", "java/lang/Exception"]).filter goodWord)
def wsX1_lead_r1 : List Cond := [Cond.classLink RX1 64 "java/lang/IllegalStateException", Cond.initialized "java/lang/IllegalStateException", Cond.fieldLink RX1 10 "RiverNames" "land" "LRiverNames$Land;", Cond.methodLink RX1 61 yX1_requirePlace, Cond.instanceMethod yX1_requirePlace, Cond.selects RX1 yX1_requirePlace yX1_requirePlace, Cond.initialized RX1, Cond.code yX1_requirePlace cX1_requirePlace 2 none, Cond.classLink RX1 233 "java/lang/IndexOutOfBoundsException", Cond.initialized "java/lang/IndexOutOfBoundsException", Cond.methodLink RX1 230 yX0_isPlace, Cond.instanceMethod yX0_isPlace, Cond.selects RX0 yX0_isPlace yX0_isPlace, Cond.initialized RX0, Cond.code yX0_isPlace cX0_isPlace 2 (some .boolean), Cond.fieldLink RX0 9 "RiverNames$Land" "count" "I", Cond.methodLink RX1 69 yX0_flowsTo, Cond.instanceMethod yX0_flowsTo, Cond.selects RX0 yX0_flowsTo yX0_flowsTo, Cond.code yX0_flowsTo cX0_flowsTo 5 (some .boolean), Cond.fieldLink RX0 18 "RiverNames$Land" "ways" "[I", Cond.methodLink RX0 78 yX0_isPlace, Cond.methodLink RX1 75 yX0_next, Cond.instanceMethod yX0_next]
def wsX1_lead_r2 : List Cond := [Cond.selects RX0 yX0_next yX0_next, Cond.code yX0_next cX0_next 2 (some .int), Cond.methodLink RX1 79 yX0_leadOn, Cond.instanceMethod yX0_leadOn, Cond.selects RX0 yX0_leadOn yX0_leadOn, Cond.code yX0_leadOn cX0_leadOn 4 none, Cond.fieldLink RX0 22 "RiverNames$Land" "stepsToSea" "[I", Cond.methodLink RX0 65 yX0_countSteps, Cond.instanceMethod yX0_countSteps, Cond.selects RX0 yX0_countSteps yX0_countSteps, Cond.code yX0_countSteps cX0_countSteps 4 (some .int), Cond.methodLink RX0 62 yX0_settle, Cond.instanceMethod yX0_settle, Cond.selects RX0 yX0_settle yX0_settle, Cond.code yX0_settle cX0_settle 3 none, Cond.methodLink RX0 86 yX0_rise, Cond.instanceMethod yX0_rise, Cond.selects RX0 yX0_rise yX0_rise, Cond.code yX0_rise cX0_rise 4 none, Cond.fieldLink RX0 32 "RiverNames$Land" "springWater" "[I", Cond.fieldLink RX0 41 "RiverNames$Land" "water" "[I", Cond.fieldLink RX0 44 "RiverNames$Land" "lengths" "[I", Cond.fieldLink RX0 47 "RiverNames$Land" "names" "[I", Cond.fieldLink RX0 50 "RiverNames$Land" "arguers" "[I"]
def wsX1_lead_r3 : List Cond := [Cond.fieldLink RX0 53 "RiverNames$Land" "disputed" "[Z", Cond.fieldLink RX0 56 "RiverNames$Land" "winners" "[I", Cond.fieldLink RX0 59 "RiverNames$Land" "strengths" "[I", Cond.fieldLink RX0 15 "RiverNames$Land" "rule" "I", Cond.fieldLink RX0 29 "RiverNames$Land" "springNames" "[I", Cond.methodLink RX0 94 yX0_argue, Cond.instanceMethod yX0_argue, Cond.selects RX0 yX0_argue yX0_argue, Cond.code yX0_argue cX0_argue 6 none, Cond.fieldLink RX0 38 "RiverNames$Land" "deltas" "[Z", Cond.methodLink RX0 90 yX0_flowOn, Cond.instanceMethod yX0_flowOn, Cond.selects RX0 yX0_flowOn yX0_flowOn, Cond.code yX0_flowOn cX0_flowOn 4 none, Cond.methodLink RX0 75 Lib.Math.max.name, Cond.static Lib.Math.max.name, Cond.initialized "java/lang/Math", Cond.code Lib.Math.max.name Lib.Math.max.code 2 (some .int)]
def wsX1_lead : List Cond := .code yX1_lead cX1_lead 4 (some .int) :: ((wsX1_lead_r1 ++ (wsX1_lead_r2 ++ wsX1_lead_r3)) ++ wsX10 ++ wsX00 ++ (vx_atS RX1 68 "java/lang/IllegalStateException" ["java/lang/RuntimeException", "java/lang/Exception"]).filter goodWord ++ (vx_atS RX1 237 "java/lang/IndexOutOfBoundsException" ["java/lang/RuntimeException", "java/lang/Exception"]).filter goodWord)
def wsX1_turnDelta_r1 : List Cond := [Cond.fieldLink RX1 10 "RiverNames" "land" "LRiverNames$Land;", Cond.methodLink RX1 61 yX1_requirePlace, Cond.instanceMethod yX1_requirePlace, Cond.selects RX1 yX1_requirePlace yX1_requirePlace, Cond.initialized RX1, Cond.code yX1_requirePlace cX1_requirePlace 2 none, Cond.classLink RX1 233 "java/lang/IndexOutOfBoundsException", Cond.initialized "java/lang/IndexOutOfBoundsException", Cond.methodLink RX1 230 yX0_isPlace, Cond.instanceMethod yX0_isPlace, Cond.selects RX0 yX0_isPlace yX0_isPlace, Cond.initialized RX0, Cond.code yX0_isPlace cX0_isPlace 2 (some .boolean), Cond.fieldLink RX0 9 "RiverNames$Land" "count" "I", Cond.methodLink RX1 83 yX0_toggleDelta, Cond.instanceMethod yX0_toggleDelta, Cond.selects RX0 yX0_toggleDelta yX0_toggleDelta, Cond.code yX0_toggleDelta cX0_toggleDelta 2 none, Cond.fieldLink RX0 38 "RiverNames$Land" "deltas" "[Z", Cond.methodLink RX0 62 yX0_settle, Cond.instanceMethod yX0_settle, Cond.selects RX0 yX0_settle yX0_settle, Cond.code yX0_settle cX0_settle 3 none, Cond.fieldLink RX0 22 "RiverNames$Land" "stepsToSea" "[I"]
def wsX1_turnDelta_r2 : List Cond := [Cond.fieldLink RX0 18 "RiverNames$Land" "ways" "[I", Cond.methodLink RX0 86 yX0_rise, Cond.instanceMethod yX0_rise, Cond.selects RX0 yX0_rise yX0_rise, Cond.code yX0_rise cX0_rise 4 none, Cond.fieldLink RX0 32 "RiverNames$Land" "springWater" "[I", Cond.fieldLink RX0 41 "RiverNames$Land" "water" "[I", Cond.fieldLink RX0 44 "RiverNames$Land" "lengths" "[I", Cond.fieldLink RX0 47 "RiverNames$Land" "names" "[I", Cond.fieldLink RX0 50 "RiverNames$Land" "arguers" "[I", Cond.fieldLink RX0 53 "RiverNames$Land" "disputed" "[Z", Cond.fieldLink RX0 56 "RiverNames$Land" "winners" "[I", Cond.fieldLink RX0 59 "RiverNames$Land" "strengths" "[I", Cond.fieldLink RX0 15 "RiverNames$Land" "rule" "I", Cond.fieldLink RX0 29 "RiverNames$Land" "springNames" "[I", Cond.methodLink RX0 94 yX0_argue, Cond.instanceMethod yX0_argue, Cond.selects RX0 yX0_argue yX0_argue, Cond.code yX0_argue cX0_argue 6 none, Cond.methodLink RX0 90 yX0_flowOn, Cond.instanceMethod yX0_flowOn, Cond.selects RX0 yX0_flowOn yX0_flowOn, Cond.code yX0_flowOn cX0_flowOn 4 none, Cond.methodLink RX0 75 Lib.Math.max.name]
def wsX1_turnDelta_r3 : List Cond := [Cond.static Lib.Math.max.name, Cond.initialized "java/lang/Math", Cond.code Lib.Math.max.name Lib.Math.max.code 2 (some .int), Cond.methodLink RX0 78 yX0_isPlace, Cond.methodLink RX1 86 yX0_isDelta, Cond.instanceMethod yX0_isDelta, Cond.selects RX0 yX0_isDelta yX0_isDelta, Cond.code yX0_isDelta cX0_isDelta 2 (some .boolean)]
def wsX1_turnDelta : List Cond := .code yX1_turnDelta cX1_turnDelta 2 (some .boolean) :: ((wsX1_turnDelta_r1 ++ (wsX1_turnDelta_r2 ++ wsX1_turnDelta_r3)) ++ wsX10 ++ wsX00 ++ (vx_atS RX1 237 "java/lang/IndexOutOfBoundsException" ["java/lang/RuntimeException", "java/lang/Exception"]).filter goodWord)
def wsX1_setRule_r1 : List Cond := [Cond.classLink RX1 48 "java/lang/IllegalArgumentException", Cond.initialized "java/lang/IllegalArgumentException", Cond.fieldLink RX1 10 "RiverNames" "land" "LRiverNames$Land;", Cond.methodLink RX1 44 yX1_isWithin, Cond.static yX1_isWithin, Cond.initialized RX1, Cond.code yX1_isWithin cX1_isWithin 3 (some .boolean), Cond.methodLink RX1 92 yX0_ruleNow, Cond.instanceMethod yX0_ruleNow, Cond.selects RX0 yX0_ruleNow yX0_ruleNow, Cond.initialized RX0, Cond.code yX0_ruleNow cX0_ruleNow 1 (some .int), Cond.fieldLink RX0 15 "RiverNames$Land" "rule" "I", Cond.methodLink RX1 95 yX0_useRule, Cond.instanceMethod yX0_useRule, Cond.selects RX0 yX0_useRule yX0_useRule, Cond.code yX0_useRule cX0_useRule 2 none, Cond.methodLink RX0 62 yX0_settle, Cond.instanceMethod yX0_settle, Cond.selects RX0 yX0_settle yX0_settle, Cond.code yX0_settle cX0_settle 3 none, Cond.fieldLink RX0 9 "RiverNames$Land" "count" "I", Cond.fieldLink RX0 22 "RiverNames$Land" "stepsToSea" "[I", Cond.fieldLink RX0 18 "RiverNames$Land" "ways" "[I"]
def wsX1_setRule_r2 : List Cond := [Cond.methodLink RX0 86 yX0_rise, Cond.instanceMethod yX0_rise, Cond.selects RX0 yX0_rise yX0_rise, Cond.code yX0_rise cX0_rise 4 none, Cond.fieldLink RX0 32 "RiverNames$Land" "springWater" "[I", Cond.fieldLink RX0 41 "RiverNames$Land" "water" "[I", Cond.fieldLink RX0 44 "RiverNames$Land" "lengths" "[I", Cond.fieldLink RX0 47 "RiverNames$Land" "names" "[I", Cond.fieldLink RX0 50 "RiverNames$Land" "arguers" "[I", Cond.fieldLink RX0 53 "RiverNames$Land" "disputed" "[Z", Cond.fieldLink RX0 56 "RiverNames$Land" "winners" "[I", Cond.fieldLink RX0 59 "RiverNames$Land" "strengths" "[I", Cond.fieldLink RX0 29 "RiverNames$Land" "springNames" "[I", Cond.methodLink RX0 94 yX0_argue, Cond.instanceMethod yX0_argue, Cond.selects RX0 yX0_argue yX0_argue, Cond.code yX0_argue cX0_argue 6 none, Cond.fieldLink RX0 38 "RiverNames$Land" "deltas" "[Z", Cond.methodLink RX0 90 yX0_flowOn, Cond.instanceMethod yX0_flowOn, Cond.selects RX0 yX0_flowOn yX0_flowOn, Cond.code yX0_flowOn cX0_flowOn 4 none, Cond.methodLink RX0 75 Lib.Math.max.name, Cond.static Lib.Math.max.name]
def wsX1_setRule_r3 : List Cond := [Cond.initialized "java/lang/Math", Cond.code Lib.Math.max.name Lib.Math.max.code 2 (some .int), Cond.methodLink RX0 78 yX0_isPlace, Cond.instanceMethod yX0_isPlace, Cond.selects RX0 yX0_isPlace yX0_isPlace, Cond.code yX0_isPlace cX0_isPlace 2 (some .boolean)]
def wsX1_setRule : List Cond := .code yX1_setRule cX1_setRule 3 (some .int) :: ((wsX1_setRule_r1 ++ (wsX1_setRule_r2 ++ wsX1_setRule_r3)) ++ wsX10 ++ wsX00 ++ (vx_atS RX1 52 "java/lang/IllegalArgumentException" ["java/lang/RuntimeException", "java/lang/Exception"]).filter goodWord)
def wsX1_build : List Cond := .code yX1_build cX1_build 3 (some .int) :: ([.classLink RX1 64 "java/lang/IllegalStateException", .initialized "java/lang/IllegalStateException", .fieldLink RX1 26 "RiverNames" "bridgeCount" "I", .fieldLink RX1 19 "RiverNames" "bridgePlaces" "[I", .fieldLink RX1 23 "RiverNames" "bridgeNames" "[I", .fieldLink RX1 10 "RiverNames" "land" "LRiverNames$Land;", .methodLink RX1 61 yX1_requirePlace, .instanceMethod yX1_requirePlace, .selects RX1 yX1_requirePlace yX1_requirePlace, .initialized RX1, .code yX1_requirePlace cX1_requirePlace 2 none, .classLink RX1 233 "java/lang/IndexOutOfBoundsException", .initialized "java/lang/IndexOutOfBoundsException", .methodLink RX1 230 yX0_isPlace, .instanceMethod yX0_isPlace, .selects RX0 yX0_isPlace yX0_isPlace, .initialized RX0, .code yX0_isPlace cX0_isPlace 2 (some .boolean), .fieldLink RX0 9 "RiverNames$Land" "count" "I", .methodLink RX1 100 yX0_nameOf, .instanceMethod yX0_nameOf, .selects RX0 yX0_nameOf yX0_nameOf, .code yX0_nameOf cX0_nameOf 2 (some .int), .fieldLink RX0 47 "RiverNames$Land" "names" "[I"] ++ wsX10 ++ wsX00 ++ (vx_atS RX1 68 "java/lang/IllegalStateException" ["java/lang/RuntimeException", "java/lang/Exception"]).filter goodWord ++ (vx_atS RX1 237 "java/lang/IndexOutOfBoundsException" ["java/lang/RuntimeException", "java/lang/Exception"]).filter goodWord)
def wsX1_requireYears : List Cond := .code yX1_requireYears cX1_requireYears 1 none :: ([.classLink RX1 48 "java/lang/IllegalArgumentException", .initialized "java/lang/IllegalArgumentException", .methodLink RX1 44 yX1_isWithin, .static yX1_isWithin, .initialized RX1, .code yX1_isWithin cX1_isWithin 3 (some .boolean)] ++ (vx_atS RX1 52 "java/lang/IllegalArgumentException" ["java/lang/RuntimeException", "java/lang/Exception"]).filter goodWord)
def wsX1_suffersInsult : List Cond := .code yX1_suffersInsult cX1_suffersInsult 3 (some .boolean) :: ([.fieldLink RX1 23 "RiverNames" "bridgeNames" "[I", .fieldLink RX1 10 "RiverNames" "land" "LRiverNames$Land;", .fieldLink RX1 19 "RiverNames" "bridgePlaces" "[I", .methodLink RX1 100 yX0_nameOf, .instanceMethod yX0_nameOf, .selects RX0 yX0_nameOf yX0_nameOf, .initialized RX0, .code yX0_nameOf cX0_nameOf 2 (some .int), .fieldLink RX0 47 "RiverNames$Land" "names" "[I"] ++ wsX10 ++ wsX00)
def wsX1_countInsults : List Cond := .code yX1_countInsults cX1_countInsults 3 (some .int) :: ([.fieldLink RX1 26 "RiverNames" "bridgeCount" "I", .methodLink RX1 146 yX1_suffersInsult, .instanceMethod yX1_suffersInsult, .selects RX1 yX1_suffersInsult yX1_suffersInsult, .initialized RX1, .code yX1_suffersInsult cX1_suffersInsult 3 (some .boolean), .fieldLink RX1 23 "RiverNames" "bridgeNames" "[I", .fieldLink RX1 10 "RiverNames" "land" "LRiverNames$Land;", .fieldLink RX1 19 "RiverNames" "bridgePlaces" "[I", .methodLink RX1 100 yX0_nameOf, .instanceMethod yX0_nameOf, .selects RX0 yX0_nameOf yX0_nameOf, .initialized RX0, .code yX0_nameOf cX0_nameOf 2 (some .int), .fieldLink RX0 47 "RiverNames$Land" "names" "[I"] ++ wsX10 ++ wsX00)
def wsX1_pass_r1 : List Cond := [Cond.fieldLink RX1 10 "RiverNames" "land" "LRiverNames$Land;", Cond.fieldLink RX1 30 "RiverNames" "yearNow" "I", Cond.methodLink RX1 103 yX1_requireYears, Cond.static yX1_requireYears, Cond.initialized RX1, Cond.code yX1_requireYears cX1_requireYears 1 none, Cond.classLink RX1 48 "java/lang/IllegalArgumentException", Cond.initialized "java/lang/IllegalArgumentException", Cond.methodLink RX1 44 yX1_isWithin, Cond.static yX1_isWithin, Cond.code yX1_isWithin cX1_isWithin 3 (some .boolean), Cond.methodLink RX1 106 yX0_swellFor, Cond.instanceMethod yX0_swellFor, Cond.selects RX0 yX0_swellFor yX0_swellFor, Cond.initialized RX0, Cond.code yX0_swellFor cX0_swellFor 4 none, Cond.fieldLink RX0 9 "RiverNames$Land" "count" "I", Cond.fieldLink RX0 32 "RiverNames$Land" "springWater" "[I", Cond.fieldLink RX0 35 "RiverNames$Land" "swells" "[I", Cond.methodLink RX0 69 Lib.Math.min.name, Cond.static Lib.Math.min.name, Cond.initialized "java/lang/Math", Cond.code Lib.Math.min.name Lib.Math.min.code 2 (some .int), Cond.methodLink RX0 75 Lib.Math.max.name]
def wsX1_pass_r2 : List Cond := [Cond.static Lib.Math.max.name, Cond.code Lib.Math.max.name Lib.Math.max.code 2 (some .int), Cond.methodLink RX0 62 yX0_settle, Cond.instanceMethod yX0_settle, Cond.selects RX0 yX0_settle yX0_settle, Cond.code yX0_settle cX0_settle 3 none, Cond.fieldLink RX0 22 "RiverNames$Land" "stepsToSea" "[I", Cond.fieldLink RX0 18 "RiverNames$Land" "ways" "[I", Cond.methodLink RX0 86 yX0_rise, Cond.instanceMethod yX0_rise, Cond.selects RX0 yX0_rise yX0_rise, Cond.code yX0_rise cX0_rise 4 none, Cond.fieldLink RX0 41 "RiverNames$Land" "water" "[I", Cond.fieldLink RX0 44 "RiverNames$Land" "lengths" "[I", Cond.fieldLink RX0 47 "RiverNames$Land" "names" "[I", Cond.fieldLink RX0 50 "RiverNames$Land" "arguers" "[I", Cond.fieldLink RX0 53 "RiverNames$Land" "disputed" "[Z", Cond.fieldLink RX0 56 "RiverNames$Land" "winners" "[I", Cond.fieldLink RX0 59 "RiverNames$Land" "strengths" "[I", Cond.fieldLink RX0 15 "RiverNames$Land" "rule" "I", Cond.fieldLink RX0 29 "RiverNames$Land" "springNames" "[I", Cond.methodLink RX0 94 yX0_argue, Cond.instanceMethod yX0_argue, Cond.selects RX0 yX0_argue yX0_argue]
def wsX1_pass_r3 : List Cond := [Cond.code yX0_argue cX0_argue 6 none, Cond.fieldLink RX0 38 "RiverNames$Land" "deltas" "[Z", Cond.methodLink RX0 90 yX0_flowOn, Cond.instanceMethod yX0_flowOn, Cond.selects RX0 yX0_flowOn yX0_flowOn, Cond.code yX0_flowOn cX0_flowOn 4 none, Cond.methodLink RX0 78 yX0_isPlace, Cond.instanceMethod yX0_isPlace, Cond.selects RX0 yX0_isPlace yX0_isPlace, Cond.code yX0_isPlace cX0_isPlace 2 (some .boolean), Cond.methodLink RX1 109 yX1_countInsults, Cond.instanceMethod yX1_countInsults, Cond.selects RX1 yX1_countInsults yX1_countInsults, Cond.code yX1_countInsults cX1_countInsults 3 (some .int), Cond.fieldLink RX1 26 "RiverNames" "bridgeCount" "I", Cond.methodLink RX1 146 yX1_suffersInsult, Cond.instanceMethod yX1_suffersInsult, Cond.selects RX1 yX1_suffersInsult yX1_suffersInsult, Cond.code yX1_suffersInsult cX1_suffersInsult 3 (some .boolean), Cond.fieldLink RX1 23 "RiverNames" "bridgeNames" "[I", Cond.fieldLink RX1 19 "RiverNames" "bridgePlaces" "[I", Cond.methodLink RX1 100 yX0_nameOf, Cond.instanceMethod yX0_nameOf, Cond.selects RX0 yX0_nameOf yX0_nameOf]
def wsX1_pass_r4 : List Cond := [Cond.code yX0_nameOf cX0_nameOf 2 (some .int)]
def wsX1_pass : List Cond := .code yX1_pass cX1_pass 2 (some .int) :: ((wsX1_pass_r1 ++ (wsX1_pass_r2 ++ (wsX1_pass_r3 ++ wsX1_pass_r4))) ++ wsX10 ++ wsX00 ++ (vx_atS RX1 52 "java/lang/IllegalArgumentException" ["java/lang/RuntimeException", "java/lang/Exception"]).filter goodWord)
def wsX1_year : List Cond := .code yX1_year cX1_year 1 (some .int) :: ([.fieldLink RX1 30 "RiverNames" "yearNow" "I"] ++ wsX10)
def wsX1_places : List Cond := .code yX1_places cX1_places 1 (some .int) :: ([.fieldLink RX1 10 "RiverNames" "land" "LRiverNames$Land;", .methodLink RX1 112 yX0_size, .instanceMethod yX0_size, .selects RX0 yX0_size yX0_size, .initialized RX0, .code yX0_size cX0_size 1 (some .int), .fieldLink RX0 9 "RiverNames$Land" "count" "I"] ++ wsX10 ++ wsX00)
def wsX1_leadsTo : List Cond := .code yX1_leadsTo cX1_leadsTo 2 (some .int) :: ([.fieldLink RX1 10 "RiverNames" "land" "LRiverNames$Land;", .methodLink RX1 61 yX1_requirePlace, .instanceMethod yX1_requirePlace, .selects RX1 yX1_requirePlace yX1_requirePlace, .initialized RX1, .code yX1_requirePlace cX1_requirePlace 2 none, .classLink RX1 233 "java/lang/IndexOutOfBoundsException", .initialized "java/lang/IndexOutOfBoundsException", .methodLink RX1 230 yX0_isPlace, .instanceMethod yX0_isPlace, .selects RX0 yX0_isPlace yX0_isPlace, .initialized RX0, .code yX0_isPlace cX0_isPlace 2 (some .boolean), .fieldLink RX0 9 "RiverNames$Land" "count" "I", .methodLink RX1 75 yX0_next, .instanceMethod yX0_next, .selects RX0 yX0_next yX0_next, .code yX0_next cX0_next 2 (some .int), .fieldLink RX0 18 "RiverNames$Land" "ways" "[I"] ++ wsX10 ++ wsX00 ++ (vx_atS RX1 237 "java/lang/IndexOutOfBoundsException" ["java/lang/RuntimeException", "java/lang/Exception"]).filter goodWord)
def wsX1_hasSpring : List Cond := .code yX1_hasSpring cX1_hasSpring 2 (some .boolean) :: ([.fieldLink RX1 10 "RiverNames" "land" "LRiverNames$Land;", .methodLink RX1 61 yX1_requirePlace, .instanceMethod yX1_requirePlace, .selects RX1 yX1_requirePlace yX1_requirePlace, .initialized RX1, .code yX1_requirePlace cX1_requirePlace 2 none, .classLink RX1 233 "java/lang/IndexOutOfBoundsException", .initialized "java/lang/IndexOutOfBoundsException", .methodLink RX1 230 yX0_isPlace, .instanceMethod yX0_isPlace, .selects RX0 yX0_isPlace yX0_isPlace, .initialized RX0, .code yX0_isPlace cX0_isPlace 2 (some .boolean), .fieldLink RX0 9 "RiverNames$Land" "count" "I", .methodLink RX1 115 yX0_isSprung, .instanceMethod yX0_isSprung, .selects RX0 yX0_isSprung yX0_isSprung, .code yX0_isSprung cX0_isSprung 2 (some .boolean), .fieldLink RX0 25 "RiverNames$Land" "sprung" "[Z"] ++ wsX10 ++ wsX00 ++ (vx_atS RX1 237 "java/lang/IndexOutOfBoundsException" ["java/lang/RuntimeException", "java/lang/Exception"]).filter goodWord)
def wsX1_springOf : List Cond := .code yX1_springOf cX1_springOf 2 (some .int) :: ([.fieldLink RX1 10 "RiverNames" "land" "LRiverNames$Land;", .methodLink RX1 61 yX1_requirePlace, .instanceMethod yX1_requirePlace, .selects RX1 yX1_requirePlace yX1_requirePlace, .initialized RX1, .code yX1_requirePlace cX1_requirePlace 2 none, .classLink RX1 233 "java/lang/IndexOutOfBoundsException", .initialized "java/lang/IndexOutOfBoundsException", .methodLink RX1 230 yX0_isPlace, .instanceMethod yX0_isPlace, .selects RX0 yX0_isPlace yX0_isPlace, .initialized RX0, .code yX0_isPlace cX0_isPlace 2 (some .boolean), .fieldLink RX0 9 "RiverNames$Land" "count" "I", .methodLink RX1 118 yX0_springWaterOf, .instanceMethod yX0_springWaterOf, .selects RX0 yX0_springWaterOf yX0_springWaterOf, .code yX0_springWaterOf cX0_springWaterOf 2 (some .int), .fieldLink RX0 32 "RiverNames$Land" "springWater" "[I"] ++ wsX10 ++ wsX00 ++ (vx_atS RX1 237 "java/lang/IndexOutOfBoundsException" ["java/lang/RuntimeException", "java/lang/Exception"]).filter goodWord)
def wsX1_waterAt : List Cond := .code yX1_waterAt cX1_waterAt 2 (some .int) :: ([.fieldLink RX1 10 "RiverNames" "land" "LRiverNames$Land;", .methodLink RX1 61 yX1_requirePlace, .instanceMethod yX1_requirePlace, .selects RX1 yX1_requirePlace yX1_requirePlace, .initialized RX1, .code yX1_requirePlace cX1_requirePlace 2 none, .classLink RX1 233 "java/lang/IndexOutOfBoundsException", .initialized "java/lang/IndexOutOfBoundsException", .methodLink RX1 230 yX0_isPlace, .instanceMethod yX0_isPlace, .selects RX0 yX0_isPlace yX0_isPlace, .initialized RX0, .code yX0_isPlace cX0_isPlace 2 (some .boolean), .fieldLink RX0 9 "RiverNames$Land" "count" "I", .methodLink RX1 121 yX0_waterOf, .instanceMethod yX0_waterOf, .selects RX0 yX0_waterOf yX0_waterOf, .code yX0_waterOf cX0_waterOf 2 (some .int), .fieldLink RX0 41 "RiverNames$Land" "water" "[I"] ++ wsX10 ++ wsX00 ++ (vx_atS RX1 237 "java/lang/IndexOutOfBoundsException" ["java/lang/RuntimeException", "java/lang/Exception"]).filter goodWord)
def wsX1_lengthAt : List Cond := .code yX1_lengthAt cX1_lengthAt 2 (some .int) :: ([.fieldLink RX1 10 "RiverNames" "land" "LRiverNames$Land;", .methodLink RX1 61 yX1_requirePlace, .instanceMethod yX1_requirePlace, .selects RX1 yX1_requirePlace yX1_requirePlace, .initialized RX1, .code yX1_requirePlace cX1_requirePlace 2 none, .classLink RX1 233 "java/lang/IndexOutOfBoundsException", .initialized "java/lang/IndexOutOfBoundsException", .methodLink RX1 230 yX0_isPlace, .instanceMethod yX0_isPlace, .selects RX0 yX0_isPlace yX0_isPlace, .initialized RX0, .code yX0_isPlace cX0_isPlace 2 (some .boolean), .fieldLink RX0 9 "RiverNames$Land" "count" "I", .methodLink RX1 124 yX0_lengthOf, .instanceMethod yX0_lengthOf, .selects RX0 yX0_lengthOf yX0_lengthOf, .code yX0_lengthOf cX0_lengthOf 2 (some .int), .fieldLink RX0 44 "RiverNames$Land" "lengths" "[I"] ++ wsX10 ++ wsX00 ++ (vx_atS RX1 237 "java/lang/IndexOutOfBoundsException" ["java/lang/RuntimeException", "java/lang/Exception"]).filter goodWord)
def wsX1_mouthOf : List Cond := .code yX1_mouthOf cX1_mouthOf 2 (some .int) :: ([.fieldLink RX1 10 "RiverNames" "land" "LRiverNames$Land;", .methodLink RX1 61 yX1_requirePlace, .instanceMethod yX1_requirePlace, .selects RX1 yX1_requirePlace yX1_requirePlace, .initialized RX1, .code yX1_requirePlace cX1_requirePlace 2 none, .classLink RX1 233 "java/lang/IndexOutOfBoundsException", .initialized "java/lang/IndexOutOfBoundsException", .methodLink RX1 230 yX0_isPlace, .instanceMethod yX0_isPlace, .selects RX0 yX0_isPlace yX0_isPlace, .initialized RX0, .code yX0_isPlace cX0_isPlace 2 (some .boolean), .fieldLink RX0 9 "RiverNames$Land" "count" "I", .methodLink RX1 127 yX0_lastOnWay, .instanceMethod yX0_lastOnWay, .selects RX0 yX0_lastOnWay yX0_lastOnWay, .code yX0_lastOnWay cX0_lastOnWay 4 (some .int), .fieldLink RX0 18 "RiverNames$Land" "ways" "[I", .methodLink RX0 78 yX0_isPlace] ++ wsX10 ++ wsX00 ++ (vx_atS RX1 237 "java/lang/IndexOutOfBoundsException" ["java/lang/RuntimeException", "java/lang/Exception"]).filter goodWord)
def wsX1_isAbove : List Cond := .code yX1_isAbove cX1_isAbove 3 (some .boolean) :: ([.fieldLink RX1 10 "RiverNames" "land" "LRiverNames$Land;", .methodLink RX1 61 yX1_requirePlace, .instanceMethod yX1_requirePlace, .selects RX1 yX1_requirePlace yX1_requirePlace, .initialized RX1, .code yX1_requirePlace cX1_requirePlace 2 none, .classLink RX1 233 "java/lang/IndexOutOfBoundsException", .initialized "java/lang/IndexOutOfBoundsException", .methodLink RX1 230 yX0_isPlace, .instanceMethod yX0_isPlace, .selects RX0 yX0_isPlace yX0_isPlace, .initialized RX0, .code yX0_isPlace cX0_isPlace 2 (some .boolean), .fieldLink RX0 9 "RiverNames$Land" "count" "I", .methodLink RX1 69 yX0_flowsTo, .instanceMethod yX0_flowsTo, .selects RX0 yX0_flowsTo yX0_flowsTo, .code yX0_flowsTo cX0_flowsTo 5 (some .boolean), .fieldLink RX0 18 "RiverNames$Land" "ways" "[I", .methodLink RX0 78 yX0_isPlace] ++ wsX10 ++ wsX00 ++ (vx_atS RX1 237 "java/lang/IndexOutOfBoundsException" ["java/lang/RuntimeException", "java/lang/Exception"]).filter goodWord)
def wsX1_placesAbove : List Cond := .code yX1_placesAbove cX1_placesAbove 4 (some .int) :: ([.fieldLink RX1 10 "RiverNames" "land" "LRiverNames$Land;", .methodLink RX1 61 yX1_requirePlace, .instanceMethod yX1_requirePlace, .selects RX1 yX1_requirePlace yX1_requirePlace, .initialized RX1, .code yX1_requirePlace cX1_requirePlace 2 none, .classLink RX1 233 "java/lang/IndexOutOfBoundsException", .initialized "java/lang/IndexOutOfBoundsException", .methodLink RX1 230 yX0_isPlace, .instanceMethod yX0_isPlace, .selects RX0 yX0_isPlace yX0_isPlace, .initialized RX0, .code yX0_isPlace cX0_isPlace 2 (some .boolean), .fieldLink RX0 9 "RiverNames$Land" "count" "I", .methodLink RX1 112 yX0_size, .instanceMethod yX0_size, .selects RX0 yX0_size yX0_size, .code yX0_size cX0_size 1 (some .int), .methodLink RX1 69 yX0_flowsTo, .instanceMethod yX0_flowsTo, .selects RX0 yX0_flowsTo yX0_flowsTo, .code yX0_flowsTo cX0_flowsTo 5 (some .boolean), .fieldLink RX0 18 "RiverNames$Land" "ways" "[I", .methodLink RX0 78 yX0_isPlace] ++ wsX10 ++ wsX00 ++ (vx_atS RX1 237 "java/lang/IndexOutOfBoundsException" ["java/lang/RuntimeException", "java/lang/Exception"]).filter goodWord)
def wsX1_meeting : List Cond := .code yX1_meeting cX1_meeting 3 (some .int) :: ([.fieldLink RX1 10 "RiverNames" "land" "LRiverNames$Land;", .methodLink RX1 61 yX1_requirePlace, .instanceMethod yX1_requirePlace, .selects RX1 yX1_requirePlace yX1_requirePlace, .initialized RX1, .code yX1_requirePlace cX1_requirePlace 2 none, .classLink RX1 233 "java/lang/IndexOutOfBoundsException", .initialized "java/lang/IndexOutOfBoundsException", .methodLink RX1 230 yX0_isPlace, .instanceMethod yX0_isPlace, .selects RX0 yX0_isPlace yX0_isPlace, .initialized RX0, .code yX0_isPlace cX0_isPlace 2 (some .boolean), .fieldLink RX0 9 "RiverNames$Land" "count" "I", .methodLink RX1 130 yX0_firstCommon, .instanceMethod yX0_firstCommon, .selects RX0 yX0_firstCommon yX0_firstCommon, .code yX0_firstCommon cX0_firstCommon 5 (some .int), .fieldLink RX0 18 "RiverNames$Land" "ways" "[I", .methodLink RX0 78 yX0_isPlace, .methodLink RX0 82 yX0_flowsTo, .instanceMethod yX0_flowsTo, .selects RX0 yX0_flowsTo yX0_flowsTo, .code yX0_flowsTo cX0_flowsTo 5 (some .boolean)] ++ wsX10 ++ wsX00 ++ (vx_atS RX1 237 "java/lang/IndexOutOfBoundsException" ["java/lang/RuntimeException", "java/lang/Exception"]).filter goodWord)
def wsX1_nameAt : List Cond := .code yX1_nameAt cX1_nameAt 2 (some .int) :: ([.fieldLink RX1 10 "RiverNames" "land" "LRiverNames$Land;", .methodLink RX1 61 yX1_requirePlace, .instanceMethod yX1_requirePlace, .selects RX1 yX1_requirePlace yX1_requirePlace, .initialized RX1, .code yX1_requirePlace cX1_requirePlace 2 none, .classLink RX1 233 "java/lang/IndexOutOfBoundsException", .initialized "java/lang/IndexOutOfBoundsException", .methodLink RX1 230 yX0_isPlace, .instanceMethod yX0_isPlace, .selects RX0 yX0_isPlace yX0_isPlace, .initialized RX0, .code yX0_isPlace cX0_isPlace 2 (some .boolean), .fieldLink RX0 9 "RiverNames$Land" "count" "I", .methodLink RX1 100 yX0_nameOf, .instanceMethod yX0_nameOf, .selects RX0 yX0_nameOf yX0_nameOf, .code yX0_nameOf cX0_nameOf 2 (some .int), .fieldLink RX0 47 "RiverNames$Land" "names" "[I"] ++ wsX10 ++ wsX00 ++ (vx_atS RX1 237 "java/lang/IndexOutOfBoundsException" ["java/lang/RuntimeException", "java/lang/Exception"]).filter goodWord)
def wsX1_arguing : List Cond := .code yX1_arguing cX1_arguing 2 (some .int) :: ([.fieldLink RX1 10 "RiverNames" "land" "LRiverNames$Land;", .methodLink RX1 61 yX1_requirePlace, .instanceMethod yX1_requirePlace, .selects RX1 yX1_requirePlace yX1_requirePlace, .initialized RX1, .code yX1_requirePlace cX1_requirePlace 2 none, .classLink RX1 233 "java/lang/IndexOutOfBoundsException", .initialized "java/lang/IndexOutOfBoundsException", .methodLink RX1 230 yX0_isPlace, .instanceMethod yX0_isPlace, .selects RX0 yX0_isPlace yX0_isPlace, .initialized RX0, .code yX0_isPlace cX0_isPlace 2 (some .boolean), .fieldLink RX0 9 "RiverNames$Land" "count" "I", .methodLink RX1 134 yX0_arguersAt, .instanceMethod yX0_arguersAt, .selects RX0 yX0_arguersAt yX0_arguersAt, .code yX0_arguersAt cX0_arguersAt 2 (some .int), .fieldLink RX0 50 "RiverNames$Land" "arguers" "[I"] ++ wsX10 ++ wsX00 ++ (vx_atS RX1 237 "java/lang/IndexOutOfBoundsException" ["java/lang/RuntimeException", "java/lang/Exception"]).filter goodWord)
def wsX1_isArgued : List Cond := .code yX1_isArgued cX1_isArgued 2 (some .boolean) :: ([.fieldLink RX1 10 "RiverNames" "land" "LRiverNames$Land;", .methodLink RX1 61 yX1_requirePlace, .instanceMethod yX1_requirePlace, .selects RX1 yX1_requirePlace yX1_requirePlace, .initialized RX1, .code yX1_requirePlace cX1_requirePlace 2 none, .classLink RX1 233 "java/lang/IndexOutOfBoundsException", .initialized "java/lang/IndexOutOfBoundsException", .methodLink RX1 230 yX0_isPlace, .instanceMethod yX0_isPlace, .selects RX0 yX0_isPlace yX0_isPlace, .initialized RX0, .code yX0_isPlace cX0_isPlace 2 (some .boolean), .fieldLink RX0 9 "RiverNames$Land" "count" "I", .methodLink RX1 137 yX0_isDisputed, .instanceMethod yX0_isDisputed, .selects RX0 yX0_isDisputed yX0_isDisputed, .code yX0_isDisputed cX0_isDisputed 2 (some .boolean), .fieldLink RX0 53 "RiverNames$Land" "disputed" "[Z"] ++ wsX10 ++ wsX00 ++ (vx_atS RX1 237 "java/lang/IndexOutOfBoundsException" ["java/lang/RuntimeException", "java/lang/Exception"]).filter goodWord)
def wsX1_placesNamed : List Cond := .code yX1_placesNamed cX1_placesNamed 2 (some .int) :: ([.fieldLink RX1 10 "RiverNames" "land" "LRiverNames$Land;", .methodLink RX1 40 yX1_requireName, .static yX1_requireName, .initialized RX1, .code yX1_requireName cX1_requireName 1 none, .classLink RX1 233 "java/lang/IndexOutOfBoundsException", .initialized "java/lang/IndexOutOfBoundsException", .methodLink RX1 44 yX1_isWithin, .static yX1_isWithin, .code yX1_isWithin cX1_isWithin 3 (some .boolean), .methodLink RX1 140 yX0_countNamed, .instanceMethod yX0_countNamed, .selects RX0 yX0_countNamed yX0_countNamed, .initialized RX0, .code yX0_countNamed cX0_countNamed 4 (some .int), .fieldLink RX0 9 "RiverNames$Land" "count" "I", .fieldLink RX0 47 "RiverNames$Land" "names" "[I"] ++ wsX10 ++ wsX00 ++ (vx_atS RX1 237 "java/lang/IndexOutOfBoundsException" ["java/lang/RuntimeException", "java/lang/Exception"]).filter goodWord)
def wsX1_greatestName : List Cond := .code yX1_greatestName cX1_greatestName 5 (some .int) :: ([.fieldLink RX1 10 "RiverNames" "land" "LRiverNames$Land;", .methodLink RX1 140 yX0_countNamed, .instanceMethod yX0_countNamed, .selects RX0 yX0_countNamed yX0_countNamed, .initialized RX0, .code yX0_countNamed cX0_countNamed 4 (some .int), .fieldLink RX0 9 "RiverNames$Land" "count" "I", .fieldLink RX0 47 "RiverNames$Land" "names" "[I"] ++ wsX10 ++ wsX00)
def wsX1_nameless : List Cond := .code yX1_nameless cX1_nameless 1 (some .int) :: ([.fieldLink RX1 10 "RiverNames" "land" "LRiverNames$Land;", .methodLink RX1 140 yX0_countNamed, .instanceMethod yX0_countNamed, .selects RX0 yX0_countNamed yX0_countNamed, .initialized RX0, .code yX0_countNamed cX0_countNamed 4 (some .int), .fieldLink RX0 9 "RiverNames$Land" "count" "I", .fieldLink RX0 47 "RiverNames$Land" "names" "[I"] ++ wsX10 ++ wsX00)
def wsX1_bridges : List Cond := .code yX1_bridges cX1_bridges 1 (some .int) :: ([.fieldLink RX1 26 "RiverNames" "bridgeCount" "I"] ++ wsX10)
def wsX1_requireBridge : List Cond := .code yX1_requireBridge cX1_requireBridge 2 none :: ([.classLink RX1 233 "java/lang/IndexOutOfBoundsException", .initialized "java/lang/IndexOutOfBoundsException", .fieldLink RX1 26 "RiverNames" "bridgeCount" "I"] ++ wsX10 ++ (vx_atS RX1 237 "java/lang/IndexOutOfBoundsException" ["java/lang/RuntimeException", "java/lang/Exception"]).filter goodWord)
def wsX1_placeOf : List Cond := .code yX1_placeOf cX1_placeOf 2 (some .int) :: ([.fieldLink RX1 19 "RiverNames" "bridgePlaces" "[I", .methodLink RX1 143 yX1_requireBridge, .instanceMethod yX1_requireBridge, .selects RX1 yX1_requireBridge yX1_requireBridge, .initialized RX1, .code yX1_requireBridge cX1_requireBridge 2 none, .classLink RX1 233 "java/lang/IndexOutOfBoundsException", .initialized "java/lang/IndexOutOfBoundsException", .fieldLink RX1 26 "RiverNames" "bridgeCount" "I"] ++ wsX10 ++ (vx_atS RX1 237 "java/lang/IndexOutOfBoundsException" ["java/lang/RuntimeException", "java/lang/Exception"]).filter goodWord)
def wsX1_keeps : List Cond := .code yX1_keeps cX1_keeps 2 (some .int) :: ([.fieldLink RX1 23 "RiverNames" "bridgeNames" "[I", .methodLink RX1 143 yX1_requireBridge, .instanceMethod yX1_requireBridge, .selects RX1 yX1_requireBridge yX1_requireBridge, .initialized RX1, .code yX1_requireBridge cX1_requireBridge 2 none, .classLink RX1 233 "java/lang/IndexOutOfBoundsException", .initialized "java/lang/IndexOutOfBoundsException", .fieldLink RX1 26 "RiverNames" "bridgeCount" "I"] ++ wsX10 ++ (vx_atS RX1 237 "java/lang/IndexOutOfBoundsException" ["java/lang/RuntimeException", "java/lang/Exception"]).filter goodWord)
def wsX1_isInsulted : List Cond := .code yX1_isInsulted cX1_isInsulted 2 (some .boolean) :: ([.methodLink RX1 143 yX1_requireBridge, .instanceMethod yX1_requireBridge, .selects RX1 yX1_requireBridge yX1_requireBridge, .initialized RX1, .code yX1_requireBridge cX1_requireBridge 2 none, .classLink RX1 233 "java/lang/IndexOutOfBoundsException", .initialized "java/lang/IndexOutOfBoundsException", .fieldLink RX1 26 "RiverNames" "bridgeCount" "I", .methodLink RX1 146 yX1_suffersInsult, .instanceMethod yX1_suffersInsult, .selects RX1 yX1_suffersInsult yX1_suffersInsult, .code yX1_suffersInsult cX1_suffersInsult 3 (some .boolean), .fieldLink RX1 23 "RiverNames" "bridgeNames" "[I", .fieldLink RX1 10 "RiverNames" "land" "LRiverNames$Land;", .fieldLink RX1 19 "RiverNames" "bridgePlaces" "[I", .methodLink RX1 100 yX0_nameOf, .instanceMethod yX0_nameOf, .selects RX0 yX0_nameOf yX0_nameOf, .initialized RX0, .code yX0_nameOf cX0_nameOf 2 (some .int), .fieldLink RX0 47 "RiverNames$Land" "names" "[I"] ++ wsX10 ++ wsX00 ++ (vx_atS RX1 237 "java/lang/IndexOutOfBoundsException" ["java/lang/RuntimeException", "java/lang/Exception"]).filter goodWord)
def wsX1_insults : List Cond := .code yX1_insults cX1_insults 1 (some .int) :: ([.methodLink RX1 109 yX1_countInsults, .instanceMethod yX1_countInsults, .selects RX1 yX1_countInsults yX1_countInsults, .initialized RX1, .code yX1_countInsults cX1_countInsults 3 (some .int), .fieldLink RX1 26 "RiverNames" "bridgeCount" "I", .methodLink RX1 146 yX1_suffersInsult, .instanceMethod yX1_suffersInsult, .selects RX1 yX1_suffersInsult yX1_suffersInsult, .code yX1_suffersInsult cX1_suffersInsult 3 (some .boolean), .fieldLink RX1 23 "RiverNames" "bridgeNames" "[I", .fieldLink RX1 10 "RiverNames" "land" "LRiverNames$Land;", .fieldLink RX1 19 "RiverNames" "bridgePlaces" "[I", .methodLink RX1 100 yX0_nameOf, .instanceMethod yX0_nameOf, .selects RX0 yX0_nameOf yX0_nameOf, .initialized RX0, .code yX0_nameOf cX0_nameOf 2 (some .int), .fieldLink RX0 47 "RiverNames$Land" "names" "[I"] ++ wsX10 ++ wsX00)
def wsX1_insultsAt_r1 : List Cond := [Cond.fieldLink RX1 26 "RiverNames" "bridgeCount" "I", Cond.fieldLink RX1 19 "RiverNames" "bridgePlaces" "[I", Cond.methodLink RX1 61 yX1_requirePlace, Cond.instanceMethod yX1_requirePlace, Cond.selects RX1 yX1_requirePlace yX1_requirePlace, Cond.initialized RX1, Cond.code yX1_requirePlace cX1_requirePlace 2 none, Cond.classLink RX1 233 "java/lang/IndexOutOfBoundsException", Cond.initialized "java/lang/IndexOutOfBoundsException", Cond.fieldLink RX1 10 "RiverNames" "land" "LRiverNames$Land;", Cond.methodLink RX1 230 yX0_isPlace, Cond.instanceMethod yX0_isPlace, Cond.selects RX0 yX0_isPlace yX0_isPlace, Cond.initialized RX0, Cond.code yX0_isPlace cX0_isPlace 2 (some .boolean), Cond.fieldLink RX0 9 "RiverNames$Land" "count" "I", Cond.methodLink RX1 146 yX1_suffersInsult, Cond.instanceMethod yX1_suffersInsult, Cond.selects RX1 yX1_suffersInsult yX1_suffersInsult, Cond.code yX1_suffersInsult cX1_suffersInsult 3 (some .boolean), Cond.fieldLink RX1 23 "RiverNames" "bridgeNames" "[I", Cond.methodLink RX1 100 yX0_nameOf, Cond.instanceMethod yX0_nameOf, Cond.selects RX0 yX0_nameOf yX0_nameOf]
def wsX1_insultsAt_r2 : List Cond := [Cond.code yX0_nameOf cX0_nameOf 2 (some .int), Cond.fieldLink RX0 47 "RiverNames$Land" "names" "[I"]
def wsX1_insultsAt : List Cond := .code yX1_insultsAt cX1_insultsAt 4 (some .int) :: ((wsX1_insultsAt_r1 ++ wsX1_insultsAt_r2) ++ wsX10 ++ wsX00 ++ (vx_atS RX1 237 "java/lang/IndexOutOfBoundsException" ["java/lang/RuntimeException", "java/lang/Exception"]).filter goodWord)
def wsX1_nameIn_r1 : List Cond := [Cond.fieldLink RX1 16 "RiverNames" "trial" "LRiverNames$Land;", Cond.fieldLink RX1 10 "RiverNames" "land" "LRiverNames$Land;", Cond.methodLink RX1 61 yX1_requirePlace, Cond.instanceMethod yX1_requirePlace, Cond.selects RX1 yX1_requirePlace yX1_requirePlace, Cond.initialized RX1, Cond.code yX1_requirePlace cX1_requirePlace 2 none, Cond.classLink RX1 233 "java/lang/IndexOutOfBoundsException", Cond.initialized "java/lang/IndexOutOfBoundsException", Cond.methodLink RX1 230 yX0_isPlace, Cond.instanceMethod yX0_isPlace, Cond.selects RX0 yX0_isPlace yX0_isPlace, Cond.initialized RX0, Cond.code yX0_isPlace cX0_isPlace 2 (some .boolean), Cond.fieldLink RX0 9 "RiverNames$Land" "count" "I", Cond.methodLink RX1 103 yX1_requireYears, Cond.static yX1_requireYears, Cond.code yX1_requireYears cX1_requireYears 1 none, Cond.classLink RX1 48 "java/lang/IllegalArgumentException", Cond.initialized "java/lang/IllegalArgumentException", Cond.methodLink RX1 44 yX1_isWithin, Cond.static yX1_isWithin, Cond.code yX1_isWithin cX1_isWithin 3 (some .boolean), Cond.methodLink RX1 149 yX0_takeOver]
def wsX1_nameIn_r2 : List Cond := [Cond.instanceMethod yX0_takeOver, Cond.selects RX0 yX0_takeOver yX0_takeOver, Cond.code yX0_takeOver cX0_takeOver 3 none, Cond.fieldLink RX0 15 "RiverNames$Land" "rule" "I", Cond.fieldLink RX0 18 "RiverNames$Land" "ways" "[I", Cond.fieldLink RX0 22 "RiverNames$Land" "stepsToSea" "[I", Cond.fieldLink RX0 25 "RiverNames$Land" "sprung" "[Z", Cond.fieldLink RX0 29 "RiverNames$Land" "springNames" "[I", Cond.fieldLink RX0 32 "RiverNames$Land" "springWater" "[I", Cond.fieldLink RX0 35 "RiverNames$Land" "swells" "[I", Cond.fieldLink RX0 38 "RiverNames$Land" "deltas" "[Z", Cond.methodLink RX1 106 yX0_swellFor, Cond.instanceMethod yX0_swellFor, Cond.selects RX0 yX0_swellFor yX0_swellFor, Cond.code yX0_swellFor cX0_swellFor 4 none, Cond.methodLink RX0 69 Lib.Math.min.name, Cond.static Lib.Math.min.name, Cond.initialized "java/lang/Math", Cond.code Lib.Math.min.name Lib.Math.min.code 2 (some .int), Cond.methodLink RX0 75 Lib.Math.max.name, Cond.static Lib.Math.max.name, Cond.code Lib.Math.max.name Lib.Math.max.code 2 (some .int), Cond.methodLink RX0 62 yX0_settle, Cond.instanceMethod yX0_settle]
def wsX1_nameIn_r3 : List Cond := [Cond.selects RX0 yX0_settle yX0_settle, Cond.code yX0_settle cX0_settle 3 none, Cond.methodLink RX0 86 yX0_rise, Cond.instanceMethod yX0_rise, Cond.selects RX0 yX0_rise yX0_rise, Cond.code yX0_rise cX0_rise 4 none, Cond.fieldLink RX0 41 "RiverNames$Land" "water" "[I", Cond.fieldLink RX0 44 "RiverNames$Land" "lengths" "[I", Cond.fieldLink RX0 47 "RiverNames$Land" "names" "[I", Cond.fieldLink RX0 50 "RiverNames$Land" "arguers" "[I", Cond.fieldLink RX0 53 "RiverNames$Land" "disputed" "[Z", Cond.fieldLink RX0 56 "RiverNames$Land" "winners" "[I", Cond.fieldLink RX0 59 "RiverNames$Land" "strengths" "[I", Cond.methodLink RX0 94 yX0_argue, Cond.instanceMethod yX0_argue, Cond.selects RX0 yX0_argue yX0_argue, Cond.code yX0_argue cX0_argue 6 none, Cond.methodLink RX0 90 yX0_flowOn, Cond.instanceMethod yX0_flowOn, Cond.selects RX0 yX0_flowOn yX0_flowOn, Cond.code yX0_flowOn cX0_flowOn 4 none, Cond.methodLink RX0 78 yX0_isPlace, Cond.methodLink RX1 100 yX0_nameOf, Cond.instanceMethod yX0_nameOf]
def wsX1_nameIn_r4 : List Cond := [Cond.selects RX0 yX0_nameOf yX0_nameOf, Cond.code yX0_nameOf cX0_nameOf 2 (some .int)]
def wsX1_nameIn : List Cond := .code yX1_nameIn cX1_nameIn 3 (some .int) :: ((wsX1_nameIn_r1 ++ (wsX1_nameIn_r2 ++ (wsX1_nameIn_r3 ++ wsX1_nameIn_r4))) ++ wsX10 ++ wsX00 ++ (vx_atS RX1 237 "java/lang/IndexOutOfBoundsException" ["java/lang/RuntimeException", "java/lang/Exception"]).filter goodWord ++ (vx_atS RX1 52 "java/lang/IllegalArgumentException" ["java/lang/RuntimeException", "java/lang/Exception"]).filter goodWord)
def wsX1_yearsUntilRenamed_r1 : List Cond := [Cond.fieldLink RX1 16 "RiverNames" "trial" "LRiverNames$Land;", Cond.fieldLink RX1 10 "RiverNames" "land" "LRiverNames$Land;", Cond.methodLink RX1 61 yX1_requirePlace, Cond.instanceMethod yX1_requirePlace, Cond.selects RX1 yX1_requirePlace yX1_requirePlace, Cond.initialized RX1, Cond.code yX1_requirePlace cX1_requirePlace 2 none, Cond.classLink RX1 233 "java/lang/IndexOutOfBoundsException", Cond.initialized "java/lang/IndexOutOfBoundsException", Cond.methodLink RX1 230 yX0_isPlace, Cond.instanceMethod yX0_isPlace, Cond.selects RX0 yX0_isPlace yX0_isPlace, Cond.initialized RX0, Cond.code yX0_isPlace cX0_isPlace 2 (some .boolean), Cond.fieldLink RX0 9 "RiverNames$Land" "count" "I", Cond.methodLink RX1 149 yX0_takeOver, Cond.instanceMethod yX0_takeOver, Cond.selects RX0 yX0_takeOver yX0_takeOver, Cond.code yX0_takeOver cX0_takeOver 3 none, Cond.fieldLink RX0 15 "RiverNames$Land" "rule" "I", Cond.fieldLink RX0 18 "RiverNames$Land" "ways" "[I", Cond.fieldLink RX0 22 "RiverNames$Land" "stepsToSea" "[I", Cond.fieldLink RX0 25 "RiverNames$Land" "sprung" "[Z", Cond.fieldLink RX0 29 "RiverNames$Land" "springNames" "[I"]
def wsX1_yearsUntilRenamed_r2 : List Cond := [Cond.fieldLink RX0 32 "RiverNames$Land" "springWater" "[I", Cond.fieldLink RX0 35 "RiverNames$Land" "swells" "[I", Cond.fieldLink RX0 38 "RiverNames$Land" "deltas" "[Z", Cond.methodLink RX1 106 yX0_swellFor, Cond.instanceMethod yX0_swellFor, Cond.selects RX0 yX0_swellFor yX0_swellFor, Cond.code yX0_swellFor cX0_swellFor 4 none, Cond.methodLink RX0 69 Lib.Math.min.name, Cond.static Lib.Math.min.name, Cond.initialized "java/lang/Math", Cond.code Lib.Math.min.name Lib.Math.min.code 2 (some .int), Cond.methodLink RX0 75 Lib.Math.max.name, Cond.static Lib.Math.max.name, Cond.code Lib.Math.max.name Lib.Math.max.code 2 (some .int), Cond.methodLink RX0 62 yX0_settle, Cond.instanceMethod yX0_settle, Cond.selects RX0 yX0_settle yX0_settle, Cond.code yX0_settle cX0_settle 3 none, Cond.methodLink RX0 86 yX0_rise, Cond.instanceMethod yX0_rise, Cond.selects RX0 yX0_rise yX0_rise, Cond.code yX0_rise cX0_rise 4 none, Cond.fieldLink RX0 41 "RiverNames$Land" "water" "[I", Cond.fieldLink RX0 44 "RiverNames$Land" "lengths" "[I"]
def wsX1_yearsUntilRenamed_r3 : List Cond := [Cond.fieldLink RX0 47 "RiverNames$Land" "names" "[I", Cond.fieldLink RX0 50 "RiverNames$Land" "arguers" "[I", Cond.fieldLink RX0 53 "RiverNames$Land" "disputed" "[Z", Cond.fieldLink RX0 56 "RiverNames$Land" "winners" "[I", Cond.fieldLink RX0 59 "RiverNames$Land" "strengths" "[I", Cond.methodLink RX0 94 yX0_argue, Cond.instanceMethod yX0_argue, Cond.selects RX0 yX0_argue yX0_argue, Cond.code yX0_argue cX0_argue 6 none, Cond.methodLink RX0 90 yX0_flowOn, Cond.instanceMethod yX0_flowOn, Cond.selects RX0 yX0_flowOn yX0_flowOn, Cond.code yX0_flowOn cX0_flowOn 4 none, Cond.methodLink RX0 78 yX0_isPlace, Cond.methodLink RX1 100 yX0_nameOf, Cond.instanceMethod yX0_nameOf, Cond.selects RX0 yX0_nameOf yX0_nameOf, Cond.code yX0_nameOf cX0_nameOf 2 (some .int)]
def wsX1_yearsUntilRenamed : List Cond := .code yX1_yearsUntilRenamed cX1_yearsUntilRenamed 3 (some .int) :: ((wsX1_yearsUntilRenamed_r1 ++ (wsX1_yearsUntilRenamed_r2 ++ wsX1_yearsUntilRenamed_r3)) ++ wsX10 ++ wsX00 ++ (vx_atS RX1 237 "java/lang/IndexOutOfBoundsException" ["java/lang/RuntimeException", "java/lang/Exception"]).filter goodWord)
def wsX1_weightiestSpring_r1 : List Cond := [Cond.fieldLink RX1 10 "RiverNames" "land" "LRiverNames$Land;", Cond.fieldLink RX1 16 "RiverNames" "trial" "LRiverNames$Land;", Cond.methodLink RX1 112 yX0_size, Cond.instanceMethod yX0_size, Cond.selects RX0 yX0_size yX0_size, Cond.initialized RX0, Cond.code yX0_size cX0_size 1 (some .int), Cond.fieldLink RX0 9 "RiverNames$Land" "count" "I", Cond.methodLink RX1 118 yX0_springWaterOf, Cond.instanceMethod yX0_springWaterOf, Cond.selects RX0 yX0_springWaterOf yX0_springWaterOf, Cond.code yX0_springWaterOf cX0_springWaterOf 2 (some .int), Cond.fieldLink RX0 32 "RiverNames$Land" "springWater" "[I", Cond.methodLink RX1 149 yX0_takeOver, Cond.instanceMethod yX0_takeOver, Cond.selects RX0 yX0_takeOver yX0_takeOver, Cond.code yX0_takeOver cX0_takeOver 3 none, Cond.fieldLink RX0 15 "RiverNames$Land" "rule" "I", Cond.fieldLink RX0 18 "RiverNames$Land" "ways" "[I", Cond.fieldLink RX0 22 "RiverNames$Land" "stepsToSea" "[I", Cond.fieldLink RX0 25 "RiverNames$Land" "sprung" "[Z", Cond.fieldLink RX0 29 "RiverNames$Land" "springNames" "[I", Cond.fieldLink RX0 35 "RiverNames$Land" "swells" "[I", Cond.fieldLink RX0 38 "RiverNames$Land" "deltas" "[Z"]
def wsX1_weightiestSpring_r2 : List Cond := [Cond.methodLink RX1 153 yX0_dryUp, Cond.instanceMethod yX0_dryUp, Cond.selects RX0 yX0_dryUp yX0_dryUp, Cond.code yX0_dryUp cX0_dryUp 2 none, Cond.methodLink RX0 62 yX0_settle, Cond.instanceMethod yX0_settle, Cond.selects RX0 yX0_settle yX0_settle, Cond.code yX0_settle cX0_settle 3 none, Cond.methodLink RX0 86 yX0_rise, Cond.instanceMethod yX0_rise, Cond.selects RX0 yX0_rise yX0_rise, Cond.code yX0_rise cX0_rise 4 none, Cond.fieldLink RX0 41 "RiverNames$Land" "water" "[I", Cond.fieldLink RX0 44 "RiverNames$Land" "lengths" "[I", Cond.fieldLink RX0 47 "RiverNames$Land" "names" "[I", Cond.fieldLink RX0 50 "RiverNames$Land" "arguers" "[I", Cond.fieldLink RX0 53 "RiverNames$Land" "disputed" "[Z", Cond.fieldLink RX0 56 "RiverNames$Land" "winners" "[I", Cond.fieldLink RX0 59 "RiverNames$Land" "strengths" "[I", Cond.methodLink RX0 94 yX0_argue, Cond.instanceMethod yX0_argue, Cond.selects RX0 yX0_argue yX0_argue, Cond.code yX0_argue cX0_argue 6 none, Cond.methodLink RX0 90 yX0_flowOn]
def wsX1_weightiestSpring_r3 : List Cond := [Cond.instanceMethod yX0_flowOn, Cond.selects RX0 yX0_flowOn yX0_flowOn, Cond.code yX0_flowOn cX0_flowOn 4 none, Cond.methodLink RX0 75 Lib.Math.max.name, Cond.static Lib.Math.max.name, Cond.initialized "java/lang/Math", Cond.code Lib.Math.max.name Lib.Math.max.code 2 (some .int), Cond.methodLink RX0 78 yX0_isPlace, Cond.instanceMethod yX0_isPlace, Cond.selects RX0 yX0_isPlace yX0_isPlace, Cond.code yX0_isPlace cX0_isPlace 2 (some .boolean), Cond.methodLink RX1 156 yX0_countNamedOtherThan, Cond.instanceMethod yX0_countNamedOtherThan, Cond.selects RX0 yX0_countNamedOtherThan yX0_countNamedOtherThan, Cond.code yX0_countNamedOtherThan cX0_countNamedOtherThan 4 (some .int)]
def wsX1_weightiestSpring : List Cond := .code yX1_weightiestSpring cX1_weightiestSpring 5 (some .int) :: ((wsX1_weightiestSpring_r1 ++ (wsX1_weightiestSpring_r2 ++ wsX1_weightiestSpring_r3)) ++ wsX10 ++ wsX00)
def wsX1_renamedByDelta_r1 : List Cond := [Cond.fieldLink RX1 16 "RiverNames" "trial" "LRiverNames$Land;", Cond.fieldLink RX1 10 "RiverNames" "land" "LRiverNames$Land;", Cond.methodLink RX1 61 yX1_requirePlace, Cond.instanceMethod yX1_requirePlace, Cond.selects RX1 yX1_requirePlace yX1_requirePlace, Cond.initialized RX1, Cond.code yX1_requirePlace cX1_requirePlace 2 none, Cond.classLink RX1 233 "java/lang/IndexOutOfBoundsException", Cond.initialized "java/lang/IndexOutOfBoundsException", Cond.methodLink RX1 230 yX0_isPlace, Cond.instanceMethod yX0_isPlace, Cond.selects RX0 yX0_isPlace yX0_isPlace, Cond.initialized RX0, Cond.code yX0_isPlace cX0_isPlace 2 (some .boolean), Cond.fieldLink RX0 9 "RiverNames$Land" "count" "I", Cond.methodLink RX1 149 yX0_takeOver, Cond.instanceMethod yX0_takeOver, Cond.selects RX0 yX0_takeOver yX0_takeOver, Cond.code yX0_takeOver cX0_takeOver 3 none, Cond.fieldLink RX0 15 "RiverNames$Land" "rule" "I", Cond.fieldLink RX0 18 "RiverNames$Land" "ways" "[I", Cond.fieldLink RX0 22 "RiverNames$Land" "stepsToSea" "[I", Cond.fieldLink RX0 25 "RiverNames$Land" "sprung" "[Z", Cond.fieldLink RX0 29 "RiverNames$Land" "springNames" "[I"]
def wsX1_renamedByDelta_r2 : List Cond := [Cond.fieldLink RX0 32 "RiverNames$Land" "springWater" "[I", Cond.fieldLink RX0 35 "RiverNames$Land" "swells" "[I", Cond.fieldLink RX0 38 "RiverNames$Land" "deltas" "[Z", Cond.methodLink RX1 83 yX0_toggleDelta, Cond.instanceMethod yX0_toggleDelta, Cond.selects RX0 yX0_toggleDelta yX0_toggleDelta, Cond.code yX0_toggleDelta cX0_toggleDelta 2 none, Cond.methodLink RX0 62 yX0_settle, Cond.instanceMethod yX0_settle, Cond.selects RX0 yX0_settle yX0_settle, Cond.code yX0_settle cX0_settle 3 none, Cond.methodLink RX0 86 yX0_rise, Cond.instanceMethod yX0_rise, Cond.selects RX0 yX0_rise yX0_rise, Cond.code yX0_rise cX0_rise 4 none, Cond.fieldLink RX0 41 "RiverNames$Land" "water" "[I", Cond.fieldLink RX0 44 "RiverNames$Land" "lengths" "[I", Cond.fieldLink RX0 47 "RiverNames$Land" "names" "[I", Cond.fieldLink RX0 50 "RiverNames$Land" "arguers" "[I", Cond.fieldLink RX0 53 "RiverNames$Land" "disputed" "[Z", Cond.fieldLink RX0 56 "RiverNames$Land" "winners" "[I", Cond.fieldLink RX0 59 "RiverNames$Land" "strengths" "[I", Cond.methodLink RX0 94 yX0_argue, Cond.instanceMethod yX0_argue]
def wsX1_renamedByDelta_r3 : List Cond := [Cond.selects RX0 yX0_argue yX0_argue, Cond.code yX0_argue cX0_argue 6 none, Cond.methodLink RX0 90 yX0_flowOn, Cond.instanceMethod yX0_flowOn, Cond.selects RX0 yX0_flowOn yX0_flowOn, Cond.code yX0_flowOn cX0_flowOn 4 none, Cond.methodLink RX0 75 Lib.Math.max.name, Cond.static Lib.Math.max.name, Cond.initialized "java/lang/Math", Cond.code Lib.Math.max.name Lib.Math.max.code 2 (some .int), Cond.methodLink RX0 78 yX0_isPlace, Cond.methodLink RX1 156 yX0_countNamedOtherThan, Cond.instanceMethod yX0_countNamedOtherThan, Cond.selects RX0 yX0_countNamedOtherThan yX0_countNamedOtherThan, Cond.code yX0_countNamedOtherThan cX0_countNamedOtherThan 4 (some .int)]
def wsX1_renamedByDelta : List Cond := .code yX1_renamedByDelta cX1_renamedByDelta 2 (some .int) :: ((wsX1_renamedByDelta_r1 ++ (wsX1_renamedByDelta_r2 ++ wsX1_renamedByDelta_r3)) ++ wsX10 ++ wsX00 ++ (vx_atS RX1 237 "java/lang/IndexOutOfBoundsException" ["java/lang/RuntimeException", "java/lang/Exception"]).filter goodWord)
def wsX1_renamedByRule_r1 : List Cond := [Cond.fieldLink RX1 16 "RiverNames" "trial" "LRiverNames$Land;", Cond.fieldLink RX1 10 "RiverNames" "land" "LRiverNames$Land;", Cond.methodLink RX1 149 yX0_takeOver, Cond.instanceMethod yX0_takeOver, Cond.selects RX0 yX0_takeOver yX0_takeOver, Cond.initialized RX0, Cond.code yX0_takeOver cX0_takeOver 3 none, Cond.fieldLink RX0 9 "RiverNames$Land" "count" "I", Cond.fieldLink RX0 15 "RiverNames$Land" "rule" "I", Cond.fieldLink RX0 18 "RiverNames$Land" "ways" "[I", Cond.fieldLink RX0 22 "RiverNames$Land" "stepsToSea" "[I", Cond.fieldLink RX0 25 "RiverNames$Land" "sprung" "[Z", Cond.fieldLink RX0 29 "RiverNames$Land" "springNames" "[I", Cond.fieldLink RX0 32 "RiverNames$Land" "springWater" "[I", Cond.fieldLink RX0 35 "RiverNames$Land" "swells" "[I", Cond.fieldLink RX0 38 "RiverNames$Land" "deltas" "[Z", Cond.methodLink RX1 92 yX0_ruleNow, Cond.instanceMethod yX0_ruleNow, Cond.selects RX0 yX0_ruleNow yX0_ruleNow, Cond.code yX0_ruleNow cX0_ruleNow 1 (some .int), Cond.methodLink RX1 95 yX0_useRule, Cond.instanceMethod yX0_useRule, Cond.selects RX0 yX0_useRule yX0_useRule, Cond.code yX0_useRule cX0_useRule 2 none]
def wsX1_renamedByRule_r2 : List Cond := [Cond.methodLink RX0 62 yX0_settle, Cond.instanceMethod yX0_settle, Cond.selects RX0 yX0_settle yX0_settle, Cond.code yX0_settle cX0_settle 3 none, Cond.methodLink RX0 86 yX0_rise, Cond.instanceMethod yX0_rise, Cond.selects RX0 yX0_rise yX0_rise, Cond.code yX0_rise cX0_rise 4 none, Cond.fieldLink RX0 41 "RiverNames$Land" "water" "[I", Cond.fieldLink RX0 44 "RiverNames$Land" "lengths" "[I", Cond.fieldLink RX0 47 "RiverNames$Land" "names" "[I", Cond.fieldLink RX0 50 "RiverNames$Land" "arguers" "[I", Cond.fieldLink RX0 53 "RiverNames$Land" "disputed" "[Z", Cond.fieldLink RX0 56 "RiverNames$Land" "winners" "[I", Cond.fieldLink RX0 59 "RiverNames$Land" "strengths" "[I", Cond.methodLink RX0 94 yX0_argue, Cond.instanceMethod yX0_argue, Cond.selects RX0 yX0_argue yX0_argue, Cond.code yX0_argue cX0_argue 6 none, Cond.methodLink RX0 90 yX0_flowOn, Cond.instanceMethod yX0_flowOn, Cond.selects RX0 yX0_flowOn yX0_flowOn, Cond.code yX0_flowOn cX0_flowOn 4 none, Cond.methodLink RX0 75 Lib.Math.max.name]
def wsX1_renamedByRule_r3 : List Cond := [Cond.static Lib.Math.max.name, Cond.initialized "java/lang/Math", Cond.code Lib.Math.max.name Lib.Math.max.code 2 (some .int), Cond.methodLink RX0 78 yX0_isPlace, Cond.instanceMethod yX0_isPlace, Cond.selects RX0 yX0_isPlace yX0_isPlace, Cond.code yX0_isPlace cX0_isPlace 2 (some .boolean), Cond.methodLink RX1 156 yX0_countNamedOtherThan, Cond.instanceMethod yX0_countNamedOtherThan, Cond.selects RX0 yX0_countNamedOtherThan yX0_countNamedOtherThan, Cond.code yX0_countNamedOtherThan cX0_countNamedOtherThan 4 (some .int)]
def wsX1_renamedByRule : List Cond := .code yX1_renamedByRule cX1_renamedByRule 1 (some .int) :: ((wsX1_renamedByRule_r1 ++ (wsX1_renamedByRule_r2 ++ wsX1_renamedByRule_r3)) ++ wsX10 ++ wsX00)
def wsX1_meanMouth : List Cond := .code yX1_meanMouth cX1_meanMouth 4 (some .double) :: ([.fieldLink RX1 10 "RiverNames" "land" "LRiverNames$Land;", .methodLink RX1 112 yX0_size, .instanceMethod yX0_size, .selects RX0 yX0_size yX0_size, .initialized RX0, .code yX0_size cX0_size 1 (some .int), .fieldLink RX0 9 "RiverNames$Land" "count" "I", .methodLink RX1 75 yX0_next, .instanceMethod yX0_next, .selects RX0 yX0_next yX0_next, .code yX0_next cX0_next 2 (some .int), .fieldLink RX0 18 "RiverNames$Land" "ways" "[I", .methodLink RX1 121 yX0_waterOf, .instanceMethod yX0_waterOf, .selects RX0 yX0_waterOf yX0_waterOf, .code yX0_waterOf cX0_waterOf 2 (some .int), .fieldLink RX0 41 "RiverNames$Land" "water" "[I"] ++ wsX10 ++ wsX00)
def wsX1_mix : List Cond := .code yX1_mix cX1_mix 4 (some .long) :: ([.constantLong RX1 228 (31)])
def wsX1_bit : List Cond := .code yX1_bit cX1_bit 1 (some .long) :: ([])
def wsX1_mixPlace_r1 : List Cond := [Cond.methodLink RX1 185 yX1_leadsTo, Cond.instanceMethod yX1_leadsTo, Cond.selects RX1 yX1_leadsTo yX1_leadsTo, Cond.initialized RX1, Cond.code yX1_leadsTo cX1_leadsTo 2 (some .int), Cond.fieldLink RX1 10 "RiverNames" "land" "LRiverNames$Land;", Cond.methodLink RX1 61 yX1_requirePlace, Cond.instanceMethod yX1_requirePlace, Cond.selects RX1 yX1_requirePlace yX1_requirePlace, Cond.code yX1_requirePlace cX1_requirePlace 2 none, Cond.classLink RX1 233 "java/lang/IndexOutOfBoundsException", Cond.initialized "java/lang/IndexOutOfBoundsException", Cond.methodLink RX1 230 yX0_isPlace, Cond.instanceMethod yX0_isPlace, Cond.selects RX0 yX0_isPlace yX0_isPlace, Cond.initialized RX0, Cond.code yX0_isPlace cX0_isPlace 2 (some .boolean), Cond.fieldLink RX0 9 "RiverNames$Land" "count" "I", Cond.methodLink RX1 75 yX0_next, Cond.instanceMethod yX0_next, Cond.selects RX0 yX0_next yX0_next, Cond.code yX0_next cX0_next 2 (some .int), Cond.fieldLink RX0 18 "RiverNames$Land" "ways" "[I", Cond.methodLink RX1 162 yX1_mix]
def wsX1_mixPlace_r2 : List Cond := [Cond.static yX1_mix, Cond.code yX1_mix cX1_mix 4 (some .long), Cond.constantLong RX1 228 (31), Cond.methodLink RX1 188 yX1_hasSpring, Cond.instanceMethod yX1_hasSpring, Cond.selects RX1 yX1_hasSpring yX1_hasSpring, Cond.code yX1_hasSpring cX1_hasSpring 2 (some .boolean), Cond.methodLink RX1 115 yX0_isSprung, Cond.instanceMethod yX0_isSprung, Cond.selects RX0 yX0_isSprung yX0_isSprung, Cond.code yX0_isSprung cX0_isSprung 2 (some .boolean), Cond.fieldLink RX0 25 "RiverNames$Land" "sprung" "[Z", Cond.methodLink RX1 191 yX1_bit, Cond.static yX1_bit, Cond.code yX1_bit cX1_bit 1 (some .long), Cond.methodLink RX1 195 yX1_springOf, Cond.instanceMethod yX1_springOf, Cond.selects RX1 yX1_springOf yX1_springOf, Cond.code yX1_springOf cX1_springOf 2 (some .int), Cond.methodLink RX1 118 yX0_springWaterOf, Cond.instanceMethod yX0_springWaterOf, Cond.selects RX0 yX0_springWaterOf yX0_springWaterOf, Cond.code yX0_springWaterOf cX0_springWaterOf 2 (some .int), Cond.fieldLink RX0 32 "RiverNames$Land" "springWater" "[I"]
def wsX1_mixPlace_r3 : List Cond := [Cond.methodLink RX1 198 yX1_waterAt, Cond.instanceMethod yX1_waterAt, Cond.selects RX1 yX1_waterAt yX1_waterAt, Cond.code yX1_waterAt cX1_waterAt 2 (some .int), Cond.methodLink RX1 121 yX0_waterOf, Cond.instanceMethod yX0_waterOf, Cond.selects RX0 yX0_waterOf yX0_waterOf, Cond.code yX0_waterOf cX0_waterOf 2 (some .int), Cond.fieldLink RX0 41 "RiverNames$Land" "water" "[I", Cond.methodLink RX1 201 yX1_lengthAt, Cond.instanceMethod yX1_lengthAt, Cond.selects RX1 yX1_lengthAt yX1_lengthAt, Cond.code yX1_lengthAt cX1_lengthAt 2 (some .int), Cond.methodLink RX1 124 yX0_lengthOf, Cond.instanceMethod yX0_lengthOf, Cond.selects RX0 yX0_lengthOf yX0_lengthOf, Cond.code yX0_lengthOf cX0_lengthOf 2 (some .int), Cond.fieldLink RX0 44 "RiverNames$Land" "lengths" "[I", Cond.methodLink RX1 204 yX1_mouthOf, Cond.instanceMethod yX1_mouthOf, Cond.selects RX1 yX1_mouthOf yX1_mouthOf, Cond.code yX1_mouthOf cX1_mouthOf 2 (some .int), Cond.methodLink RX1 127 yX0_lastOnWay, Cond.instanceMethod yX0_lastOnWay]
def wsX1_mixPlace_r4 : List Cond := [Cond.selects RX0 yX0_lastOnWay yX0_lastOnWay, Cond.code yX0_lastOnWay cX0_lastOnWay 4 (some .int), Cond.methodLink RX0 78 yX0_isPlace, Cond.methodLink RX1 207 yX1_placesAbove, Cond.instanceMethod yX1_placesAbove, Cond.selects RX1 yX1_placesAbove yX1_placesAbove, Cond.code yX1_placesAbove cX1_placesAbove 4 (some .int), Cond.methodLink RX1 112 yX0_size, Cond.instanceMethod yX0_size, Cond.selects RX0 yX0_size yX0_size, Cond.code yX0_size cX0_size 1 (some .int), Cond.methodLink RX1 69 yX0_flowsTo, Cond.instanceMethod yX0_flowsTo, Cond.selects RX0 yX0_flowsTo yX0_flowsTo, Cond.code yX0_flowsTo cX0_flowsTo 5 (some .boolean), Cond.methodLink RX1 210 yX1_nameAt, Cond.instanceMethod yX1_nameAt, Cond.selects RX1 yX1_nameAt yX1_nameAt, Cond.code yX1_nameAt cX1_nameAt 2 (some .int), Cond.methodLink RX1 100 yX0_nameOf, Cond.instanceMethod yX0_nameOf, Cond.selects RX0 yX0_nameOf yX0_nameOf, Cond.code yX0_nameOf cX0_nameOf 2 (some .int), Cond.fieldLink RX0 47 "RiverNames$Land" "names" "[I"]
def wsX1_mixPlace_r5 : List Cond := [Cond.methodLink RX1 213 yX1_arguing, Cond.instanceMethod yX1_arguing, Cond.selects RX1 yX1_arguing yX1_arguing, Cond.code yX1_arguing cX1_arguing 2 (some .int), Cond.methodLink RX1 134 yX0_arguersAt, Cond.instanceMethod yX0_arguersAt, Cond.selects RX0 yX0_arguersAt yX0_arguersAt, Cond.code yX0_arguersAt cX0_arguersAt 2 (some .int), Cond.fieldLink RX0 50 "RiverNames$Land" "arguers" "[I", Cond.methodLink RX1 216 yX1_isArgued, Cond.instanceMethod yX1_isArgued, Cond.selects RX1 yX1_isArgued yX1_isArgued, Cond.code yX1_isArgued cX1_isArgued 2 (some .boolean), Cond.methodLink RX1 137 yX0_isDisputed, Cond.instanceMethod yX0_isDisputed, Cond.selects RX0 yX0_isDisputed yX0_isDisputed, Cond.code yX0_isDisputed cX0_isDisputed 2 (some .boolean), Cond.fieldLink RX0 53 "RiverNames$Land" "disputed" "[Z"]
def wsX1_mixPlace : List Cond := .code yX1_mixPlace cX1_mixPlace 6 (some .long) :: ((wsX1_mixPlace_r1 ++ (wsX1_mixPlace_r2 ++ (wsX1_mixPlace_r3 ++ (wsX1_mixPlace_r4 ++ wsX1_mixPlace_r5)))) ++ wsX10 ++ wsX00 ++ (vx_atS RX1 237 "java/lang/IndexOutOfBoundsException" ["java/lang/RuntimeException", "java/lang/Exception"]).filter goodWord)
def wsX1_mixBridge_r1 : List Cond := [Cond.methodLink RX1 219 yX1_placeOf, Cond.instanceMethod yX1_placeOf, Cond.selects RX1 yX1_placeOf yX1_placeOf, Cond.initialized RX1, Cond.code yX1_placeOf cX1_placeOf 2 (some .int), Cond.fieldLink RX1 19 "RiverNames" "bridgePlaces" "[I", Cond.methodLink RX1 143 yX1_requireBridge, Cond.instanceMethod yX1_requireBridge, Cond.selects RX1 yX1_requireBridge yX1_requireBridge, Cond.code yX1_requireBridge cX1_requireBridge 2 none, Cond.classLink RX1 233 "java/lang/IndexOutOfBoundsException", Cond.initialized "java/lang/IndexOutOfBoundsException", Cond.fieldLink RX1 26 "RiverNames" "bridgeCount" "I", Cond.methodLink RX1 162 yX1_mix, Cond.static yX1_mix, Cond.code yX1_mix cX1_mix 4 (some .long), Cond.constantLong RX1 228 (31), Cond.methodLink RX1 222 yX1_keeps, Cond.instanceMethod yX1_keeps, Cond.selects RX1 yX1_keeps yX1_keeps, Cond.code yX1_keeps cX1_keeps 2 (some .int), Cond.fieldLink RX1 23 "RiverNames" "bridgeNames" "[I", Cond.methodLink RX1 225 yX1_isInsulted, Cond.instanceMethod yX1_isInsulted]
def wsX1_mixBridge_r2 : List Cond := [Cond.selects RX1 yX1_isInsulted yX1_isInsulted, Cond.code yX1_isInsulted cX1_isInsulted 2 (some .boolean), Cond.methodLink RX1 146 yX1_suffersInsult, Cond.instanceMethod yX1_suffersInsult, Cond.selects RX1 yX1_suffersInsult yX1_suffersInsult, Cond.code yX1_suffersInsult cX1_suffersInsult 3 (some .boolean), Cond.fieldLink RX1 10 "RiverNames" "land" "LRiverNames$Land;", Cond.methodLink RX1 100 yX0_nameOf, Cond.instanceMethod yX0_nameOf, Cond.selects RX0 yX0_nameOf yX0_nameOf, Cond.initialized RX0, Cond.code yX0_nameOf cX0_nameOf 2 (some .int), Cond.fieldLink RX0 47 "RiverNames$Land" "names" "[I", Cond.methodLink RX1 191 yX1_bit, Cond.static yX1_bit, Cond.code yX1_bit cX1_bit 1 (some .long)]
def wsX1_mixBridge : List Cond := .code yX1_mixBridge cX1_mixBridge 6 (some .long) :: ((wsX1_mixBridge_r1 ++ wsX1_mixBridge_r2) ++ wsX10 ++ wsX00 ++ (vx_atS RX1 237 "java/lang/IndexOutOfBoundsException" ["java/lang/RuntimeException", "java/lang/Exception"]).filter goodWord)
def wsX1_digest_r1 : List Cond := [Cond.constantLong RX1 160 (2027), Cond.fieldLink RX1 30 "RiverNames" "yearNow" "I", Cond.fieldLink RX1 10 "RiverNames" "land" "LRiverNames$Land;", Cond.fieldLink RX1 26 "RiverNames" "bridgeCount" "I", Cond.methodLink RX1 162 yX1_mix, Cond.static yX1_mix, Cond.initialized RX1, Cond.code yX1_mix cX1_mix 4 (some .long), Cond.constantLong RX1 228 (31), Cond.methodLink RX1 112 yX0_size, Cond.instanceMethod yX0_size, Cond.selects RX0 yX0_size yX0_size, Cond.initialized RX0, Cond.code yX0_size cX0_size 1 (some .int), Cond.fieldLink RX0 9 "RiverNames$Land" "count" "I", Cond.methodLink RX1 109 yX1_countInsults, Cond.instanceMethod yX1_countInsults, Cond.selects RX1 yX1_countInsults yX1_countInsults, Cond.code yX1_countInsults cX1_countInsults 3 (some .int), Cond.methodLink RX1 146 yX1_suffersInsult, Cond.instanceMethod yX1_suffersInsult, Cond.selects RX1 yX1_suffersInsult yX1_suffersInsult, Cond.code yX1_suffersInsult cX1_suffersInsult 3 (some .boolean), Cond.fieldLink RX1 23 "RiverNames" "bridgeNames" "[I"]
def wsX1_digest_r2 : List Cond := [Cond.fieldLink RX1 19 "RiverNames" "bridgePlaces" "[I", Cond.methodLink RX1 100 yX0_nameOf, Cond.instanceMethod yX0_nameOf, Cond.selects RX0 yX0_nameOf yX0_nameOf, Cond.code yX0_nameOf cX0_nameOf 2 (some .int), Cond.fieldLink RX0 47 "RiverNames$Land" "names" "[I", Cond.methodLink RX1 166 yX1_greatestName, Cond.instanceMethod yX1_greatestName, Cond.selects RX1 yX1_greatestName yX1_greatestName, Cond.code yX1_greatestName cX1_greatestName 5 (some .int), Cond.methodLink RX1 140 yX0_countNamed, Cond.instanceMethod yX0_countNamed, Cond.selects RX0 yX0_countNamed yX0_countNamed, Cond.code yX0_countNamed cX0_countNamed 4 (some .int), Cond.methodLink RX1 169 yX1_nameless, Cond.instanceMethod yX1_nameless, Cond.selects RX1 yX1_nameless yX1_nameless, Cond.code yX1_nameless cX1_nameless 1 (some .int), Cond.methodLink RX1 172 yX1_weightiestSpring, Cond.instanceMethod yX1_weightiestSpring, Cond.selects RX1 yX1_weightiestSpring yX1_weightiestSpring, Cond.code yX1_weightiestSpring cX1_weightiestSpring 5 (some .int), Cond.fieldLink RX1 16 "RiverNames" "trial" "LRiverNames$Land;", Cond.methodLink RX1 118 yX0_springWaterOf]
def wsX1_digest_r3 : List Cond := [Cond.instanceMethod yX0_springWaterOf, Cond.selects RX0 yX0_springWaterOf yX0_springWaterOf, Cond.code yX0_springWaterOf cX0_springWaterOf 2 (some .int), Cond.fieldLink RX0 32 "RiverNames$Land" "springWater" "[I", Cond.methodLink RX1 149 yX0_takeOver, Cond.instanceMethod yX0_takeOver, Cond.selects RX0 yX0_takeOver yX0_takeOver, Cond.code yX0_takeOver cX0_takeOver 3 none, Cond.fieldLink RX0 15 "RiverNames$Land" "rule" "I", Cond.fieldLink RX0 18 "RiverNames$Land" "ways" "[I", Cond.fieldLink RX0 22 "RiverNames$Land" "stepsToSea" "[I", Cond.fieldLink RX0 25 "RiverNames$Land" "sprung" "[Z", Cond.fieldLink RX0 29 "RiverNames$Land" "springNames" "[I", Cond.fieldLink RX0 35 "RiverNames$Land" "swells" "[I", Cond.fieldLink RX0 38 "RiverNames$Land" "deltas" "[Z", Cond.methodLink RX1 153 yX0_dryUp, Cond.instanceMethod yX0_dryUp, Cond.selects RX0 yX0_dryUp yX0_dryUp, Cond.code yX0_dryUp cX0_dryUp 2 none, Cond.methodLink RX0 62 yX0_settle, Cond.instanceMethod yX0_settle, Cond.selects RX0 yX0_settle yX0_settle, Cond.code yX0_settle cX0_settle 3 none, Cond.methodLink RX0 86 yX0_rise]
def wsX1_digest_r4 : List Cond := [Cond.instanceMethod yX0_rise, Cond.selects RX0 yX0_rise yX0_rise, Cond.code yX0_rise cX0_rise 4 none, Cond.fieldLink RX0 41 "RiverNames$Land" "water" "[I", Cond.fieldLink RX0 44 "RiverNames$Land" "lengths" "[I", Cond.fieldLink RX0 50 "RiverNames$Land" "arguers" "[I", Cond.fieldLink RX0 53 "RiverNames$Land" "disputed" "[Z", Cond.fieldLink RX0 56 "RiverNames$Land" "winners" "[I", Cond.fieldLink RX0 59 "RiverNames$Land" "strengths" "[I", Cond.methodLink RX0 94 yX0_argue, Cond.instanceMethod yX0_argue, Cond.selects RX0 yX0_argue yX0_argue, Cond.code yX0_argue cX0_argue 6 none, Cond.methodLink RX0 90 yX0_flowOn, Cond.instanceMethod yX0_flowOn, Cond.selects RX0 yX0_flowOn yX0_flowOn, Cond.code yX0_flowOn cX0_flowOn 4 none, Cond.methodLink RX0 75 Lib.Math.max.name, Cond.static Lib.Math.max.name, Cond.initialized "java/lang/Math", Cond.code Lib.Math.max.name Lib.Math.max.code 2 (some .int), Cond.methodLink RX0 78 yX0_isPlace, Cond.instanceMethod yX0_isPlace, Cond.selects RX0 yX0_isPlace yX0_isPlace]
def wsX1_digest_r5 : List Cond := [Cond.code yX0_isPlace cX0_isPlace 2 (some .boolean), Cond.methodLink RX1 156 yX0_countNamedOtherThan, Cond.instanceMethod yX0_countNamedOtherThan, Cond.selects RX0 yX0_countNamedOtherThan yX0_countNamedOtherThan, Cond.code yX0_countNamedOtherThan cX0_countNamedOtherThan 4 (some .int), Cond.methodLink RX1 175 yX1_renamedByRule, Cond.instanceMethod yX1_renamedByRule, Cond.selects RX1 yX1_renamedByRule yX1_renamedByRule, Cond.code yX1_renamedByRule cX1_renamedByRule 1 (some .int), Cond.methodLink RX1 92 yX0_ruleNow, Cond.instanceMethod yX0_ruleNow, Cond.selects RX0 yX0_ruleNow yX0_ruleNow, Cond.code yX0_ruleNow cX0_ruleNow 1 (some .int), Cond.methodLink RX1 95 yX0_useRule, Cond.instanceMethod yX0_useRule, Cond.selects RX0 yX0_useRule yX0_useRule, Cond.code yX0_useRule cX0_useRule 2 none, Cond.methodLink RX1 178 yX1_mixPlace, Cond.instanceMethod yX1_mixPlace, Cond.selects RX1 yX1_mixPlace yX1_mixPlace, Cond.code yX1_mixPlace cX1_mixPlace 6 (some .long), Cond.methodLink RX1 185 yX1_leadsTo, Cond.instanceMethod yX1_leadsTo, Cond.selects RX1 yX1_leadsTo yX1_leadsTo]
def wsX1_digest_r6 : List Cond := [Cond.code yX1_leadsTo cX1_leadsTo 2 (some .int), Cond.methodLink RX1 61 yX1_requirePlace, Cond.instanceMethod yX1_requirePlace, Cond.selects RX1 yX1_requirePlace yX1_requirePlace, Cond.code yX1_requirePlace cX1_requirePlace 2 none, Cond.classLink RX1 233 "java/lang/IndexOutOfBoundsException", Cond.initialized "java/lang/IndexOutOfBoundsException", Cond.methodLink RX1 230 yX0_isPlace, Cond.methodLink RX1 75 yX0_next, Cond.instanceMethod yX0_next, Cond.selects RX0 yX0_next yX0_next, Cond.code yX0_next cX0_next 2 (some .int), Cond.methodLink RX1 188 yX1_hasSpring, Cond.instanceMethod yX1_hasSpring, Cond.selects RX1 yX1_hasSpring yX1_hasSpring, Cond.code yX1_hasSpring cX1_hasSpring 2 (some .boolean), Cond.methodLink RX1 115 yX0_isSprung, Cond.instanceMethod yX0_isSprung, Cond.selects RX0 yX0_isSprung yX0_isSprung, Cond.code yX0_isSprung cX0_isSprung 2 (some .boolean), Cond.methodLink RX1 191 yX1_bit, Cond.static yX1_bit, Cond.code yX1_bit cX1_bit 1 (some .long), Cond.methodLink RX1 195 yX1_springOf]
def wsX1_digest_r7 : List Cond := [Cond.instanceMethod yX1_springOf, Cond.selects RX1 yX1_springOf yX1_springOf, Cond.code yX1_springOf cX1_springOf 2 (some .int), Cond.methodLink RX1 198 yX1_waterAt, Cond.instanceMethod yX1_waterAt, Cond.selects RX1 yX1_waterAt yX1_waterAt, Cond.code yX1_waterAt cX1_waterAt 2 (some .int), Cond.methodLink RX1 121 yX0_waterOf, Cond.instanceMethod yX0_waterOf, Cond.selects RX0 yX0_waterOf yX0_waterOf, Cond.code yX0_waterOf cX0_waterOf 2 (some .int), Cond.methodLink RX1 201 yX1_lengthAt, Cond.instanceMethod yX1_lengthAt, Cond.selects RX1 yX1_lengthAt yX1_lengthAt, Cond.code yX1_lengthAt cX1_lengthAt 2 (some .int), Cond.methodLink RX1 124 yX0_lengthOf, Cond.instanceMethod yX0_lengthOf, Cond.selects RX0 yX0_lengthOf yX0_lengthOf, Cond.code yX0_lengthOf cX0_lengthOf 2 (some .int), Cond.methodLink RX1 204 yX1_mouthOf, Cond.instanceMethod yX1_mouthOf, Cond.selects RX1 yX1_mouthOf yX1_mouthOf, Cond.code yX1_mouthOf cX1_mouthOf 2 (some .int), Cond.methodLink RX1 127 yX0_lastOnWay]
def wsX1_digest_r8 : List Cond := [Cond.instanceMethod yX0_lastOnWay, Cond.selects RX0 yX0_lastOnWay yX0_lastOnWay, Cond.code yX0_lastOnWay cX0_lastOnWay 4 (some .int), Cond.methodLink RX1 207 yX1_placesAbove, Cond.instanceMethod yX1_placesAbove, Cond.selects RX1 yX1_placesAbove yX1_placesAbove, Cond.code yX1_placesAbove cX1_placesAbove 4 (some .int), Cond.methodLink RX1 69 yX0_flowsTo, Cond.instanceMethod yX0_flowsTo, Cond.selects RX0 yX0_flowsTo yX0_flowsTo, Cond.code yX0_flowsTo cX0_flowsTo 5 (some .boolean), Cond.methodLink RX1 210 yX1_nameAt, Cond.instanceMethod yX1_nameAt, Cond.selects RX1 yX1_nameAt yX1_nameAt, Cond.code yX1_nameAt cX1_nameAt 2 (some .int), Cond.methodLink RX1 213 yX1_arguing, Cond.instanceMethod yX1_arguing, Cond.selects RX1 yX1_arguing yX1_arguing, Cond.code yX1_arguing cX1_arguing 2 (some .int), Cond.methodLink RX1 134 yX0_arguersAt, Cond.instanceMethod yX0_arguersAt, Cond.selects RX0 yX0_arguersAt yX0_arguersAt, Cond.code yX0_arguersAt cX0_arguersAt 2 (some .int), Cond.methodLink RX1 216 yX1_isArgued]
def wsX1_digest_r9 : List Cond := [Cond.instanceMethod yX1_isArgued, Cond.selects RX1 yX1_isArgued yX1_isArgued, Cond.code yX1_isArgued cX1_isArgued 2 (some .boolean), Cond.methodLink RX1 137 yX0_isDisputed, Cond.instanceMethod yX0_isDisputed, Cond.selects RX0 yX0_isDisputed yX0_isDisputed, Cond.code yX0_isDisputed cX0_isDisputed 2 (some .boolean), Cond.methodLink RX1 182 yX1_mixBridge, Cond.instanceMethod yX1_mixBridge, Cond.selects RX1 yX1_mixBridge yX1_mixBridge, Cond.code yX1_mixBridge cX1_mixBridge 6 (some .long), Cond.methodLink RX1 219 yX1_placeOf, Cond.instanceMethod yX1_placeOf, Cond.selects RX1 yX1_placeOf yX1_placeOf, Cond.code yX1_placeOf cX1_placeOf 2 (some .int), Cond.methodLink RX1 143 yX1_requireBridge, Cond.instanceMethod yX1_requireBridge, Cond.selects RX1 yX1_requireBridge yX1_requireBridge, Cond.code yX1_requireBridge cX1_requireBridge 2 none, Cond.methodLink RX1 222 yX1_keeps, Cond.instanceMethod yX1_keeps, Cond.selects RX1 yX1_keeps yX1_keeps, Cond.code yX1_keeps cX1_keeps 2 (some .int), Cond.methodLink RX1 225 yX1_isInsulted]
def wsX1_digest_r10 : List Cond := [Cond.instanceMethod yX1_isInsulted, Cond.selects RX1 yX1_isInsulted yX1_isInsulted, Cond.code yX1_isInsulted cX1_isInsulted 2 (some .boolean)]
def wsX1_digest : List Cond := .code yX1_digest cX1_digest 4 (some .long) :: ((wsX1_digest_r1 ++ (wsX1_digest_r2 ++ (wsX1_digest_r3 ++ (wsX1_digest_r4 ++ (wsX1_digest_r5 ++ (wsX1_digest_r6 ++ (wsX1_digest_r7 ++ (wsX1_digest_r8 ++ (wsX1_digest_r9 ++ wsX1_digest_r10))))))))) ++ wsX10 ++ wsX00 ++ (vx_atS RX1 237 "java/lang/IndexOutOfBoundsException" ["java/lang/RuntimeException", "java/lang/Exception"]).filter goodWord)
def wsX2_init : List Cond := .code yX2_init cX2_init 1 none :: ([.methodLink RX2 1 objectInit, .instanceMethod objectInit, .code objectInit ⟨#[0xb1]⟩ 1 none, .classLink RX2 7 "[I", .fieldLink RX2 9 "RiverNamesLaw$Sim" "places" "[[I", .fieldLink RX2 15 "RiverNamesLaw$Sim" "bridges" "[[I"] ++ wsX20)
def wsX2_with : List Cond := .code yX2_with cX2_with 4 (some (.array (.array .int))) :: ([.classLink RX2 7 "[I"])
def wsX2_isAbove : List Cond := .code yX2_isAbove cX2_isAbove 4 (some .boolean) :: ([.fieldLink RX2 9 "RiverNamesLaw$Sim" "places" "[[I"] ++ wsX20)
def wsX2_hasWater : List Cond := .code yX2_hasWater cX2_hasWater 2 (some .boolean) :: ([.fieldLink RX2 9 "RiverNamesLaw$Sim" "places" "[[I"] ++ wsX20)
def wsX2_arguers : List Cond := .code yX2_arguers cX2_arguers 7 (some (.array .int)) :: ([.arrayClass .int, .fieldLink RX2 9 "RiverNamesLaw$Sim" "places" "[[I", .methodLink RX2 35 yX2_hasWater, .instanceMethod yX2_hasWater, .selects RX2 yX2_hasWater yX2_hasWater, .initialized RX2, .code yX2_hasWater cX2_hasWater 2 (some .boolean)] ++ wsX20)
def wsX2_called : List Cond := .code yX2_called cX2_called 4 (some .int) :: ([.fieldLink RX2 9 "RiverNamesLaw$Sim" "places" "[[I"] ++ wsX20)
def wsX2_winner : List Cond := .code yX2_winner cX2_winner 10 (some .int) :: ([.fieldLink RX2 19 "RiverNamesLaw$Sim" "rule" "I", .fieldLink RX2 9 "RiverNamesLaw$Sim" "places" "[[I", .methodLink RX2 43 yX2_arguers, .instanceMethod yX2_arguers, .selects RX2 yX2_arguers yX2_arguers, .initialized RX2, .code yX2_arguers cX2_arguers 7 (some (.array .int)), .arrayClass .int, .methodLink RX2 35 yX2_hasWater, .instanceMethod yX2_hasWater, .selects RX2 yX2_hasWater yX2_hasWater, .code yX2_hasWater cX2_hasWater 2 (some .boolean), .methodLink RX2 47 yX2_called, .instanceMethod yX2_called, .selects RX2 yX2_called yX2_called, .code yX2_called cX2_called 4 (some .int)] ++ wsX20)
def wsX2_flow : List Cond := .code yX2_flow cX2_flow 8 (some (.array (.array .int))) :: ([.fieldLink RX2 9 "RiverNamesLaw$Sim" "places" "[[I", .classLink RX2 34 "[[I", .arrayClass .int, .arrayClass .boolean, .methodLink RX2 35 yX2_hasWater, .instanceMethod yX2_hasWater, .selects RX2 yX2_hasWater yX2_hasWater, .initialized RX2, .code yX2_hasWater cX2_hasWater 2 (some .boolean), .methodLink RX2 39 yX2_winner, .instanceMethod yX2_winner, .selects RX2 yX2_winner yX2_winner, .code yX2_winner cX2_winner 10 (some .int), .fieldLink RX2 19 "RiverNamesLaw$Sim" "rule" "I", .methodLink RX2 43 yX2_arguers, .instanceMethod yX2_arguers, .selects RX2 yX2_arguers yX2_arguers, .code yX2_arguers cX2_arguers 7 (some (.array .int)), .methodLink RX2 47 yX2_called, .instanceMethod yX2_called, .selects RX2 yX2_called yX2_called, .code yX2_called cX2_called 4 (some .int)] ++ wsX20)
def wsX2_names_r1 : List Cond := [Cond.methodLink RX2 51 yX2_flow, Cond.instanceMethod yX2_flow, Cond.selects RX2 yX2_flow yX2_flow, Cond.initialized RX2, Cond.code yX2_flow cX2_flow 8 (some (.array (.array .int))), Cond.fieldLink RX2 9 "RiverNamesLaw$Sim" "places" "[[I", Cond.classLink RX2 34 "[[I", Cond.arrayClass .int, Cond.arrayClass .boolean, Cond.methodLink RX2 35 yX2_hasWater, Cond.instanceMethod yX2_hasWater, Cond.selects RX2 yX2_hasWater yX2_hasWater, Cond.code yX2_hasWater cX2_hasWater 2 (some .boolean), Cond.methodLink RX2 39 yX2_winner, Cond.instanceMethod yX2_winner, Cond.selects RX2 yX2_winner yX2_winner, Cond.code yX2_winner cX2_winner 10 (some .int), Cond.fieldLink RX2 19 "RiverNamesLaw$Sim" "rule" "I", Cond.methodLink RX2 43 yX2_arguers, Cond.instanceMethod yX2_arguers, Cond.selects RX2 yX2_arguers yX2_arguers, Cond.code yX2_arguers cX2_arguers 7 (some (.array .int)), Cond.methodLink RX2 47 yX2_called, Cond.instanceMethod yX2_called]
def wsX2_names_r2 : List Cond := [Cond.selects RX2 yX2_called yX2_called, Cond.code yX2_called cX2_called 4 (some .int)]
def wsX2_names : List Cond := .code yX2_names cX2_names 1 (some (.array .int)) :: ((wsX2_names_r1 ++ wsX2_names_r2) ++ wsX20)
def wsX2_differ : List Cond := .code yX2_differ cX2_differ 4 (some .int) :: ([])
def wsX2_pass : List Cond := .code yX2_pass cX2_pass 8 none :: ([.fieldLink RX2 9 "RiverNamesLaw$Sim" "places" "[[I", .fieldLink RX2 23 "RiverNamesLaw$Sim" "year" "I"] ++ wsX20)
def wsX2_insults : List Cond := .code yX2_insults cX2_insults 7 (some .int) :: ([.fieldLink RX2 15 "RiverNamesLaw$Sim" "bridges" "[[I"] ++ wsX20)
def wsX2_isSame_r1 : List Cond := [Cond.fieldLink RX2 9 "RiverNamesLaw$Sim" "places" "[[I", Cond.arrayClass .int, Cond.fieldLink RX2 15 "RiverNamesLaw$Sim" "bridges" "[[I", Cond.fieldLink RX2 23 "RiverNamesLaw$Sim" "year" "I", Cond.methodLink RX2 51 yX2_flow, Cond.instanceMethod yX2_flow, Cond.selects RX2 yX2_flow yX2_flow, Cond.initialized RX2, Cond.code yX2_flow cX2_flow 8 (some (.array (.array .int))), Cond.classLink RX2 34 "[[I", Cond.arrayClass .boolean, Cond.methodLink RX2 35 yX2_hasWater, Cond.instanceMethod yX2_hasWater, Cond.selects RX2 yX2_hasWater yX2_hasWater, Cond.code yX2_hasWater cX2_hasWater 2 (some .boolean), Cond.methodLink RX2 39 yX2_winner, Cond.instanceMethod yX2_winner, Cond.selects RX2 yX2_winner yX2_winner, Cond.code yX2_winner cX2_winner 10 (some .int), Cond.fieldLink RX2 19 "RiverNamesLaw$Sim" "rule" "I", Cond.methodLink RX2 43 yX2_arguers, Cond.instanceMethod yX2_arguers, Cond.selects RX2 yX2_arguers yX2_arguers, Cond.code yX2_arguers cX2_arguers 7 (some (.array .int))]
def wsX2_isSame_r2 : List Cond := [Cond.methodLink RX2 47 yX2_called, Cond.instanceMethod yX2_called, Cond.selects RX2 yX2_called yX2_called, Cond.code yX2_called cX2_called 4 (some .int), Cond.methodLink RX2 55 yX2_isAbove, Cond.instanceMethod yX2_isAbove, Cond.selects RX2 yX2_isAbove yX2_isAbove, Cond.code yX2_isAbove cX2_isAbove 4 (some .boolean), Cond.methodLink RX2 59 yX1_leadsTo, Cond.instanceMethod yX1_leadsTo, Cond.selects RX1 yX1_leadsTo yX1_leadsTo, Cond.initialized RX1, Cond.code yX1_leadsTo cX1_leadsTo 2 (some .int), Cond.fieldLink RX1 10 "RiverNames" "land" "LRiverNames$Land;", Cond.methodLink RX1 61 yX1_requirePlace, Cond.instanceMethod yX1_requirePlace, Cond.selects RX1 yX1_requirePlace yX1_requirePlace, Cond.code yX1_requirePlace cX1_requirePlace 2 none, Cond.classLink RX1 233 "java/lang/IndexOutOfBoundsException", Cond.initialized "java/lang/IndexOutOfBoundsException", Cond.methodLink RX1 230 yX0_isPlace, Cond.instanceMethod yX0_isPlace, Cond.selects RX0 yX0_isPlace yX0_isPlace, Cond.initialized RX0]
def wsX2_isSame_r3 : List Cond := [Cond.code yX0_isPlace cX0_isPlace 2 (some .boolean), Cond.fieldLink RX0 9 "RiverNames$Land" "count" "I", Cond.methodLink RX1 75 yX0_next, Cond.instanceMethod yX0_next, Cond.selects RX0 yX0_next yX0_next, Cond.code yX0_next cX0_next 2 (some .int), Cond.fieldLink RX0 18 "RiverNames$Land" "ways" "[I", Cond.methodLink RX2 65 yX1_hasSpring, Cond.instanceMethod yX1_hasSpring, Cond.selects RX1 yX1_hasSpring yX1_hasSpring, Cond.code yX1_hasSpring cX1_hasSpring 2 (some .boolean), Cond.methodLink RX1 115 yX0_isSprung, Cond.instanceMethod yX0_isSprung, Cond.selects RX0 yX0_isSprung yX0_isSprung, Cond.code yX0_isSprung cX0_isSprung 2 (some .boolean), Cond.fieldLink RX0 25 "RiverNames$Land" "sprung" "[Z", Cond.methodLink RX2 68 yX1_springOf, Cond.instanceMethod yX1_springOf, Cond.selects RX1 yX1_springOf yX1_springOf, Cond.code yX1_springOf cX1_springOf 2 (some .int), Cond.methodLink RX1 118 yX0_springWaterOf, Cond.instanceMethod yX0_springWaterOf, Cond.selects RX0 yX0_springWaterOf yX0_springWaterOf, Cond.code yX0_springWaterOf cX0_springWaterOf 2 (some .int)]
def wsX2_isSame_r4 : List Cond := [Cond.fieldLink RX0 32 "RiverNames$Land" "springWater" "[I", Cond.methodLink RX2 71 yX1_waterAt, Cond.instanceMethod yX1_waterAt, Cond.selects RX1 yX1_waterAt yX1_waterAt, Cond.code yX1_waterAt cX1_waterAt 2 (some .int), Cond.methodLink RX1 121 yX0_waterOf, Cond.instanceMethod yX0_waterOf, Cond.selects RX0 yX0_waterOf yX0_waterOf, Cond.code yX0_waterOf cX0_waterOf 2 (some .int), Cond.fieldLink RX0 41 "RiverNames$Land" "water" "[I", Cond.methodLink RX2 74 yX1_lengthAt, Cond.instanceMethod yX1_lengthAt, Cond.selects RX1 yX1_lengthAt yX1_lengthAt, Cond.code yX1_lengthAt cX1_lengthAt 2 (some .int), Cond.methodLink RX1 124 yX0_lengthOf, Cond.instanceMethod yX0_lengthOf, Cond.selects RX0 yX0_lengthOf yX0_lengthOf, Cond.code yX0_lengthOf cX0_lengthOf 2 (some .int), Cond.fieldLink RX0 44 "RiverNames$Land" "lengths" "[I", Cond.methodLink RX2 77 yX1_mouthOf, Cond.instanceMethod yX1_mouthOf, Cond.selects RX1 yX1_mouthOf yX1_mouthOf, Cond.code yX1_mouthOf cX1_mouthOf 2 (some .int), Cond.methodLink RX1 127 yX0_lastOnWay]
def wsX2_isSame_r5 : List Cond := [Cond.instanceMethod yX0_lastOnWay, Cond.selects RX0 yX0_lastOnWay yX0_lastOnWay, Cond.code yX0_lastOnWay cX0_lastOnWay 4 (some .int), Cond.methodLink RX0 78 yX0_isPlace, Cond.methodLink RX2 80 yX1_placesAbove, Cond.instanceMethod yX1_placesAbove, Cond.selects RX1 yX1_placesAbove yX1_placesAbove, Cond.code yX1_placesAbove cX1_placesAbove 4 (some .int), Cond.methodLink RX1 112 yX0_size, Cond.instanceMethod yX0_size, Cond.selects RX0 yX0_size yX0_size, Cond.code yX0_size cX0_size 1 (some .int), Cond.methodLink RX1 69 yX0_flowsTo, Cond.instanceMethod yX0_flowsTo, Cond.selects RX0 yX0_flowsTo yX0_flowsTo, Cond.code yX0_flowsTo cX0_flowsTo 5 (some .boolean), Cond.methodLink RX2 83 yX1_nameAt, Cond.instanceMethod yX1_nameAt, Cond.selects RX1 yX1_nameAt yX1_nameAt, Cond.code yX1_nameAt cX1_nameAt 2 (some .int), Cond.methodLink RX1 100 yX0_nameOf, Cond.instanceMethod yX0_nameOf, Cond.selects RX0 yX0_nameOf yX0_nameOf, Cond.code yX0_nameOf cX0_nameOf 2 (some .int)]
def wsX2_isSame_r6 : List Cond := [Cond.fieldLink RX0 47 "RiverNames$Land" "names" "[I", Cond.methodLink RX2 86 yX1_arguing, Cond.instanceMethod yX1_arguing, Cond.selects RX1 yX1_arguing yX1_arguing, Cond.code yX1_arguing cX1_arguing 2 (some .int), Cond.methodLink RX1 134 yX0_arguersAt, Cond.instanceMethod yX0_arguersAt, Cond.selects RX0 yX0_arguersAt yX0_arguersAt, Cond.code yX0_arguersAt cX0_arguersAt 2 (some .int), Cond.fieldLink RX0 50 "RiverNames$Land" "arguers" "[I", Cond.methodLink RX2 89 yX1_isArgued, Cond.instanceMethod yX1_isArgued, Cond.selects RX1 yX1_isArgued yX1_isArgued, Cond.code yX1_isArgued cX1_isArgued 2 (some .boolean), Cond.methodLink RX1 137 yX0_isDisputed, Cond.instanceMethod yX0_isDisputed, Cond.selects RX0 yX0_isDisputed yX0_isDisputed, Cond.code yX0_isDisputed cX0_isDisputed 2 (some .boolean), Cond.fieldLink RX0 53 "RiverNames$Land" "disputed" "[Z", Cond.methodLink RX2 92 yX1_insultsAt, Cond.instanceMethod yX1_insultsAt, Cond.selects RX1 yX1_insultsAt yX1_insultsAt, Cond.code yX1_insultsAt cX1_insultsAt 4 (some .int), Cond.fieldLink RX1 26 "RiverNames" "bridgeCount" "I"]
def wsX2_isSame_r7 : List Cond := [Cond.fieldLink RX1 19 "RiverNames" "bridgePlaces" "[I", Cond.methodLink RX1 146 yX1_suffersInsult, Cond.instanceMethod yX1_suffersInsult, Cond.selects RX1 yX1_suffersInsult yX1_suffersInsult, Cond.code yX1_suffersInsult cX1_suffersInsult 3 (some .boolean), Cond.fieldLink RX1 23 "RiverNames" "bridgeNames" "[I", Cond.methodLink RX2 95 yX1_placesNamed, Cond.instanceMethod yX1_placesNamed, Cond.selects RX1 yX1_placesNamed yX1_placesNamed, Cond.code yX1_placesNamed cX1_placesNamed 2 (some .int), Cond.methodLink RX1 40 yX1_requireName, Cond.static yX1_requireName, Cond.code yX1_requireName cX1_requireName 1 none, Cond.methodLink RX1 44 yX1_isWithin, Cond.static yX1_isWithin, Cond.code yX1_isWithin cX1_isWithin 3 (some .boolean), Cond.methodLink RX1 140 yX0_countNamed, Cond.instanceMethod yX0_countNamed, Cond.selects RX0 yX0_countNamed yX0_countNamed, Cond.code yX0_countNamed cX0_countNamed 4 (some .int), Cond.methodLink RX2 98 yX1_placeOf, Cond.instanceMethod yX1_placeOf, Cond.selects RX1 yX1_placeOf yX1_placeOf, Cond.code yX1_placeOf cX1_placeOf 2 (some .int)]
def wsX2_isSame_r8 : List Cond := [Cond.methodLink RX1 143 yX1_requireBridge, Cond.instanceMethod yX1_requireBridge, Cond.selects RX1 yX1_requireBridge yX1_requireBridge, Cond.code yX1_requireBridge cX1_requireBridge 2 none, Cond.methodLink RX2 101 yX1_keeps, Cond.instanceMethod yX1_keeps, Cond.selects RX1 yX1_keeps yX1_keeps, Cond.code yX1_keeps cX1_keeps 2 (some .int), Cond.methodLink RX2 104 yX1_isInsulted, Cond.instanceMethod yX1_isInsulted, Cond.selects RX1 yX1_isInsulted yX1_isInsulted, Cond.code yX1_isInsulted cX1_isInsulted 2 (some .boolean), Cond.methodLink RX2 107 yX1_year, Cond.instanceMethod yX1_year, Cond.selects RX1 yX1_year yX1_year, Cond.code yX1_year cX1_year 1 (some .int), Cond.fieldLink RX1 30 "RiverNames" "yearNow" "I", Cond.methodLink RX2 110 yX1_places, Cond.instanceMethod yX1_places, Cond.selects RX1 yX1_places yX1_places, Cond.code yX1_places cX1_places 1 (some .int), Cond.methodLink RX2 112 yX1_bridges, Cond.instanceMethod yX1_bridges, Cond.selects RX1 yX1_bridges yX1_bridges]
def wsX2_isSame_r9 : List Cond := [Cond.code yX1_bridges cX1_bridges 1 (some .int), Cond.methodLink RX2 114 yX1_insults, Cond.instanceMethod yX1_insults, Cond.selects RX1 yX1_insults yX1_insults, Cond.code yX1_insults cX1_insults 1 (some .int), Cond.methodLink RX1 109 yX1_countInsults, Cond.instanceMethod yX1_countInsults, Cond.selects RX1 yX1_countInsults yX1_countInsults, Cond.code yX1_countInsults cX1_countInsults 3 (some .int), Cond.methodLink RX2 117 yX2_insults, Cond.instanceMethod yX2_insults, Cond.selects RX2 yX2_insults yX2_insults, Cond.code yX2_insults cX2_insults 7 (some .int), Cond.methodLink RX2 120 yX1_greatestName, Cond.instanceMethod yX1_greatestName, Cond.selects RX1 yX1_greatestName yX1_greatestName, Cond.code yX1_greatestName cX1_greatestName 5 (some .int), Cond.methodLink RX2 123 yX1_nameless, Cond.instanceMethod yX1_nameless, Cond.selects RX1 yX1_nameless yX1_nameless, Cond.code yX1_nameless cX1_nameless 1 (some .int), Cond.methodLink RX2 126 yX1_meanMouth, Cond.instanceMethod yX1_meanMouth, Cond.selects RX1 yX1_meanMouth yX1_meanMouth]
def wsX2_isSame_r10 : List Cond := [Cond.code yX1_meanMouth cX1_meanMouth 4 (some .double)]
def wsX2_isSame : List Cond := .code yX2_isSame cX2_isSame 19 (some .boolean) :: ((wsX2_isSame_r1 ++ (wsX2_isSame_r2 ++ (wsX2_isSame_r3 ++ (wsX2_isSame_r4 ++ (wsX2_isSame_r5 ++ (wsX2_isSame_r6 ++ (wsX2_isSame_r7 ++ (wsX2_isSame_r8 ++ (wsX2_isSame_r9 ++ wsX2_isSame_r10))))))))) ++ wsX20 ++ wsX10 ++ wsX00 ++ (vx_atS RX1 237 "java/lang/IndexOutOfBoundsException" ["java/lang/RuntimeException", "java/lang/Exception"]).filter goodWord)
def wsJ9_max_7cf53 : List Cond := .code yJ9_max_7cf53 cJ9_max_7cf53 2 (some .int) :: ([])
def wsJ9_min_7cf53 : List Cond := .code yJ9_min_7cf53 cJ9_min_7cf53 2 (some .int) :: ([])
def wsL_below : List Cond := .code yL_below cL_below 2 (some .int) :: ([.constant RL 7 (2147483647)])
def wsL_cell : List Cond := .code yL_cell cL_cell 2 (some .int) :: ([.constant RL 8 (790386105)])
def wsL_act_r1 : List Cond := [Cond.classLink RL 74 "java/lang/IllegalStateException", Cond.fieldLink RL 9 "RiverNamesLaw$Sim" "places" "[[I", Cond.arrayClass .int, Cond.fieldLink RL 46 "RiverNamesLaw$Sim" "rule" "I", Cond.fieldLink RL 54 "RiverNamesLaw$Sim" "bridges" "[[I", Cond.methodLink RL 15 yL_below, Cond.static yL_below, Cond.initialized RL, Cond.code yL_below cL_below 2 (some .int), Cond.constant RL 7 (2147483647), Cond.methodLink RL 21 yX2_with, Cond.static yX2_with, Cond.initialized RX2, Cond.code yX2_with cX2_with 4 (some (.array (.array .int))), Cond.classLink RX2 7 "[I", Cond.methodLink RL 25 yX1_addPlace, Cond.instanceMethod yX1_addPlace, Cond.selects RX1 yX1_addPlace yX1_addPlace, Cond.initialized RX1, Cond.code yX1_addPlace cX1_addPlace 1 (some .int), Cond.fieldLink RX1 10 "RiverNames" "land" "LRiverNames$Land;", Cond.methodLink RX1 33 yX1_requireRoomForPlace, Cond.instanceMethod yX1_requireRoomForPlace, Cond.selects RX1 yX1_requireRoomForPlace yX1_requireRoomForPlace]
def wsL_act_r2 : List Cond := [Cond.code yX1_requireRoomForPlace cX1_requireRoomForPlace 1 none, Cond.classLink RX1 64 "java/lang/IllegalStateException", Cond.initialized "java/lang/IllegalStateException", Cond.methodLink RX1 112 yX0_size, Cond.instanceMethod yX0_size, Cond.selects RX0 yX0_size yX0_size, Cond.initialized RX0, Cond.code yX0_size cX0_size 1 (some .int), Cond.fieldLink RX0 9 "RiverNames$Land" "count" "I", Cond.methodLink RX1 36 yX0_addBare, Cond.instanceMethod yX0_addBare, Cond.selects RX0 yX0_addBare yX0_addBare, Cond.code yX0_addBare cX0_addBare 2 (some .int), Cond.fieldLink RX0 18 "RiverNames$Land" "ways" "[I", Cond.methodLink RX0 62 yX0_settle, Cond.instanceMethod yX0_settle, Cond.selects RX0 yX0_settle yX0_settle, Cond.code yX0_settle cX0_settle 3 none, Cond.fieldLink RX0 22 "RiverNames$Land" "stepsToSea" "[I", Cond.methodLink RX0 86 yX0_rise, Cond.instanceMethod yX0_rise, Cond.selects RX0 yX0_rise yX0_rise, Cond.code yX0_rise cX0_rise 4 none, Cond.fieldLink RX0 32 "RiverNames$Land" "springWater" "[I"]
def wsL_act_r3 : List Cond := [Cond.fieldLink RX0 41 "RiverNames$Land" "water" "[I", Cond.fieldLink RX0 44 "RiverNames$Land" "lengths" "[I", Cond.fieldLink RX0 47 "RiverNames$Land" "names" "[I", Cond.fieldLink RX0 50 "RiverNames$Land" "arguers" "[I", Cond.fieldLink RX0 53 "RiverNames$Land" "disputed" "[Z", Cond.fieldLink RX0 56 "RiverNames$Land" "winners" "[I", Cond.fieldLink RX0 59 "RiverNames$Land" "strengths" "[I", Cond.fieldLink RX0 15 "RiverNames$Land" "rule" "I", Cond.fieldLink RX0 29 "RiverNames$Land" "springNames" "[I", Cond.methodLink RX0 94 yX0_argue, Cond.instanceMethod yX0_argue, Cond.selects RX0 yX0_argue yX0_argue, Cond.code yX0_argue cX0_argue 6 none, Cond.fieldLink RX0 38 "RiverNames$Land" "deltas" "[Z", Cond.methodLink RX0 90 yX0_flowOn, Cond.instanceMethod yX0_flowOn, Cond.selects RX0 yX0_flowOn yX0_flowOn, Cond.code yX0_flowOn cX0_flowOn 4 none, Cond.methodLink RX0 75 Lib.Math.max.name, Cond.static Lib.Math.max.name, Cond.initialized "java/lang/Math", Cond.code Lib.Math.max.name Lib.Math.max.code 2 (some .int), Cond.methodLink RX0 78 yX0_isPlace, Cond.instanceMethod yX0_isPlace]
def wsL_act_r4 : List Cond := [Cond.selects RX0 yX0_isPlace yX0_isPlace, Cond.code yX0_isPlace cX0_isPlace 2 (some .boolean), Cond.methodLink RL 31 yX1_addSpring, Cond.instanceMethod yX1_addSpring, Cond.selects RX1 yX1_addSpring yX1_addSpring, Cond.code yX1_addSpring cX1_addSpring 4 (some .int), Cond.classLink RX1 48 "java/lang/IllegalArgumentException", Cond.initialized "java/lang/IllegalArgumentException", Cond.methodLink RX1 40 yX1_requireName, Cond.static yX1_requireName, Cond.code yX1_requireName cX1_requireName 1 none, Cond.classLink RX1 233 "java/lang/IndexOutOfBoundsException", Cond.initialized "java/lang/IndexOutOfBoundsException", Cond.methodLink RX1 44 yX1_isWithin, Cond.static yX1_isWithin, Cond.code yX1_isWithin cX1_isWithin 3 (some .boolean), Cond.methodLink RX1 57 yX0_addSprung, Cond.instanceMethod yX0_addSprung, Cond.selects RX0 yX0_addSprung yX0_addSprung, Cond.code yX0_addSprung cX0_addSprung 5 (some .int), Cond.fieldLink RX0 25 "RiverNames$Land" "sprung" "[Z", Cond.fieldLink RX0 35 "RiverNames$Land" "swells" "[I", Cond.methodLink RL 35 yX2_isAbove, Cond.instanceMethod yX2_isAbove]
def wsL_act_r5 : List Cond := [Cond.selects RX2 yX2_isAbove yX2_isAbove, Cond.code yX2_isAbove cX2_isAbove 4 (some .boolean), Cond.fieldLink RX2 9 "RiverNamesLaw$Sim" "places" "[[I", Cond.methodLink RL 39 yX1_lead, Cond.instanceMethod yX1_lead, Cond.selects RX1 yX1_lead yX1_lead, Cond.code yX1_lead cX1_lead 4 (some .int), Cond.methodLink RX1 61 yX1_requirePlace, Cond.instanceMethod yX1_requirePlace, Cond.selects RX1 yX1_requirePlace yX1_requirePlace, Cond.code yX1_requirePlace cX1_requirePlace 2 none, Cond.methodLink RX1 230 yX0_isPlace, Cond.methodLink RX1 69 yX0_flowsTo, Cond.instanceMethod yX0_flowsTo, Cond.selects RX0 yX0_flowsTo yX0_flowsTo, Cond.code yX0_flowsTo cX0_flowsTo 5 (some .boolean), Cond.methodLink RX1 75 yX0_next, Cond.instanceMethod yX0_next, Cond.selects RX0 yX0_next yX0_next, Cond.code yX0_next cX0_next 2 (some .int), Cond.methodLink RX1 79 yX0_leadOn, Cond.instanceMethod yX0_leadOn, Cond.selects RX0 yX0_leadOn yX0_leadOn, Cond.code yX0_leadOn cX0_leadOn 4 none]
def wsL_act_r6 : List Cond := [Cond.methodLink RX0 65 yX0_countSteps, Cond.instanceMethod yX0_countSteps, Cond.selects RX0 yX0_countSteps yX0_countSteps, Cond.code yX0_countSteps cX0_countSteps 4 (some .int), Cond.methodLink RL 42 yX1_turnDelta, Cond.instanceMethod yX1_turnDelta, Cond.selects RX1 yX1_turnDelta yX1_turnDelta, Cond.code yX1_turnDelta cX1_turnDelta 2 (some .boolean), Cond.methodLink RX1 83 yX0_toggleDelta, Cond.instanceMethod yX0_toggleDelta, Cond.selects RX0 yX0_toggleDelta yX0_toggleDelta, Cond.code yX0_toggleDelta cX0_toggleDelta 2 none, Cond.methodLink RX1 86 yX0_isDelta, Cond.instanceMethod yX0_isDelta, Cond.selects RX0 yX0_isDelta yX0_isDelta, Cond.code yX0_isDelta cX0_isDelta 2 (some .boolean), Cond.methodLink RL 50 yX1_setRule, Cond.instanceMethod yX1_setRule, Cond.selects RX1 yX1_setRule yX1_setRule, Cond.code yX1_setRule cX1_setRule 3 (some .int), Cond.methodLink RX1 92 yX0_ruleNow, Cond.instanceMethod yX0_ruleNow, Cond.selects RX0 yX0_ruleNow yX0_ruleNow, Cond.code yX0_ruleNow cX0_ruleNow 1 (some .int)]
def wsL_act_r7 : List Cond := [Cond.methodLink RX1 95 yX0_useRule, Cond.instanceMethod yX0_useRule, Cond.selects RX0 yX0_useRule yX0_useRule, Cond.code yX0_useRule cX0_useRule 2 none, Cond.methodLink RL 57 yX2_names, Cond.instanceMethod yX2_names, Cond.selects RX2 yX2_names yX2_names, Cond.code yX2_names cX2_names 1 (some (.array .int)), Cond.methodLink RX2 51 yX2_flow, Cond.instanceMethod yX2_flow, Cond.selects RX2 yX2_flow yX2_flow, Cond.code yX2_flow cX2_flow 8 (some (.array (.array .int))), Cond.classLink RX2 34 "[[I", Cond.arrayClass .boolean, Cond.methodLink RX2 35 yX2_hasWater, Cond.instanceMethod yX2_hasWater, Cond.selects RX2 yX2_hasWater yX2_hasWater, Cond.code yX2_hasWater cX2_hasWater 2 (some .boolean), Cond.methodLink RX2 39 yX2_winner, Cond.instanceMethod yX2_winner, Cond.selects RX2 yX2_winner yX2_winner, Cond.code yX2_winner cX2_winner 10 (some .int), Cond.fieldLink RX2 19 "RiverNamesLaw$Sim" "rule" "I", Cond.methodLink RX2 43 yX2_arguers]
def wsL_act_r8 : List Cond := [Cond.instanceMethod yX2_arguers, Cond.selects RX2 yX2_arguers yX2_arguers, Cond.code yX2_arguers cX2_arguers 7 (some (.array .int)), Cond.methodLink RX2 47 yX2_called, Cond.instanceMethod yX2_called, Cond.selects RX2 yX2_called yX2_called, Cond.code yX2_called cX2_called 4 (some .int), Cond.methodLink RL 61 yX1_build, Cond.instanceMethod yX1_build, Cond.selects RX1 yX1_build yX1_build, Cond.code yX1_build cX1_build 3 (some .int), Cond.fieldLink RX1 26 "RiverNames" "bridgeCount" "I", Cond.fieldLink RX1 19 "RiverNames" "bridgePlaces" "[I", Cond.fieldLink RX1 23 "RiverNames" "bridgeNames" "[I", Cond.methodLink RX1 100 yX0_nameOf, Cond.instanceMethod yX0_nameOf, Cond.selects RX0 yX0_nameOf yX0_nameOf, Cond.code yX0_nameOf cX0_nameOf 2 (some .int), Cond.methodLink RL 64 yX2_pass, Cond.instanceMethod yX2_pass, Cond.selects RX2 yX2_pass yX2_pass, Cond.code yX2_pass cX2_pass 8 none, Cond.fieldLink RX2 23 "RiverNamesLaw$Sim" "year" "I", Cond.methodLink RL 68 yX1_pass]
def wsL_act_r9 : List Cond := [Cond.instanceMethod yX1_pass, Cond.selects RX1 yX1_pass yX1_pass, Cond.code yX1_pass cX1_pass 2 (some .int), Cond.fieldLink RX1 30 "RiverNames" "yearNow" "I", Cond.methodLink RX1 103 yX1_requireYears, Cond.static yX1_requireYears, Cond.code yX1_requireYears cX1_requireYears 1 none, Cond.methodLink RX1 106 yX0_swellFor, Cond.instanceMethod yX0_swellFor, Cond.selects RX0 yX0_swellFor yX0_swellFor, Cond.code yX0_swellFor cX0_swellFor 4 none, Cond.methodLink RX0 69 Lib.Math.min.name, Cond.static Lib.Math.min.name, Cond.code Lib.Math.min.name Lib.Math.min.code 2 (some .int), Cond.methodLink RX1 109 yX1_countInsults, Cond.instanceMethod yX1_countInsults, Cond.selects RX1 yX1_countInsults yX1_countInsults, Cond.code yX1_countInsults cX1_countInsults 3 (some .int), Cond.methodLink RX1 146 yX1_suffersInsult, Cond.instanceMethod yX1_suffersInsult, Cond.selects RX1 yX1_suffersInsult yX1_suffersInsult, Cond.code yX1_suffersInsult cX1_suffersInsult 3 (some .boolean), Cond.methodLink RL 70 yX2_insults, Cond.instanceMethod yX2_insults]
def wsL_act_r10 : List Cond := [Cond.selects RX2 yX2_insults yX2_insults, Cond.code yX2_insults cX2_insults 7 (some .int), Cond.fieldLink RX2 15 "RiverNamesLaw$Sim" "bridges" "[[I"]
def wsL_act : List Cond := .codeWith yL_act cL_act 9 (some .boolean) [(36, 158, 602, 74), (159, 264, 602, 74), (265, 270, 602, 74), (271, 356, 602, 74), (357, 362, 602, 74), (363, 418, 602, 74), (419, 457, 602, 74), (458, 463, 602, 74), (464, 541, 602, 74), (542, 601, 602, 74)] :: ((wsL_act_r1 ++ (wsL_act_r2 ++ (wsL_act_r3 ++ (wsL_act_r4 ++ (wsL_act_r5 ++ (wsL_act_r6 ++ (wsL_act_r7 ++ (wsL_act_r8 ++ (wsL_act_r9 ++ wsL_act_r10))))))))) ++ wsX20 ++ wsX10 ++ wsX00 ++ (vx_atS RX1 68 "java/lang/IllegalStateException" ["java/lang/RuntimeException", "java/lang/Exception"]).filter goodWord ++ (vx_atS RX1 52 "java/lang/IllegalArgumentException" ["java/lang/RuntimeException", "java/lang/Exception"]).filter goodWord ++ (vx_atS RX1 237 "java/lang/IndexOutOfBoundsException" ["java/lang/RuntimeException", "java/lang/Exception"]).filter goodWord)
def wsL_build_r1 : List Cond := [Cond.classLink RL 10 RX2, Cond.instantiable RX2 4, Cond.initialized RX2, Cond.arrayClass .int, Cond.fieldLink RL 9 "RiverNamesLaw$Sim" "places" "[[I", Cond.fieldLink RL 46 "RiverNamesLaw$Sim" "rule" "I", Cond.instanceMethod yX2_init, Cond.code yX2_init cX2_init 1 none, Cond.methodLink RX2 1 objectInit, Cond.instanceMethod objectInit, Cond.code objectInit ⟨#[0xb1]⟩ 1 none, Cond.classLink RX2 7 "[I", Cond.fieldLink RX2 9 "RiverNamesLaw$Sim" "places" "[[I", Cond.fieldLink RX2 15 "RiverNamesLaw$Sim" "bridges" "[[I", Cond.methodLink RL 77 yL_cell, Cond.static yL_cell, Cond.initialized RL, Cond.code yL_cell cL_cell 2 (some .int), Cond.constant RL 8 (790386105), Cond.methodLink RL 15 yL_below, Cond.static yL_below, Cond.code yL_below cL_below 2 (some .int), Cond.constant RL 7 (2147483647), Cond.methodLink RL 21 yX2_with]
def wsL_build_r2 : List Cond := [Cond.static yX2_with, Cond.code yX2_with cX2_with 4 (some (.array (.array .int))), Cond.methodLink RL 31 yX1_addSpring, Cond.instanceMethod yX1_addSpring, Cond.selects RX1 yX1_addSpring yX1_addSpring, Cond.initialized RX1, Cond.code yX1_addSpring cX1_addSpring 4 (some .int), Cond.classLink RX1 48 "java/lang/IllegalArgumentException", Cond.initialized "java/lang/IllegalArgumentException", Cond.fieldLink RX1 10 "RiverNames" "land" "LRiverNames$Land;", Cond.methodLink RX1 40 yX1_requireName, Cond.static yX1_requireName, Cond.code yX1_requireName cX1_requireName 1 none, Cond.classLink RX1 233 "java/lang/IndexOutOfBoundsException", Cond.initialized "java/lang/IndexOutOfBoundsException", Cond.methodLink RX1 44 yX1_isWithin, Cond.static yX1_isWithin, Cond.code yX1_isWithin cX1_isWithin 3 (some .boolean), Cond.methodLink RX1 33 yX1_requireRoomForPlace, Cond.instanceMethod yX1_requireRoomForPlace, Cond.selects RX1 yX1_requireRoomForPlace yX1_requireRoomForPlace, Cond.code yX1_requireRoomForPlace cX1_requireRoomForPlace 1 none, Cond.classLink RX1 64 "java/lang/IllegalStateException", Cond.initialized "java/lang/IllegalStateException"]
def wsL_build_r3 : List Cond := [Cond.methodLink RX1 112 yX0_size, Cond.instanceMethod yX0_size, Cond.selects RX0 yX0_size yX0_size, Cond.initialized RX0, Cond.code yX0_size cX0_size 1 (some .int), Cond.fieldLink RX0 9 "RiverNames$Land" "count" "I", Cond.methodLink RX1 57 yX0_addSprung, Cond.instanceMethod yX0_addSprung, Cond.selects RX0 yX0_addSprung yX0_addSprung, Cond.code yX0_addSprung cX0_addSprung 5 (some .int), Cond.fieldLink RX0 18 "RiverNames$Land" "ways" "[I", Cond.fieldLink RX0 25 "RiverNames$Land" "sprung" "[Z", Cond.fieldLink RX0 29 "RiverNames$Land" "springNames" "[I", Cond.fieldLink RX0 32 "RiverNames$Land" "springWater" "[I", Cond.fieldLink RX0 35 "RiverNames$Land" "swells" "[I", Cond.methodLink RX0 62 yX0_settle, Cond.instanceMethod yX0_settle, Cond.selects RX0 yX0_settle yX0_settle, Cond.code yX0_settle cX0_settle 3 none, Cond.fieldLink RX0 22 "RiverNames$Land" "stepsToSea" "[I", Cond.methodLink RX0 86 yX0_rise, Cond.instanceMethod yX0_rise, Cond.selects RX0 yX0_rise yX0_rise, Cond.code yX0_rise cX0_rise 4 none]
def wsL_build_r4 : List Cond := [Cond.fieldLink RX0 41 "RiverNames$Land" "water" "[I", Cond.fieldLink RX0 44 "RiverNames$Land" "lengths" "[I", Cond.fieldLink RX0 47 "RiverNames$Land" "names" "[I", Cond.fieldLink RX0 50 "RiverNames$Land" "arguers" "[I", Cond.fieldLink RX0 53 "RiverNames$Land" "disputed" "[Z", Cond.fieldLink RX0 56 "RiverNames$Land" "winners" "[I", Cond.fieldLink RX0 59 "RiverNames$Land" "strengths" "[I", Cond.fieldLink RX0 15 "RiverNames$Land" "rule" "I", Cond.methodLink RX0 94 yX0_argue, Cond.instanceMethod yX0_argue, Cond.selects RX0 yX0_argue yX0_argue, Cond.code yX0_argue cX0_argue 6 none, Cond.fieldLink RX0 38 "RiverNames$Land" "deltas" "[Z", Cond.methodLink RX0 90 yX0_flowOn, Cond.instanceMethod yX0_flowOn, Cond.selects RX0 yX0_flowOn yX0_flowOn, Cond.code yX0_flowOn cX0_flowOn 4 none, Cond.methodLink RX0 75 Lib.Math.max.name, Cond.static Lib.Math.max.name, Cond.initialized "java/lang/Math", Cond.code Lib.Math.max.name Lib.Math.max.code 2 (some .int), Cond.methodLink RX0 78 yX0_isPlace, Cond.instanceMethod yX0_isPlace, Cond.selects RX0 yX0_isPlace yX0_isPlace]
def wsL_build_r5 : List Cond := [Cond.code yX0_isPlace cX0_isPlace 2 (some .boolean), Cond.methodLink RL 25 yX1_addPlace, Cond.instanceMethod yX1_addPlace, Cond.selects RX1 yX1_addPlace yX1_addPlace, Cond.code yX1_addPlace cX1_addPlace 1 (some .int), Cond.methodLink RX1 36 yX0_addBare, Cond.instanceMethod yX0_addBare, Cond.selects RX0 yX0_addBare yX0_addBare, Cond.code yX0_addBare cX0_addBare 2 (some .int), Cond.methodLink RL 35 yX2_isAbove, Cond.instanceMethod yX2_isAbove, Cond.selects RX2 yX2_isAbove yX2_isAbove, Cond.code yX2_isAbove cX2_isAbove 4 (some .boolean), Cond.methodLink RL 39 yX1_lead, Cond.instanceMethod yX1_lead, Cond.selects RX1 yX1_lead yX1_lead, Cond.code yX1_lead cX1_lead 4 (some .int), Cond.methodLink RX1 61 yX1_requirePlace, Cond.instanceMethod yX1_requirePlace, Cond.selects RX1 yX1_requirePlace yX1_requirePlace, Cond.code yX1_requirePlace cX1_requirePlace 2 none, Cond.methodLink RX1 230 yX0_isPlace, Cond.methodLink RX1 69 yX0_flowsTo, Cond.instanceMethod yX0_flowsTo]
def wsL_build_r6 : List Cond := [Cond.selects RX0 yX0_flowsTo yX0_flowsTo, Cond.code yX0_flowsTo cX0_flowsTo 5 (some .boolean), Cond.methodLink RX1 75 yX0_next, Cond.instanceMethod yX0_next, Cond.selects RX0 yX0_next yX0_next, Cond.code yX0_next cX0_next 2 (some .int), Cond.methodLink RX1 79 yX0_leadOn, Cond.instanceMethod yX0_leadOn, Cond.selects RX0 yX0_leadOn yX0_leadOn, Cond.code yX0_leadOn cX0_leadOn 4 none, Cond.methodLink RX0 65 yX0_countSteps, Cond.instanceMethod yX0_countSteps, Cond.selects RX0 yX0_countSteps yX0_countSteps, Cond.code yX0_countSteps cX0_countSteps 4 (some .int), Cond.methodLink RL 50 yX1_setRule, Cond.instanceMethod yX1_setRule, Cond.selects RX1 yX1_setRule yX1_setRule, Cond.code yX1_setRule cX1_setRule 3 (some .int), Cond.methodLink RX1 92 yX0_ruleNow, Cond.instanceMethod yX0_ruleNow, Cond.selects RX0 yX0_ruleNow yX0_ruleNow, Cond.code yX0_ruleNow cX0_ruleNow 1 (some .int), Cond.methodLink RX1 95 yX0_useRule, Cond.instanceMethod yX0_useRule]
def wsL_build_r7 : List Cond := [Cond.selects RX0 yX0_useRule yX0_useRule, Cond.code yX0_useRule cX0_useRule 2 none]
def wsL_build : List Cond := .code yL_build cL_build 8 (some (.object "RiverNamesLaw$Sim")) :: ((wsL_build_r1 ++ (wsL_build_r2 ++ (wsL_build_r3 ++ (wsL_build_r4 ++ (wsL_build_r5 ++ (wsL_build_r6 ++ wsL_build_r7)))))) ++ wsX20 ++ wsX10 ++ wsX00 ++ (vx_atS RX1 52 "java/lang/IllegalArgumentException" ["java/lang/RuntimeException", "java/lang/Exception"]).filter goodWord ++ (vx_atS RX1 237 "java/lang/IndexOutOfBoundsException" ["java/lang/RuntimeException", "java/lang/Exception"]).filter goodWord ++ (vx_atS RX1 68 "java/lang/IllegalStateException" ["java/lang/RuntimeException", "java/lang/Exception"]).filter goodWord)
def wsL_names_r1 : List Cond := [Cond.arrayClass .int, Cond.methodLink RL 93 yX1_places, Cond.instanceMethod yX1_places, Cond.selects RX1 yX1_places yX1_places, Cond.initialized RX1, Cond.code yX1_places cX1_places 1 (some .int), Cond.fieldLink RX1 10 "RiverNames" "land" "LRiverNames$Land;", Cond.methodLink RX1 112 yX0_size, Cond.instanceMethod yX0_size, Cond.selects RX0 yX0_size yX0_size, Cond.initialized RX0, Cond.code yX0_size cX0_size 1 (some .int), Cond.fieldLink RX0 9 "RiverNames$Land" "count" "I", Cond.methodLink RL 112 yX1_nameAt, Cond.instanceMethod yX1_nameAt, Cond.selects RX1 yX1_nameAt yX1_nameAt, Cond.code yX1_nameAt cX1_nameAt 2 (some .int), Cond.methodLink RX1 61 yX1_requirePlace, Cond.instanceMethod yX1_requirePlace, Cond.selects RX1 yX1_requirePlace yX1_requirePlace, Cond.code yX1_requirePlace cX1_requirePlace 2 none, Cond.classLink RX1 233 "java/lang/IndexOutOfBoundsException", Cond.initialized "java/lang/IndexOutOfBoundsException", Cond.methodLink RX1 230 yX0_isPlace]
def wsL_names_r2 : List Cond := [Cond.instanceMethod yX0_isPlace, Cond.selects RX0 yX0_isPlace yX0_isPlace, Cond.code yX0_isPlace cX0_isPlace 2 (some .boolean), Cond.methodLink RX1 100 yX0_nameOf, Cond.instanceMethod yX0_nameOf, Cond.selects RX0 yX0_nameOf yX0_nameOf, Cond.code yX0_nameOf cX0_nameOf 2 (some .int), Cond.fieldLink RX0 47 "RiverNames$Land" "names" "[I"]
def wsL_names : List Cond := .code yL_names cL_names 3 (some (.array .int)) :: ((wsL_names_r1 ++ wsL_names_r2) ++ wsX10 ++ wsX00 ++ (vx_atS RX1 237 "java/lang/IndexOutOfBoundsException" ["java/lang/RuntimeException", "java/lang/Exception"]).filter goodWord)
def wsL_law0_r1 : List Cond := [Cond.classLink RL 26 RX1, Cond.instantiable RX1 6, Cond.initialized RX1, Cond.methodLink RL 98 Lib.Math.max.name, Cond.static Lib.Math.max.name, Cond.initialized "java/lang/Math", Cond.code Lib.Math.max.name Lib.Math.max.code 2 (some .int), Cond.fieldLink RL 9 "RiverNamesLaw$Sim" "places" "[[I", Cond.methodLink RL 81 yX1_init, Cond.instanceMethod yX1_init, Cond.code yX1_init cX1_init 1 none, Cond.methodLink RX1 1 objectInit, Cond.instanceMethod objectInit, Cond.code objectInit ⟨#[0xb1]⟩ 1 none, Cond.classLink RX1 7 RX0, Cond.instantiable RX0 16, Cond.initialized RX0, Cond.fieldLink RX1 10 "RiverNames" "land" "LRiverNames$Land;", Cond.fieldLink RX1 16 "RiverNames" "trial" "LRiverNames$Land;", Cond.arrayClass .int, Cond.fieldLink RX1 19 "RiverNames" "bridgePlaces" "[I", Cond.fieldLink RX1 23 "RiverNames" "bridgeNames" "[I", Cond.fieldLink RX1 26 "RiverNames" "bridgeCount" "I", Cond.fieldLink RX1 30 "RiverNames" "yearNow" "I"]
def wsL_law0_r2 : List Cond := [Cond.methodLink RX1 9 yX0_init, Cond.instanceMethod yX0_init, Cond.code yX0_init cX0_init 1 none, Cond.methodLink RX0 3 objectInit, Cond.fieldLink RX0 9 "RiverNames$Land" "count" "I", Cond.fieldLink RX0 15 "RiverNames$Land" "rule" "I", Cond.fieldLink RX0 18 "RiverNames$Land" "ways" "[I", Cond.fieldLink RX0 22 "RiverNames$Land" "stepsToSea" "[I", Cond.arrayClass .boolean, Cond.fieldLink RX0 25 "RiverNames$Land" "sprung" "[Z", Cond.fieldLink RX0 29 "RiverNames$Land" "springNames" "[I", Cond.fieldLink RX0 32 "RiverNames$Land" "springWater" "[I", Cond.fieldLink RX0 35 "RiverNames$Land" "swells" "[I", Cond.fieldLink RX0 38 "RiverNames$Land" "deltas" "[Z", Cond.fieldLink RX0 41 "RiverNames$Land" "water" "[I", Cond.fieldLink RX0 44 "RiverNames$Land" "lengths" "[I", Cond.fieldLink RX0 47 "RiverNames$Land" "names" "[I", Cond.fieldLink RX0 50 "RiverNames$Land" "arguers" "[I", Cond.fieldLink RX0 53 "RiverNames$Land" "disputed" "[Z", Cond.fieldLink RX0 56 "RiverNames$Land" "winners" "[I", Cond.fieldLink RX0 59 "RiverNames$Land" "strengths" "[I", Cond.methodLink RL 82 yL_build, Cond.static yL_build, Cond.initialized RL]
def wsL_law0_r3 : List Cond := [Cond.code yL_build cL_build 8 (some (.object "RiverNamesLaw$Sim")), Cond.classLink RL 10 RX2, Cond.instantiable RX2 4, Cond.initialized RX2, Cond.fieldLink RL 46 "RiverNamesLaw$Sim" "rule" "I", Cond.instanceMethod yX2_init, Cond.code yX2_init cX2_init 1 none, Cond.methodLink RX2 1 objectInit, Cond.classLink RX2 7 "[I", Cond.fieldLink RX2 9 "RiverNamesLaw$Sim" "places" "[[I", Cond.fieldLink RX2 15 "RiverNamesLaw$Sim" "bridges" "[[I", Cond.methodLink RL 77 yL_cell, Cond.static yL_cell, Cond.code yL_cell cL_cell 2 (some .int), Cond.constant RL 8 (790386105), Cond.methodLink RL 15 yL_below, Cond.static yL_below, Cond.code yL_below cL_below 2 (some .int), Cond.constant RL 7 (2147483647), Cond.methodLink RL 21 yX2_with, Cond.static yX2_with, Cond.code yX2_with cX2_with 4 (some (.array (.array .int))), Cond.methodLink RL 31 yX1_addSpring, Cond.instanceMethod yX1_addSpring]
def wsL_law0_r4 : List Cond := [Cond.selects RX1 yX1_addSpring yX1_addSpring, Cond.code yX1_addSpring cX1_addSpring 4 (some .int), Cond.classLink RX1 48 "java/lang/IllegalArgumentException", Cond.initialized "java/lang/IllegalArgumentException", Cond.methodLink RX1 40 yX1_requireName, Cond.static yX1_requireName, Cond.code yX1_requireName cX1_requireName 1 none, Cond.classLink RX1 233 "java/lang/IndexOutOfBoundsException", Cond.initialized "java/lang/IndexOutOfBoundsException", Cond.methodLink RX1 44 yX1_isWithin, Cond.static yX1_isWithin, Cond.code yX1_isWithin cX1_isWithin 3 (some .boolean), Cond.methodLink RX1 33 yX1_requireRoomForPlace, Cond.instanceMethod yX1_requireRoomForPlace, Cond.selects RX1 yX1_requireRoomForPlace yX1_requireRoomForPlace, Cond.code yX1_requireRoomForPlace cX1_requireRoomForPlace 1 none, Cond.classLink RX1 64 "java/lang/IllegalStateException", Cond.initialized "java/lang/IllegalStateException", Cond.methodLink RX1 112 yX0_size, Cond.instanceMethod yX0_size, Cond.selects RX0 yX0_size yX0_size, Cond.code yX0_size cX0_size 1 (some .int), Cond.methodLink RX1 57 yX0_addSprung, Cond.instanceMethod yX0_addSprung]
def wsL_law0_r5 : List Cond := [Cond.selects RX0 yX0_addSprung yX0_addSprung, Cond.code yX0_addSprung cX0_addSprung 5 (some .int), Cond.methodLink RX0 62 yX0_settle, Cond.instanceMethod yX0_settle, Cond.selects RX0 yX0_settle yX0_settle, Cond.code yX0_settle cX0_settle 3 none, Cond.methodLink RX0 86 yX0_rise, Cond.instanceMethod yX0_rise, Cond.selects RX0 yX0_rise yX0_rise, Cond.code yX0_rise cX0_rise 4 none, Cond.methodLink RX0 94 yX0_argue, Cond.instanceMethod yX0_argue, Cond.selects RX0 yX0_argue yX0_argue, Cond.code yX0_argue cX0_argue 6 none, Cond.methodLink RX0 90 yX0_flowOn, Cond.instanceMethod yX0_flowOn, Cond.selects RX0 yX0_flowOn yX0_flowOn, Cond.code yX0_flowOn cX0_flowOn 4 none, Cond.methodLink RX0 75 Lib.Math.max.name, Cond.methodLink RX0 78 yX0_isPlace, Cond.instanceMethod yX0_isPlace, Cond.selects RX0 yX0_isPlace yX0_isPlace, Cond.code yX0_isPlace cX0_isPlace 2 (some .boolean), Cond.methodLink RL 25 yX1_addPlace]
def wsL_law0_r6 : List Cond := [Cond.instanceMethod yX1_addPlace, Cond.selects RX1 yX1_addPlace yX1_addPlace, Cond.code yX1_addPlace cX1_addPlace 1 (some .int), Cond.methodLink RX1 36 yX0_addBare, Cond.instanceMethod yX0_addBare, Cond.selects RX0 yX0_addBare yX0_addBare, Cond.code yX0_addBare cX0_addBare 2 (some .int), Cond.methodLink RL 35 yX2_isAbove, Cond.instanceMethod yX2_isAbove, Cond.selects RX2 yX2_isAbove yX2_isAbove, Cond.code yX2_isAbove cX2_isAbove 4 (some .boolean), Cond.methodLink RL 39 yX1_lead, Cond.instanceMethod yX1_lead, Cond.selects RX1 yX1_lead yX1_lead, Cond.code yX1_lead cX1_lead 4 (some .int), Cond.methodLink RX1 61 yX1_requirePlace, Cond.instanceMethod yX1_requirePlace, Cond.selects RX1 yX1_requirePlace yX1_requirePlace, Cond.code yX1_requirePlace cX1_requirePlace 2 none, Cond.methodLink RX1 230 yX0_isPlace, Cond.methodLink RX1 69 yX0_flowsTo, Cond.instanceMethod yX0_flowsTo, Cond.selects RX0 yX0_flowsTo yX0_flowsTo, Cond.code yX0_flowsTo cX0_flowsTo 5 (some .boolean)]
def wsL_law0_r7 : List Cond := [Cond.methodLink RX1 75 yX0_next, Cond.instanceMethod yX0_next, Cond.selects RX0 yX0_next yX0_next, Cond.code yX0_next cX0_next 2 (some .int), Cond.methodLink RX1 79 yX0_leadOn, Cond.instanceMethod yX0_leadOn, Cond.selects RX0 yX0_leadOn yX0_leadOn, Cond.code yX0_leadOn cX0_leadOn 4 none, Cond.methodLink RX0 65 yX0_countSteps, Cond.instanceMethod yX0_countSteps, Cond.selects RX0 yX0_countSteps yX0_countSteps, Cond.code yX0_countSteps cX0_countSteps 4 (some .int), Cond.methodLink RL 50 yX1_setRule, Cond.instanceMethod yX1_setRule, Cond.selects RX1 yX1_setRule yX1_setRule, Cond.code yX1_setRule cX1_setRule 3 (some .int), Cond.methodLink RX1 92 yX0_ruleNow, Cond.instanceMethod yX0_ruleNow, Cond.selects RX0 yX0_ruleNow yX0_ruleNow, Cond.code yX0_ruleNow cX0_ruleNow 1 (some .int), Cond.methodLink RX1 95 yX0_useRule, Cond.instanceMethod yX0_useRule, Cond.selects RX0 yX0_useRule yX0_useRule, Cond.code yX0_useRule cX0_useRule 2 none]
def wsL_law0_r8 : List Cond := [Cond.methodLink RL 85 yL_act, Cond.static yL_act, Cond.codeWith yL_act cL_act 9 (some .boolean) [(36, 158, 602, 74), (159, 264, 602, 74), (265, 270, 602, 74), (271, 356, 602, 74), (357, 362, 602, 74), (363, 418, 602, 74), (419, 457, 602, 74), (458, 463, 602, 74), (464, 541, 602, 74), (542, 601, 602, 74)], Cond.classLink RL 74 "java/lang/IllegalStateException", Cond.fieldLink RL 54 "RiverNamesLaw$Sim" "bridges" "[[I", Cond.methodLink RL 42 yX1_turnDelta, Cond.instanceMethod yX1_turnDelta, Cond.selects RX1 yX1_turnDelta yX1_turnDelta, Cond.code yX1_turnDelta cX1_turnDelta 2 (some .boolean), Cond.methodLink RX1 83 yX0_toggleDelta, Cond.instanceMethod yX0_toggleDelta, Cond.selects RX0 yX0_toggleDelta yX0_toggleDelta, Cond.code yX0_toggleDelta cX0_toggleDelta 2 none, Cond.methodLink RX1 86 yX0_isDelta, Cond.instanceMethod yX0_isDelta, Cond.selects RX0 yX0_isDelta yX0_isDelta, Cond.code yX0_isDelta cX0_isDelta 2 (some .boolean), Cond.methodLink RL 57 yX2_names, Cond.instanceMethod yX2_names, Cond.selects RX2 yX2_names yX2_names, Cond.code yX2_names cX2_names 1 (some (.array .int)), Cond.methodLink RX2 51 yX2_flow, Cond.instanceMethod yX2_flow, Cond.selects RX2 yX2_flow yX2_flow]
def wsL_law0_r9 : List Cond := [Cond.code yX2_flow cX2_flow 8 (some (.array (.array .int))), Cond.classLink RX2 34 "[[I", Cond.methodLink RX2 35 yX2_hasWater, Cond.instanceMethod yX2_hasWater, Cond.selects RX2 yX2_hasWater yX2_hasWater, Cond.code yX2_hasWater cX2_hasWater 2 (some .boolean), Cond.methodLink RX2 39 yX2_winner, Cond.instanceMethod yX2_winner, Cond.selects RX2 yX2_winner yX2_winner, Cond.code yX2_winner cX2_winner 10 (some .int), Cond.fieldLink RX2 19 "RiverNamesLaw$Sim" "rule" "I", Cond.methodLink RX2 43 yX2_arguers, Cond.instanceMethod yX2_arguers, Cond.selects RX2 yX2_arguers yX2_arguers, Cond.code yX2_arguers cX2_arguers 7 (some (.array .int)), Cond.methodLink RX2 47 yX2_called, Cond.instanceMethod yX2_called, Cond.selects RX2 yX2_called yX2_called, Cond.code yX2_called cX2_called 4 (some .int), Cond.methodLink RL 61 yX1_build, Cond.instanceMethod yX1_build, Cond.selects RX1 yX1_build yX1_build, Cond.code yX1_build cX1_build 3 (some .int), Cond.methodLink RX1 100 yX0_nameOf]
def wsL_law0_r10 : List Cond := [Cond.instanceMethod yX0_nameOf, Cond.selects RX0 yX0_nameOf yX0_nameOf, Cond.code yX0_nameOf cX0_nameOf 2 (some .int), Cond.methodLink RL 64 yX2_pass, Cond.instanceMethod yX2_pass, Cond.selects RX2 yX2_pass yX2_pass, Cond.code yX2_pass cX2_pass 8 none, Cond.fieldLink RX2 23 "RiverNamesLaw$Sim" "year" "I", Cond.methodLink RL 68 yX1_pass, Cond.instanceMethod yX1_pass, Cond.selects RX1 yX1_pass yX1_pass, Cond.code yX1_pass cX1_pass 2 (some .int), Cond.methodLink RX1 103 yX1_requireYears, Cond.static yX1_requireYears, Cond.code yX1_requireYears cX1_requireYears 1 none, Cond.methodLink RX1 106 yX0_swellFor, Cond.instanceMethod yX0_swellFor, Cond.selects RX0 yX0_swellFor yX0_swellFor, Cond.code yX0_swellFor cX0_swellFor 4 none, Cond.methodLink RX0 69 Lib.Math.min.name, Cond.static Lib.Math.min.name, Cond.code Lib.Math.min.name Lib.Math.min.code 2 (some .int), Cond.methodLink RX1 109 yX1_countInsults, Cond.instanceMethod yX1_countInsults]
def wsL_law0_r11 : List Cond := [Cond.selects RX1 yX1_countInsults yX1_countInsults, Cond.code yX1_countInsults cX1_countInsults 3 (some .int), Cond.methodLink RX1 146 yX1_suffersInsult, Cond.instanceMethod yX1_suffersInsult, Cond.selects RX1 yX1_suffersInsult yX1_suffersInsult, Cond.code yX1_suffersInsult cX1_suffersInsult 3 (some .boolean), Cond.methodLink RL 70 yX2_insults, Cond.instanceMethod yX2_insults, Cond.selects RX2 yX2_insults yX2_insults, Cond.code yX2_insults cX2_insults 7 (some .int), Cond.methodLink RL 89 yX1_digest, Cond.instanceMethod yX1_digest, Cond.selects RX1 yX1_digest yX1_digest, Cond.code yX1_digest cX1_digest 4 (some .long), Cond.constantLong RX1 160 (2027), Cond.methodLink RX1 162 yX1_mix, Cond.static yX1_mix, Cond.code yX1_mix cX1_mix 4 (some .long), Cond.constantLong RX1 228 (31), Cond.methodLink RX1 166 yX1_greatestName, Cond.instanceMethod yX1_greatestName, Cond.selects RX1 yX1_greatestName yX1_greatestName, Cond.code yX1_greatestName cX1_greatestName 5 (some .int), Cond.methodLink RX1 140 yX0_countNamed]
def wsL_law0_r12 : List Cond := [Cond.instanceMethod yX0_countNamed, Cond.selects RX0 yX0_countNamed yX0_countNamed, Cond.code yX0_countNamed cX0_countNamed 4 (some .int), Cond.methodLink RX1 169 yX1_nameless, Cond.instanceMethod yX1_nameless, Cond.selects RX1 yX1_nameless yX1_nameless, Cond.code yX1_nameless cX1_nameless 1 (some .int), Cond.methodLink RX1 172 yX1_weightiestSpring, Cond.instanceMethod yX1_weightiestSpring, Cond.selects RX1 yX1_weightiestSpring yX1_weightiestSpring, Cond.code yX1_weightiestSpring cX1_weightiestSpring 5 (some .int), Cond.methodLink RX1 118 yX0_springWaterOf, Cond.instanceMethod yX0_springWaterOf, Cond.selects RX0 yX0_springWaterOf yX0_springWaterOf, Cond.code yX0_springWaterOf cX0_springWaterOf 2 (some .int), Cond.methodLink RX1 149 yX0_takeOver, Cond.instanceMethod yX0_takeOver, Cond.selects RX0 yX0_takeOver yX0_takeOver, Cond.code yX0_takeOver cX0_takeOver 3 none, Cond.methodLink RX1 153 yX0_dryUp, Cond.instanceMethod yX0_dryUp, Cond.selects RX0 yX0_dryUp yX0_dryUp, Cond.code yX0_dryUp cX0_dryUp 2 none, Cond.methodLink RX1 156 yX0_countNamedOtherThan]
def wsL_law0_r13 : List Cond := [Cond.instanceMethod yX0_countNamedOtherThan, Cond.selects RX0 yX0_countNamedOtherThan yX0_countNamedOtherThan, Cond.code yX0_countNamedOtherThan cX0_countNamedOtherThan 4 (some .int), Cond.methodLink RX1 175 yX1_renamedByRule, Cond.instanceMethod yX1_renamedByRule, Cond.selects RX1 yX1_renamedByRule yX1_renamedByRule, Cond.code yX1_renamedByRule cX1_renamedByRule 1 (some .int), Cond.methodLink RX1 178 yX1_mixPlace, Cond.instanceMethod yX1_mixPlace, Cond.selects RX1 yX1_mixPlace yX1_mixPlace, Cond.code yX1_mixPlace cX1_mixPlace 6 (some .long), Cond.methodLink RX1 185 yX1_leadsTo, Cond.instanceMethod yX1_leadsTo, Cond.selects RX1 yX1_leadsTo yX1_leadsTo, Cond.code yX1_leadsTo cX1_leadsTo 2 (some .int), Cond.methodLink RX1 188 yX1_hasSpring, Cond.instanceMethod yX1_hasSpring, Cond.selects RX1 yX1_hasSpring yX1_hasSpring, Cond.code yX1_hasSpring cX1_hasSpring 2 (some .boolean), Cond.methodLink RX1 115 yX0_isSprung, Cond.instanceMethod yX0_isSprung, Cond.selects RX0 yX0_isSprung yX0_isSprung, Cond.code yX0_isSprung cX0_isSprung 2 (some .boolean), Cond.methodLink RX1 191 yX1_bit]
def wsL_law0_r14 : List Cond := [Cond.static yX1_bit, Cond.code yX1_bit cX1_bit 1 (some .long), Cond.methodLink RX1 195 yX1_springOf, Cond.instanceMethod yX1_springOf, Cond.selects RX1 yX1_springOf yX1_springOf, Cond.code yX1_springOf cX1_springOf 2 (some .int), Cond.methodLink RX1 198 yX1_waterAt, Cond.instanceMethod yX1_waterAt, Cond.selects RX1 yX1_waterAt yX1_waterAt, Cond.code yX1_waterAt cX1_waterAt 2 (some .int), Cond.methodLink RX1 121 yX0_waterOf, Cond.instanceMethod yX0_waterOf, Cond.selects RX0 yX0_waterOf yX0_waterOf, Cond.code yX0_waterOf cX0_waterOf 2 (some .int), Cond.methodLink RX1 201 yX1_lengthAt, Cond.instanceMethod yX1_lengthAt, Cond.selects RX1 yX1_lengthAt yX1_lengthAt, Cond.code yX1_lengthAt cX1_lengthAt 2 (some .int), Cond.methodLink RX1 124 yX0_lengthOf, Cond.instanceMethod yX0_lengthOf, Cond.selects RX0 yX0_lengthOf yX0_lengthOf, Cond.code yX0_lengthOf cX0_lengthOf 2 (some .int), Cond.methodLink RX1 204 yX1_mouthOf, Cond.instanceMethod yX1_mouthOf]
def wsL_law0_r15 : List Cond := [Cond.selects RX1 yX1_mouthOf yX1_mouthOf, Cond.code yX1_mouthOf cX1_mouthOf 2 (some .int), Cond.methodLink RX1 127 yX0_lastOnWay, Cond.instanceMethod yX0_lastOnWay, Cond.selects RX0 yX0_lastOnWay yX0_lastOnWay, Cond.code yX0_lastOnWay cX0_lastOnWay 4 (some .int), Cond.methodLink RX1 207 yX1_placesAbove, Cond.instanceMethod yX1_placesAbove, Cond.selects RX1 yX1_placesAbove yX1_placesAbove, Cond.code yX1_placesAbove cX1_placesAbove 4 (some .int), Cond.methodLink RX1 210 yX1_nameAt, Cond.instanceMethod yX1_nameAt, Cond.selects RX1 yX1_nameAt yX1_nameAt, Cond.code yX1_nameAt cX1_nameAt 2 (some .int), Cond.methodLink RX1 213 yX1_arguing, Cond.instanceMethod yX1_arguing, Cond.selects RX1 yX1_arguing yX1_arguing, Cond.code yX1_arguing cX1_arguing 2 (some .int), Cond.methodLink RX1 134 yX0_arguersAt, Cond.instanceMethod yX0_arguersAt, Cond.selects RX0 yX0_arguersAt yX0_arguersAt, Cond.code yX0_arguersAt cX0_arguersAt 2 (some .int), Cond.methodLink RX1 216 yX1_isArgued, Cond.instanceMethod yX1_isArgued]
def wsL_law0_r16 : List Cond := [Cond.selects RX1 yX1_isArgued yX1_isArgued, Cond.code yX1_isArgued cX1_isArgued 2 (some .boolean), Cond.methodLink RX1 137 yX0_isDisputed, Cond.instanceMethod yX0_isDisputed, Cond.selects RX0 yX0_isDisputed yX0_isDisputed, Cond.code yX0_isDisputed cX0_isDisputed 2 (some .boolean), Cond.methodLink RX1 182 yX1_mixBridge, Cond.instanceMethod yX1_mixBridge, Cond.selects RX1 yX1_mixBridge yX1_mixBridge, Cond.code yX1_mixBridge cX1_mixBridge 6 (some .long), Cond.methodLink RX1 219 yX1_placeOf, Cond.instanceMethod yX1_placeOf, Cond.selects RX1 yX1_placeOf yX1_placeOf, Cond.code yX1_placeOf cX1_placeOf 2 (some .int), Cond.methodLink RX1 143 yX1_requireBridge, Cond.instanceMethod yX1_requireBridge, Cond.selects RX1 yX1_requireBridge yX1_requireBridge, Cond.code yX1_requireBridge cX1_requireBridge 2 none, Cond.methodLink RX1 222 yX1_keeps, Cond.instanceMethod yX1_keeps, Cond.selects RX1 yX1_keeps yX1_keeps, Cond.code yX1_keeps cX1_keeps 2 (some .int), Cond.methodLink RX1 225 yX1_isInsulted, Cond.instanceMethod yX1_isInsulted]
def wsL_law0_r17 : List Cond := [Cond.selects RX1 yX1_isInsulted yX1_isInsulted, Cond.code yX1_isInsulted cX1_isInsulted 2 (some .boolean), Cond.methodLink RL 93 yX1_places, Cond.instanceMethod yX1_places, Cond.selects RX1 yX1_places yX1_places, Cond.code yX1_places cX1_places 1 (some .int), Cond.methodLink RL 95 yX1_placesNamed, Cond.instanceMethod yX1_placesNamed, Cond.selects RX1 yX1_placesNamed yX1_placesNamed, Cond.code yX1_placesNamed cX1_placesNamed 2 (some .int), Cond.methodLink RL 103 yX1_nameless, Cond.methodLink RL 106 yX1_greatestName, Cond.methodLink RL 109 yX1_springOf, Cond.methodLink RL 112 yX1_nameAt, Cond.methodLink RL 115 yX1_isAbove, Cond.instanceMethod yX1_isAbove, Cond.selects RX1 yX1_isAbove yX1_isAbove, Cond.code yX1_isAbove cX1_isAbove 3 (some .boolean), Cond.methodLink RL 116 yX1_meeting, Cond.instanceMethod yX1_meeting, Cond.selects RX1 yX1_meeting yX1_meeting, Cond.code yX1_meeting cX1_meeting 3 (some .int), Cond.methodLink RX1 130 yX0_firstCommon, Cond.instanceMethod yX0_firstCommon]
def wsL_law0_r18 : List Cond := [Cond.selects RX0 yX0_firstCommon yX0_firstCommon, Cond.code yX0_firstCommon cX0_firstCommon 5 (some .int), Cond.methodLink RX0 82 yX0_flowsTo, Cond.methodLink RL 119 yX1_mouthOf, Cond.methodLink RL 122 yX1_waterAt, Cond.methodLink RL 125 yX1_leadsTo, Cond.methodLink RL 128 yX1_lengthAt, Cond.methodLink RL 131 yX1_placesAbove, Cond.methodLink RL 134 yX1_arguing, Cond.methodLink RL 137 yX1_isArgued, Cond.methodLink RL 140 yX1_hasSpring, Cond.methodLink RL 143 yX1_meanMouth, Cond.instanceMethod yX1_meanMouth, Cond.selects RX1 yX1_meanMouth yX1_meanMouth, Cond.code yX1_meanMouth cX1_meanMouth 4 (some .double), Cond.methodLink RL 147 yX1_bridges, Cond.instanceMethod yX1_bridges, Cond.selects RX1 yX1_bridges yX1_bridges, Cond.code yX1_bridges cX1_bridges 1 (some .int), Cond.methodLink RL 149 yX1_keeps, Cond.methodLink RL 152 yX1_placeOf, Cond.methodLink RL 155 yX1_isInsulted, Cond.methodLink RL 158 yX1_insultsAt, Cond.instanceMethod yX1_insultsAt]
def wsL_law0_r19 : List Cond := [Cond.selects RX1 yX1_insultsAt yX1_insultsAt, Cond.code yX1_insultsAt cX1_insultsAt 4 (some .int), Cond.methodLink RL 161 yX1_weightiestSpring, Cond.methodLink RL 164 yX1_insults, Cond.instanceMethod yX1_insults, Cond.selects RX1 yX1_insults yX1_insults, Cond.code yX1_insults cX1_insults 1 (some .int), Cond.methodLink RL 166 yL_names, Cond.static yL_names, Cond.code yL_names cL_names 3 (some (.array .int)), Cond.methodLink RL 169 yX1_renamedByDelta, Cond.instanceMethod yX1_renamedByDelta, Cond.selects RX1 yX1_renamedByDelta yX1_renamedByDelta, Cond.code yX1_renamedByDelta cX1_renamedByDelta 2 (some .int), Cond.methodLink RL 172 yX2_differ, Cond.static yX2_differ, Cond.code yX2_differ cX2_differ 4 (some .int), Cond.methodLink RL 176 yX1_renamedByRule, Cond.methodLink RL 179 yX1_nameIn, Cond.instanceMethod yX1_nameIn, Cond.selects RX1 yX1_nameIn yX1_nameIn, Cond.code yX1_nameIn cX1_nameIn 3 (some .int), Cond.methodLink RL 182 yX1_yearsUntilRenamed, Cond.instanceMethod yX1_yearsUntilRenamed]
def wsL_law0_r20 : List Cond := [Cond.selects RX1 yX1_yearsUntilRenamed yX1_yearsUntilRenamed, Cond.code yX1_yearsUntilRenamed cX1_yearsUntilRenamed 3 (some .int), Cond.methodLink RL 185 yX2_isSame, Cond.instanceMethod yX2_isSame, Cond.selects RX2 yX2_isSame yX2_isSame, Cond.code yX2_isSame cX2_isSame 19 (some .boolean), Cond.methodLink RX2 55 yX2_isAbove, Cond.methodLink RX2 59 yX1_leadsTo, Cond.methodLink RX2 65 yX1_hasSpring, Cond.methodLink RX2 68 yX1_springOf, Cond.methodLink RX2 71 yX1_waterAt, Cond.methodLink RX2 74 yX1_lengthAt, Cond.methodLink RX2 77 yX1_mouthOf, Cond.methodLink RX2 80 yX1_placesAbove, Cond.methodLink RX2 83 yX1_nameAt, Cond.methodLink RX2 86 yX1_arguing, Cond.methodLink RX2 89 yX1_isArgued, Cond.methodLink RX2 92 yX1_insultsAt, Cond.methodLink RX2 95 yX1_placesNamed, Cond.methodLink RX2 98 yX1_placeOf, Cond.methodLink RX2 101 yX1_keeps, Cond.methodLink RX2 104 yX1_isInsulted, Cond.methodLink RX2 107 yX1_year, Cond.instanceMethod yX1_year]
def wsL_law0_r21 : List Cond := [Cond.selects RX1 yX1_year yX1_year, Cond.code yX1_year cX1_year 1 (some .int), Cond.methodLink RX2 110 yX1_places, Cond.methodLink RX2 112 yX1_bridges, Cond.methodLink RX2 114 yX1_insults, Cond.methodLink RX2 117 yX2_insults, Cond.methodLink RX2 120 yX1_greatestName, Cond.methodLink RX2 123 yX1_nameless, Cond.methodLink RX2 126 yX1_meanMouth]
def wsL_law0 : List Cond := (wsL_law0_r1 ++ (wsL_law0_r2 ++ (wsL_law0_r3 ++ (wsL_law0_r4 ++ (wsL_law0_r5 ++ (wsL_law0_r6 ++ (wsL_law0_r7 ++ (wsL_law0_r8 ++ (wsL_law0_r9 ++ (wsL_law0_r10 ++ (wsL_law0_r11 ++ (wsL_law0_r12 ++ (wsL_law0_r13 ++ (wsL_law0_r14 ++ (wsL_law0_r15 ++ (wsL_law0_r16 ++ (wsL_law0_r17 ++ (wsL_law0_r18 ++ (wsL_law0_r19 ++ (wsL_law0_r20 ++ wsL_law0_r21)))))))))))))))))))) ++ wsX10 ++ wsX20 ++ wsX00 ++ ([] : List Cond)
def wsL_law : List Cond := wsL_law0 ++ (vx_atS RX1 52 "java/lang/IllegalArgumentException" ["java/lang/RuntimeException", "java/lang/Exception"]).filter goodWord ++ (vx_atS RX1 237 "java/lang/IndexOutOfBoundsException" ["java/lang/RuntimeException", "java/lang/Exception"]).filter goodWord ++ (vx_atS RX1 68 "java/lang/IllegalStateException" ["java/lang/RuntimeException", "java/lang/Exception"]).filter goodWord
end
section
set_option maxRecDepth 20000 in
theorem wsL_in_r1 : ∀ w ∈ wsL_law0_r1, w ∈ lw_tbl := fun w h => (goodIn_p wsL_law0_r1 [212, 29, 32] (by decide +kernel) (by decide +kernel) w h).1
set_option maxRecDepth 20000 in
theorem wsL_in_r2 : ∀ w ∈ wsL_law0_r2, w ∈ lw_tbl := fun w h => (goodIn_p wsL_law0_r2 [37] (by decide +kernel) (by decide +kernel) w h).1
set_option maxRecDepth 20000 in
theorem wsL_in_r3 : ∀ w ∈ wsL_law0_r3, w ∈ lw_tbl := fun w h => (goodIn_p wsL_law0_r3 [642, 646, 567, 563, 575] (by decide +kernel) (by decide +kernel) w h).1
set_option maxRecDepth 20000 in
theorem wsL_in_r4 : ∀ w ∈ wsL_law0_r4, w ∈ lw_tbl := fun w h => (goodIn_p wsL_law0_r4 [608, 378, 223, 584, 282] (by decide +kernel) (by decide +kernel) w h).1
set_option maxRecDepth 20000 in
theorem wsL_in_r5 : ∀ w ∈ wsL_law0_r5, w ∈ lw_tbl := fun w h => (goodIn_p wsL_law0_r5 [614, 196, 200, 204, 208, 120] (by decide +kernel) (by decide +kernel) w h).1
set_option maxRecDepth 20000 in
theorem wsL_in_r6 : ∀ w ∈ wsL_law0_r6, w ∈ lw_tbl := fun w h => (goodIn_p wsL_law0_r6 [580, 604, 531, 619, 116, 338] (by decide +kernel) (by decide +kernel) w h).1
set_option maxRecDepth 20000 in
theorem wsL_in_r7 : ∀ w ∈ wsL_law0_r7, w ∈ lw_tbl := fun w h => (goodIn_p wsL_law0_r7 [290, 625, 629, 220, 243, 247] (by decide +kernel) (by decide +kernel) w h).1
def wsL_law0_r8a : List Cond := [Cond.methodLink RL 85 yL_act, Cond.static yL_act]
set_option maxRecDepth 20000 in
theorem wsL_in_r8a : ∀ w ∈ wsL_law0_r8a, w ∈ lw_tbl := fun w h => (goodIn_p wsL_law0_r8a [] (by decide +kernel) (by decide +kernel) w h).1
def wsL_law0_r8b : List Cond := [Cond.classLink RL 74 "java/lang/IllegalStateException", Cond.fieldLink RL 54 "RiverNamesLaw$Sim" "bridges" "[[I", Cond.methodLink RL 42 yX1_turnDelta, Cond.instanceMethod yX1_turnDelta, Cond.selects RX1 yX1_turnDelta yX1_turnDelta, Cond.code yX1_turnDelta cX1_turnDelta 2 (some .boolean), Cond.methodLink RX1 83 yX0_toggleDelta, Cond.instanceMethod yX0_toggleDelta, Cond.selects RX0 yX0_toggleDelta yX0_toggleDelta, Cond.code yX0_toggleDelta cX0_toggleDelta 2 none, Cond.methodLink RX1 86 yX0_isDelta, Cond.instanceMethod yX0_isDelta, Cond.selects RX0 yX0_isDelta yX0_isDelta, Cond.code yX0_isDelta cX0_isDelta 2 (some .boolean), Cond.methodLink RL 57 yX2_names, Cond.instanceMethod yX2_names, Cond.selects RX2 yX2_names yX2_names, Cond.code yX2_names cX2_names 1 (some (.array .int)), Cond.methodLink RX2 51 yX2_flow, Cond.instanceMethod yX2_flow, Cond.selects RX2 yX2_flow yX2_flow]
set_option maxRecDepth 20000 in
theorem wsL_in_r8b : ∀ w ∈ wsL_law0_r8b, w ∈ lw_tbl := fun w h => (goodIn_p wsL_law0_r8b [112, 192, 216, 633] (by decide +kernel) (by decide +kernel) w h).1
set_option maxRecDepth 20000 in
theorem wsL_in_r8c : Cond.codeWith yL_act cL_act 9 (some .boolean) [(36, 158, 602, 74), (159, 264, 602, 74), (265, 270, 602, 74), (271, 356, 602, 74), (357, 362, 602, 74), (363, 418, 602, 74), (419, 457, 602, 74), (458, 463, 602, 74), (464, 541, 602, 74), (542, 601, 602, 74)] ∈ lw_tbl := List.mem_of_getElem? (i := 571) rfl
theorem wsL_in_r8 : ∀ w ∈ wsL_law0_r8, w ∈ lw_tbl := fun w h => (List.mem_append.mp (show w ∈ wsL_law0_r8a ++ ((Cond.codeWith yL_act cL_act 9 (some .boolean) [(36, 158, 602, 74), (159, 264, 602, 74), (265, 270, 602, 74), (271, 356, 602, 74), (357, 362, 602, 74), (363, 418, 602, 74), (419, 457, 602, 74), (458, 463, 602, 74), (464, 541, 602, 74), (542, 601, 602, 74)]) :: wsL_law0_r8b) from h)).elim (wsL_in_r8a w) (fun h => (List.mem_cons.mp h).elim (fun e => e ▸ wsL_in_r8c) (wsL_in_r8b w))
set_option maxRecDepth 20000 in
theorem wsL_in_r9 : ∀ w ∈ wsL_law0_r9, w ∈ lw_tbl := fun w h => (goodIn_p wsL_law0_r9 [508, 514, 519, 523, 527, 637] (by decide +kernel) (by decide +kernel) w h).1
set_option maxRecDepth 20000 in
theorem wsL_in_r10 : ∀ w ∈ wsL_law0_r10, w ∈ lw_tbl := fun w h => (goodIn_p wsL_law0_r10 [274, 500, 251, 254, 259, 262] (by decide +kernel) (by decide +kernel) w h).1
set_option maxRecDepth 20000 in
theorem wsL_in_r11 : ∀ w ∈ wsL_law0_r11, w ∈ lw_tbl := fun w h => (goodIn_p wsL_law0_r11 [266, 270, 557, 460, 464, 387] (by decide +kernel) (by decide +kernel) w h).1
set_option maxRecDepth 20000 in
theorem wsL_in_r12 : ∀ w ∈ wsL_law0_r12, w ∈ lw_tbl := fun w h => (goodIn_p wsL_law0_r12 [383, 391, 436, 306, 428, 440] (by decide +kernel) (by decide +kernel) w h).1
set_option maxRecDepth 20000 in
theorem wsL_in_r13 : ∀ w ∈ wsL_law0_r13, w ∈ lw_tbl := fun w h => (goodIn_p wsL_law0_r13 [444, 452, 473, 286, 294, 298] (by decide +kernel) (by decide +kernel) w h).1
set_option maxRecDepth 20000 in
theorem wsL_in_r14 : ∀ w ∈ wsL_law0_r14, w ∈ lw_tbl := fun w h => (goodIn_p wsL_law0_r14 [478, 302, 310, 314, 318, 322] (by decide +kernel) (by decide +kernel) w h).1
set_option maxRecDepth 20000 in
theorem wsL_in_r15 : ∀ w ∈ wsL_law0_r15, w ∈ lw_tbl := fun w h => (goodIn_p wsL_law0_r15 [326, 330, 342, 355, 359, 363] (by decide +kernel) (by decide +kernel) w h).1
set_option maxRecDepth 20000 in
theorem wsL_in_r16 : ∀ w ∈ wsL_law0_r16, w ∈ lw_tbl := fun w h => (goodIn_p wsL_law0_r16 [367, 371, 490, 399, 403, 408] (by decide +kernel) (by decide +kernel) w h).1
set_option maxRecDepth 20000 in
theorem wsL_in_r17 : ∀ w ∈ wsL_law0_r17, w ∈ lw_tbl := fun w h => (goodIn_p wsL_law0_r17 [412, 278, 375, 334, 346] (by decide +kernel) (by decide +kernel) w h).1
set_option maxRecDepth 20000 in
theorem wsL_in_r18 : ∀ w ∈ wsL_law0_r18, w ∈ lw_tbl := fun w h => (goodIn_p wsL_law0_r18 [350, 456, 395] (by decide +kernel) (by decide +kernel) w h).1
set_option maxRecDepth 20000 in
theorem wsL_in_r19 : ∀ w ∈ wsL_law0_r19, w ∈ lw_tbl := fun w h => (goodIn_p wsL_law0_r19 [420, 416, 666, 448, 496, 424] (by decide +kernel) (by decide +kernel) w h).1
def wsL_law0_r20a : List Cond := [Cond.selects RX1 yX1_yearsUntilRenamed yX1_yearsUntilRenamed, Cond.code yX1_yearsUntilRenamed cX1_yearsUntilRenamed 3 (some .int), Cond.methodLink RL 185 yX2_isSame, Cond.instanceMethod yX2_isSame, Cond.selects RX2 yX2_isSame yX2_isSame]
set_option maxRecDepth 20000 in
theorem wsL_in_r20a : ∀ w ∈ wsL_law0_r20a, w ∈ lw_tbl := fun w h => (goodIn_p wsL_law0_r20a [432] (by decide +kernel) (by decide +kernel) w h).1
def wsL_law0_r20b : List Cond := [Cond.methodLink RX2 55 yX2_isAbove, Cond.methodLink RX2 59 yX1_leadsTo, Cond.methodLink RX2 65 yX1_hasSpring, Cond.methodLink RX2 68 yX1_springOf, Cond.methodLink RX2 71 yX1_waterAt, Cond.methodLink RX2 74 yX1_lengthAt, Cond.methodLink RX2 77 yX1_mouthOf, Cond.methodLink RX2 80 yX1_placesAbove, Cond.methodLink RX2 83 yX1_nameAt, Cond.methodLink RX2 86 yX1_arguing, Cond.methodLink RX2 89 yX1_isArgued, Cond.methodLink RX2 92 yX1_insultsAt, Cond.methodLink RX2 95 yX1_placesNamed, Cond.methodLink RX2 98 yX1_placeOf, Cond.methodLink RX2 101 yX1_keeps, Cond.methodLink RX2 104 yX1_isInsulted, Cond.methodLink RX2 107 yX1_year, Cond.instanceMethod yX1_year]
set_option maxRecDepth 20000 in
theorem wsL_in_r20b : ∀ w ∈ wsL_law0_r20b, w ∈ lw_tbl := fun w h => (goodIn_p wsL_law0_r20b [] (by decide +kernel) (by decide +kernel) w h).1
set_option maxRecDepth 20000 in
theorem wsL_in_r20c : Cond.code yX2_isSame cX2_isSame 19 (some .boolean) ∈ lw_tbl := List.mem_of_getElem? (i := 504) rfl
theorem wsL_in_r20 : ∀ w ∈ wsL_law0_r20, w ∈ lw_tbl := fun w h => (List.mem_append.mp (show w ∈ wsL_law0_r20a ++ ((Cond.code yX2_isSame cX2_isSame 19 (some .boolean)) :: wsL_law0_r20b) from h)).elim (wsL_in_r20a w) (fun h => (List.mem_cons.mp h).elim (fun e => e ▸ wsL_in_r20c) (wsL_in_r20b w))
set_option maxRecDepth 20000 in
theorem wsL_in_r21 : ∀ w ∈ wsL_law0_r21, w ∈ lw_tbl := fun w h => (goodIn_p wsL_law0_r21 [550] (by decide +kernel) (by decide +kernel) w h).1
set_option maxRecDepth 20000 in
theorem wsL_in_wsX10 : ∀ w ∈ wsX10, w ∈ lw_tbl := fun w h => (goodIn_p wsX10 [] (by decide +kernel) (by decide +kernel) w h).1
set_option maxRecDepth 20000 in
theorem wsL_in_wsX20 : ∀ w ∈ wsX20, w ∈ lw_tbl := fun w h => (goodIn_p wsX20 [] (by decide +kernel) (by decide +kernel) w h).1
set_option maxRecDepth 20000 in
theorem wsL_in_wsX00 : ∀ w ∈ wsX00, w ∈ lw_tbl := fun w h => (goodIn_p wsX00 [] (by decide +kernel) (by decide +kernel) w h).1
theorem wsL_law_in0 : ∀ w ∈ wsL_law0, w ∈ lw_tbl := fun w h => (List.mem_append.mp h).elim (fun h => (List.mem_append.mp h).elim (fun h => (List.mem_append.mp h).elim (fun h => (List.mem_append.mp h).elim (fun h => (List.mem_append.mp h).elim (wsL_in_r1 w) (fun h => (List.mem_append.mp h).elim (wsL_in_r2 w) (fun h => (List.mem_append.mp h).elim (wsL_in_r3 w) (fun h => (List.mem_append.mp h).elim (wsL_in_r4 w) (fun h => (List.mem_append.mp h).elim (wsL_in_r5 w) (fun h => (List.mem_append.mp h).elim (wsL_in_r6 w) (fun h => (List.mem_append.mp h).elim (wsL_in_r7 w) (fun h => (List.mem_append.mp h).elim (wsL_in_r8 w) (fun h => (List.mem_append.mp h).elim (wsL_in_r9 w) (fun h => (List.mem_append.mp h).elim (wsL_in_r10 w) (fun h => (List.mem_append.mp h).elim (wsL_in_r11 w) (fun h => (List.mem_append.mp h).elim (wsL_in_r12 w) (fun h => (List.mem_append.mp h).elim (wsL_in_r13 w) (fun h => (List.mem_append.mp h).elim (wsL_in_r14 w) (fun h => (List.mem_append.mp h).elim (wsL_in_r15 w) (fun h => (List.mem_append.mp h).elim (wsL_in_r16 w) (fun h => (List.mem_append.mp h).elim (wsL_in_r17 w) (fun h => (List.mem_append.mp h).elim (wsL_in_r18 w) (fun h => (List.mem_append.mp h).elim (wsL_in_r19 w) (fun h => (List.mem_append.mp h).elim (wsL_in_r20 w) (fun h => wsL_in_r21 w h))))))))))))))))))))) (wsL_in_wsX10 w)) (wsL_in_wsX20 w)) (wsL_in_wsX00 w)) (fun h => nomatch h)
theorem wsL_law_x0 : ∀ w ∈ (vx_atS RX1 52 "java/lang/IllegalArgumentException" ["java/lang/RuntimeException", "java/lang/Exception"]).filter goodWord, w ∈ lw_tbl := by decide +kernel
theorem wsL_law_x1 : ∀ w ∈ (vx_atS RX1 237 "java/lang/IndexOutOfBoundsException" ["java/lang/RuntimeException", "java/lang/Exception"]).filter goodWord, w ∈ lw_tbl := by decide +kernel
theorem wsL_law_x2 : ∀ w ∈ (vx_atS RX1 68 "java/lang/IllegalStateException" ["java/lang/RuntimeException", "java/lang/Exception"]).filter goodWord, w ∈ lw_tbl := by decide +kernel
theorem wsL_law_in : ∀ w ∈ wsL_law, w ∈ lw_tbl := fun w h => (List.mem_append.mp h).elim (fun h => (List.mem_append.mp h).elim (fun h => (List.mem_append.mp h).elim (fun h => wsL_law_in0 w h) (fun h => wsL_law_x0 w h)) (fun h => wsL_law_x1 w h)) (fun h => wsL_law_x2 w h)
theorem inlX0 : ∀ w ∈ wsX00, w ∈ wsL_law := fun _ h => List.mem_append_left _ (List.mem_append_left _ (List.mem_append_left _ (List.mem_append_left _ (List.mem_append_right _ h))))
theorem inX0 : ∀ w ∈ wsX00, w ∈ lw_tbl := fun w h => wsL_law_in w (inlX0 w h)
theorem inlX1 : ∀ w ∈ wsX10, w ∈ wsL_law := fun _ h => List.mem_append_left _ (List.mem_append_left _ (List.mem_append_left _ (List.mem_append_left _ (List.mem_append_left _ (List.mem_append_left _ (List.mem_append_right _ h))))))
theorem inX1 : ∀ w ∈ wsX10, w ∈ lw_tbl := fun w h => wsL_law_in w (inlX1 w h)
theorem inlX2 : ∀ w ∈ wsX20, w ∈ wsL_law := fun _ h => List.mem_append_left _ (List.mem_append_left _ (List.mem_append_left _ (List.mem_append_left _ (List.mem_append_left _ (List.mem_append_right _ h)))))
theorem inX2 : ∀ w ∈ wsX20, w ∈ lw_tbl := fun w h => wsL_law_in w (inlX2 w h)
theorem inJ9 : ∀ w ∈ wsJ90, w ∈ lw_tbl := by decide +kernel
theorem inJ0 : ∀ w ∈ wsJ00, w ∈ lw_tbl := by decide +kernel
end
section
theorem dX0_init_0 : decode cX0_init 0 = .ok (.aload_n 0, 1) := by decide +kernel
theorem dX0_init_1 : decode cX0_init 1 = .ok (.invokespecial 3, 3) := by decide +kernel
theorem dX0_init_4 : decode cX0_init 4 = .ok (.aload_n 0, 1) := by decide +kernel
theorem dX0_init_5 : decode cX0_init 5 = .ok (.iconst 0, 1) := by decide +kernel
theorem dX0_init_6 : decode cX0_init 6 = .ok (.putfield 9, 3) := by decide +kernel
theorem dX0_init_9 : decode cX0_init 9 = .ok (.aload_n 0, 1) := by decide +kernel
theorem dX0_init_10 : decode cX0_init 10 = .ok (.iconst 0, 1) := by decide +kernel
theorem dX0_init_11 : decode cX0_init 11 = .ok (.putfield 15, 3) := by decide +kernel
theorem dX0_init_14 : decode cX0_init 14 = .ok (.aload_n 0, 1) := by decide +kernel
theorem dX0_init_15 : decode cX0_init 15 = .ok (.bipush 16, 2) := by decide +kernel
theorem dX0_init_17 : decode cX0_init 17 = .ok (.newarray .int, 2) := by decide +kernel
theorem dX0_init_19 : decode cX0_init 19 = .ok (.putfield 18, 3) := by decide +kernel
theorem dX0_init_22 : decode cX0_init 22 = .ok (.aload_n 0, 1) := by decide +kernel
theorem dX0_init_23 : decode cX0_init 23 = .ok (.bipush 16, 2) := by decide +kernel
theorem dX0_init_25 : decode cX0_init 25 = .ok (.newarray .int, 2) := by decide +kernel
theorem dX0_init_27 : decode cX0_init 27 = .ok (.putfield 22, 3) := by decide +kernel
theorem dX0_init_30 : decode cX0_init 30 = .ok (.aload_n 0, 1) := by decide +kernel
theorem dX0_init_31 : decode cX0_init 31 = .ok (.bipush 16, 2) := by decide +kernel
theorem dX0_init_33 : decode cX0_init 33 = .ok (.newarray .boolean, 2) := by decide +kernel
theorem dX0_init_35 : decode cX0_init 35 = .ok (.putfield 25, 3) := by decide +kernel
theorem dX0_init_38 : decode cX0_init 38 = .ok (.aload_n 0, 1) := by decide +kernel
theorem dX0_init_39 : decode cX0_init 39 = .ok (.bipush 16, 2) := by decide +kernel
theorem dX0_init_41 : decode cX0_init 41 = .ok (.newarray .int, 2) := by decide +kernel
theorem dX0_init_43 : decode cX0_init 43 = .ok (.putfield 29, 3) := by decide +kernel
theorem dX0_init_46 : decode cX0_init 46 = .ok (.aload_n 0, 1) := by decide +kernel
theorem dX0_init_47 : decode cX0_init 47 = .ok (.bipush 16, 2) := by decide +kernel
theorem dX0_init_49 : decode cX0_init 49 = .ok (.newarray .int, 2) := by decide +kernel
theorem dX0_init_51 : decode cX0_init 51 = .ok (.putfield 32, 3) := by decide +kernel
theorem dX0_init_54 : decode cX0_init 54 = .ok (.aload_n 0, 1) := by decide +kernel
theorem dX0_init_55 : decode cX0_init 55 = .ok (.bipush 16, 2) := by decide +kernel
theorem dX0_init_57 : decode cX0_init 57 = .ok (.newarray .int, 2) := by decide +kernel
theorem dX0_init_59 : decode cX0_init 59 = .ok (.putfield 35, 3) := by decide +kernel
theorem dX0_init_62 : decode cX0_init 62 = .ok (.aload_n 0, 1) := by decide +kernel
theorem dX0_init_63 : decode cX0_init 63 = .ok (.bipush 16, 2) := by decide +kernel
theorem dX0_init_65 : decode cX0_init 65 = .ok (.newarray .boolean, 2) := by decide +kernel
theorem dX0_init_67 : decode cX0_init 67 = .ok (.putfield 38, 3) := by decide +kernel
theorem dX0_init_70 : decode cX0_init 70 = .ok (.aload_n 0, 1) := by decide +kernel
theorem dX0_init_71 : decode cX0_init 71 = .ok (.bipush 16, 2) := by decide +kernel
theorem dX0_init_73 : decode cX0_init 73 = .ok (.newarray .int, 2) := by decide +kernel
theorem dX0_init_75 : decode cX0_init 75 = .ok (.putfield 41, 3) := by decide +kernel
theorem dX0_init_78 : decode cX0_init 78 = .ok (.aload_n 0, 1) := by decide +kernel
theorem dX0_init_79 : decode cX0_init 79 = .ok (.bipush 16, 2) := by decide +kernel
theorem dX0_init_81 : decode cX0_init 81 = .ok (.newarray .int, 2) := by decide +kernel
theorem dX0_init_83 : decode cX0_init 83 = .ok (.putfield 44, 3) := by decide +kernel
theorem dX0_init_86 : decode cX0_init 86 = .ok (.aload_n 0, 1) := by decide +kernel
theorem dX0_init_87 : decode cX0_init 87 = .ok (.bipush 16, 2) := by decide +kernel
theorem dX0_init_89 : decode cX0_init 89 = .ok (.newarray .int, 2) := by decide +kernel
theorem dX0_init_91 : decode cX0_init 91 = .ok (.putfield 47, 3) := by decide +kernel
theorem dX0_init_94 : decode cX0_init 94 = .ok (.aload_n 0, 1) := by decide +kernel
theorem dX0_init_95 : decode cX0_init 95 = .ok (.bipush 16, 2) := by decide +kernel
theorem dX0_init_97 : decode cX0_init 97 = .ok (.newarray .int, 2) := by decide +kernel
theorem dX0_init_99 : decode cX0_init 99 = .ok (.putfield 50, 3) := by decide +kernel
theorem dX0_init_102 : decode cX0_init 102 = .ok (.aload_n 0, 1) := by decide +kernel
theorem dX0_init_103 : decode cX0_init 103 = .ok (.bipush 16, 2) := by decide +kernel
theorem dX0_init_105 : decode cX0_init 105 = .ok (.newarray .boolean, 2) := by decide +kernel
theorem dX0_init_107 : decode cX0_init 107 = .ok (.putfield 53, 3) := by decide +kernel
theorem dX0_init_110 : decode cX0_init 110 = .ok (.aload_n 0, 1) := by decide +kernel
theorem dX0_init_111 : decode cX0_init 111 = .ok (.bipush 16, 2) := by decide +kernel
theorem dX0_init_113 : decode cX0_init 113 = .ok (.newarray .int, 2) := by decide +kernel
theorem dX0_init_115 : decode cX0_init 115 = .ok (.putfield 56, 3) := by decide +kernel
theorem dX0_init_118 : decode cX0_init 118 = .ok (.aload_n 0, 1) := by decide +kernel
theorem dX0_init_119 : decode cX0_init 119 = .ok (.bipush 16, 2) := by decide +kernel
theorem dX0_init_121 : decode cX0_init 121 = .ok (.newarray .int, 2) := by decide +kernel
theorem dX0_init_123 : decode cX0_init 123 = .ok (.putfield 59, 3) := by decide +kernel
theorem dX0_init_126 : decode cX0_init 126 = .ok (.return_, 1) := by decide +kernel
theorem dX0_size_0 : decode cX0_size 0 = .ok (.aload_n 0, 1) := by decide +kernel
theorem dX0_size_1 : decode cX0_size 1 = .ok (.getfield 9, 3) := by decide +kernel
theorem dX0_size_4 : decode cX0_size 4 = .ok (.ireturn, 1) := by decide +kernel
theorem dX0_ruleNow_0 : decode cX0_ruleNow 0 = .ok (.aload_n 0, 1) := by decide +kernel
theorem dX0_ruleNow_1 : decode cX0_ruleNow 1 = .ok (.getfield 15, 3) := by decide +kernel
theorem dX0_ruleNow_4 : decode cX0_ruleNow 4 = .ok (.ireturn, 1) := by decide +kernel
theorem dX0_isPlace_0 : decode cX0_isPlace 0 = .ok (.iload_n 1, 1) := by decide +kernel
theorem dX0_isPlace_1 : decode cX0_isPlace 1 = .ok (.ifCond .lt 15, 3) := by decide +kernel
theorem dX0_isPlace_4 : decode cX0_isPlace 4 = .ok (.iload_n 1, 1) := by decide +kernel
theorem dX0_isPlace_5 : decode cX0_isPlace 5 = .ok (.aload_n 0, 1) := by decide +kernel
theorem dX0_isPlace_6 : decode cX0_isPlace 6 = .ok (.getfield 9, 3) := by decide +kernel
theorem dX0_isPlace_9 : decode cX0_isPlace 9 = .ok (.if_icmp .ge 7, 3) := by decide +kernel
theorem dX0_isPlace_12 : decode cX0_isPlace 12 = .ok (.iconst 1, 1) := by decide +kernel
theorem dX0_isPlace_13 : decode cX0_isPlace 13 = .ok (.goto 4, 3) := by decide +kernel
theorem dX0_isPlace_16 : decode cX0_isPlace 16 = .ok (.iconst 0, 1) := by decide +kernel
theorem dX0_isPlace_17 : decode cX0_isPlace 17 = .ok (.ireturn, 1) := by decide +kernel
theorem dX0_next_0 : decode cX0_next 0 = .ok (.aload_n 0, 1) := by decide +kernel
theorem dX0_next_1 : decode cX0_next 1 = .ok (.getfield 18, 3) := by decide +kernel
theorem dX0_next_4 : decode cX0_next 4 = .ok (.iload_n 1, 1) := by decide +kernel
theorem dX0_next_5 : decode cX0_next 5 = .ok (.iaload, 1) := by decide +kernel
theorem dX0_next_6 : decode cX0_next 6 = .ok (.ireturn, 1) := by decide +kernel
theorem dX0_isSprung_0 : decode cX0_isSprung 0 = .ok (.aload_n 0, 1) := by decide +kernel
theorem dX0_isSprung_1 : decode cX0_isSprung 1 = .ok (.getfield 25, 3) := by decide +kernel
theorem dX0_isSprung_4 : decode cX0_isSprung 4 = .ok (.iload_n 1, 1) := by decide +kernel
theorem dX0_isSprung_5 : decode cX0_isSprung 5 = .ok (.baload, 1) := by decide +kernel
theorem dX0_isSprung_6 : decode cX0_isSprung 6 = .ok (.ireturn, 1) := by decide +kernel
theorem dX0_springWaterOf_0 : decode cX0_springWaterOf 0 = .ok (.aload_n 0, 1) := by decide +kernel
theorem dX0_springWaterOf_1 : decode cX0_springWaterOf 1 = .ok (.getfield 32, 3) := by decide +kernel
theorem dX0_springWaterOf_4 : decode cX0_springWaterOf 4 = .ok (.iload_n 1, 1) := by decide +kernel
theorem dX0_springWaterOf_5 : decode cX0_springWaterOf 5 = .ok (.iaload, 1) := by decide +kernel
theorem dX0_springWaterOf_6 : decode cX0_springWaterOf 6 = .ok (.ireturn, 1) := by decide +kernel
theorem dX0_isDelta_0 : decode cX0_isDelta 0 = .ok (.aload_n 0, 1) := by decide +kernel
theorem dX0_isDelta_1 : decode cX0_isDelta 1 = .ok (.getfield 38, 3) := by decide +kernel
theorem dX0_isDelta_4 : decode cX0_isDelta 4 = .ok (.iload_n 1, 1) := by decide +kernel
theorem dX0_isDelta_5 : decode cX0_isDelta 5 = .ok (.baload, 1) := by decide +kernel
theorem dX0_isDelta_6 : decode cX0_isDelta 6 = .ok (.ireturn, 1) := by decide +kernel
theorem dX0_waterOf_0 : decode cX0_waterOf 0 = .ok (.aload_n 0, 1) := by decide +kernel
theorem dX0_waterOf_1 : decode cX0_waterOf 1 = .ok (.getfield 41, 3) := by decide +kernel
theorem dX0_waterOf_4 : decode cX0_waterOf 4 = .ok (.iload_n 1, 1) := by decide +kernel
theorem dX0_waterOf_5 : decode cX0_waterOf 5 = .ok (.iaload, 1) := by decide +kernel
theorem dX0_waterOf_6 : decode cX0_waterOf 6 = .ok (.ireturn, 1) := by decide +kernel
theorem dX0_lengthOf_0 : decode cX0_lengthOf 0 = .ok (.aload_n 0, 1) := by decide +kernel
theorem dX0_lengthOf_1 : decode cX0_lengthOf 1 = .ok (.getfield 44, 3) := by decide +kernel
theorem dX0_lengthOf_4 : decode cX0_lengthOf 4 = .ok (.iload_n 1, 1) := by decide +kernel
theorem dX0_lengthOf_5 : decode cX0_lengthOf 5 = .ok (.iaload, 1) := by decide +kernel
theorem dX0_lengthOf_6 : decode cX0_lengthOf 6 = .ok (.ireturn, 1) := by decide +kernel
theorem dX0_nameOf_0 : decode cX0_nameOf 0 = .ok (.aload_n 0, 1) := by decide +kernel
theorem dX0_nameOf_1 : decode cX0_nameOf 1 = .ok (.getfield 47, 3) := by decide +kernel
theorem dX0_nameOf_4 : decode cX0_nameOf 4 = .ok (.iload_n 1, 1) := by decide +kernel
theorem dX0_nameOf_5 : decode cX0_nameOf 5 = .ok (.iaload, 1) := by decide +kernel
theorem dX0_nameOf_6 : decode cX0_nameOf 6 = .ok (.ireturn, 1) := by decide +kernel
theorem dX0_arguersAt_0 : decode cX0_arguersAt 0 = .ok (.aload_n 0, 1) := by decide +kernel
theorem dX0_arguersAt_1 : decode cX0_arguersAt 1 = .ok (.getfield 50, 3) := by decide +kernel
theorem dX0_arguersAt_4 : decode cX0_arguersAt 4 = .ok (.iload_n 1, 1) := by decide +kernel
theorem dX0_arguersAt_5 : decode cX0_arguersAt 5 = .ok (.iaload, 1) := by decide +kernel
theorem dX0_arguersAt_6 : decode cX0_arguersAt 6 = .ok (.ireturn, 1) := by decide +kernel
theorem dX0_isDisputed_0 : decode cX0_isDisputed 0 = .ok (.aload_n 0, 1) := by decide +kernel
theorem dX0_isDisputed_1 : decode cX0_isDisputed 1 = .ok (.getfield 53, 3) := by decide +kernel
theorem dX0_isDisputed_4 : decode cX0_isDisputed 4 = .ok (.iload_n 1, 1) := by decide +kernel
theorem dX0_isDisputed_5 : decode cX0_isDisputed 5 = .ok (.baload, 1) := by decide +kernel
theorem dX0_isDisputed_6 : decode cX0_isDisputed 6 = .ok (.ireturn, 1) := by decide +kernel
set_option maxRecDepth 20000 in
theorem ggX0_addBare_X0_settle : GoodIn wsX0_addBare wsX0_settle := goodIn_r _ [7, 1, 8, 2, 9, 10, 11, 6, 12, 13, 14, 15, 16, 17, 18, 19, 20, 21, 22, 23, 24, 25, 26, 27, 28, 29, 30, 31, 32, 33, 34, 35, 36, 37, 38, 39, 40, 41, 42, 43, 44, 45, 46, 47, 48, 49, 50, 51, 52, 53, 54, 55] (by decide +kernel) (by decide +kernel)
set_option maxRecDepth 20000 in
theorem gX0_addBare_X0_settle : GoodIn wsX0_addBare (wsV RX0 62 RX0 yX0_settle wsX0_settle) := goodIn_app (goodIn_of _ (by decide +kernel)) ggX0_addBare_X0_settle
theorem dX0_addBare_0 : decode cX0_addBare 0 = .ok (.aload_n 0, 1) := by decide +kernel
theorem dX0_addBare_1 : decode cX0_addBare 1 = .ok (.getfield 9, 3) := by decide +kernel
theorem dX0_addBare_4 : decode cX0_addBare 4 = .ok (.istore_n 1, 1) := by decide +kernel
theorem dX0_addBare_5 : decode cX0_addBare 5 = .ok (.aload_n 0, 1) := by decide +kernel
theorem dX0_addBare_6 : decode cX0_addBare 6 = .ok (.dup, 1) := by decide +kernel
theorem dX0_addBare_7 : decode cX0_addBare 7 = .ok (.getfield 9, 3) := by decide +kernel
theorem dX0_addBare_10 : decode cX0_addBare 10 = .ok (.iconst 1, 1) := by decide +kernel
theorem dX0_addBare_11 : decode cX0_addBare 11 = .ok (.iadd, 1) := by decide +kernel
theorem dX0_addBare_12 : decode cX0_addBare 12 = .ok (.putfield 9, 3) := by decide +kernel
theorem dX0_addBare_15 : decode cX0_addBare 15 = .ok (.aload_n 0, 1) := by decide +kernel
theorem dX0_addBare_16 : decode cX0_addBare 16 = .ok (.getfield 18, 3) := by decide +kernel
theorem dX0_addBare_19 : decode cX0_addBare 19 = .ok (.iload_n 1, 1) := by decide +kernel
theorem dX0_addBare_20 : decode cX0_addBare 20 = .ok (.iconst (-1), 1) := by decide +kernel
theorem dX0_addBare_21 : decode cX0_addBare 21 = .ok (.iastore, 1) := by decide +kernel
theorem dX0_addBare_22 : decode cX0_addBare 22 = .ok (.aload_n 0, 1) := by decide +kernel
theorem dX0_addBare_23 : decode cX0_addBare 23 = .ok (.invokevirtual 62, 3) := by decide +kernel
theorem dX0_addBare_26 : decode cX0_addBare 26 = .ok (.iload_n 1, 1) := by decide +kernel
theorem dX0_addBare_27 : decode cX0_addBare 27 = .ok (.ireturn, 1) := by decide +kernel
set_option maxRecDepth 20000 in
theorem ggX0_addSprung_X0_settle : GoodIn wsX0_addSprung wsX0_settle := goodIn_r _ [11, 1, 12, 2, 13, 14, 15, 10, 16, 5, 17, 18, 19, 20, 21, 22, 23, 24, 4, 25, 26, 27, 28, 29, 30, 31, 32, 33, 34, 35, 36, 37, 38, 39, 40, 41, 42, 43, 44, 45, 46, 47, 48, 49, 50, 51, 52, 53, 54, 55, 56, 57] (by decide +kernel) (by decide +kernel)
set_option maxRecDepth 20000 in
theorem gX0_addSprung_X0_settle : GoodIn wsX0_addSprung (wsV RX0 62 RX0 yX0_settle wsX0_settle) := goodIn_app (goodIn_of _ (by decide +kernel)) ggX0_addSprung_X0_settle
theorem dX0_addSprung_0 : decode cX0_addSprung 0 = .ok (.aload_n 0, 1) := by decide +kernel
theorem dX0_addSprung_1 : decode cX0_addSprung 1 = .ok (.getfield 9, 3) := by decide +kernel
theorem dX0_addSprung_4 : decode cX0_addSprung 4 = .ok (.istore 4, 2) := by decide +kernel
theorem dX0_addSprung_6 : decode cX0_addSprung 6 = .ok (.aload_n 0, 1) := by decide +kernel
theorem dX0_addSprung_7 : decode cX0_addSprung 7 = .ok (.dup, 1) := by decide +kernel
theorem dX0_addSprung_8 : decode cX0_addSprung 8 = .ok (.getfield 9, 3) := by decide +kernel
theorem dX0_addSprung_11 : decode cX0_addSprung 11 = .ok (.iconst 1, 1) := by decide +kernel
theorem dX0_addSprung_12 : decode cX0_addSprung 12 = .ok (.iadd, 1) := by decide +kernel
theorem dX0_addSprung_13 : decode cX0_addSprung 13 = .ok (.putfield 9, 3) := by decide +kernel
theorem dX0_addSprung_16 : decode cX0_addSprung 16 = .ok (.aload_n 0, 1) := by decide +kernel
theorem dX0_addSprung_17 : decode cX0_addSprung 17 = .ok (.getfield 18, 3) := by decide +kernel
theorem dX0_addSprung_20 : decode cX0_addSprung 20 = .ok (.iload 4, 2) := by decide +kernel
theorem dX0_addSprung_22 : decode cX0_addSprung 22 = .ok (.iconst (-1), 1) := by decide +kernel
theorem dX0_addSprung_23 : decode cX0_addSprung 23 = .ok (.iastore, 1) := by decide +kernel
theorem dX0_addSprung_24 : decode cX0_addSprung 24 = .ok (.aload_n 0, 1) := by decide +kernel
theorem dX0_addSprung_25 : decode cX0_addSprung 25 = .ok (.getfield 25, 3) := by decide +kernel
theorem dX0_addSprung_28 : decode cX0_addSprung 28 = .ok (.iload 4, 2) := by decide +kernel
theorem dX0_addSprung_30 : decode cX0_addSprung 30 = .ok (.iconst 1, 1) := by decide +kernel
theorem dX0_addSprung_31 : decode cX0_addSprung 31 = .ok (.bastore, 1) := by decide +kernel
theorem dX0_addSprung_32 : decode cX0_addSprung 32 = .ok (.aload_n 0, 1) := by decide +kernel
theorem dX0_addSprung_33 : decode cX0_addSprung 33 = .ok (.getfield 29, 3) := by decide +kernel
theorem dX0_addSprung_36 : decode cX0_addSprung 36 = .ok (.iload 4, 2) := by decide +kernel
theorem dX0_addSprung_38 : decode cX0_addSprung 38 = .ok (.iload_n 1, 1) := by decide +kernel
theorem dX0_addSprung_39 : decode cX0_addSprung 39 = .ok (.iastore, 1) := by decide +kernel
theorem dX0_addSprung_40 : decode cX0_addSprung 40 = .ok (.aload_n 0, 1) := by decide +kernel
theorem dX0_addSprung_41 : decode cX0_addSprung 41 = .ok (.getfield 32, 3) := by decide +kernel
theorem dX0_addSprung_44 : decode cX0_addSprung 44 = .ok (.iload 4, 2) := by decide +kernel
theorem dX0_addSprung_46 : decode cX0_addSprung 46 = .ok (.iload_n 2, 1) := by decide +kernel
theorem dX0_addSprung_47 : decode cX0_addSprung 47 = .ok (.iastore, 1) := by decide +kernel
theorem dX0_addSprung_48 : decode cX0_addSprung 48 = .ok (.aload_n 0, 1) := by decide +kernel
theorem dX0_addSprung_49 : decode cX0_addSprung 49 = .ok (.getfield 35, 3) := by decide +kernel
theorem dX0_addSprung_52 : decode cX0_addSprung 52 = .ok (.iload 4, 2) := by decide +kernel
theorem dX0_addSprung_54 : decode cX0_addSprung 54 = .ok (.iload_n 3, 1) := by decide +kernel
theorem dX0_addSprung_55 : decode cX0_addSprung 55 = .ok (.iastore, 1) := by decide +kernel
theorem dX0_addSprung_56 : decode cX0_addSprung 56 = .ok (.aload_n 0, 1) := by decide +kernel
theorem dX0_addSprung_57 : decode cX0_addSprung 57 = .ok (.invokevirtual 62, 3) := by decide +kernel
theorem dX0_addSprung_60 : decode cX0_addSprung 60 = .ok (.iload 4, 2) := by decide +kernel
theorem dX0_addSprung_62 : decode cX0_addSprung 62 = .ok (.ireturn, 1) := by decide +kernel
set_option maxRecDepth 20000 in
theorem ggX0_leadOn_X0_countSteps : GoodIn wsX0_leadOn wsX0_countSteps := goodIn_r _ [8, 1, 9, 10, 11, 7, 12, 2, 44, 45, 46, 47, 48, 49, 50, 51, 52, 53, 54, 55, 56, 57, 58, 59] (by decide +kernel) (by decide +kernel)
set_option maxRecDepth 20000 in
theorem gX0_leadOn_X0_countSteps : GoodIn wsX0_leadOn (wsV RX0 65 RX0 yX0_countSteps wsX0_countSteps) := goodIn_app (goodIn_of _ (by decide +kernel)) ggX0_leadOn_X0_countSteps
set_option maxRecDepth 20000 in
theorem ggX0_leadOn_X0_settle : GoodIn wsX0_leadOn wsX0_settle := goodIn_r _ [16, 2, 3, 1, 17, 18, 19, 7, 20, 21, 22, 23, 24, 25, 26, 27, 28, 29, 30, 31, 32, 33, 34, 35, 36, 37, 38, 39, 40, 41, 42, 43, 9, 10, 11, 12, 44, 45, 46, 47, 48, 49, 50, 51, 52, 53, 54, 55, 56, 57, 58, 59] (by decide +kernel) (by decide +kernel)
set_option maxRecDepth 20000 in
theorem gX0_leadOn_X0_settle : GoodIn wsX0_leadOn (wsV RX0 62 RX0 yX0_settle wsX0_settle) := goodIn_app (goodIn_of _ (by decide +kernel)) ggX0_leadOn_X0_settle
theorem dX0_leadOn_0 : decode cX0_leadOn 0 = .ok (.aload_n 0, 1) := by decide +kernel
theorem dX0_leadOn_1 : decode cX0_leadOn 1 = .ok (.getfield 18, 3) := by decide +kernel
theorem dX0_leadOn_4 : decode cX0_leadOn 4 = .ok (.iload_n 1, 1) := by decide +kernel
theorem dX0_leadOn_5 : decode cX0_leadOn 5 = .ok (.iload_n 2, 1) := by decide +kernel
theorem dX0_leadOn_6 : decode cX0_leadOn 6 = .ok (.iastore, 1) := by decide +kernel
theorem dX0_leadOn_7 : decode cX0_leadOn 7 = .ok (.iconst 0, 1) := by decide +kernel
theorem dX0_leadOn_8 : decode cX0_leadOn 8 = .ok (.istore_n 3, 1) := by decide +kernel
theorem dX0_leadOn_9 : decode cX0_leadOn 9 = .ok (.iload_n 3, 1) := by decide +kernel
theorem dX0_leadOn_10 : decode cX0_leadOn 10 = .ok (.aload_n 0, 1) := by decide +kernel
theorem dX0_leadOn_11 : decode cX0_leadOn 11 = .ok (.getfield 9, 3) := by decide +kernel
theorem dX0_leadOn_14 : decode cX0_leadOn 14 = .ok (.if_icmp .ge 20, 3) := by decide +kernel
theorem dX0_leadOn_17 : decode cX0_leadOn 17 = .ok (.aload_n 0, 1) := by decide +kernel
theorem dX0_leadOn_18 : decode cX0_leadOn 18 = .ok (.getfield 22, 3) := by decide +kernel
theorem dX0_leadOn_21 : decode cX0_leadOn 21 = .ok (.iload_n 3, 1) := by decide +kernel
theorem dX0_leadOn_22 : decode cX0_leadOn 22 = .ok (.aload_n 0, 1) := by decide +kernel
theorem dX0_leadOn_23 : decode cX0_leadOn 23 = .ok (.iload_n 3, 1) := by decide +kernel
theorem dX0_leadOn_24 : decode cX0_leadOn 24 = .ok (.invokevirtual 65, 3) := by decide +kernel
theorem dX0_leadOn_27 : decode cX0_leadOn 27 = .ok (.iastore, 1) := by decide +kernel
theorem dX0_leadOn_28 : decode cX0_leadOn 28 = .ok (.iinc 3 1, 3) := by decide +kernel
theorem dX0_leadOn_31 : decode cX0_leadOn 31 = .ok (.goto (-22), 3) := by decide +kernel
theorem dX0_leadOn_34 : decode cX0_leadOn 34 = .ok (.aload_n 0, 1) := by decide +kernel
theorem dX0_leadOn_35 : decode cX0_leadOn 35 = .ok (.invokevirtual 62, 3) := by decide +kernel
theorem dX0_leadOn_38 : decode cX0_leadOn 38 = .ok (.return_, 1) := by decide +kernel
set_option maxRecDepth 20000 in
theorem ggX0_toggleDelta_X0_settle : GoodIn wsX0_toggleDelta wsX0_settle := goodIn_r _ [6, 7, 8, 9, 10, 11, 12, 5, 13, 14, 15, 16, 17, 18, 19, 20, 21, 22, 23, 24, 25, 26, 27, 1, 28, 29, 30, 31, 32, 33, 34, 35, 36, 37, 38, 39, 40, 41, 42, 43, 44, 45, 46, 47, 48, 49, 50, 51, 52, 53, 54, 55] (by decide +kernel) (by decide +kernel)
set_option maxRecDepth 20000 in
theorem gX0_toggleDelta_X0_settle : GoodIn wsX0_toggleDelta (wsV RX0 62 RX0 yX0_settle wsX0_settle) := goodIn_app (goodIn_of _ (by decide +kernel)) ggX0_toggleDelta_X0_settle
theorem dX0_toggleDelta_0 : decode cX0_toggleDelta 0 = .ok (.aload_n 0, 1) := by decide +kernel
theorem dX0_toggleDelta_1 : decode cX0_toggleDelta 1 = .ok (.getfield 38, 3) := by decide +kernel
theorem dX0_toggleDelta_4 : decode cX0_toggleDelta 4 = .ok (.iload_n 1, 1) := by decide +kernel
theorem dX0_toggleDelta_5 : decode cX0_toggleDelta 5 = .ok (.aload_n 0, 1) := by decide +kernel
theorem dX0_toggleDelta_6 : decode cX0_toggleDelta 6 = .ok (.getfield 38, 3) := by decide +kernel
theorem dX0_toggleDelta_9 : decode cX0_toggleDelta 9 = .ok (.iload_n 1, 1) := by decide +kernel
theorem dX0_toggleDelta_10 : decode cX0_toggleDelta 10 = .ok (.baload, 1) := by decide +kernel
theorem dX0_toggleDelta_11 : decode cX0_toggleDelta 11 = .ok (.ifCond .ne 7, 3) := by decide +kernel
theorem dX0_toggleDelta_14 : decode cX0_toggleDelta 14 = .ok (.iconst 1, 1) := by decide +kernel
theorem dX0_toggleDelta_15 : decode cX0_toggleDelta 15 = .ok (.goto 4, 3) := by decide +kernel
theorem dX0_toggleDelta_18 : decode cX0_toggleDelta 18 = .ok (.iconst 0, 1) := by decide +kernel
theorem dX0_toggleDelta_19 : decode cX0_toggleDelta 19 = .ok (.bastore, 1) := by decide +kernel
theorem dX0_toggleDelta_20 : decode cX0_toggleDelta 20 = .ok (.aload_n 0, 1) := by decide +kernel
theorem dX0_toggleDelta_21 : decode cX0_toggleDelta 21 = .ok (.invokevirtual 62, 3) := by decide +kernel
theorem dX0_toggleDelta_24 : decode cX0_toggleDelta 24 = .ok (.return_, 1) := by decide +kernel
set_option maxRecDepth 20000 in
theorem ggX0_useRule_X0_settle : GoodIn wsX0_useRule wsX0_settle := goodIn_r _ [6, 7, 8, 9, 10, 11, 12, 5, 13, 14, 15, 16, 17, 18, 19, 20, 21, 1, 22, 23, 24, 25, 26, 27, 28, 29, 30, 31, 32, 33, 34, 35, 36, 37, 38, 39, 40, 41, 42, 43, 44, 45, 46, 47, 48, 49, 50, 51, 52, 53, 54, 55] (by decide +kernel) (by decide +kernel)
set_option maxRecDepth 20000 in
theorem gX0_useRule_X0_settle : GoodIn wsX0_useRule (wsV RX0 62 RX0 yX0_settle wsX0_settle) := goodIn_app (goodIn_of _ (by decide +kernel)) ggX0_useRule_X0_settle
theorem dX0_useRule_0 : decode cX0_useRule 0 = .ok (.aload_n 0, 1) := by decide +kernel
theorem dX0_useRule_1 : decode cX0_useRule 1 = .ok (.iload_n 1, 1) := by decide +kernel
theorem dX0_useRule_2 : decode cX0_useRule 2 = .ok (.putfield 15, 3) := by decide +kernel
theorem dX0_useRule_5 : decode cX0_useRule 5 = .ok (.aload_n 0, 1) := by decide +kernel
theorem dX0_useRule_6 : decode cX0_useRule 6 = .ok (.invokevirtual 62, 3) := by decide +kernel
theorem dX0_useRule_9 : decode cX0_useRule 9 = .ok (.return_, 1) := by decide +kernel
set_option maxRecDepth 20000 in
theorem ggX0_dryUp_X0_settle : GoodIn wsX0_dryUp wsX0_settle := goodIn_r _ [6, 7, 8, 9, 10, 11, 12, 5, 13, 1, 14, 15, 16, 17, 18, 19, 20, 21, 22, 23, 24, 25, 26, 27, 28, 29, 30, 31, 32, 33, 34, 35, 36, 37, 38, 39, 40, 41, 42, 43, 44, 45, 46, 47, 48, 49, 50, 51, 52, 53, 54, 55] (by decide +kernel) (by decide +kernel)
set_option maxRecDepth 20000 in
theorem gX0_dryUp_X0_settle : GoodIn wsX0_dryUp (wsV RX0 62 RX0 yX0_settle wsX0_settle) := goodIn_app (goodIn_of _ (by decide +kernel)) ggX0_dryUp_X0_settle
theorem dX0_dryUp_0 : decode cX0_dryUp 0 = .ok (.aload_n 0, 1) := by decide +kernel
theorem dX0_dryUp_1 : decode cX0_dryUp 1 = .ok (.getfield 32, 3) := by decide +kernel
theorem dX0_dryUp_4 : decode cX0_dryUp 4 = .ok (.iload_n 1, 1) := by decide +kernel
theorem dX0_dryUp_5 : decode cX0_dryUp 5 = .ok (.iconst 0, 1) := by decide +kernel
theorem dX0_dryUp_6 : decode cX0_dryUp 6 = .ok (.iastore, 1) := by decide +kernel
theorem dX0_dryUp_7 : decode cX0_dryUp 7 = .ok (.aload_n 0, 1) := by decide +kernel
theorem dX0_dryUp_8 : decode cX0_dryUp 8 = .ok (.invokevirtual 62, 3) := by decide +kernel
theorem dX0_dryUp_11 : decode cX0_dryUp 11 = .ok (.return_, 1) := by decide +kernel
set_option maxRecDepth 20000 in
theorem ggX0_swellFor_X0_settle : GoodIn wsX0_swellFor wsX0_settle := goodIn_r _ [15, 1, 16, 17, 18, 19, 20, 14, 21, 2, 22, 23, 24, 25, 26, 27, 28, 29, 30, 31, 32, 33, 34, 35, 36, 37, 38, 39, 8, 9, 6, 10, 40, 41, 42, 43, 44, 45, 46, 47, 48, 49, 50, 51, 52, 53, 54, 55, 56, 57, 58, 59] (by decide +kernel) (by decide +kernel)
set_option maxRecDepth 20000 in
theorem gX0_swellFor_X0_settle : GoodIn wsX0_swellFor (wsV RX0 62 RX0 yX0_settle wsX0_settle) := goodIn_app (goodIn_of _ (by decide +kernel)) ggX0_swellFor_X0_settle
theorem dX0_swellFor_0 : decode cX0_swellFor 0 = .ok (.iconst 0, 1) := by decide +kernel
theorem dX0_swellFor_1 : decode cX0_swellFor 1 = .ok (.istore_n 2, 1) := by decide +kernel
theorem dX0_swellFor_2 : decode cX0_swellFor 2 = .ok (.iload_n 2, 1) := by decide +kernel
theorem dX0_swellFor_3 : decode cX0_swellFor 3 = .ok (.aload_n 0, 1) := by decide +kernel
theorem dX0_swellFor_4 : decode cX0_swellFor 4 = .ok (.getfield 9, 3) := by decide +kernel
theorem dX0_swellFor_7 : decode cX0_swellFor 7 = .ok (.if_icmp .ge 41, 3) := by decide +kernel
theorem dX0_swellFor_10 : decode cX0_swellFor 10 = .ok (.aload_n 0, 1) := by decide +kernel
theorem dX0_swellFor_11 : decode cX0_swellFor 11 = .ok (.getfield 32, 3) := by decide +kernel
theorem dX0_swellFor_14 : decode cX0_swellFor 14 = .ok (.iload_n 2, 1) := by decide +kernel
theorem dX0_swellFor_15 : decode cX0_swellFor 15 = .ok (.iaload, 1) := by decide +kernel
theorem dX0_swellFor_16 : decode cX0_swellFor 16 = .ok (.iload_n 1, 1) := by decide +kernel
theorem dX0_swellFor_17 : decode cX0_swellFor 17 = .ok (.aload_n 0, 1) := by decide +kernel
theorem dX0_swellFor_18 : decode cX0_swellFor 18 = .ok (.getfield 35, 3) := by decide +kernel
theorem dX0_swellFor_21 : decode cX0_swellFor 21 = .ok (.iload_n 2, 1) := by decide +kernel
theorem dX0_swellFor_22 : decode cX0_swellFor 22 = .ok (.iaload, 1) := by decide +kernel
theorem dX0_swellFor_23 : decode cX0_swellFor 23 = .ok (.imul, 1) := by decide +kernel
theorem dX0_swellFor_24 : decode cX0_swellFor 24 = .ok (.iadd, 1) := by decide +kernel
theorem dX0_swellFor_25 : decode cX0_swellFor 25 = .ok (.istore_n 3, 1) := by decide +kernel
theorem dX0_swellFor_26 : decode cX0_swellFor 26 = .ok (.aload_n 0, 1) := by decide +kernel
theorem dX0_swellFor_27 : decode cX0_swellFor 27 = .ok (.getfield 32, 3) := by decide +kernel
theorem dX0_swellFor_30 : decode cX0_swellFor 30 = .ok (.iload_n 2, 1) := by decide +kernel
theorem dX0_swellFor_31 : decode cX0_swellFor 31 = .ok (.iconst 0, 1) := by decide +kernel
theorem dX0_swellFor_32 : decode cX0_swellFor 32 = .ok (.bipush 99, 2) := by decide +kernel
theorem dX0_swellFor_34 : decode cX0_swellFor 34 = .ok (.iload_n 3, 1) := by decide +kernel
theorem dX0_swellFor_35 : decode cX0_swellFor 35 = .ok (.invokestatic 69, 3) := by decide +kernel
theorem dX0_swellFor_38 : decode cX0_swellFor 38 = .ok (.invokestatic 75, 3) := by decide +kernel
theorem dX0_swellFor_41 : decode cX0_swellFor 41 = .ok (.iastore, 1) := by decide +kernel
theorem dX0_swellFor_42 : decode cX0_swellFor 42 = .ok (.iinc 2 1, 3) := by decide +kernel
theorem dX0_swellFor_45 : decode cX0_swellFor 45 = .ok (.goto (-43), 3) := by decide +kernel
theorem dX0_swellFor_48 : decode cX0_swellFor 48 = .ok (.aload_n 0, 1) := by decide +kernel
theorem dX0_swellFor_49 : decode cX0_swellFor 49 = .ok (.invokevirtual 62, 3) := by decide +kernel
theorem dX0_swellFor_52 : decode cX0_swellFor 52 = .ok (.return_, 1) := by decide +kernel
theorem dX0_takeOver_0 : decode cX0_takeOver 0 = .ok (.aload_n 0, 1) := by decide +kernel
theorem dX0_takeOver_1 : decode cX0_takeOver 1 = .ok (.aload_n 1, 1) := by decide +kernel
theorem dX0_takeOver_2 : decode cX0_takeOver 2 = .ok (.getfield 9, 3) := by decide +kernel
theorem dX0_takeOver_5 : decode cX0_takeOver 5 = .ok (.putfield 9, 3) := by decide +kernel
theorem dX0_takeOver_8 : decode cX0_takeOver 8 = .ok (.aload_n 0, 1) := by decide +kernel
theorem dX0_takeOver_9 : decode cX0_takeOver 9 = .ok (.aload_n 1, 1) := by decide +kernel
theorem dX0_takeOver_10 : decode cX0_takeOver 10 = .ok (.getfield 15, 3) := by decide +kernel
theorem dX0_takeOver_13 : decode cX0_takeOver 13 = .ok (.putfield 15, 3) := by decide +kernel
theorem dX0_takeOver_16 : decode cX0_takeOver 16 = .ok (.iconst 0, 1) := by decide +kernel
theorem dX0_takeOver_17 : decode cX0_takeOver 17 = .ok (.istore_n 2, 1) := by decide +kernel
theorem dX0_takeOver_18 : decode cX0_takeOver 18 = .ok (.iload_n 2, 1) := by decide +kernel
theorem dX0_takeOver_19 : decode cX0_takeOver 19 = .ok (.aload_n 0, 1) := by decide +kernel
theorem dX0_takeOver_20 : decode cX0_takeOver 20 = .ok (.getfield 9, 3) := by decide +kernel
theorem dX0_takeOver_23 : decode cX0_takeOver 23 = .ok (.if_icmp .ge 93, 3) := by decide +kernel
theorem dX0_takeOver_26 : decode cX0_takeOver 26 = .ok (.aload_n 0, 1) := by decide +kernel
theorem dX0_takeOver_27 : decode cX0_takeOver 27 = .ok (.getfield 18, 3) := by decide +kernel
theorem dX0_takeOver_30 : decode cX0_takeOver 30 = .ok (.iload_n 2, 1) := by decide +kernel
theorem dX0_takeOver_31 : decode cX0_takeOver 31 = .ok (.aload_n 1, 1) := by decide +kernel
theorem dX0_takeOver_32 : decode cX0_takeOver 32 = .ok (.getfield 18, 3) := by decide +kernel
theorem dX0_takeOver_35 : decode cX0_takeOver 35 = .ok (.iload_n 2, 1) := by decide +kernel
theorem dX0_takeOver_36 : decode cX0_takeOver 36 = .ok (.iaload, 1) := by decide +kernel
theorem dX0_takeOver_37 : decode cX0_takeOver 37 = .ok (.iastore, 1) := by decide +kernel
theorem dX0_takeOver_38 : decode cX0_takeOver 38 = .ok (.aload_n 0, 1) := by decide +kernel
theorem dX0_takeOver_39 : decode cX0_takeOver 39 = .ok (.getfield 22, 3) := by decide +kernel
theorem dX0_takeOver_42 : decode cX0_takeOver 42 = .ok (.iload_n 2, 1) := by decide +kernel
theorem dX0_takeOver_43 : decode cX0_takeOver 43 = .ok (.aload_n 1, 1) := by decide +kernel
theorem dX0_takeOver_44 : decode cX0_takeOver 44 = .ok (.getfield 22, 3) := by decide +kernel
theorem dX0_takeOver_47 : decode cX0_takeOver 47 = .ok (.iload_n 2, 1) := by decide +kernel
theorem dX0_takeOver_48 : decode cX0_takeOver 48 = .ok (.iaload, 1) := by decide +kernel
theorem dX0_takeOver_49 : decode cX0_takeOver 49 = .ok (.iastore, 1) := by decide +kernel
theorem dX0_takeOver_50 : decode cX0_takeOver 50 = .ok (.aload_n 0, 1) := by decide +kernel
theorem dX0_takeOver_51 : decode cX0_takeOver 51 = .ok (.getfield 25, 3) := by decide +kernel
theorem dX0_takeOver_54 : decode cX0_takeOver 54 = .ok (.iload_n 2, 1) := by decide +kernel
theorem dX0_takeOver_55 : decode cX0_takeOver 55 = .ok (.aload_n 1, 1) := by decide +kernel
theorem dX0_takeOver_56 : decode cX0_takeOver 56 = .ok (.getfield 25, 3) := by decide +kernel
theorem dX0_takeOver_59 : decode cX0_takeOver 59 = .ok (.iload_n 2, 1) := by decide +kernel
theorem dX0_takeOver_60 : decode cX0_takeOver 60 = .ok (.baload, 1) := by decide +kernel
theorem dX0_takeOver_61 : decode cX0_takeOver 61 = .ok (.bastore, 1) := by decide +kernel
theorem dX0_takeOver_62 : decode cX0_takeOver 62 = .ok (.aload_n 0, 1) := by decide +kernel
theorem dX0_takeOver_63 : decode cX0_takeOver 63 = .ok (.getfield 29, 3) := by decide +kernel
theorem dX0_takeOver_66 : decode cX0_takeOver 66 = .ok (.iload_n 2, 1) := by decide +kernel
theorem dX0_takeOver_67 : decode cX0_takeOver 67 = .ok (.aload_n 1, 1) := by decide +kernel
theorem dX0_takeOver_68 : decode cX0_takeOver 68 = .ok (.getfield 29, 3) := by decide +kernel
theorem dX0_takeOver_71 : decode cX0_takeOver 71 = .ok (.iload_n 2, 1) := by decide +kernel
theorem dX0_takeOver_72 : decode cX0_takeOver 72 = .ok (.iaload, 1) := by decide +kernel
theorem dX0_takeOver_73 : decode cX0_takeOver 73 = .ok (.iastore, 1) := by decide +kernel
theorem dX0_takeOver_74 : decode cX0_takeOver 74 = .ok (.aload_n 0, 1) := by decide +kernel
theorem dX0_takeOver_75 : decode cX0_takeOver 75 = .ok (.getfield 32, 3) := by decide +kernel
theorem dX0_takeOver_78 : decode cX0_takeOver 78 = .ok (.iload_n 2, 1) := by decide +kernel
theorem dX0_takeOver_79 : decode cX0_takeOver 79 = .ok (.aload_n 1, 1) := by decide +kernel
theorem dX0_takeOver_80 : decode cX0_takeOver 80 = .ok (.getfield 32, 3) := by decide +kernel
theorem dX0_takeOver_83 : decode cX0_takeOver 83 = .ok (.iload_n 2, 1) := by decide +kernel
theorem dX0_takeOver_84 : decode cX0_takeOver 84 = .ok (.iaload, 1) := by decide +kernel
theorem dX0_takeOver_85 : decode cX0_takeOver 85 = .ok (.iastore, 1) := by decide +kernel
theorem dX0_takeOver_86 : decode cX0_takeOver 86 = .ok (.aload_n 0, 1) := by decide +kernel
theorem dX0_takeOver_87 : decode cX0_takeOver 87 = .ok (.getfield 35, 3) := by decide +kernel
theorem dX0_takeOver_90 : decode cX0_takeOver 90 = .ok (.iload_n 2, 1) := by decide +kernel
theorem dX0_takeOver_91 : decode cX0_takeOver 91 = .ok (.aload_n 1, 1) := by decide +kernel
theorem dX0_takeOver_92 : decode cX0_takeOver 92 = .ok (.getfield 35, 3) := by decide +kernel
theorem dX0_takeOver_95 : decode cX0_takeOver 95 = .ok (.iload_n 2, 1) := by decide +kernel
theorem dX0_takeOver_96 : decode cX0_takeOver 96 = .ok (.iaload, 1) := by decide +kernel
theorem dX0_takeOver_97 : decode cX0_takeOver 97 = .ok (.iastore, 1) := by decide +kernel
theorem dX0_takeOver_98 : decode cX0_takeOver 98 = .ok (.aload_n 0, 1) := by decide +kernel
theorem dX0_takeOver_99 : decode cX0_takeOver 99 = .ok (.getfield 38, 3) := by decide +kernel
theorem dX0_takeOver_102 : decode cX0_takeOver 102 = .ok (.iload_n 2, 1) := by decide +kernel
theorem dX0_takeOver_103 : decode cX0_takeOver 103 = .ok (.aload_n 1, 1) := by decide +kernel
theorem dX0_takeOver_104 : decode cX0_takeOver 104 = .ok (.getfield 38, 3) := by decide +kernel
theorem dX0_takeOver_107 : decode cX0_takeOver 107 = .ok (.iload_n 2, 1) := by decide +kernel
theorem dX0_takeOver_108 : decode cX0_takeOver 108 = .ok (.baload, 1) := by decide +kernel
theorem dX0_takeOver_109 : decode cX0_takeOver 109 = .ok (.bastore, 1) := by decide +kernel
theorem dX0_takeOver_110 : decode cX0_takeOver 110 = .ok (.iinc 2 1, 3) := by decide +kernel
theorem dX0_takeOver_113 : decode cX0_takeOver 113 = .ok (.goto (-95), 3) := by decide +kernel
theorem dX0_takeOver_116 : decode cX0_takeOver 116 = .ok (.return_, 1) := by decide +kernel
theorem dX0_countNamed_0 : decode cX0_countNamed 0 = .ok (.iconst 0, 1) := by decide +kernel
theorem dX0_countNamed_1 : decode cX0_countNamed 1 = .ok (.istore_n 2, 1) := by decide +kernel
theorem dX0_countNamed_2 : decode cX0_countNamed 2 = .ok (.iconst 0, 1) := by decide +kernel
theorem dX0_countNamed_3 : decode cX0_countNamed 3 = .ok (.istore_n 3, 1) := by decide +kernel
theorem dX0_countNamed_4 : decode cX0_countNamed 4 = .ok (.iload_n 3, 1) := by decide +kernel
theorem dX0_countNamed_5 : decode cX0_countNamed 5 = .ok (.aload_n 0, 1) := by decide +kernel
theorem dX0_countNamed_6 : decode cX0_countNamed 6 = .ok (.getfield 9, 3) := by decide +kernel
theorem dX0_countNamed_9 : decode cX0_countNamed 9 = .ok (.if_icmp .ge 22, 3) := by decide +kernel
theorem dX0_countNamed_12 : decode cX0_countNamed 12 = .ok (.aload_n 0, 1) := by decide +kernel
theorem dX0_countNamed_13 : decode cX0_countNamed 13 = .ok (.getfield 47, 3) := by decide +kernel
theorem dX0_countNamed_16 : decode cX0_countNamed 16 = .ok (.iload_n 3, 1) := by decide +kernel
theorem dX0_countNamed_17 : decode cX0_countNamed 17 = .ok (.iaload, 1) := by decide +kernel
theorem dX0_countNamed_18 : decode cX0_countNamed 18 = .ok (.iload_n 1, 1) := by decide +kernel
theorem dX0_countNamed_19 : decode cX0_countNamed 19 = .ok (.if_icmp .ne 6, 3) := by decide +kernel
theorem dX0_countNamed_22 : decode cX0_countNamed 22 = .ok (.iinc 2 1, 3) := by decide +kernel
theorem dX0_countNamed_25 : decode cX0_countNamed 25 = .ok (.iinc 3 1, 3) := by decide +kernel
theorem dX0_countNamed_28 : decode cX0_countNamed 28 = .ok (.goto (-24), 3) := by decide +kernel
theorem dX0_countNamed_31 : decode cX0_countNamed 31 = .ok (.iload_n 2, 1) := by decide +kernel
theorem dX0_countNamed_32 : decode cX0_countNamed 32 = .ok (.ireturn, 1) := by decide +kernel
theorem dX0_countNamedOtherThan_0 : decode cX0_countNamedOtherThan 0 = .ok (.iconst 0, 1) := by decide +kernel
theorem dX0_countNamedOtherThan_1 : decode cX0_countNamedOtherThan 1 = .ok (.istore_n 2, 1) := by decide +kernel
theorem dX0_countNamedOtherThan_2 : decode cX0_countNamedOtherThan 2 = .ok (.iconst 0, 1) := by decide +kernel
theorem dX0_countNamedOtherThan_3 : decode cX0_countNamedOtherThan 3 = .ok (.istore_n 3, 1) := by decide +kernel
theorem dX0_countNamedOtherThan_4 : decode cX0_countNamedOtherThan 4 = .ok (.iload_n 3, 1) := by decide +kernel
theorem dX0_countNamedOtherThan_5 : decode cX0_countNamedOtherThan 5 = .ok (.aload_n 0, 1) := by decide +kernel
theorem dX0_countNamedOtherThan_6 : decode cX0_countNamedOtherThan 6 = .ok (.getfield 9, 3) := by decide +kernel
theorem dX0_countNamedOtherThan_9 : decode cX0_countNamedOtherThan 9 = .ok (.if_icmp .ge 27, 3) := by decide +kernel
theorem dX0_countNamedOtherThan_12 : decode cX0_countNamedOtherThan 12 = .ok (.aload_n 0, 1) := by decide +kernel
theorem dX0_countNamedOtherThan_13 : decode cX0_countNamedOtherThan 13 = .ok (.getfield 47, 3) := by decide +kernel
theorem dX0_countNamedOtherThan_16 : decode cX0_countNamedOtherThan 16 = .ok (.iload_n 3, 1) := by decide +kernel
theorem dX0_countNamedOtherThan_17 : decode cX0_countNamedOtherThan 17 = .ok (.iaload, 1) := by decide +kernel
theorem dX0_countNamedOtherThan_18 : decode cX0_countNamedOtherThan 18 = .ok (.aload_n 1, 1) := by decide +kernel
theorem dX0_countNamedOtherThan_19 : decode cX0_countNamedOtherThan 19 = .ok (.getfield 47, 3) := by decide +kernel
theorem dX0_countNamedOtherThan_22 : decode cX0_countNamedOtherThan 22 = .ok (.iload_n 3, 1) := by decide +kernel
theorem dX0_countNamedOtherThan_23 : decode cX0_countNamedOtherThan 23 = .ok (.iaload, 1) := by decide +kernel
theorem dX0_countNamedOtherThan_24 : decode cX0_countNamedOtherThan 24 = .ok (.if_icmp .eq 6, 3) := by decide +kernel
theorem dX0_countNamedOtherThan_27 : decode cX0_countNamedOtherThan 27 = .ok (.iinc 2 1, 3) := by decide +kernel
theorem dX0_countNamedOtherThan_30 : decode cX0_countNamedOtherThan 30 = .ok (.iinc 3 1, 3) := by decide +kernel
theorem dX0_countNamedOtherThan_33 : decode cX0_countNamedOtherThan 33 = .ok (.goto (-29), 3) := by decide +kernel
theorem dX0_countNamedOtherThan_36 : decode cX0_countNamedOtherThan 36 = .ok (.iload_n 2, 1) := by decide +kernel
theorem dX0_countNamedOtherThan_37 : decode cX0_countNamedOtherThan 37 = .ok (.ireturn, 1) := by decide +kernel
set_option maxRecDepth 20000 in
theorem ggX0_flowsTo_X0_isPlace : GoodIn wsX0_flowsTo wsX0_isPlace := goodIn_r _ [6, 7, 8, 9, 10, 11, 12, 13, 14, 15, 16, 17, 18, 19, 20, 21, 22, 23] (by decide +kernel) (by decide +kernel)
set_option maxRecDepth 20000 in
theorem gX0_flowsTo_X0_isPlace : GoodIn wsX0_flowsTo (wsV RX0 78 RX0 yX0_isPlace wsX0_isPlace) := goodIn_app (goodIn_of _ (by decide +kernel)) ggX0_flowsTo_X0_isPlace
theorem dX0_flowsTo_0 : decode cX0_flowsTo 0 = .ok (.aload_n 0, 1) := by decide +kernel
theorem dX0_flowsTo_1 : decode cX0_flowsTo 1 = .ok (.getfield 18, 3) := by decide +kernel
theorem dX0_flowsTo_4 : decode cX0_flowsTo 4 = .ok (.iload_n 1, 1) := by decide +kernel
theorem dX0_flowsTo_5 : decode cX0_flowsTo 5 = .ok (.iaload, 1) := by decide +kernel
theorem dX0_flowsTo_6 : decode cX0_flowsTo 6 = .ok (.istore_n 3, 1) := by decide +kernel
theorem dX0_flowsTo_7 : decode cX0_flowsTo 7 = .ok (.iconst 0, 1) := by decide +kernel
theorem dX0_flowsTo_8 : decode cX0_flowsTo 8 = .ok (.istore 4, 2) := by decide +kernel
theorem dX0_flowsTo_10 : decode cX0_flowsTo 10 = .ok (.iload 4, 2) := by decide +kernel
theorem dX0_flowsTo_12 : decode cX0_flowsTo 12 = .ok (.bipush 16, 2) := by decide +kernel
theorem dX0_flowsTo_14 : decode cX0_flowsTo 14 = .ok (.if_icmp .ge 31, 3) := by decide +kernel
theorem dX0_flowsTo_17 : decode cX0_flowsTo 17 = .ok (.aload_n 0, 1) := by decide +kernel
theorem dX0_flowsTo_18 : decode cX0_flowsTo 18 = .ok (.iload_n 3, 1) := by decide +kernel
theorem dX0_flowsTo_19 : decode cX0_flowsTo 19 = .ok (.invokevirtual 78, 3) := by decide +kernel
theorem dX0_flowsTo_22 : decode cX0_flowsTo 22 = .ok (.ifCond .eq 23, 3) := by decide +kernel
theorem dX0_flowsTo_25 : decode cX0_flowsTo 25 = .ok (.iload_n 3, 1) := by decide +kernel
theorem dX0_flowsTo_26 : decode cX0_flowsTo 26 = .ok (.iload_n 2, 1) := by decide +kernel
theorem dX0_flowsTo_27 : decode cX0_flowsTo 27 = .ok (.if_icmp .ne 5, 3) := by decide +kernel
theorem dX0_flowsTo_30 : decode cX0_flowsTo 30 = .ok (.iconst 1, 1) := by decide +kernel
theorem dX0_flowsTo_31 : decode cX0_flowsTo 31 = .ok (.ireturn, 1) := by decide +kernel
theorem dX0_flowsTo_32 : decode cX0_flowsTo 32 = .ok (.aload_n 0, 1) := by decide +kernel
theorem dX0_flowsTo_33 : decode cX0_flowsTo 33 = .ok (.getfield 18, 3) := by decide +kernel
theorem dX0_flowsTo_36 : decode cX0_flowsTo 36 = .ok (.iload_n 3, 1) := by decide +kernel
theorem dX0_flowsTo_37 : decode cX0_flowsTo 37 = .ok (.iaload, 1) := by decide +kernel
theorem dX0_flowsTo_38 : decode cX0_flowsTo 38 = .ok (.istore_n 3, 1) := by decide +kernel
theorem dX0_flowsTo_39 : decode cX0_flowsTo 39 = .ok (.iinc 4 1, 3) := by decide +kernel
theorem dX0_flowsTo_42 : decode cX0_flowsTo 42 = .ok (.goto (-32), 3) := by decide +kernel
theorem dX0_flowsTo_45 : decode cX0_flowsTo 45 = .ok (.iconst 0, 1) := by decide +kernel
theorem dX0_flowsTo_46 : decode cX0_flowsTo 46 = .ok (.ireturn, 1) := by decide +kernel
set_option maxRecDepth 20000 in
theorem ggX0_lastOnWay_X0_isPlace : GoodIn wsX0_lastOnWay wsX0_isPlace := goodIn_r _ [6, 7, 8, 9, 10, 11, 12, 13, 14, 15, 16, 17, 18, 19, 20, 21, 22, 23] (by decide +kernel) (by decide +kernel)
set_option maxRecDepth 20000 in
theorem gX0_lastOnWay_X0_isPlace : GoodIn wsX0_lastOnWay (wsV RX0 78 RX0 yX0_isPlace wsX0_isPlace) := goodIn_app (goodIn_of _ (by decide +kernel)) ggX0_lastOnWay_X0_isPlace
theorem dX0_lastOnWay_0 : decode cX0_lastOnWay 0 = .ok (.iload_n 1, 1) := by decide +kernel
theorem dX0_lastOnWay_1 : decode cX0_lastOnWay 1 = .ok (.istore_n 2, 1) := by decide +kernel
theorem dX0_lastOnWay_2 : decode cX0_lastOnWay 2 = .ok (.iconst 0, 1) := by decide +kernel
theorem dX0_lastOnWay_3 : decode cX0_lastOnWay 3 = .ok (.istore_n 3, 1) := by decide +kernel
theorem dX0_lastOnWay_4 : decode cX0_lastOnWay 4 = .ok (.iload_n 3, 1) := by decide +kernel
theorem dX0_lastOnWay_5 : decode cX0_lastOnWay 5 = .ok (.bipush 16, 2) := by decide +kernel
theorem dX0_lastOnWay_7 : decode cX0_lastOnWay 7 = .ok (.if_icmp .ge 29, 3) := by decide +kernel
theorem dX0_lastOnWay_10 : decode cX0_lastOnWay 10 = .ok (.aload_n 0, 1) := by decide +kernel
theorem dX0_lastOnWay_11 : decode cX0_lastOnWay 11 = .ok (.aload_n 0, 1) := by decide +kernel
theorem dX0_lastOnWay_12 : decode cX0_lastOnWay 12 = .ok (.getfield 18, 3) := by decide +kernel
theorem dX0_lastOnWay_15 : decode cX0_lastOnWay 15 = .ok (.iload_n 2, 1) := by decide +kernel
theorem dX0_lastOnWay_16 : decode cX0_lastOnWay 16 = .ok (.iaload, 1) := by decide +kernel
theorem dX0_lastOnWay_17 : decode cX0_lastOnWay 17 = .ok (.invokevirtual 78, 3) := by decide +kernel
theorem dX0_lastOnWay_20 : decode cX0_lastOnWay 20 = .ok (.ifCond .eq 16, 3) := by decide +kernel
theorem dX0_lastOnWay_23 : decode cX0_lastOnWay 23 = .ok (.aload_n 0, 1) := by decide +kernel
theorem dX0_lastOnWay_24 : decode cX0_lastOnWay 24 = .ok (.getfield 18, 3) := by decide +kernel
theorem dX0_lastOnWay_27 : decode cX0_lastOnWay 27 = .ok (.iload_n 2, 1) := by decide +kernel
theorem dX0_lastOnWay_28 : decode cX0_lastOnWay 28 = .ok (.iaload, 1) := by decide +kernel
theorem dX0_lastOnWay_29 : decode cX0_lastOnWay 29 = .ok (.istore_n 2, 1) := by decide +kernel
theorem dX0_lastOnWay_30 : decode cX0_lastOnWay 30 = .ok (.iinc 3 1, 3) := by decide +kernel
theorem dX0_lastOnWay_33 : decode cX0_lastOnWay 33 = .ok (.goto (-29), 3) := by decide +kernel
theorem dX0_lastOnWay_36 : decode cX0_lastOnWay 36 = .ok (.iload_n 2, 1) := by decide +kernel
theorem dX0_lastOnWay_37 : decode cX0_lastOnWay 37 = .ok (.ireturn, 1) := by decide +kernel
set_option maxRecDepth 20000 in
theorem ggX0_firstCommon_X0_isPlace : GoodIn wsX0_firstCommon wsX0_isPlace := goodIn_r _ [6, 7, 12, 13, 14, 15, 16, 17, 18, 19, 20, 21, 22, 23, 24, 25, 26, 27] (by decide +kernel) (by decide +kernel)
set_option maxRecDepth 20000 in
theorem gX0_firstCommon_X0_isPlace : GoodIn wsX0_firstCommon (wsV RX0 78 RX0 yX0_isPlace wsX0_isPlace) := goodIn_app (goodIn_of _ (by decide +kernel)) ggX0_firstCommon_X0_isPlace
set_option maxRecDepth 20000 in
theorem ggX0_firstCommon_X0_flowsTo : GoodIn wsX0_firstCommon wsX0_flowsTo := goodIn_r _ [11, 1, 2, 3, 4, 5, 6, 7, 12, 13, 14, 15, 16, 17, 18, 19, 20, 21, 22, 23, 24, 25, 26, 27] (by decide +kernel) (by decide +kernel)
set_option maxRecDepth 20000 in
theorem gX0_firstCommon_X0_flowsTo : GoodIn wsX0_firstCommon (wsV RX0 82 RX0 yX0_flowsTo wsX0_flowsTo) := goodIn_app (goodIn_of _ (by decide +kernel)) ggX0_firstCommon_X0_flowsTo
theorem dX0_firstCommon_0 : decode cX0_firstCommon 0 = .ok (.iload_n 1, 1) := by decide +kernel
theorem dX0_firstCommon_1 : decode cX0_firstCommon 1 = .ok (.istore_n 3, 1) := by decide +kernel
theorem dX0_firstCommon_2 : decode cX0_firstCommon 2 = .ok (.iconst 0, 1) := by decide +kernel
theorem dX0_firstCommon_3 : decode cX0_firstCommon 3 = .ok (.istore 4, 2) := by decide +kernel
theorem dX0_firstCommon_5 : decode cX0_firstCommon 5 = .ok (.iload 4, 2) := by decide +kernel
theorem dX0_firstCommon_7 : decode cX0_firstCommon 7 = .ok (.bipush 16, 2) := by decide +kernel
theorem dX0_firstCommon_9 : decode cX0_firstCommon 9 = .ok (.if_icmp .ge 40, 3) := by decide +kernel
theorem dX0_firstCommon_12 : decode cX0_firstCommon 12 = .ok (.aload_n 0, 1) := by decide +kernel
theorem dX0_firstCommon_13 : decode cX0_firstCommon 13 = .ok (.iload_n 3, 1) := by decide +kernel
theorem dX0_firstCommon_14 : decode cX0_firstCommon 14 = .ok (.invokevirtual 78, 3) := by decide +kernel
theorem dX0_firstCommon_17 : decode cX0_firstCommon 17 = .ok (.ifCond .eq 32, 3) := by decide +kernel
theorem dX0_firstCommon_20 : decode cX0_firstCommon 20 = .ok (.iload_n 3, 1) := by decide +kernel
theorem dX0_firstCommon_21 : decode cX0_firstCommon 21 = .ok (.iload_n 2, 1) := by decide +kernel
theorem dX0_firstCommon_22 : decode cX0_firstCommon 22 = .ok (.if_icmp .eq 12, 3) := by decide +kernel
theorem dX0_firstCommon_25 : decode cX0_firstCommon 25 = .ok (.aload_n 0, 1) := by decide +kernel
theorem dX0_firstCommon_26 : decode cX0_firstCommon 26 = .ok (.iload_n 2, 1) := by decide +kernel
theorem dX0_firstCommon_27 : decode cX0_firstCommon 27 = .ok (.iload_n 3, 1) := by decide +kernel
theorem dX0_firstCommon_28 : decode cX0_firstCommon 28 = .ok (.invokevirtual 82, 3) := by decide +kernel
theorem dX0_firstCommon_31 : decode cX0_firstCommon 31 = .ok (.ifCond .eq 5, 3) := by decide +kernel
theorem dX0_firstCommon_34 : decode cX0_firstCommon 34 = .ok (.iload_n 3, 1) := by decide +kernel
theorem dX0_firstCommon_35 : decode cX0_firstCommon 35 = .ok (.ireturn, 1) := by decide +kernel
theorem dX0_firstCommon_36 : decode cX0_firstCommon 36 = .ok (.aload_n 0, 1) := by decide +kernel
theorem dX0_firstCommon_37 : decode cX0_firstCommon 37 = .ok (.getfield 18, 3) := by decide +kernel
theorem dX0_firstCommon_40 : decode cX0_firstCommon 40 = .ok (.iload_n 3, 1) := by decide +kernel
theorem dX0_firstCommon_41 : decode cX0_firstCommon 41 = .ok (.iaload, 1) := by decide +kernel
theorem dX0_firstCommon_42 : decode cX0_firstCommon 42 = .ok (.istore_n 3, 1) := by decide +kernel
theorem dX0_firstCommon_43 : decode cX0_firstCommon 43 = .ok (.iinc 4 1, 3) := by decide +kernel
theorem dX0_firstCommon_46 : decode cX0_firstCommon 46 = .ok (.goto (-41), 3) := by decide +kernel
theorem dX0_firstCommon_49 : decode cX0_firstCommon 49 = .ok (.iconst (-1), 1) := by decide +kernel
theorem dX0_firstCommon_50 : decode cX0_firstCommon 50 = .ok (.ireturn, 1) := by decide +kernel
set_option maxRecDepth 20000 in
theorem ggX0_countSteps_X0_isPlace : GoodIn wsX0_countSteps wsX0_isPlace := goodIn_r _ [6, 7, 8, 9, 10, 11, 12, 13, 14, 15, 16, 17, 18, 19, 20, 21, 22, 23] (by decide +kernel) (by decide +kernel)
set_option maxRecDepth 20000 in
theorem gX0_countSteps_X0_isPlace : GoodIn wsX0_countSteps (wsV RX0 78 RX0 yX0_isPlace wsX0_isPlace) := goodIn_app (goodIn_of _ (by decide +kernel)) ggX0_countSteps_X0_isPlace
theorem dX0_countSteps_0 : decode cX0_countSteps 0 = .ok (.aload_n 0, 1) := by decide +kernel
theorem dX0_countSteps_1 : decode cX0_countSteps 1 = .ok (.getfield 18, 3) := by decide +kernel
theorem dX0_countSteps_4 : decode cX0_countSteps 4 = .ok (.iload_n 1, 1) := by decide +kernel
theorem dX0_countSteps_5 : decode cX0_countSteps 5 = .ok (.iaload, 1) := by decide +kernel
theorem dX0_countSteps_6 : decode cX0_countSteps 6 = .ok (.istore_n 2, 1) := by decide +kernel
theorem dX0_countSteps_7 : decode cX0_countSteps 7 = .ok (.iconst 0, 1) := by decide +kernel
theorem dX0_countSteps_8 : decode cX0_countSteps 8 = .ok (.istore_n 3, 1) := by decide +kernel
theorem dX0_countSteps_9 : decode cX0_countSteps 9 = .ok (.iload_n 3, 1) := by decide +kernel
theorem dX0_countSteps_10 : decode cX0_countSteps 10 = .ok (.bipush 16, 2) := by decide +kernel
theorem dX0_countSteps_12 : decode cX0_countSteps 12 = .ok (.if_icmp .ge 24, 3) := by decide +kernel
theorem dX0_countSteps_15 : decode cX0_countSteps 15 = .ok (.aload_n 0, 1) := by decide +kernel
theorem dX0_countSteps_16 : decode cX0_countSteps 16 = .ok (.iload_n 2, 1) := by decide +kernel
theorem dX0_countSteps_17 : decode cX0_countSteps 17 = .ok (.invokevirtual 78, 3) := by decide +kernel
theorem dX0_countSteps_20 : decode cX0_countSteps 20 = .ok (.ifCond .eq 16, 3) := by decide +kernel
theorem dX0_countSteps_23 : decode cX0_countSteps 23 = .ok (.iinc 3 1, 3) := by decide +kernel
theorem dX0_countSteps_26 : decode cX0_countSteps 26 = .ok (.aload_n 0, 1) := by decide +kernel
theorem dX0_countSteps_27 : decode cX0_countSteps 27 = .ok (.getfield 18, 3) := by decide +kernel
theorem dX0_countSteps_30 : decode cX0_countSteps 30 = .ok (.iload_n 2, 1) := by decide +kernel
theorem dX0_countSteps_31 : decode cX0_countSteps 31 = .ok (.iaload, 1) := by decide +kernel
theorem dX0_countSteps_32 : decode cX0_countSteps 32 = .ok (.istore_n 2, 1) := by decide +kernel
theorem dX0_countSteps_33 : decode cX0_countSteps 33 = .ok (.goto (-24), 3) := by decide +kernel
theorem dX0_countSteps_36 : decode cX0_countSteps 36 = .ok (.iload_n 3, 1) := by decide +kernel
theorem dX0_countSteps_37 : decode cX0_countSteps 37 = .ok (.ireturn, 1) := by decide +kernel
set_option maxRecDepth 20000 in
theorem ggX0_settle_X0_rise : GoodIn wsX0_settle wsX0_rise := goodIn_r _ [8, 9, 10, 11, 12, 13, 14, 15, 16, 17, 18, 19, 20, 21, 7, 22, 23, 36, 37, 38, 39, 40, 41, 42, 43, 44, 45, 46, 47, 48, 49, 50, 51] (by decide +kernel) (by decide +kernel)
set_option maxRecDepth 20000 in
theorem gX0_settle_X0_rise : GoodIn wsX0_settle (wsV RX0 86 RX0 yX0_rise wsX0_rise) := goodIn_app (goodIn_of _ (by decide +kernel)) ggX0_settle_X0_rise
set_option maxRecDepth 20000 in
theorem ggX0_settle_X0_flowOn : GoodIn wsX0_settle wsX0_flowOn := goodIn_r _ [27, 10, 11, 28, 29, 30, 31, 12, 17, 32, 33, 34, 7, 35, 1, 19, 20, 21, 22, 23, 13, 14, 15, 16, 36, 37, 38, 39, 40, 41, 42, 43, 44, 45, 46, 47, 48, 49, 50, 51] (by decide +kernel) (by decide +kernel)
set_option maxRecDepth 20000 in
theorem gX0_settle_X0_flowOn : GoodIn wsX0_settle (wsV RX0 90 RX0 yX0_flowOn wsX0_flowOn) := goodIn_app (goodIn_of _ (by decide +kernel)) ggX0_settle_X0_flowOn
theorem dX0_settle_0 : decode cX0_settle 0 = .ok (.iconst 0, 1) := by decide +kernel
theorem dX0_settle_1 : decode cX0_settle 1 = .ok (.istore_n 1, 1) := by decide +kernel
theorem dX0_settle_2 : decode cX0_settle 2 = .ok (.iload_n 1, 1) := by decide +kernel
theorem dX0_settle_3 : decode cX0_settle 3 = .ok (.aload_n 0, 1) := by decide +kernel
theorem dX0_settle_4 : decode cX0_settle 4 = .ok (.getfield 9, 3) := by decide +kernel
theorem dX0_settle_7 : decode cX0_settle 7 = .ok (.if_icmp .ge 14, 3) := by decide +kernel
theorem dX0_settle_10 : decode cX0_settle 10 = .ok (.aload_n 0, 1) := by decide +kernel
theorem dX0_settle_11 : decode cX0_settle 11 = .ok (.iload_n 1, 1) := by decide +kernel
theorem dX0_settle_12 : decode cX0_settle 12 = .ok (.invokevirtual 86, 3) := by decide +kernel
theorem dX0_settle_15 : decode cX0_settle 15 = .ok (.iinc 1 1, 3) := by decide +kernel
theorem dX0_settle_18 : decode cX0_settle 18 = .ok (.goto (-16), 3) := by decide +kernel
theorem dX0_settle_21 : decode cX0_settle 21 = .ok (.aload_n 0, 1) := by decide +kernel
theorem dX0_settle_22 : decode cX0_settle 22 = .ok (.getfield 9, 3) := by decide +kernel
theorem dX0_settle_25 : decode cX0_settle 25 = .ok (.iconst 1, 1) := by decide +kernel
theorem dX0_settle_26 : decode cX0_settle 26 = .ok (.isub, 1) := by decide +kernel
theorem dX0_settle_27 : decode cX0_settle 27 = .ok (.istore_n 1, 1) := by decide +kernel
theorem dX0_settle_28 : decode cX0_settle 28 = .ok (.iload_n 1, 1) := by decide +kernel
theorem dX0_settle_29 : decode cX0_settle 29 = .ok (.ifCond .lt 46, 3) := by decide +kernel
theorem dX0_settle_32 : decode cX0_settle 32 = .ok (.iconst 0, 1) := by decide +kernel
theorem dX0_settle_33 : decode cX0_settle 33 = .ok (.istore_n 2, 1) := by decide +kernel
theorem dX0_settle_34 : decode cX0_settle 34 = .ok (.iload_n 2, 1) := by decide +kernel
theorem dX0_settle_35 : decode cX0_settle 35 = .ok (.aload_n 0, 1) := by decide +kernel
theorem dX0_settle_36 : decode cX0_settle 36 = .ok (.getfield 9, 3) := by decide +kernel
theorem dX0_settle_39 : decode cX0_settle 39 = .ok (.if_icmp .ge 30, 3) := by decide +kernel
theorem dX0_settle_42 : decode cX0_settle 42 = .ok (.aload_n 0, 1) := by decide +kernel
theorem dX0_settle_43 : decode cX0_settle 43 = .ok (.getfield 22, 3) := by decide +kernel
theorem dX0_settle_46 : decode cX0_settle 46 = .ok (.iload_n 2, 1) := by decide +kernel
theorem dX0_settle_47 : decode cX0_settle 47 = .ok (.iaload, 1) := by decide +kernel
theorem dX0_settle_48 : decode cX0_settle 48 = .ok (.iload_n 1, 1) := by decide +kernel
theorem dX0_settle_49 : decode cX0_settle 49 = .ok (.if_icmp .ne 14, 3) := by decide +kernel
theorem dX0_settle_52 : decode cX0_settle 52 = .ok (.aload_n 0, 1) := by decide +kernel
theorem dX0_settle_53 : decode cX0_settle 53 = .ok (.iload_n 2, 1) := by decide +kernel
theorem dX0_settle_54 : decode cX0_settle 54 = .ok (.aload_n 0, 1) := by decide +kernel
theorem dX0_settle_55 : decode cX0_settle 55 = .ok (.getfield 18, 3) := by decide +kernel
theorem dX0_settle_58 : decode cX0_settle 58 = .ok (.iload_n 2, 1) := by decide +kernel
theorem dX0_settle_59 : decode cX0_settle 59 = .ok (.iaload, 1) := by decide +kernel
theorem dX0_settle_60 : decode cX0_settle 60 = .ok (.invokevirtual 90, 3) := by decide +kernel
theorem dX0_settle_63 : decode cX0_settle 63 = .ok (.iinc 2 1, 3) := by decide +kernel
theorem dX0_settle_66 : decode cX0_settle 66 = .ok (.goto (-32), 3) := by decide +kernel
theorem dX0_settle_69 : decode cX0_settle 69 = .ok (.iinc 1 (-1), 3) := by decide +kernel
theorem dX0_settle_72 : decode cX0_settle 72 = .ok (.goto (-44), 3) := by decide +kernel
theorem dX0_settle_75 : decode cX0_settle 75 = .ok (.return_, 1) := by decide +kernel
set_option maxRecDepth 20000 in
theorem ggX0_rise_X0_argue : GoodIn wsX0_rise wsX0_argue := goodIn_r _ [15, 16, 5, 4, 6, 7, 8, 17, 18, 19, 20, 21, 22, 23, 24, 25, 26, 27, 28, 29, 30, 31, 32] (by decide +kernel) (by decide +kernel)
set_option maxRecDepth 20000 in
theorem gX0_rise_X0_argue : GoodIn wsX0_rise (wsV RX0 94 RX0 yX0_argue wsX0_argue) := goodIn_app (goodIn_of _ (by decide +kernel)) ggX0_rise_X0_argue
theorem dX0_rise_0 : decode cX0_rise 0 = .ok (.aload_n 0, 1) := by decide +kernel
theorem dX0_rise_1 : decode cX0_rise 1 = .ok (.getfield 32, 3) := by decide +kernel
theorem dX0_rise_4 : decode cX0_rise 4 = .ok (.iload_n 1, 1) := by decide +kernel
theorem dX0_rise_5 : decode cX0_rise 5 = .ok (.iaload, 1) := by decide +kernel
theorem dX0_rise_6 : decode cX0_rise 6 = .ok (.ifCond .le 7, 3) := by decide +kernel
theorem dX0_rise_9 : decode cX0_rise 9 = .ok (.iconst 1, 1) := by decide +kernel
theorem dX0_rise_10 : decode cX0_rise 10 = .ok (.goto 4, 3) := by decide +kernel
theorem dX0_rise_13 : decode cX0_rise 13 = .ok (.iconst 0, 1) := by decide +kernel
theorem dX0_rise_14 : decode cX0_rise 14 = .ok (.istore_n 2, 1) := by decide +kernel
theorem dX0_rise_15 : decode cX0_rise 15 = .ok (.aload_n 0, 1) := by decide +kernel
theorem dX0_rise_16 : decode cX0_rise 16 = .ok (.getfield 41, 3) := by decide +kernel
theorem dX0_rise_19 : decode cX0_rise 19 = .ok (.iload_n 1, 1) := by decide +kernel
theorem dX0_rise_20 : decode cX0_rise 20 = .ok (.aload_n 0, 1) := by decide +kernel
theorem dX0_rise_21 : decode cX0_rise 21 = .ok (.getfield 32, 3) := by decide +kernel
theorem dX0_rise_24 : decode cX0_rise 24 = .ok (.iload_n 1, 1) := by decide +kernel
theorem dX0_rise_25 : decode cX0_rise 25 = .ok (.iaload, 1) := by decide +kernel
theorem dX0_rise_26 : decode cX0_rise 26 = .ok (.iastore, 1) := by decide +kernel
theorem dX0_rise_27 : decode cX0_rise 27 = .ok (.aload_n 0, 1) := by decide +kernel
theorem dX0_rise_28 : decode cX0_rise 28 = .ok (.getfield 44, 3) := by decide +kernel
theorem dX0_rise_31 : decode cX0_rise 31 = .ok (.iload_n 1, 1) := by decide +kernel
theorem dX0_rise_32 : decode cX0_rise 32 = .ok (.iload_n 2, 1) := by decide +kernel
theorem dX0_rise_33 : decode cX0_rise 33 = .ok (.ifCond .eq 7, 3) := by decide +kernel
theorem dX0_rise_36 : decode cX0_rise 36 = .ok (.iconst 1, 1) := by decide +kernel
theorem dX0_rise_37 : decode cX0_rise 37 = .ok (.goto 4, 3) := by decide +kernel
theorem dX0_rise_40 : decode cX0_rise 40 = .ok (.iconst 0, 1) := by decide +kernel
theorem dX0_rise_41 : decode cX0_rise 41 = .ok (.iastore, 1) := by decide +kernel
theorem dX0_rise_42 : decode cX0_rise 42 = .ok (.aload_n 0, 1) := by decide +kernel
theorem dX0_rise_43 : decode cX0_rise 43 = .ok (.getfield 47, 3) := by decide +kernel
theorem dX0_rise_46 : decode cX0_rise 46 = .ok (.iload_n 1, 1) := by decide +kernel
theorem dX0_rise_47 : decode cX0_rise 47 = .ok (.iconst (-1), 1) := by decide +kernel
theorem dX0_rise_48 : decode cX0_rise 48 = .ok (.iastore, 1) := by decide +kernel
theorem dX0_rise_49 : decode cX0_rise 49 = .ok (.aload_n 0, 1) := by decide +kernel
theorem dX0_rise_50 : decode cX0_rise 50 = .ok (.getfield 50, 3) := by decide +kernel
theorem dX0_rise_53 : decode cX0_rise 53 = .ok (.iload_n 1, 1) := by decide +kernel
theorem dX0_rise_54 : decode cX0_rise 54 = .ok (.iconst 0, 1) := by decide +kernel
theorem dX0_rise_55 : decode cX0_rise 55 = .ok (.iastore, 1) := by decide +kernel
theorem dX0_rise_56 : decode cX0_rise 56 = .ok (.aload_n 0, 1) := by decide +kernel
theorem dX0_rise_57 : decode cX0_rise 57 = .ok (.getfield 53, 3) := by decide +kernel
theorem dX0_rise_60 : decode cX0_rise 60 = .ok (.iload_n 1, 1) := by decide +kernel
theorem dX0_rise_61 : decode cX0_rise 61 = .ok (.iconst 0, 1) := by decide +kernel
theorem dX0_rise_62 : decode cX0_rise 62 = .ok (.bastore, 1) := by decide +kernel
theorem dX0_rise_63 : decode cX0_rise 63 = .ok (.aload_n 0, 1) := by decide +kernel
theorem dX0_rise_64 : decode cX0_rise 64 = .ok (.getfield 56, 3) := by decide +kernel
theorem dX0_rise_67 : decode cX0_rise 67 = .ok (.iload_n 1, 1) := by decide +kernel
theorem dX0_rise_68 : decode cX0_rise 68 = .ok (.iconst (-1), 1) := by decide +kernel
theorem dX0_rise_69 : decode cX0_rise 69 = .ok (.iastore, 1) := by decide +kernel
theorem dX0_rise_70 : decode cX0_rise 70 = .ok (.aload_n 0, 1) := by decide +kernel
theorem dX0_rise_71 : decode cX0_rise 71 = .ok (.getfield 59, 3) := by decide +kernel
theorem dX0_rise_74 : decode cX0_rise 74 = .ok (.iload_n 1, 1) := by decide +kernel
theorem dX0_rise_75 : decode cX0_rise 75 = .ok (.iconst 0, 1) := by decide +kernel
theorem dX0_rise_76 : decode cX0_rise 76 = .ok (.iastore, 1) := by decide +kernel
theorem dX0_rise_77 : decode cX0_rise 77 = .ok (.iload_n 2, 1) := by decide +kernel
theorem dX0_rise_78 : decode cX0_rise 78 = .ok (.ifCond .eq 34, 3) := by decide +kernel
theorem dX0_rise_81 : decode cX0_rise 81 = .ok (.aload_n 0, 1) := by decide +kernel
theorem dX0_rise_82 : decode cX0_rise 82 = .ok (.getfield 15, 3) := by decide +kernel
theorem dX0_rise_85 : decode cX0_rise 85 = .ok (.ifCond .ne 12, 3) := by decide +kernel
theorem dX0_rise_88 : decode cX0_rise 88 = .ok (.aload_n 0, 1) := by decide +kernel
theorem dX0_rise_89 : decode cX0_rise 89 = .ok (.getfield 32, 3) := by decide +kernel
theorem dX0_rise_92 : decode cX0_rise 92 = .ok (.iload_n 1, 1) := by decide +kernel
theorem dX0_rise_93 : decode cX0_rise 93 = .ok (.iaload, 1) := by decide +kernel
theorem dX0_rise_94 : decode cX0_rise 94 = .ok (.goto 4, 3) := by decide +kernel
theorem dX0_rise_97 : decode cX0_rise 97 = .ok (.iconst 0, 1) := by decide +kernel
theorem dX0_rise_98 : decode cX0_rise 98 = .ok (.istore_n 3, 1) := by decide +kernel
theorem dX0_rise_99 : decode cX0_rise 99 = .ok (.aload_n 0, 1) := by decide +kernel
theorem dX0_rise_100 : decode cX0_rise 100 = .ok (.iload_n 1, 1) := by decide +kernel
theorem dX0_rise_101 : decode cX0_rise 101 = .ok (.iload_n 1, 1) := by decide +kernel
theorem dX0_rise_102 : decode cX0_rise 102 = .ok (.aload_n 0, 1) := by decide +kernel
theorem dX0_rise_103 : decode cX0_rise 103 = .ok (.getfield 29, 3) := by decide +kernel
theorem dX0_rise_106 : decode cX0_rise 106 = .ok (.iload_n 1, 1) := by decide +kernel
theorem dX0_rise_107 : decode cX0_rise 107 = .ok (.iaload, 1) := by decide +kernel
theorem dX0_rise_108 : decode cX0_rise 108 = .ok (.iload_n 3, 1) := by decide +kernel
theorem dX0_rise_109 : decode cX0_rise 109 = .ok (.invokevirtual 94, 3) := by decide +kernel
theorem dX0_rise_112 : decode cX0_rise 112 = .ok (.return_, 1) := by decide +kernel
set_option maxRecDepth 20000 in
theorem ggX0_flowOn_X0_isPlace : GoodIn wsX0_flowOn wsX0_isPlace := goodIn_r _ [13, 14, 24, 25, 26, 27, 28, 29, 30, 31, 32, 33, 34, 35, 36, 37, 38, 39] (by decide +kernel) (by decide +kernel)
set_option maxRecDepth 20000 in
theorem gX0_flowOn_X0_isPlace : GoodIn wsX0_flowOn (wsV RX0 78 RX0 yX0_isPlace wsX0_isPlace) := goodIn_app (goodIn_of _ (by decide +kernel)) ggX0_flowOn_X0_isPlace
set_option maxRecDepth 20000 in
theorem ggX0_flowOn_X0_argue : GoodIn wsX0_flowOn wsX0_argue := goodIn_r _ [18, 19, 20, 7, 21, 22, 23, 24, 25, 26, 27, 28, 29, 30, 31, 32, 33, 34, 35, 36, 37, 38, 39] (by decide +kernel) (by decide +kernel)
set_option maxRecDepth 20000 in
theorem gX0_flowOn_X0_argue : GoodIn wsX0_flowOn (wsV RX0 94 RX0 yX0_argue wsX0_argue) := goodIn_app (goodIn_of _ (by decide +kernel)) ggX0_flowOn_X0_argue
theorem dX0_flowOn_0 : decode cX0_flowOn 0 = .ok (.aload_n 0, 1) := by decide +kernel
theorem dX0_flowOn_1 : decode cX0_flowOn 1 = .ok (.iload_n 2, 1) := by decide +kernel
theorem dX0_flowOn_2 : decode cX0_flowOn 2 = .ok (.invokevirtual 78, 3) := by decide +kernel
theorem dX0_flowOn_5 : decode cX0_flowOn 5 = .ok (.ifCond .ne 4, 3) := by decide +kernel
theorem dX0_flowOn_8 : decode cX0_flowOn 8 = .ok (.return_, 1) := by decide +kernel
theorem dX0_flowOn_9 : decode cX0_flowOn 9 = .ok (.aload_n 0, 1) := by decide +kernel
theorem dX0_flowOn_10 : decode cX0_flowOn 10 = .ok (.getfield 41, 3) := by decide +kernel
theorem dX0_flowOn_13 : decode cX0_flowOn 13 = .ok (.iload_n 2, 1) := by decide +kernel
theorem dX0_flowOn_14 : decode cX0_flowOn 14 = .ok (.dup2, 1) := by decide +kernel
theorem dX0_flowOn_15 : decode cX0_flowOn 15 = .ok (.iaload, 1) := by decide +kernel
theorem dX0_flowOn_16 : decode cX0_flowOn 16 = .ok (.aload_n 0, 1) := by decide +kernel
theorem dX0_flowOn_17 : decode cX0_flowOn 17 = .ok (.getfield 41, 3) := by decide +kernel
theorem dX0_flowOn_20 : decode cX0_flowOn 20 = .ok (.iload_n 1, 1) := by decide +kernel
theorem dX0_flowOn_21 : decode cX0_flowOn 21 = .ok (.iaload, 1) := by decide +kernel
theorem dX0_flowOn_22 : decode cX0_flowOn 22 = .ok (.iadd, 1) := by decide +kernel
theorem dX0_flowOn_23 : decode cX0_flowOn 23 = .ok (.iastore, 1) := by decide +kernel
theorem dX0_flowOn_24 : decode cX0_flowOn 24 = .ok (.aload_n 0, 1) := by decide +kernel
theorem dX0_flowOn_25 : decode cX0_flowOn 25 = .ok (.getfield 44, 3) := by decide +kernel
theorem dX0_flowOn_28 : decode cX0_flowOn 28 = .ok (.iload_n 1, 1) := by decide +kernel
theorem dX0_flowOn_29 : decode cX0_flowOn 29 = .ok (.iaload, 1) := by decide +kernel
theorem dX0_flowOn_30 : decode cX0_flowOn 30 = .ok (.ifCond .le 26, 3) := by decide +kernel
theorem dX0_flowOn_33 : decode cX0_flowOn 33 = .ok (.aload_n 0, 1) := by decide +kernel
theorem dX0_flowOn_34 : decode cX0_flowOn 34 = .ok (.getfield 44, 3) := by decide +kernel
theorem dX0_flowOn_37 : decode cX0_flowOn 37 = .ok (.iload_n 2, 1) := by decide +kernel
theorem dX0_flowOn_38 : decode cX0_flowOn 38 = .ok (.aload_n 0, 1) := by decide +kernel
theorem dX0_flowOn_39 : decode cX0_flowOn 39 = .ok (.getfield 44, 3) := by decide +kernel
theorem dX0_flowOn_42 : decode cX0_flowOn 42 = .ok (.iload_n 2, 1) := by decide +kernel
theorem dX0_flowOn_43 : decode cX0_flowOn 43 = .ok (.iaload, 1) := by decide +kernel
theorem dX0_flowOn_44 : decode cX0_flowOn 44 = .ok (.aload_n 0, 1) := by decide +kernel
theorem dX0_flowOn_45 : decode cX0_flowOn 45 = .ok (.getfield 44, 3) := by decide +kernel
theorem dX0_flowOn_48 : decode cX0_flowOn 48 = .ok (.iload_n 1, 1) := by decide +kernel
theorem dX0_flowOn_49 : decode cX0_flowOn 49 = .ok (.iaload, 1) := by decide +kernel
theorem dX0_flowOn_50 : decode cX0_flowOn 50 = .ok (.iconst 1, 1) := by decide +kernel
theorem dX0_flowOn_51 : decode cX0_flowOn 51 = .ok (.iadd, 1) := by decide +kernel
theorem dX0_flowOn_52 : decode cX0_flowOn 52 = .ok (.invokestatic 75, 3) := by decide +kernel
theorem dX0_flowOn_55 : decode cX0_flowOn 55 = .ok (.iastore, 1) := by decide +kernel
theorem dX0_flowOn_56 : decode cX0_flowOn 56 = .ok (.aload_n 0, 1) := by decide +kernel
theorem dX0_flowOn_57 : decode cX0_flowOn 57 = .ok (.getfield 47, 3) := by decide +kernel
theorem dX0_flowOn_60 : decode cX0_flowOn 60 = .ok (.iload_n 1, 1) := by decide +kernel
theorem dX0_flowOn_61 : decode cX0_flowOn 61 = .ok (.iaload, 1) := by decide +kernel
theorem dX0_flowOn_62 : decode cX0_flowOn 62 = .ok (.iconst (-1), 1) := by decide +kernel
theorem dX0_flowOn_63 : decode cX0_flowOn 63 = .ok (.if_icmp .eq 39, 3) := by decide +kernel
theorem dX0_flowOn_66 : decode cX0_flowOn 66 = .ok (.aload_n 0, 1) := by decide +kernel
theorem dX0_flowOn_67 : decode cX0_flowOn 67 = .ok (.getfield 15, 3) := by decide +kernel
theorem dX0_flowOn_70 : decode cX0_flowOn 70 = .ok (.ifCond .ne 12, 3) := by decide +kernel
theorem dX0_flowOn_73 : decode cX0_flowOn 73 = .ok (.aload_n 0, 1) := by decide +kernel
theorem dX0_flowOn_74 : decode cX0_flowOn 74 = .ok (.getfield 41, 3) := by decide +kernel
theorem dX0_flowOn_77 : decode cX0_flowOn 77 = .ok (.iload_n 1, 1) := by decide +kernel
theorem dX0_flowOn_78 : decode cX0_flowOn 78 = .ok (.iaload, 1) := by decide +kernel
theorem dX0_flowOn_79 : decode cX0_flowOn 79 = .ok (.goto 9, 3) := by decide +kernel
theorem dX0_flowOn_82 : decode cX0_flowOn 82 = .ok (.aload_n 0, 1) := by decide +kernel
theorem dX0_flowOn_83 : decode cX0_flowOn 83 = .ok (.getfield 44, 3) := by decide +kernel
theorem dX0_flowOn_86 : decode cX0_flowOn 86 = .ok (.iload_n 1, 1) := by decide +kernel
theorem dX0_flowOn_87 : decode cX0_flowOn 87 = .ok (.iaload, 1) := by decide +kernel
theorem dX0_flowOn_88 : decode cX0_flowOn 88 = .ok (.istore_n 3, 1) := by decide +kernel
theorem dX0_flowOn_89 : decode cX0_flowOn 89 = .ok (.aload_n 0, 1) := by decide +kernel
theorem dX0_flowOn_90 : decode cX0_flowOn 90 = .ok (.iload_n 2, 1) := by decide +kernel
theorem dX0_flowOn_91 : decode cX0_flowOn 91 = .ok (.iload_n 1, 1) := by decide +kernel
theorem dX0_flowOn_92 : decode cX0_flowOn 92 = .ok (.aload_n 0, 1) := by decide +kernel
theorem dX0_flowOn_93 : decode cX0_flowOn 93 = .ok (.getfield 47, 3) := by decide +kernel
theorem dX0_flowOn_96 : decode cX0_flowOn 96 = .ok (.iload_n 1, 1) := by decide +kernel
theorem dX0_flowOn_97 : decode cX0_flowOn 97 = .ok (.iaload, 1) := by decide +kernel
theorem dX0_flowOn_98 : decode cX0_flowOn 98 = .ok (.iload_n 3, 1) := by decide +kernel
theorem dX0_flowOn_99 : decode cX0_flowOn 99 = .ok (.invokevirtual 94, 3) := by decide +kernel
theorem dX0_flowOn_102 : decode cX0_flowOn 102 = .ok (.return_, 1) := by decide +kernel
theorem dX0_argue_0 : decode cX0_argue 0 = .ok (.aload_n 0, 1) := by decide +kernel
theorem dX0_argue_1 : decode cX0_argue 1 = .ok (.getfield 38, 3) := by decide +kernel
theorem dX0_argue_4 : decode cX0_argue 4 = .ok (.iload_n 1, 1) := by decide +kernel
theorem dX0_argue_5 : decode cX0_argue 5 = .ok (.baload, 1) := by decide +kernel
theorem dX0_argue_6 : decode cX0_argue 6 = .ok (.ifCond .eq 4, 3) := by decide +kernel
theorem dX0_argue_9 : decode cX0_argue 9 = .ok (.return_, 1) := by decide +kernel
theorem dX0_argue_10 : decode cX0_argue 10 = .ok (.aload_n 0, 1) := by decide +kernel
theorem dX0_argue_11 : decode cX0_argue 11 = .ok (.getfield 50, 3) := by decide +kernel
theorem dX0_argue_14 : decode cX0_argue 14 = .ok (.iload_n 1, 1) := by decide +kernel
theorem dX0_argue_15 : decode cX0_argue 15 = .ok (.iaload, 1) := by decide +kernel
theorem dX0_argue_16 : decode cX0_argue 16 = .ok (.ifCond .le 20, 3) := by decide +kernel
theorem dX0_argue_19 : decode cX0_argue 19 = .ok (.iload_n 3, 1) := by decide +kernel
theorem dX0_argue_20 : decode cX0_argue 20 = .ok (.aload_n 0, 1) := by decide +kernel
theorem dX0_argue_21 : decode cX0_argue 21 = .ok (.getfield 47, 3) := by decide +kernel
theorem dX0_argue_24 : decode cX0_argue 24 = .ok (.iload_n 1, 1) := by decide +kernel
theorem dX0_argue_25 : decode cX0_argue 25 = .ok (.iaload, 1) := by decide +kernel
theorem dX0_argue_26 : decode cX0_argue 26 = .ok (.if_icmp .eq 10, 3) := by decide +kernel
theorem dX0_argue_29 : decode cX0_argue 29 = .ok (.aload_n 0, 1) := by decide +kernel
theorem dX0_argue_30 : decode cX0_argue 30 = .ok (.getfield 53, 3) := by decide +kernel
theorem dX0_argue_33 : decode cX0_argue 33 = .ok (.iload_n 1, 1) := by decide +kernel
theorem dX0_argue_34 : decode cX0_argue 34 = .ok (.iconst 1, 1) := by decide +kernel
theorem dX0_argue_35 : decode cX0_argue 35 = .ok (.bastore, 1) := by decide +kernel
theorem dX0_argue_36 : decode cX0_argue 36 = .ok (.aload_n 0, 1) := by decide +kernel
theorem dX0_argue_37 : decode cX0_argue 37 = .ok (.getfield 50, 3) := by decide +kernel
theorem dX0_argue_40 : decode cX0_argue 40 = .ok (.iload_n 1, 1) := by decide +kernel
theorem dX0_argue_41 : decode cX0_argue 41 = .ok (.dup2, 1) := by decide +kernel
theorem dX0_argue_42 : decode cX0_argue 42 = .ok (.iaload, 1) := by decide +kernel
theorem dX0_argue_43 : decode cX0_argue 43 = .ok (.iconst 1, 1) := by decide +kernel
theorem dX0_argue_44 : decode cX0_argue 44 = .ok (.iadd, 1) := by decide +kernel
theorem dX0_argue_45 : decode cX0_argue 45 = .ok (.iastore, 1) := by decide +kernel
theorem dX0_argue_46 : decode cX0_argue 46 = .ok (.aload_n 0, 1) := by decide +kernel
theorem dX0_argue_47 : decode cX0_argue 47 = .ok (.getfield 56, 3) := by decide +kernel
theorem dX0_argue_50 : decode cX0_argue 50 = .ok (.iload_n 1, 1) := by decide +kernel
theorem dX0_argue_51 : decode cX0_argue 51 = .ok (.iaload, 1) := by decide +kernel
theorem dX0_argue_52 : decode cX0_argue 52 = .ok (.iconst (-1), 1) := by decide +kernel
theorem dX0_argue_53 : decode cX0_argue 53 = .ok (.if_icmp .eq 35, 3) := by decide +kernel
theorem dX0_argue_56 : decode cX0_argue 56 = .ok (.iload 4, 2) := by decide +kernel
theorem dX0_argue_58 : decode cX0_argue 58 = .ok (.aload_n 0, 1) := by decide +kernel
theorem dX0_argue_59 : decode cX0_argue 59 = .ok (.getfield 59, 3) := by decide +kernel
theorem dX0_argue_62 : decode cX0_argue 62 = .ok (.iload_n 1, 1) := by decide +kernel
theorem dX0_argue_63 : decode cX0_argue 63 = .ok (.iaload, 1) := by decide +kernel
theorem dX0_argue_64 : decode cX0_argue 64 = .ok (.if_icmp .gt 24, 3) := by decide +kernel
theorem dX0_argue_67 : decode cX0_argue 67 = .ok (.iload 4, 2) := by decide +kernel
theorem dX0_argue_69 : decode cX0_argue 69 = .ok (.aload_n 0, 1) := by decide +kernel
theorem dX0_argue_70 : decode cX0_argue 70 = .ok (.getfield 59, 3) := by decide +kernel
theorem dX0_argue_73 : decode cX0_argue 73 = .ok (.iload_n 1, 1) := by decide +kernel
theorem dX0_argue_74 : decode cX0_argue 74 = .ok (.iaload, 1) := by decide +kernel
theorem dX0_argue_75 : decode cX0_argue 75 = .ok (.if_icmp .ne 17, 3) := by decide +kernel
theorem dX0_argue_78 : decode cX0_argue 78 = .ok (.iload_n 2, 1) := by decide +kernel
theorem dX0_argue_79 : decode cX0_argue 79 = .ok (.aload_n 0, 1) := by decide +kernel
theorem dX0_argue_80 : decode cX0_argue 80 = .ok (.getfield 56, 3) := by decide +kernel
theorem dX0_argue_83 : decode cX0_argue 83 = .ok (.iload_n 1, 1) := by decide +kernel
theorem dX0_argue_84 : decode cX0_argue 84 = .ok (.iaload, 1) := by decide +kernel
theorem dX0_argue_85 : decode cX0_argue 85 = .ok (.if_icmp .ge 7, 3) := by decide +kernel
theorem dX0_argue_88 : decode cX0_argue 88 = .ok (.iconst 1, 1) := by decide +kernel
theorem dX0_argue_89 : decode cX0_argue 89 = .ok (.goto 4, 3) := by decide +kernel
theorem dX0_argue_92 : decode cX0_argue 92 = .ok (.iconst 0, 1) := by decide +kernel
theorem dX0_argue_93 : decode cX0_argue 93 = .ok (.istore 5, 2) := by decide +kernel
theorem dX0_argue_95 : decode cX0_argue 95 = .ok (.iload 5, 2) := by decide +kernel
theorem dX0_argue_97 : decode cX0_argue 97 = .ok (.ifCond .eq 25, 3) := by decide +kernel
theorem dX0_argue_100 : decode cX0_argue 100 = .ok (.aload_n 0, 1) := by decide +kernel
theorem dX0_argue_101 : decode cX0_argue 101 = .ok (.getfield 56, 3) := by decide +kernel
theorem dX0_argue_104 : decode cX0_argue 104 = .ok (.iload_n 1, 1) := by decide +kernel
theorem dX0_argue_105 : decode cX0_argue 105 = .ok (.iload_n 2, 1) := by decide +kernel
theorem dX0_argue_106 : decode cX0_argue 106 = .ok (.iastore, 1) := by decide +kernel
theorem dX0_argue_107 : decode cX0_argue 107 = .ok (.aload_n 0, 1) := by decide +kernel
theorem dX0_argue_108 : decode cX0_argue 108 = .ok (.getfield 59, 3) := by decide +kernel
theorem dX0_argue_111 : decode cX0_argue 111 = .ok (.iload_n 1, 1) := by decide +kernel
theorem dX0_argue_112 : decode cX0_argue 112 = .ok (.iload 4, 2) := by decide +kernel
theorem dX0_argue_114 : decode cX0_argue 114 = .ok (.iastore, 1) := by decide +kernel
theorem dX0_argue_115 : decode cX0_argue 115 = .ok (.aload_n 0, 1) := by decide +kernel
theorem dX0_argue_116 : decode cX0_argue 116 = .ok (.getfield 47, 3) := by decide +kernel
theorem dX0_argue_119 : decode cX0_argue 119 = .ok (.iload_n 1, 1) := by decide +kernel
theorem dX0_argue_120 : decode cX0_argue 120 = .ok (.iload_n 3, 1) := by decide +kernel
theorem dX0_argue_121 : decode cX0_argue 121 = .ok (.iastore, 1) := by decide +kernel
theorem dX0_argue_122 : decode cX0_argue 122 = .ok (.return_, 1) := by decide +kernel
end
section
abbrev vwCl : List vw_C := [(RX0, TX0, 16), (RX1, TX1, 6), (RX2, TX2, 4)]
/-! ===== truth values, and what the cells of a state are ===== -/
def zb (b : Bool) : Int32 := if b = true then 1 else 0
theorem zb_t : zb true = 1 := rfl
theorem zb_f : zb false = 0 := rfl
theorem zb_eq0 {b : Bool} : zb b = 0 ↔ b = false := by cases b <;> decide
theorem zb_ne0 {b : Bool} : ¬ zb b = 0 ↔ b = true := by cases b <;> decide
theorem zb_dec {P Q : Prop} {h1 : Decidable P} {h2 : Decidable Q} (h : P ↔ Q) : zb (@decide P h1) = zb (@decide Q h2) := by
  have : (@decide P h1) = (@decide Q h2) := by
    by_cases hp : P
    · rw [decide_eq_true hp, decide_eq_true (h.mp hp)]
    · rw [decide_eq_false hp, decide_eq_false (fun q => hp (h.mpr q))]
  rw [this]
theorem zb_narrow (b : Bool) : narrow .boolean (.int (zb b)) = .int (zb b) := by cases b <;> decide
theorem zb_nar (b : Bool) : vp_nar .boolean (zb b) = zb b := by cases b <;> decide
def zo (x : Int32) : Prop := x = 0 ∨ x = 1
theorem zo_narrow {x : Int32} (h : zo x) : narrow .boolean (.int x) = .int x := by
  rcases h with h | h <;> subst h <;> decide
theorem zo_nar {x : Int32} (h : zo x) : vp_nar .boolean x = x := by
  rcases h with h | h <;> subst h <;> decide
theorem zo_zb (b : Bool) : zo (zb b) := by cases b <;> simp [zo, zb]
theorem zo_0 : zo 0 := Or.inl rfl
theorem zo_1 : zo 1 := Or.inr rfl
theorem upd_at (f : Nat → Int32) (k : Nat) (x : Int32) : upd f k x k = x := by simp [upd]
theorem upd_ne (f : Nat → Int32) (k : Nat) (x : Int32) {j : Nat} (h : ¬ j = k) : upd f k x j = f j := by simp [upd, h]
abbrev tyL (cI cZ : ClassId) : List (ClassId × FieldType) := [(cI, .int), (cZ, .boolean)]
abbrev cL (cI cZ : ClassId) (h : Nat → Nat) (n r : Int32) (f0 f1 f2 f3 f4 f5 f6 f7 f8 f9 f10 f11 f12 f13 : Nat → Int32) : va_W := [(h 0, .inr (0, [.int n, .int r, .ref (h 1), .ref (h 2), .ref (h 3), .ref (h 4), .ref (h 5), .ref (h 6), .ref (h 7), .ref (h 8), .ref (h 9), .ref (h 10), .ref (h 11), .ref (h 12), .ref (h 13), .ref (h 14)])), (h 1, .inl (cI, 16, .inl f0)), (h 2, .inl (cI, 16, .inl f1)), (h 3, .inl (cZ, 16, .inl f2)), (h 4, .inl (cI, 16, .inl f3)), (h 5, .inl (cI, 16, .inl f4)), (h 6, .inl (cI, 16, .inl f5)), (h 7, .inl (cZ, 16, .inl f6)), (h 8, .inl (cI, 16, .inl f7)), (h 9, .inl (cI, 16, .inl f8)), (h 10, .inl (cI, 16, .inl f9)), (h 11, .inl (cI, 16, .inl f10)), (h 12, .inl (cZ, 16, .inl f11)), (h 13, .inl (cI, 16, .inl f12)), (h 14, .inl (cI, 16, .inl f13))]
abbrev cR (cI cZ : ClassId) (q h k : Nat → Nat) (bc yr : Int32) (n r : Int32) (f0 f1 f2 f3 f4 f5 f6 f7 f8 f9 f10 f11 f12 f13 : Nat → Int32) (n1 r1 : Int32) (g0 g1 g2 g3 g4 g5 g6 g7 g8 g9 g10 g11 g12 g13 : Nat → Int32) (bp bn : Nat → Int32) : va_W := (q 0, .inr (1, [.ref (h 0), .ref (k 0), .ref (q 1), .ref (q 2), .int bc, .int yr])) :: (cL cI cZ h n r f0 f1 f2 f3 f4 f5 f6 f7 f8 f9 f10 f11 f12 f13 ++ (cL cI cZ k n1 r1 g0 g1 g2 g3 g4 g5 g6 g7 g8 g9 g10 g11 g12 g13 ++ [(q 1, .inl (cI, 16, .inl bp)), (q 2, .inl (cI, 16, .inl bn))]))
end
section
/-! ===== pure words ===== -/
theorem zn_le {a b : Nat} (ha : a < 2 ^ 31) (hb : b < 2 ^ 31) (h : nI a ≤ nI b) : a ≤ b := (nI_leI ha hb).mp h
theorem zn_le' {a b : Nat} (ha : a < 2 ^ 31) (hb : b < 2 ^ 31) (h : ¬ nI a ≤ nI b) : b < a := Nat.not_le.mp fun q => h ((nI_leI ha hb).mpr q)
theorem zn_lt {a b : Nat} (ha : a < 2 ^ 31) (hb : b < 2 ^ 31) (h : nI a < nI b) : a < b := (nI_ltI ha hb).mp h
theorem zn_lt' {a b : Nat} (ha : a < 2 ^ 31) (hb : b < 2 ^ 31) (h : ¬ nI a < nI b) : b ≤ a := Nat.not_lt.mp fun q => h ((nI_ltI ha hb).mpr q)
theorem zn_eq {a b : Nat} (ha : a < 2 ^ 31) (hb : b < 2 ^ 31) (h : nI a = nI b) : a = b := (nI_eq ha hb).mp h
theorem zn_eq' {a b : Nat} (ha : a < 2 ^ 31) (hb : b < 2 ^ 31) (h : ¬ nI a = nI b) : ¬ a = b := fun q => h ((nI_eq ha hb).mpr q)
/-- a place's number -/
def isP (n : Nat) (i : Int32) : Bool := !decide (i < 0) && !decide (nI n ≤ i)
theorem isP_true {n : Nat} {i : Int32} (hn : n < 2 ^ 31) (h : isP n i = true) : ∃ q, q < n ∧ i = nI q := by
  simp only [isP, Bool.and_eq_true, Bool.not_eq_true', decide_eq_false_iff_not] at h
  rcases pk_ix i hn with h1 | h1 | h1
  · exact absurd h1 h.1
  · exact absurd h1 h.2
  · exact h1
theorem isP_nI {n q : Nat} (hn : n < 2 ^ 31) (h : q < n) : isP n (nI q) = true := by
  have h1 : ¬ nI q < 0 := nI_pos (by omega)
  have h2 : ¬ nI n ≤ nI q := nI_ge h hn
  simp [isP, h1, h2]
theorem isP_m1 (n : Nat) : isP n (-1) = false := by simp [isP]
/-- ways lead to places, or to the sea -/
def Vw (n : Nat) (w : Nat → Int32) : Prop := ∀ p, p < n → w p = -1 ∨ ∃ q, q < n ∧ w p = nI q
theorem Vw.isP {n : Nat} {w : Nat → Int32} (h : Vw n w) {p : Nat} (hp : p < n) (hn : n < 2 ^ 31) (hf : isP n (w p) = false) : w p = -1 := by
  rcases h p hp with h1 | ⟨q, hq, h1⟩
  · exact h1
  · rw [h1, isP_nI hn hq] at hf; cases hf
theorem nI_nneg {q : Nat} (h : q < 2 ^ 31) : ¬ nI q < 0 := nI_pos h
/-- a step of a walk down: the sea, or a place -/
def Vx (n : Nat) (x : Int32) : Prop := x = -1 ∨ ∃ q, q < n ∧ x = nI q
theorem Vx.lt0 {n : Nat} {x : Int32} (h : Vx n x) (hn : n < 2 ^ 31) (hf : isP n x = false) : x < 0 := by
  rcases h with h1 | ⟨q, hq, h1⟩
  · subst h1; decide
  · rw [h1, isP_nI hn hq] at hf; cases hf
def fl (w : Nat → Int32) (o : Int32) : Nat → Int32 → Bool
  | 0, _ => false
  | k + 1, x => if x < 0 then false else if x = o then true else fl w o k (w x.toNatClampNeg)
theorem fl_0 (w : Nat → Int32) (o x : Int32) : fl w o 0 x = false := rfl
theorem fl_neg (w : Nat → Int32) (o : Int32) {x : Int32} (k : Nat) (h : x < 0) : fl w o k x = false := by
  cases k with
  | zero => rfl
  | succ k => simp [fl, h]
theorem fl_hit (w : Nat → Int32) (o : Int32) {q k : Nat} (hq : q < 2 ^ 31) (h : nI q = o) : fl w o (k + 1) (nI q) = true := by
  have h1 := nI_nneg hq
  simp [fl, h]
  rw [← h]; exact Int32.not_lt.mp h1
theorem fl_go (w : Nat → Int32) (o : Int32) {q k : Nat} (hq : q < 2 ^ 31) (h : ¬ nI q = o) : fl w o (k + 1) (nI q) = fl w o k (w q) := by
  have h1 := nI_nneg hq
  simp [fl, h, h1, nI_clamp hq]
def mo (w : Nat → Int32) : Nat → Nat → Nat
  | 0, p => p
  | k + 1, p => if w p < 0 then p else mo w k (w p).toNatClampNeg
theorem mo_neg (w : Nat → Int32) {p : Nat} (k : Nat) (h : w p < 0) : mo w k p = p := by
  cases k with
  | zero => rfl
  | succ k => simp [mo, h]
theorem mo_go (w : Nat → Int32) {p q k : Nat} (hq : q < 2 ^ 31) (h : w p = nI q) : mo w (k + 1) p = mo w k q := by
  have h1 := nI_nneg hq
  simp [mo, h, h1, nI_clamp hq]
def cs (w : Nat → Int32) : Nat → Int32 → Nat
  | 0, _ => 0
  | k + 1, x => if x < 0 then 0 else cs w k (w x.toNatClampNeg) + 1
theorem cs_neg (w : Nat → Int32) {x : Int32} (k : Nat) (h : x < 0) : cs w k x = 0 := by
  cases k with
  | zero => rfl
  | succ k => simp [cs, h]
theorem cs_go (w : Nat → Int32) {q k : Nat} (hq : q < 2 ^ 31) : cs w (k + 1) (nI q) = cs w k (w q) + 1 := by
  have h1 := nI_nneg hq
  simp [cs, h1, nI_clamp hq]
def fc (w : Nat → Int32) (b : Nat) : Nat → Int32 → Int32
  | 0, _ => -1
  | k + 1, x => if x < 0 then -1 else if x = nI b ∨ fl w x 16 (w b) = true then x else fc w b k (w x.toNatClampNeg)
theorem fc_neg (w : Nat → Int32) (b : Nat) {x : Int32} (k : Nat) (h : x < 0) : fc w b k x = -1 := by
  cases k with
  | zero => rfl
  | succ k => simp [fc, h]
theorem fc_hit (w : Nat → Int32) (b : Nat) {q k : Nat} (hq : q < 2 ^ 31) (h : nI q = nI b ∨ fl w (nI q) 16 (w b) = true) : fc w b (k + 1) (nI q) = nI q := by
  have h1 := nI_nneg hq
  simp only [fc]
  rw [if_neg h1, if_pos h]
theorem fc_go (w : Nat → Int32) (b : Nat) {q k : Nat} (hq : q < 2 ^ 31) (h1 : ¬ nI q = nI b) (h2 : fl w (nI q) 16 (w b) = false) : fc w b (k + 1) (nI q) = fc w b k (w q) := by
  have h3 := nI_nneg hq
  simp only [fc]
  rw [if_neg h3, if_neg (by rw [h2]; simp [h1]), nI_clamp hq]
/-- how many of the first j hold x -/
def cnt (f : Nat → Int32) (x : Int32) : Nat → Nat
  | 0 => 0
  | j + 1 => cnt f x j + (if f j = x then 1 else 0)
theorem cnt_le (f : Nat → Int32) (x : Int32) (j : Nat) : cnt f x j ≤ j := by
  induction j with
  | zero => exact Nat.le_refl 0
  | succ j ih => simp only [cnt]; split <;> omega
theorem cnt_y (f : Nat → Int32) (x : Int32) {j : Nat} (h : f j = x) : cnt f x (j + 1) = cnt f x j + 1 := by simp [cnt, h]
theorem cnt_n (f : Nat → Int32) (x : Int32) {j : Nat} (h : ¬ f j = x) : cnt f x (j + 1) = cnt f x j := by simp [cnt, h]
def cne (f g : Nat → Int32) : Nat → Nat
  | 0 => 0
  | j + 1 => cne f g j + (if f j = g j then 0 else 1)
theorem cne_le (f g : Nat → Int32) (j : Nat) : cne f g j ≤ j := by
  induction j with
  | zero => exact Nat.le_refl 0
  | succ j ih => simp only [cne]; split <;> omega
theorem cne_n (f g : Nat → Int32) {j : Nat} (h : f j = g j) : cne f g (j + 1) = cne f g j := by simp [cne, h]
theorem cne_y (f g : Nat → Int32) {j : Nat} (h : ¬ f j = g j) : cne f g (j + 1) = cne f g j + 1 := by simp [cne, h]
/-- what an arguer does to name, arguers, disputed, winner, strength of a place -/
def arg5 (del who nm str a9 a10 a11 a12 a13 : Int32) : Int32 × Int32 × Int32 × Int32 × Int32 :=
  if ¬ del = 0 then (a9, a10, a11, a12, a13) else
  if a12 = -1 ∨ a13 < str ∨ (str = a13 ∧ ¬ a12 ≤ who) then (nm, a10 + 1, (if ¬ a10 ≤ 0 ∧ ¬ nm = a9 then 1 else a11), who, str)
  else (a9, a10 + 1, (if ¬ a10 ≤ 0 ∧ ¬ nm = a9 then 1 else a11), a12, a13)
end
section
/-! ===== one judgement for a walk: the machine at a place, with these cells, these locals, this stack ===== -/
section ZV0
def zv_C (p : Program) (m : MethodId) (c : Code) (cc : ByteArray) (nL : Nat) (s : State) (args : Array Value) (Ts : List Cond) (own : String) (A : Nat → Prop) : Prop := CallFix p m c cc nL s args Ts own ∧ ∀ q, s.heap.size ≤ q → A q
def zv_V (p : Program) (l : Launch) (e : Env) (R : Room) (s : State) (m : MethodId) (args : Array Value) (below : List Frame) (meth : Method) (c : Code) (Q : State → Prop) (nL : Nat) (D : va_G) (cl : List vw_C) (A B : Nat → Prop) (tys : List (ClassId × FieldType)) (ws : va_W) (kc ns pc : Nat) (lv : List (Nat × Value)) (st : List Value) : Prop :=
  ∀ (H : Heap) (locs : List Loc) (ls : Array Slot), va_K D cl tys s → va_P D cl ws H → va_D B ws → va_S A s.heap H locs → lv_has ls nL lv → W p l e R s m args below meth c H locs kc ns Q (F0 m pc ls st)
/-- an end: returned, the world as post says -/
def zv_q (D : va_G) (cl : List vw_C) (A : Nat → Prop) (post : Option Value → va_W → Prop) : Array Value → State → Outcome → State → Prop := fun _ sa oc t => (∃ (v : Option Value) (w : va_W), oc = .returned v ∧ post v w ∧ va_P D cl w t.heap ∧ va_D A w) ∧ va_F A sa t
/-- an end of a method that writes nothing -/
def zv_r (post : Option Value → Prop) : Array Value → State → Outcome → State → Prop := fun _ sa oc t => (∃ v : Option Value, oc = .returned v ∧ post v) ∧ va_F (fun q => sa.heap.size ≤ q) sa t
def zv_pre (D : va_G) (cl : List vw_C) (tys : List (ClassId × FieldType)) (ws : va_W) (sz : Nat) : State → Prop := fun U => U.heap.size = sz ∧ va_P D cl ws U.heap ∧ va_K D cl tys U ∧ va_D (fun _ => True) ws
def zv_M (l : Launch) (y : MethodName) (wy : List Cond) (rm : Room) (D : va_G) (cl : List vw_C) (tys : List (ClassId × FieldType)) (av : List Value) (ws : va_W) (post : Option Value → va_W → Prop) : Prop := ∀ sz : Nat, Met l y wy rm (va_Pc av (zv_pre D cl tys ws sz)) (zv_q D cl (va_A ws sz) post) rm.cells rm.slots (va_A ws sz)
def zv_R (l : Launch) (y : MethodName) (wy : List Cond) (rm : Room) (D : va_G) (cl : List vw_C) (tys : List (ClassId × FieldType)) (av : List Value) (ws : va_W) (post : Option Value → Prop) : Prop := ∀ sz : Nat, Met l y wy rm (va_Pc av (zv_pre D cl tys ws sz)) (zv_r post) rm.cells rm.slots (fun q => sz ≤ q)
theorem zv_blind (D : va_G) (cl : List vw_C) (tys : List (ClassId × FieldType)) (ws : va_W) (sz : Nat) (av : List Value) : FrameBlind (va_Pc av (zv_pre D cl tys ws sz)) := fun a U g mk q => by
  obtain ⟨q0, q1, qP, qK, qD⟩ := q
  exact ⟨q0, q1, qP, va_K.moved (u := U) (U := U.calling g mk a) (Vm.Alike.refl U.vm) qK, qD⟩
theorem zv_subP {D : va_G} {cl : List vw_C} {ws ws' : va_W} {H : Heap} (h : va_P D cl ws H) (is : List Nat) (hs : is.map (fun i => ws[i]?) = ws'.map some) : va_P D cl ws' H := by
  intro k q hk
  have h1 : (is.map (fun i => ws[i]?))[k]? = some (some q) := by rw [hs, List.getElem?_map, hk]; rfl
  rw [List.getElem?_map] at h1
  cases hi : is[k]? with
  | none => rw [hi] at h1; cases h1
  | some i => rw [hi] at h1; exact h i q (Option.some.inj h1)
end ZV0
section ZV1
variable {p : Program} {l : Launch} {e : Env} {R : Room} {s : State} {m : MethodId} {args : Array Value} {below : List Frame} {meth : Method} {c : Code} {Q : State → Prop} {cc : ByteArray} {nL : Nat} {own : String} {Ts : List Cond} {A B : Nat → Prop} {D : va_G} {cl : List vw_C} {tys : List (ClassId × FieldType)} {ws : va_W} {kc ns pc n : Nat} {lv : List (Nat × Value)} {st : List Value}
theorem zv_iload_n (C : zv_C p m c cc nL s args Ts own A) {k : Fin 4} {x : Int32} (hdg : decode cc pc = .ok (.iload_n k, 1)) (n : Nat) (hn : pc + 1 = n) (j : Nat) (hl : lv[j]? = some ((k : Nat), .int x)) (kk : zv_V p l e R s m args below meth c Q nL D cl A B tys ws kc ns n lv (.int x :: st)) : zv_V p l e R s m args below meth c Q nL D cl A B tys ws kc ns pc lv (st) := by
  subst hn
  exact fun H locs ls hK hP hD hS h => lv_iload_n C.1.1 C.1.2.1 hdg rfl (lv_at h j hl) (kk H locs ls hK hP hD hS h)
theorem zv_iload (C : zv_C p m c cc nL s args Ts own A) {i : Nat} {x : Int32} (hdg : decode cc pc = .ok (.iload i, 2)) (n : Nat) (hn : pc + 2 = n) (j : Nat) (hl : lv[j]? = some (i, .int x)) (kk : zv_V p l e R s m args below meth c Q nL D cl A B tys ws kc ns n lv (.int x :: st)) : zv_V p l e R s m args below meth c Q nL D cl A B tys ws kc ns pc lv (st) := by
  subst hn
  exact fun H locs ls hK hP hD hS h => lv_iload C.1.1 C.1.2.1 hdg (lv_at h j hl) (kk H locs ls hK hP hD hS h)
theorem zv_istore_n (C : zv_C p m c cc nL s args Ts own A) {k : Fin 4} {x : Int32} (hdg : decode cc pc = .ok (.istore_n k, 1)) (n : Nat) (hn : pc + 1 = n) (lv' : List (Nat × Value)) (hlt : (k : Nat) < nL) (hl : ((k : Nat), Value.int x) :: lv.filter (fun q => !(q.1 == (k : Nat)) && !(q.1 + 1 == (k : Nat) && q.2.category == 2)) = lv') (kk : zv_V p l e R s m args below meth c Q nL D cl A B tys ws kc ns n lv' (st)) : zv_V p l e R s m args below meth c Q nL D cl A B tys ws kc ns pc lv (.int x :: st) := by
  subst hn
  exact fun H locs ls hK hP hD hS h => lv_istore_n C.1.1 C.1.2.1 hdg rfl h hlt hl (fun ls h => (kk H locs ls hK hP hD hS h))
theorem zv_istore (C : zv_C p m c cc nL s args Ts own A) {i : Nat} {x : Int32} (hdg : decode cc pc = .ok (.istore i, 2)) (n : Nat) (hn : pc + 2 = n) (lv' : List (Nat × Value)) (hlt : i < nL) (hl : (i, Value.int x) :: lv.filter (fun q => !(q.1 == i) && !(q.1 + 1 == i && q.2.category == 2)) = lv') (kk : zv_V p l e R s m args below meth c Q nL D cl A B tys ws kc ns n lv' (st)) : zv_V p l e R s m args below meth c Q nL D cl A B tys ws kc ns pc lv (.int x :: st) := by
  subst hn
  exact fun H locs ls hK hP hD hS h => lv_istore C.1.1 C.1.2.1 hdg h hlt hl (fun ls h => (kk H locs ls hK hP hD hS h))
theorem zv_aload_n (C : zv_C p m c cc nL s args Ts own A) {k : Fin 4} {x : Nat} (hdg : decode cc pc = .ok (.aload_n k, 1)) (n : Nat) (hn : pc + 1 = n) (j : Nat) (hl : lv[j]? = some ((k : Nat), .ref x)) (kk : zv_V p l e R s m args below meth c Q nL D cl A B tys ws kc ns n lv (.ref x :: st)) : zv_V p l e R s m args below meth c Q nL D cl A B tys ws kc ns pc lv (st) := by
  subst hn
  exact fun H locs ls hK hP hD hS h => lv_aload_n C.1.1 C.1.2.1 hdg rfl (lv_at h j hl) (kk H locs ls hK hP hD hS h)
theorem zv_aload (C : zv_C p m c cc nL s args Ts own A) {i : Nat} {x : Nat} (hdg : decode cc pc = .ok (.aload i, 2)) (n : Nat) (hn : pc + 2 = n) (j : Nat) (hl : lv[j]? = some (i, .ref x)) (kk : zv_V p l e R s m args below meth c Q nL D cl A B tys ws kc ns n lv (.ref x :: st)) : zv_V p l e R s m args below meth c Q nL D cl A B tys ws kc ns pc lv (st) := by
  subst hn
  exact fun H locs ls hK hP hD hS h => lv_aload C.1.1 C.1.2.1 hdg (lv_at h j hl) (kk H locs ls hK hP hD hS h)
theorem zv_astore_n (C : zv_C p m c cc nL s args Ts own A) {k : Fin 4} {x : Nat} (hdg : decode cc pc = .ok (.astore_n k, 1)) (n : Nat) (hn : pc + 1 = n) (lv' : List (Nat × Value)) (hlt : (k : Nat) < nL) (hl : ((k : Nat), Value.ref x) :: lv.filter (fun q => !(q.1 == (k : Nat)) && !(q.1 + 1 == (k : Nat) && q.2.category == 2)) = lv') (kk : zv_V p l e R s m args below meth c Q nL D cl A B tys ws kc ns n lv' (st)) : zv_V p l e R s m args below meth c Q nL D cl A B tys ws kc ns pc lv (.ref x :: st) := by
  subst hn
  exact fun H locs ls hK hP hD hS h => lv_astore_n C.1.1 C.1.2.1 hdg rfl h hlt hl (fun ls h => (kk H locs ls hK hP hD hS h))
theorem zv_astore (C : zv_C p m c cc nL s args Ts own A) {i : Nat} {x : Nat} (hdg : decode cc pc = .ok (.astore i, 2)) (n : Nat) (hn : pc + 2 = n) (lv' : List (Nat × Value)) (hlt : i < nL) (hl : (i, Value.ref x) :: lv.filter (fun q => !(q.1 == i) && !(q.1 + 1 == i && q.2.category == 2)) = lv') (kk : zv_V p l e R s m args below meth c Q nL D cl A B tys ws kc ns n lv' (st)) : zv_V p l e R s m args below meth c Q nL D cl A B tys ws kc ns pc lv (.ref x :: st) := by
  subst hn
  exact fun H locs ls hK hP hD hS h => lv_astore C.1.1 C.1.2.1 hdg h hlt hl (fun ls h => (kk H locs ls hK hP hD hS h))
theorem zv_lload_n (C : zv_C p m c cc nL s args Ts own A) {k : Fin 4} {x : Int64} (hdg : decode cc pc = .ok (.lload_n k, 1)) (n : Nat) (hn : pc + 1 = n) (j : Nat) (hl : lv[j]? = some ((k : Nat), .long x)) (kk : zv_V p l e R s m args below meth c Q nL D cl A B tys ws kc ns n lv (.long x :: st)) : zv_V p l e R s m args below meth c Q nL D cl A B tys ws kc ns pc lv (st) := by
  subst hn
  exact fun H locs ls hK hP hD hS h => lv_lload_n C.1.1 C.1.2.1 hdg rfl (lv_at h j hl) (kk H locs ls hK hP hD hS h)
theorem zv_lload (C : zv_C p m c cc nL s args Ts own A) {i : Nat} {x : Int64} (hdg : decode cc pc = .ok (.lload i, 2)) (n : Nat) (hn : pc + 2 = n) (j : Nat) (hl : lv[j]? = some (i, .long x)) (kk : zv_V p l e R s m args below meth c Q nL D cl A B tys ws kc ns n lv (.long x :: st)) : zv_V p l e R s m args below meth c Q nL D cl A B tys ws kc ns pc lv (st) := by
  subst hn
  exact fun H locs ls hK hP hD hS h => lv_lload C.1.1 C.1.2.1 hdg (lv_at h j hl) (kk H locs ls hK hP hD hS h)
theorem zv_lstore_n (C : zv_C p m c cc nL s args Ts own A) {k : Fin 4} {x : Int64} (hdg : decode cc pc = .ok (.lstore_n k, 1)) (n : Nat) (hn : pc + 1 = n) (lv' : List (Nat × Value)) (hlt : (k : Nat) + 1 < nL) (hl : ((k : Nat), Value.long x) :: lv.filter (fun q => !(q.1 == (k : Nat)) && (!(q.1 == (k : Nat) + 1) && !(q.1 + 1 == (k : Nat) && q.2.category == 2))) = lv') (kk : zv_V p l e R s m args below meth c Q nL D cl A B tys ws kc ns n lv' (st)) : zv_V p l e R s m args below meth c Q nL D cl A B tys ws kc ns pc lv (.long x :: st) := by
  subst hn
  exact fun H locs ls hK hP hD hS h => lv_lstore_n C.1.1 C.1.2.1 hdg rfl h hlt hl (fun ls h => (kk H locs ls hK hP hD hS h))
theorem zv_lstore (C : zv_C p m c cc nL s args Ts own A) {i : Nat} {x : Int64} (hdg : decode cc pc = .ok (.lstore i, 2)) (n : Nat) (hn : pc + 2 = n) (lv' : List (Nat × Value)) (hlt : i + 1 < nL) (hl : (i, Value.long x) :: lv.filter (fun q => !(q.1 == i) && (!(q.1 == i + 1) && !(q.1 + 1 == i && q.2.category == 2))) = lv') (kk : zv_V p l e R s m args below meth c Q nL D cl A B tys ws kc ns n lv' (st)) : zv_V p l e R s m args below meth c Q nL D cl A B tys ws kc ns pc lv (.long x :: st) := by
  subst hn
  exact fun H locs ls hK hP hD hS h => lv_lstore C.1.1 C.1.2.1 hdg h hlt hl (fun ls h => (kk H locs ls hK hP hD hS h))
theorem zv_dload (C : zv_C p m c cc nL s args Ts own A) {i : Nat} {x : UInt64} (hdg : decode cc pc = .ok (.dload i, 2)) (n : Nat) (hn : pc + 2 = n) (j : Nat) (hl : lv[j]? = some (i, .double x)) (kk : zv_V p l e R s m args below meth c Q nL D cl A B tys ws kc ns n lv (.double x :: st)) : zv_V p l e R s m args below meth c Q nL D cl A B tys ws kc ns pc lv (st) := by
  subst hn
  exact fun H locs ls hK hP hD hS h => lv_dload C.1.1 C.1.2.1 hdg (lv_at h j hl) (kk H locs ls hK hP hD hS h)
theorem zv_dstore (C : zv_C p m c cc nL s args Ts own A) {i : Nat} {x : UInt64} (hdg : decode cc pc = .ok (.dstore i, 2)) (n : Nat) (hn : pc + 2 = n) (lv' : List (Nat × Value)) (hlt : i + 1 < nL) (hl : (i, Value.double x) :: lv.filter (fun q => !(q.1 == i) && (!(q.1 == i + 1) && !(q.1 + 1 == i && q.2.category == 2))) = lv') (kk : zv_V p l e R s m args below meth c Q nL D cl A B tys ws kc ns n lv' (st)) : zv_V p l e R s m args below meth c Q nL D cl A B tys ws kc ns pc lv (.double x :: st) := by
  subst hn
  exact fun H locs ls hK hP hD hS h => lv_dstore C.1.1 C.1.2.1 hdg h hlt hl (fun ls h => (kk H locs ls hK hP hD hS h))
theorem zv_iinc (C : zv_C p m c cc nL s args Ts own A) {i : Nat} {z : Int} {x v : Int32} (hdg : decode cc pc = .ok (.iinc i z, 3)) (n : Nat) (hn : pc + 3 = n) (lv' : List (Nat × Value)) (j : Nat) (hk : lv[j]? = some (i, .int x)) (hv : x + Int32.ofInt z = v) (hlt : i < nL) (hl : (i, Value.int v) :: lv.filter (fun q => !(q.1 == i) && !(q.1 + 1 == i && q.2.category == 2)) = lv') (kk : zv_V p l e R s m args below meth c Q nL D cl A B tys ws kc ns n lv' (st)) : zv_V p l e R s m args below meth c Q nL D cl A B tys ws kc ns pc lv (st) := by
  subst hn
  exact fun H locs ls hK hP hD hS h => lv_iinc C.1.1 C.1.2.1 hdg h hk hv hlt hl (fun ls h => (kk H locs ls hK hP hD hS h))
theorem zv_iconst (C : zv_C p m c cc nL s args Ts own A) {z : Int} {v : Int32} (hdg : decode cc pc = .ok (.iconst z, 1)) (n : Nat) (hn : pc + 1 = n) (hv : Int32.ofInt z = v) (kk : zv_V p l e R s m args below meth c Q nL D cl A B tys ws kc ns n lv (.int v :: st)) : zv_V p l e R s m args below meth c Q nL D cl A B tys ws kc ns pc lv (st) := by
  subst hn
  exact fun H locs ls hK hP hD hS h => lv_iconst C.1.1 C.1.2.1 hdg hv (kk H locs ls hK hP hD hS h)
theorem zv_bipush (C : zv_C p m c cc nL s args Ts own A) {z : Int} {v : Int32} (hdg : decode cc pc = .ok (.bipush z, 2)) (n : Nat) (hn : pc + 2 = n) (hv : (Int8.ofInt z).toInt32 = v) (kk : zv_V p l e R s m args below meth c Q nL D cl A B tys ws kc ns n lv (.int v :: st)) : zv_V p l e R s m args below meth c Q nL D cl A B tys ws kc ns pc lv (st) := by
  subst hn
  exact fun H locs ls hK hP hD hS h => lv_bipush C.1.1 C.1.2.1 hdg hv (kk H locs ls hK hP hD hS h)
theorem zv_lconst (C : zv_C p m c cc nL s args Ts own A) {z : Fin 2} {v : Int64} (hdg : decode cc pc = .ok (.lconst z, 1)) (n : Nat) (hn : pc + 1 = n) (hv : Int64.ofNat (z : Nat) = v) (kk : zv_V p l e R s m args below meth c Q nL D cl A B tys ws kc ns n lv (.long v :: st)) : zv_V p l e R s m args below meth c Q nL D cl A B tys ws kc ns pc lv (st) := by
  subst hn
  exact fun H locs ls hK hP hD hS h => lv_lconst C.1.1 C.1.2.1 hdg hv (kk H locs ls hK hP hD hS h)
theorem zv_dup (C : zv_C p m c cc nL s args Ts own A) {va : Value} (hdg : decode cc pc = .ok (.dup, 1)) (n : Nat) (hn : pc + 1 = n) (hva : va.category = 1) (kk : zv_V p l e R s m args below meth c Q nL D cl A B tys ws kc ns n lv (va :: va :: st)) : zv_V p l e R s m args below meth c Q nL D cl A B tys ws kc ns pc lv (va :: st) := by
  subst hn
  exact fun H locs ls hK hP hD hS h => lv_dup C.1.1 C.1.2.1 hdg hva (kk H locs ls hK hP hD hS h)
theorem zv_dup2 (C : zv_C p m c cc nL s args Ts own A) {va vb : Value} (hdg : decode cc pc = .ok (.dup2, 1)) (n : Nat) (hn : pc + 1 = n) (hva : va.category = 1) (hvb : vb.category = 1) (kk : zv_V p l e R s m args below meth c Q nL D cl A B tys ws kc ns n lv (va :: vb :: va :: vb :: st)) : zv_V p l e R s m args below meth c Q nL D cl A B tys ws kc ns pc lv (va :: vb :: st) := by
  subst hn
  exact fun H locs ls hK hP hD hS h => lv_dup2_11 C.1.1 C.1.2.1 hdg hva hvb (kk H locs ls hK hP hD hS h)
theorem zv_iadd (C : zv_C p m c cc nL s args Ts own A) {x y v : Int32} (hdg : decode cc pc = .ok (.iadd, 1)) (n : Nat) (hn : pc + 1 = n) (hv : x + y = v) (kk : zv_V p l e R s m args below meth c Q nL D cl A B tys ws kc ns n lv (.int v :: st)) : zv_V p l e R s m args below meth c Q nL D cl A B tys ws kc ns pc lv (.int y :: .int x :: st) := by
  subst hn
  exact fun H locs ls hK hP hD hS h => lv_iadd C.1.1 C.1.2.1 hdg (by rw [hv]; exact (kk H locs ls hK hP hD hS h))
theorem zv_isub (C : zv_C p m c cc nL s args Ts own A) {x y v : Int32} (hdg : decode cc pc = .ok (.isub, 1)) (n : Nat) (hn : pc + 1 = n) (hv : x - y = v) (kk : zv_V p l e R s m args below meth c Q nL D cl A B tys ws kc ns n lv (.int v :: st)) : zv_V p l e R s m args below meth c Q nL D cl A B tys ws kc ns pc lv (.int y :: .int x :: st) := by
  subst hn
  exact fun H locs ls hK hP hD hS h => lv_isub C.1.1 C.1.2.1 hdg (by rw [hv]; exact (kk H locs ls hK hP hD hS h))
theorem zv_imul (C : zv_C p m c cc nL s args Ts own A) {x y v : Int32} (hdg : decode cc pc = .ok (.imul, 1)) (n : Nat) (hn : pc + 1 = n) (hv : x * y = v) (kk : zv_V p l e R s m args below meth c Q nL D cl A B tys ws kc ns n lv (.int v :: st)) : zv_V p l e R s m args below meth c Q nL D cl A B tys ws kc ns pc lv (.int y :: .int x :: st) := by
  subst hn
  exact fun H locs ls hK hP hD hS h => lv_imul C.1.1 C.1.2.1 hdg (by rw [hv]; exact (kk H locs ls hK hP hD hS h))
theorem zv_iand (C : zv_C p m c cc nL s args Ts own A) {x y v : Int32} (hdg : decode cc pc = .ok (.iand, 1)) (n : Nat) (hn : pc + 1 = n) (hv : x &&& y = v) (kk : zv_V p l e R s m args below meth c Q nL D cl A B tys ws kc ns n lv (.int v :: st)) : zv_V p l e R s m args below meth c Q nL D cl A B tys ws kc ns pc lv (.int y :: .int x :: st) := by
  subst hn
  exact fun H locs ls hK hP hD hS h => lv_iand C.1.1 C.1.2.1 hdg (by rw [hv]; exact (kk H locs ls hK hP hD hS h))
theorem zv_ladd (C : zv_C p m c cc nL s args Ts own A) {x y : Int64} (hdg : decode cc pc = .ok (.ladd, 1)) (n : Nat) (hn : pc + 1 = n)  (kk : zv_V p l e R s m args below meth c Q nL D cl A B tys ws kc ns n lv (.long (x + y) :: st)) : zv_V p l e R s m args below meth c Q nL D cl A B tys ws kc ns pc lv (.long y :: .long x :: st) := by
  subst hn
  exact fun H locs ls hK hP hD hS h => lv_ladd C.1.1 C.1.2.1 hdg (kk H locs ls hK hP hD hS h)
theorem zv_lmul (C : zv_C p m c cc nL s args Ts own A) {x y : Int64} (hdg : decode cc pc = .ok (.lmul, 1)) (n : Nat) (hn : pc + 1 = n)  (kk : zv_V p l e R s m args below meth c Q nL D cl A B tys ws kc ns n lv (.long (x * y) :: st)) : zv_V p l e R s m args below meth c Q nL D cl A B tys ws kc ns pc lv (.long y :: .long x :: st) := by
  subst hn
  exact fun H locs ls hK hP hD hS h => lv_lmul C.1.1 C.1.2.1 hdg (kk H locs ls hK hP hD hS h)
theorem zv_i2l (C : zv_C p m c cc nL s args Ts own A) {x : Int32} (hdg : decode cc pc = .ok (.i2l, 1)) (n : Nat) (hn : pc + 1 = n)  (kk : zv_V p l e R s m args below meth c Q nL D cl A B tys ws kc ns n lv (.long x.toInt64 :: st)) : zv_V p l e R s m args below meth c Q nL D cl A B tys ws kc ns pc lv (.int x :: st) := by
  subst hn
  exact fun H locs ls hK hP hD hS h => lv_i2l C.1.1 C.1.2.1 hdg rfl (kk H locs ls hK hP hD hS h)
theorem zv_if_eq (C : zv_C p m c cc nL s args Ts own A) {x : Int32} {off : Int} (hdg : decode cc pc = .ok (.ifCond .eq off, 3)) (n tgt : Nat) (hn : pc + 3 = n) (ht : (pc : Int) + off = (tgt : Int)) (kt : x = 0 → zv_V p l e R s m args below meth c Q nL D cl A B tys ws kc ns tgt lv (st)) (kf : ¬ x = 0 → zv_V p l e R s m args below meth c Q nL D cl A B tys ws kc ns n lv (st)) : zv_V p l e R s m args below meth c Q nL D cl A B tys ws kc ns pc lv (.int x :: st) := by
  subst hn
  exact fun H locs ls hK hP hD hS h => lv_if_eq C.1.1 C.1.2.1 hdg ht (fun q => kt q H locs ls hK hP hD hS h) (fun q => kf q H locs ls hK hP hD hS h)
theorem zv_if_ne (C : zv_C p m c cc nL s args Ts own A) {x : Int32} {off : Int} (hdg : decode cc pc = .ok (.ifCond .ne off, 3)) (n tgt : Nat) (hn : pc + 3 = n) (ht : (pc : Int) + off = (tgt : Int)) (kt : ¬ x = 0 → zv_V p l e R s m args below meth c Q nL D cl A B tys ws kc ns tgt lv (st)) (kf : x = 0 → zv_V p l e R s m args below meth c Q nL D cl A B tys ws kc ns n lv (st)) : zv_V p l e R s m args below meth c Q nL D cl A B tys ws kc ns pc lv (.int x :: st) := by
  subst hn
  exact fun H locs ls hK hP hD hS h => lv_if_ne C.1.1 C.1.2.1 hdg ht (fun q => kt q H locs ls hK hP hD hS h) (fun q => kf q H locs ls hK hP hD hS h)
theorem zv_if_lt (C : zv_C p m c cc nL s args Ts own A) {x : Int32} {off : Int} (hdg : decode cc pc = .ok (.ifCond .lt off, 3)) (n tgt : Nat) (hn : pc + 3 = n) (ht : (pc : Int) + off = (tgt : Int)) (kt : x < 0 → zv_V p l e R s m args below meth c Q nL D cl A B tys ws kc ns tgt lv (st)) (kf : ¬ x < 0 → zv_V p l e R s m args below meth c Q nL D cl A B tys ws kc ns n lv (st)) : zv_V p l e R s m args below meth c Q nL D cl A B tys ws kc ns pc lv (.int x :: st) := by
  subst hn
  exact fun H locs ls hK hP hD hS h => lv_if_lt C.1.1 C.1.2.1 hdg ht (fun q => kt q H locs ls hK hP hD hS h) (fun q => kf q H locs ls hK hP hD hS h)
theorem zv_if_le (C : zv_C p m c cc nL s args Ts own A) {x : Int32} {off : Int} (hdg : decode cc pc = .ok (.ifCond .le off, 3)) (n tgt : Nat) (hn : pc + 3 = n) (ht : (pc : Int) + off = (tgt : Int)) (kt : x ≤ 0 → zv_V p l e R s m args below meth c Q nL D cl A B tys ws kc ns tgt lv (st)) (kf : ¬ x ≤ 0 → zv_V p l e R s m args below meth c Q nL D cl A B tys ws kc ns n lv (st)) : zv_V p l e R s m args below meth c Q nL D cl A B tys ws kc ns pc lv (.int x :: st) := by
  subst hn
  exact fun H locs ls hK hP hD hS h => lv_if_le C.1.1 C.1.2.1 hdg ht (fun q => kt q H locs ls hK hP hD hS h) (fun q => kf q H locs ls hK hP hD hS h)
theorem zv_if_gt (C : zv_C p m c cc nL s args Ts own A) {x : Int32} {off : Int} (hdg : decode cc pc = .ok (.ifCond .gt off, 3)) (n tgt : Nat) (hn : pc + 3 = n) (ht : (pc : Int) + off = (tgt : Int)) (kt : 0 < x → zv_V p l e R s m args below meth c Q nL D cl A B tys ws kc ns tgt lv (st)) (kf : ¬ 0 < x → zv_V p l e R s m args below meth c Q nL D cl A B tys ws kc ns n lv (st)) : zv_V p l e R s m args below meth c Q nL D cl A B tys ws kc ns pc lv (.int x :: st) := by
  subst hn
  exact fun H locs ls hK hP hD hS h => lv_if_gt C.1.1 C.1.2.1 hdg ht (fun q => kt q H locs ls hK hP hD hS h) (fun q => kf q H locs ls hK hP hD hS h)
theorem zv_if_ge (C : zv_C p m c cc nL s args Ts own A) {x : Int32} {off : Int} (hdg : decode cc pc = .ok (.ifCond .ge off, 3)) (n tgt : Nat) (hn : pc + 3 = n) (ht : (pc : Int) + off = (tgt : Int)) (kt : 0 ≤ x → zv_V p l e R s m args below meth c Q nL D cl A B tys ws kc ns tgt lv (st)) (kf : ¬ 0 ≤ x → zv_V p l e R s m args below meth c Q nL D cl A B tys ws kc ns n lv (st)) : zv_V p l e R s m args below meth c Q nL D cl A B tys ws kc ns pc lv (.int x :: st) := by
  subst hn
  exact fun H locs ls hK hP hD hS h => lv_if_ge C.1.1 C.1.2.1 hdg ht (fun q => kt q H locs ls hK hP hD hS h) (fun q => kf q H locs ls hK hP hD hS h)
theorem zv_icmp_eq (C : zv_C p m c cc nL s args Ts own A) {x y : Int32} {off : Int} (hdg : decode cc pc = .ok (.if_icmp .eq off, 3)) (n tgt : Nat) (hn : pc + 3 = n) (ht : (pc : Int) + off = (tgt : Int)) (kt : x = y → zv_V p l e R s m args below meth c Q nL D cl A B tys ws kc ns tgt lv (st)) (kf : ¬ x = y → zv_V p l e R s m args below meth c Q nL D cl A B tys ws kc ns n lv (st)) : zv_V p l e R s m args below meth c Q nL D cl A B tys ws kc ns pc lv (.int y :: .int x :: st) := by
  subst hn
  exact fun H locs ls hK hP hD hS h => lv_icmp_eq C.1.1 C.1.2.1 hdg ht (fun q => kt q H locs ls hK hP hD hS h) (fun q => kf q H locs ls hK hP hD hS h)
theorem zv_icmp_ne (C : zv_C p m c cc nL s args Ts own A) {x y : Int32} {off : Int} (hdg : decode cc pc = .ok (.if_icmp .ne off, 3)) (n tgt : Nat) (hn : pc + 3 = n) (ht : (pc : Int) + off = (tgt : Int)) (kt : ¬ x = y → zv_V p l e R s m args below meth c Q nL D cl A B tys ws kc ns tgt lv (st)) (kf : x = y → zv_V p l e R s m args below meth c Q nL D cl A B tys ws kc ns n lv (st)) : zv_V p l e R s m args below meth c Q nL D cl A B tys ws kc ns pc lv (.int y :: .int x :: st) := by
  subst hn
  exact fun H locs ls hK hP hD hS h => lv_icmp_ne C.1.1 C.1.2.1 hdg ht (fun q => kt q H locs ls hK hP hD hS h) (fun q => kf q H locs ls hK hP hD hS h)
theorem zv_icmp_lt (C : zv_C p m c cc nL s args Ts own A) {x y : Int32} {off : Int} (hdg : decode cc pc = .ok (.if_icmp .lt off, 3)) (n tgt : Nat) (hn : pc + 3 = n) (ht : (pc : Int) + off = (tgt : Int)) (kt : x < y → zv_V p l e R s m args below meth c Q nL D cl A B tys ws kc ns tgt lv (st)) (kf : ¬ x < y → zv_V p l e R s m args below meth c Q nL D cl A B tys ws kc ns n lv (st)) : zv_V p l e R s m args below meth c Q nL D cl A B tys ws kc ns pc lv (.int y :: .int x :: st) := by
  subst hn
  exact fun H locs ls hK hP hD hS h => lv_icmp_lt C.1.1 C.1.2.1 hdg ht (fun q => kt q H locs ls hK hP hD hS h) (fun q => kf q H locs ls hK hP hD hS h)
theorem zv_icmp_le (C : zv_C p m c cc nL s args Ts own A) {x y : Int32} {off : Int} (hdg : decode cc pc = .ok (.if_icmp .le off, 3)) (n tgt : Nat) (hn : pc + 3 = n) (ht : (pc : Int) + off = (tgt : Int)) (kt : x ≤ y → zv_V p l e R s m args below meth c Q nL D cl A B tys ws kc ns tgt lv (st)) (kf : ¬ x ≤ y → zv_V p l e R s m args below meth c Q nL D cl A B tys ws kc ns n lv (st)) : zv_V p l e R s m args below meth c Q nL D cl A B tys ws kc ns pc lv (.int y :: .int x :: st) := by
  subst hn
  exact fun H locs ls hK hP hD hS h => lv_icmp_le C.1.1 C.1.2.1 hdg ht (fun q => kt q H locs ls hK hP hD hS h) (fun q => kf q H locs ls hK hP hD hS h)
theorem zv_icmp_gt (C : zv_C p m c cc nL s args Ts own A) {x y : Int32} {off : Int} (hdg : decode cc pc = .ok (.if_icmp .gt off, 3)) (n tgt : Nat) (hn : pc + 3 = n) (ht : (pc : Int) + off = (tgt : Int)) (kt : y < x → zv_V p l e R s m args below meth c Q nL D cl A B tys ws kc ns tgt lv (st)) (kf : ¬ y < x → zv_V p l e R s m args below meth c Q nL D cl A B tys ws kc ns n lv (st)) : zv_V p l e R s m args below meth c Q nL D cl A B tys ws kc ns pc lv (.int y :: .int x :: st) := by
  subst hn
  exact fun H locs ls hK hP hD hS h => lv_icmp_gt C.1.1 C.1.2.1 hdg ht (fun q => kt q H locs ls hK hP hD hS h) (fun q => kf q H locs ls hK hP hD hS h)
theorem zv_icmp_ge (C : zv_C p m c cc nL s args Ts own A) {x y : Int32} {off : Int} (hdg : decode cc pc = .ok (.if_icmp .ge off, 3)) (n tgt : Nat) (hn : pc + 3 = n) (ht : (pc : Int) + off = (tgt : Int)) (kt : y ≤ x → zv_V p l e R s m args below meth c Q nL D cl A B tys ws kc ns tgt lv (st)) (kf : ¬ y ≤ x → zv_V p l e R s m args below meth c Q nL D cl A B tys ws kc ns n lv (st)) : zv_V p l e R s m args below meth c Q nL D cl A B tys ws kc ns pc lv (.int y :: .int x :: st) := by
  subst hn
  exact fun H locs ls hK hP hD hS h => lv_icmp_ge C.1.1 C.1.2.1 hdg ht (fun q => kt q H locs ls hK hP hD hS h) (fun q => kf q H locs ls hK hP hD hS h)
theorem zv_goto (C : zv_C p m c cc nL s args Ts own A) {off : Int} (hdg : decode cc pc = .ok (.goto off, 3)) (tgt : Nat) (ht : (pc : Int) + off = (tgt : Int)) (kk : zv_V p l e R s m args below meth c Q nL D cl A B tys ws kc ns tgt lv (st)) : zv_V p l e R s m args below meth c Q nL D cl A B tys ws kc ns pc lv (st) := by
  exact fun H locs ls hK hP hD hS h => lv_goto C.1.1 C.1.2.1 hdg ht (kk H locs ls hK hP hD hS h)
theorem zv_get (C : zv_C p m c cc nL s args Ts own A) {C0 : String} {T : u_T} {N ci index a : Nat} {fs : List Value} {v : Value} (hin : ∀ w ∈ u_ws C0 T N, w ∈ Ts) (hc : cl[ci]? = some (C0, T, N)) (hdg : decode cc pc = .ok (.getfield index, 3)) (n : Nat) (hn : pc + 3 = n) (q0 k : Nat) (he : ws[q0]? = some (a, .inr (ci, fs))) (hk : k < N) (hlink : Cond.fieldLink own index (T k).1 (T k).2.1 (T k).2.2.1 ∈ Ts) (hv : fs[k]? = some v) (kk : zv_V p l e R s m args below meth c Q nL D cl A B tys ws kc ns n lv (v :: st)) : zv_V p l e R s m args below meth c Q nL D cl A B tys ws kc ns pc lv (.ref a :: st) := by
  subst hn
  exact fun H locs ls hK hP hD hS h => va_get C.1.1 C.1.2.1 C.1.2.2.2.2 hin C.1.2.2.2.1 hK hP q0 he hc k hk (C.1.2.2.2.2 _ hlink) (fun _ h => h) hv hdg (kk H locs ls hK hP hD hS h)
theorem zv_put (C : zv_C p m c cc nL s args Ts own A) {C0 : String} {T : u_T} {N ci index a : Nat} {fs : List Value} {v : Value} (hin : ∀ w ∈ u_ws C0 T N, w ∈ Ts) (hc : cl[ci]? = some (C0, T, N)) {ty0 : Nat → FieldType} (hty : ∀ k, k < N → parseFieldDescriptor (T k).2.2.1 = some (ty0 k)) (hnm : ∀ a, a < N → ∀ b, b < N → a ≠ b → (T a).2.1 ≠ (T b).2.1) (hdg : decode cc pc = .ok (.putfield index, 3)) (n : Nat) (hn : pc + 3 = n) (q0 k : Nat) (he : ws[q0]? = some (a, .inr (ci, fs))) (hk : k < N) (hlink : Cond.fieldLink own index (T k).1 (T k).2.1 (T k).2.2.1 ∈ Ts) (hfin : (T k).2.2.2 = false) (hnar : narrow (ty0 k) v = v) (hfit : fits (ty0 k) v = true) (hl : k < fs.length) (ws' : va_W) (hw : ws.set q0 (a, .inr (ci, fs.set k v)) = ws') (kk : zv_V p l e R s m args below meth c Q nL D cl A A tys ws' kc ns n lv (st)) : zv_V p l e R s m args below meth c Q nL D cl A A tys ws kc ns pc lv (v :: .ref a :: st) := by
  subst hn; subst hw
  exact fun H locs ls hK hP hD hS h => va_put C.1.1 C.1.2.1 C.1.2.2.2.2 hin ty0 hty hnm C.1.2.2.2.1 hK hP hD hS q0 he hc k hk (C.1.2.2.2.2 _ hlink) (fun _ h => h) hfin (hty k hk) hnar hfit hl hdg (fun H locs hP hD hS => (kk H locs ls hK hP hD hS h))
theorem zv_putF (C : zv_C p m c cc nL s args Ts own A) {C0 : String} {T : u_T} {N ci index a : Nat} {fs : List Value} {v : Value} (hin : ∀ w ∈ u_ws C0 T N, w ∈ Ts) (hc : cl[ci]? = some (C0, T, N)) {ty0 : Nat → FieldType} (hty : ∀ k, k < N → parseFieldDescriptor (T k).2.2.1 = some (ty0 k)) (hnm : ∀ a, a < N → ∀ b, b < N → a ≠ b → (T a).2.1 ≠ (T b).2.1) (hini : meth.name = "<init>") (hdg : decode cc pc = .ok (.putfield index, 3)) (n : Nat) (hn : pc + 3 = n) (q0 k : Nat) (he : ws[q0]? = some (a, .inr (ci, fs))) (hk : k < N) (hlink : Cond.fieldLink own index (T k).1 (T k).2.1 (T k).2.2.1 ∈ Ts) (hfin : (T k).2.2.2 = true) (hdecl : (T k).1 = own) (hnar : narrow (ty0 k) v = v) (hfit : fits (ty0 k) v = true) (hl : k < fs.length) (ws' : va_W) (hw : ws.set q0 (a, .inr (ci, fs.set k v)) = ws') (kk : zv_V p l e R s m args below meth c Q nL D cl A A tys ws' kc ns n lv (st)) : zv_V p l e R s m args below meth c Q nL D cl A A tys ws kc ns pc lv (v :: .ref a :: st) := by
  subst hn; subst hw
  exact fun H locs ls hK hP hD hS h => va_putF C.1.1 C.1.2.1 C.1.2.2.2.2 hin ty0 hty hnm C.1.2.2.2.1 hK hP hD hS q0 he hc k hk (C.1.2.2.2.2 _ hlink) (fun _ h => h) hfin hini hdecl (hty k hk) hnar hfit hl hdg (fun H locs hP hD hS => (kk H locs ls hK hP hD hS h))
theorem zv_in {i : Int32} {j N : Nat} (hi : i = nI j) (hj : j < N) (hN : N < 2 ^ 31) : vp_in i N ∧ i.toNatClampNeg = j := by
  subst hi
  exact ⟨vp_in_nI hj hN, nI_clamp (by omega)⟩
theorem zv_iald (C : zv_C p m c cc nL s args Ts own A) {a N : Nat} {cA : ClassId} {f : Nat → Int32} {i v : Int32} (hdg : decode cc pc = .ok (.iaload, 1)) (n : Nat) (hn : pc + 1 = n) (q0 t0 j : Nat) (ha : ws[q0]? = some (a, .inl (cA, N, .inl f))) (ht : tys[t0]? = some (cA, .int)) (hi : i = nI j) (hj : j < N) (hN : N < 2 ^ 31) (hv : f j = v) (kk : zv_V p l e R s m args below meth c Q nL D cl A B tys ws kc ns n lv (.int v :: st)) : zv_V p l e R s m args below meth c Q nL D cl A B tys ws kc ns pc lv (.int i :: .ref a :: st) := by
  subst hn; subst hv
  obtain ⟨h1, h2⟩ := zv_in hi hj hN
  exact fun H locs ls hK hP hD hS h => va_iald C.1.1 C.1.2.1 hK hP q0 t0 ha ht h1 hdg (by rw [h2]; exact (kk H locs ls hK hP hD hS h))
theorem zv_zald (C : zv_C p m c cc nL s args Ts own A) {a N : Nat} {cA : ClassId} {f : Nat → Int32} {i v : Int32} (hdg : decode cc pc = .ok (.baload, 1)) (n : Nat) (hn : pc + 1 = n) (q0 t0 j : Nat) (ha : ws[q0]? = some (a, .inl (cA, N, .inl f))) (ht : tys[t0]? = some (cA, .boolean)) (hi : i = nI j) (hj : j < N) (hN : N < 2 ^ 31) (hv : f j = v) (kk : zv_V p l e R s m args below meth c Q nL D cl A B tys ws kc ns n lv (.int v :: st)) : zv_V p l e R s m args below meth c Q nL D cl A B tys ws kc ns pc lv (.int i :: .ref a :: st) := by
  subst hn; subst hv
  obtain ⟨h1, h2⟩ := zv_in hi hj hN
  exact fun H locs ls hK hP hD hS h => va_zald C.1.1 C.1.2.1 hK hP q0 t0 ha ht h1 hdg (by rw [h2]; exact (kk H locs ls hK hP hD hS h))
theorem zv_iast (C : zv_C p m c cc nL s args Ts own A) {a N : Nat} {cA : ClassId} {f : Nat → Int32} {i x x' : Int32} (hdg : decode cc pc = .ok (.iastore, 1)) (n : Nat) (hn : pc + 1 = n) (q0 t0 j : Nat) (ha : ws[q0]? = some (a, .inl (cA, N, .inl f))) (ht : tys[t0]? = some (cA, .int)) (hi : i = nI j) (hj : j < N) (hN : N < 2 ^ 31) (hx : x = x') (ws' : va_W) (hw : ws.set q0 (a, .inl (cA, N, .inl (upd f j x'))) = ws') (kk : zv_V p l e R s m args below meth c Q nL D cl A A tys ws' kc ns n lv (st)) : zv_V p l e R s m args below meth c Q nL D cl A A tys ws kc ns pc lv (.int x :: .int i :: .ref a :: st) := by
  subst hn; subst hw; subst hx
  obtain ⟨h1, h2⟩ := zv_in hi hj hN
  subst h2
  exact fun H locs ls hK hP hD hS h => va_iast C.1.1 C.1.2.1 hK hP hD hS q0 t0 ha ht h1 hdg (fun H locs hP hD hS => (kk H locs ls hK hP hD hS h))
theorem zv_zast (C : zv_C p m c cc nL s args Ts own A) {a N : Nat} {cA : ClassId} {f : Nat → Int32} {i x x' : Int32} (hdg : decode cc pc = .ok (.bastore, 1)) (n : Nat) (hn : pc + 1 = n) (q0 t0 j : Nat) (ha : ws[q0]? = some (a, .inl (cA, N, .inl f))) (ht : tys[t0]? = some (cA, .boolean)) (hi : i = nI j) (hj : j < N) (hN : N < 2 ^ 31) (hx : (vp_nar .boolean x) = x') (ws' : va_W) (hw : ws.set q0 (a, .inl (cA, N, .inl (upd f j x'))) = ws') (kk : zv_V p l e R s m args below meth c Q nL D cl A A tys ws' kc ns n lv (st)) : zv_V p l e R s m args below meth c Q nL D cl A A tys ws kc ns pc lv (.int x :: .int i :: .ref a :: st) := by
  subst hn; subst hw; subst hx
  obtain ⟨h1, h2⟩ := zv_in hi hj hN
  subst h2
  exact fun H locs ls hK hP hD hS h => va_zast C.1.1 C.1.2.1 hK hP hD hS q0 t0 ha ht h1 hdg (fun H locs hP hD hS => (kk H locs ls hK hP hD hS h))
theorem zv_lald (C : zv_C p m c cc nL s args Ts own A) {a N : Nat} {cA : ClassId} {f : Nat → Int64} {i : Int32} {v : Int64} (hdg : decode cc pc = .ok (.laload, 1)) (n : Nat) (hn : pc + 1 = n) (q0 t0 j : Nat) (ha : ws[q0]? = some (a, .inl (cA, N, .inr (.inl f)))) (ht : tys[t0]? = some (cA, .long)) (hi : i = nI j) (hj : j < N) (hN : N < 2 ^ 31) (hv : f j = v) (kk : zv_V p l e R s m args below meth c Q nL D cl A B tys ws kc ns n lv (.long v :: st)) : zv_V p l e R s m args below meth c Q nL D cl A B tys ws kc ns pc lv (.int i :: .ref a :: st) := by
  subst hn; subst hv
  obtain ⟨h1, h2⟩ := zv_in hi hj hN
  exact fun H locs ls hK hP hD hS h => va_lald C.1.1 C.1.2.1 hK hP q0 t0 ha ht h1 hdg (by rw [h2]; exact (kk H locs ls hK hP hD hS h))
theorem zv_last (C : zv_C p m c cc nL s args Ts own A) {a N : Nat} {cA : ClassId} {f : Nat → Int64} {i : Int32} {x : Int64} (hdg : decode cc pc = .ok (.lastore, 1)) (n : Nat) (hn : pc + 1 = n) (q0 t0 j : Nat) (ha : ws[q0]? = some (a, .inl (cA, N, .inr (.inl f)))) (ht : tys[t0]? = some (cA, .long)) (hi : i = nI j) (hj : j < N) (hN : N < 2 ^ 31) (ws' : va_W) (hw : ws.set q0 (a, .inl (cA, N, .inr (.inl (vp_updL f j x)))) = ws') (kk : zv_V p l e R s m args below meth c Q nL D cl A A tys ws' kc ns n lv (st)) : zv_V p l e R s m args below meth c Q nL D cl A A tys ws kc ns pc lv (.long x :: .int i :: .ref a :: st) := by
  subst hn; subst hw
  obtain ⟨h1, h2⟩ := zv_in hi hj hN
  subst h2
  exact fun H locs ls hK hP hD hS h => va_last C.1.1 C.1.2.1 hK hP hD hS q0 t0 ha ht h1 hdg (fun H locs hP hD hS => (kk H locs ls hK hP hD hS h))
theorem zv_alen (C : zv_C p m c cc nL s args Ts own A) {a : Nat} {cA : ClassId} {y : vp_A} {ty : FieldType} {v : Int32} (hdg : decode cc pc = .ok (.arraylength, 1)) (n : Nat) (hn : pc + 1 = n) (q0 t0 : Nat) (ha : ws[q0]? = some (a, .inl (cA, y))) (ht : tys[t0]? = some (cA, ty)) (hv : Int32.ofNat y.1 = v) (kk : zv_V p l e R s m args below meth c Q nL D cl A B tys ws kc ns n lv (.int v :: st)) : zv_V p l e R s m args below meth c Q nL D cl A B tys ws kc ns pc lv (.ref a :: st) := by
  subst hn
  exact fun H locs ls hK hP hD hS h => va_alen C.1.1 C.1.2.1 hK hP q0 t0 ha ht hv hdg (kk H locs ls hK hP hD hS h)
theorem zv_sub (is : List Nat) {lv' : List (Nat × Value)} (hl : lv_pick lv is = lv') (kk : zv_V p l e R s m args below meth c Q nL D cl A B tys ws kc ns pc lv' (st)) : zv_V p l e R s m args below meth c Q nL D cl A B tys ws kc ns pc lv (st) := fun H locs ls hK hP hD hS h => kk H locs ls hK hP hD hS (lv_sub h is hl)
theorem zv_perm (is : List Nat) {ws' : va_W} (hn : va_nd is = true) (hs : is.map (fun i => ws[i]?) = ws'.map some) (kk : zv_V p l e R s m args below meth c Q nL D cl A B tys ws' kc ns pc lv (st)) : zv_V p l e R s m args below meth c Q nL D cl A B tys ws kc ns pc lv (st) := fun H locs ls hK hP hD hS h => kk H locs ls hK (zv_subP hP is hs) (hD.sub is hn hs) hS h
theorem zv_go {pc' kc' ns' : Nat} {lv' : List (Nat × Value)} {st' : List Value} (hp : pc = pc') (hl : lv = lv') (hs : st = st') (hk : kc = kc') (hn : ns = ns') (kk : zv_V p l e R s m args below meth c Q nL D cl A B tys ws kc' ns' pc' lv' (st')) : zv_V p l e R s m args below meth c Q nL D cl A B tys ws kc ns pc lv (st) := by subst hp hl hs hk hn; exact kk
theorem zv_wd {ws' : va_W} (hw : ws = ws') (kk : zv_V p l e R s m args below meth c Q nL D cl A B tys ws' kc ns pc lv (st)) : zv_V p l e R s m args below meth c Q nL D cl A B tys ws kc ns pc lv (st) := by subst hw; exact kk
theorem zv_widen {k' n' : Nat} (h1 : kc ≤ k') (h2 : ns ≤ n') (kk : zv_V p l e R s m args below meth c Q nL D cl A B tys ws k' n' pc lv (st)) : zv_V p l e R s m args below meth c Q nL D cl A B tys ws kc ns pc lv (st) := fun H locs ls hK hP hD hS h => W.widen h1 h2 (kk H locs ls hK hP hD hS h)
theorem zv_tys (is : List Nat) {tys' : List (ClassId × FieldType)} (hs : is.filterMap (fun i => tys[i]?) = tys') (kk : zv_V p l e R s m args below meth c Q nL D cl A B tys' ws kc ns pc lv (st)) : zv_V p l e R s m args below meth c Q nL D cl A B tys ws kc ns pc lv (st) := fun H locs ls hK hP hD hS h => kk H locs ls (hK.sub is hs) hP hD hS h
theorem zv_iret (C : zv_C p m c cc nL s args Ts own A) {x : Int32} (hr : meth.sig.returnType = some .int) (hlk : meth.locks = false) {post : Option Value → va_W → Prop} (hQ : Q = MQ below (zv_q D cl A post) args s kc ns A) (hdg : decode cc pc = .ok (.ireturn, 1)) (hp : post (some (.int x)) ws) : zv_V p l e R s m args below meth c Q nL D cl A A tys ws kc ns pc lv ([.int x]) := by
  subst hQ
  exact fun H locs ls hK hP hD hS h => W.iret C.1.1 C.1.2.1 hr (fun t ht hW => ⟨⟨_, ws, rfl, hp, by rw [ht]; exact hP, hD⟩, hS.F ht⟩) hS.2.2 hdg (hlocks := hlk)
theorem zv_iretR (C : zv_C p m c cc nL s args Ts own A) {x : Int32} (hr : meth.sig.returnType = some .int) (hlk : meth.locks = false) {post : Option Value → Prop} (hA : A = fun q => s.heap.size ≤ q) (hQ : Q = MQ below (zv_r post) args s kc ns A) (hdg : decode cc pc = .ok (.ireturn, 1)) (hp : post (some (.int x))) : zv_V p l e R s m args below meth c Q nL D cl A B tys ws kc ns pc lv ([.int x]) := by
  subst hQ
  exact fun H locs ls hK hP hD hS h => W.iret C.1.1 C.1.2.1 hr (fun t ht hW => ⟨⟨_, rfl, hp⟩, by subst hA; exact hS.F ht⟩) hS.2.2 hdg (hlocks := hlk)
theorem zv_lret (C : zv_C p m c cc nL s args Ts own A) {x : Int64} (hr : meth.sig.returnType = some .long) (hlk : meth.locks = false) {post : Option Value → va_W → Prop} (hQ : Q = MQ below (zv_q D cl A post) args s kc ns A) (hdg : decode cc pc = .ok (.lreturn, 1)) (hp : post (some (.long x)) ws) : zv_V p l e R s m args below meth c Q nL D cl A A tys ws kc ns pc lv ([.long x]) := by
  subst hQ
  exact fun H locs ls hK hP hD hS h => W.lret C.1.1 C.1.2.1 hr (fun t ht hW => ⟨⟨_, ws, rfl, hp, by rw [ht]; exact hP, hD⟩, hS.F ht⟩) hS.2.2 hdg (hlocks := hlk)
theorem zv_lretR (C : zv_C p m c cc nL s args Ts own A) {x : Int64} (hr : meth.sig.returnType = some .long) (hlk : meth.locks = false) {post : Option Value → Prop} (hA : A = fun q => s.heap.size ≤ q) (hQ : Q = MQ below (zv_r post) args s kc ns A) (hdg : decode cc pc = .ok (.lreturn, 1)) (hp : post (some (.long x))) : zv_V p l e R s m args below meth c Q nL D cl A B tys ws kc ns pc lv ([.long x]) := by
  subst hQ
  exact fun H locs ls hK hP hD hS h => W.lret C.1.1 C.1.2.1 hr (fun t ht hW => ⟨⟨_, rfl, hp⟩, by subst hA; exact hS.F ht⟩) hS.2.2 hdg (hlocks := hlk)
theorem zv_dret (C : zv_C p m c cc nL s args Ts own A) {x : UInt64} (hr : meth.sig.returnType = some .double) (hlk : meth.locks = false) {post : Option Value → va_W → Prop} (hQ : Q = MQ below (zv_q D cl A post) args s kc ns A) (hdg : decode cc pc = .ok (.dreturn, 1)) (hp : post (some (.double x)) ws) : zv_V p l e R s m args below meth c Q nL D cl A A tys ws kc ns pc lv ([.double x]) := by
  subst hQ
  exact fun H locs ls hK hP hD hS h => W.dret C.1.1 C.1.2.1 hr (fun t ht hW => ⟨⟨_, ws, rfl, hp, by rw [ht]; exact hP, hD⟩, hS.F ht⟩) hS.2.2 hdg (hlocks := hlk)
theorem zv_dretR (C : zv_C p m c cc nL s args Ts own A) {x : UInt64} (hr : meth.sig.returnType = some .double) (hlk : meth.locks = false) {post : Option Value → Prop} (hA : A = fun q => s.heap.size ≤ q) (hQ : Q = MQ below (zv_r post) args s kc ns A) (hdg : decode cc pc = .ok (.dreturn, 1)) (hp : post (some (.double x))) : zv_V p l e R s m args below meth c Q nL D cl A B tys ws kc ns pc lv ([.double x]) := by
  subst hQ
  exact fun H locs ls hK hP hD hS h => W.dret C.1.1 C.1.2.1 hr (fun t ht hW => ⟨⟨_, rfl, hp⟩, by subst hA; exact hS.F ht⟩) hS.2.2 hdg (hlocks := hlk)
theorem zv_vret (C : zv_C p m c cc nL s args Ts own A)  (hr : meth.sig.returnType = none) (hlk : meth.locks = false) {post : Option Value → va_W → Prop} (hQ : Q = MQ below (zv_q D cl A post) args s kc ns A) (hdg : decode cc pc = .ok (.return_, 1)) (hp : post none ws) : zv_V p l e R s m args below meth c Q nL D cl A A tys ws kc ns pc lv ([]) := by
  subst hQ
  exact fun H locs ls hK hP hD hS h => W.vret C.1.1 C.1.2.1 hr (fun t ht hW => ⟨⟨_, ws, rfl, hp, by rw [ht]; exact hP, hD⟩, hS.F ht⟩) hS.2.2 hdg (hlocks := hlk)
theorem zv_vretR (C : zv_C p m c cc nL s args Ts own A)  (hr : meth.sig.returnType = none) (hlk : meth.locks = false) {post : Option Value → Prop} (hA : A = fun q => s.heap.size ≤ q) (hQ : Q = MQ below (zv_r post) args s kc ns A) (hdg : decode cc pc = .ok (.return_, 1)) (hp : post none) : zv_V p l e R s m args below meth c Q nL D cl A B tys ws kc ns pc lv ([]) := by
  subst hQ
  exact fun H locs ls hK hP hD hS h => W.vret C.1.1 C.1.2.1 hr (fun t ht hW => ⟨⟨_, rfl, hp⟩, by subst hA; exact hS.F ht⟩) hS.2.2 hdg (hlocks := hlk)
theorem zv_zret (C : zv_C p m c cc nL s args Ts own A) {x : Int32} (hn : narrow .boolean (.int x) = .int x) (hr : meth.sig.returnType = some .boolean) (hlk : meth.locks = false) {post : Option Value → va_W → Prop} (hQ : Q = MQ below (zv_q D cl A post) args s kc ns A) (hdg : decode cc pc = .ok (.ireturn, 1)) (hp : post (some (.int x)) ws) : zv_V p l e R s m args below meth c Q nL D cl A A tys ws kc ns pc lv ([.int x]) := by
  subst hQ
  exact fun H locs ls hK hP hD hS h => W.zret C.1.1 C.1.2.1 hr hn (fun t ht hW => ⟨⟨_, ws, rfl, hp, by rw [ht]; exact hP, hD⟩, hS.F ht⟩) hS.2.2 hdg (hlocks := hlk)
theorem zv_zretR (C : zv_C p m c cc nL s args Ts own A) {x : Int32} (hn : narrow .boolean (.int x) = .int x) (hr : meth.sig.returnType = some .boolean) (hlk : meth.locks = false) {post : Option Value → Prop} (hA : A = fun q => s.heap.size ≤ q) (hQ : Q = MQ below (zv_r post) args s kc ns A) (hdg : decode cc pc = .ok (.ireturn, 1)) (hp : post (some (.int x))) : zv_V p l e R s m args below meth c Q nL D cl A B tys ws kc ns pc lv ([.int x]) := by
  subst hQ
  exact fun H locs ls hK hP hD hS h => W.zret C.1.1 C.1.2.1 hr hn (fun t ht hW => ⟨⟨_, rfl, hp⟩, by subst hA; exact hS.F ht⟩) hS.2.2 hdg (hlocks := hlk)
end ZV1
section ZV2
theorem zv_M.of {l : Launch} {y : MethodName} {wy ws' : List Cond} {rm : Room} {D : va_G} {cl : List vw_C} {tys : List (ClassId × FieldType)} {av : List Value} {ws : va_W} {post : Option Value → va_W → Prop} (cc : ByteArray) (nL : Nat) (ret : Option FieldType) (hy : plainName y.cls = true) (hw : wy = Cond.code y cc nL ret :: ws') (hl : (lg_sl av).length ≤ nL)
    (body : ∀ (p : Program) (e : Env) (s : State) (m : MethodId) (args : Array Value) (below : List Frame) (meth : Method) (c : Code) (A : Nat → Prop), zv_C p m c cc nL s args wy y.cls A → meth.sig.returnType = ret → meth.locks = false → meth.name = y.name → ∀ (Q : State → Prop), Q = MQ below (zv_q D cl A post) args s rm.cells rm.slots A → zv_V p l e rm s m args below meth c Q nL D cl A A tys ws 0 0 0 (lv_args 0 av) []) : zv_M l y wy rm D cl tys av ws post := by
  intro sz
  refine Met.ofW (cc := cc) (maxL := nL) (ret := ret) hy hw ?_
  intro p e s m args below meth c s₁ B hml hv
  obtain ⟨rfl, hsz, hP, hK, hD0⟩ := hv
  subst hsz
  have hts := atoms_spec (ws := wy) B.pre
  have hown : s.vm.findClass y.cls = some m.cls := findClass_of_methodNamed B.named
  have hnm : meth.name = y.name := (name_of_methodNamed B.named B.method).1
  have hA : ∀ q : Nat, s.heap.size ≤ q → va_A ws s.heap.size q := fun q h => Or.inr h
  have hb := body p e s m av.toArray below meth c (va_A ws s.heap.size) ⟨⟨B.exec, B.bytes, hml, hown, hts⟩, hA⟩ B.returns B.notSynchronized hnm _ rfl
  have hl1 := lv_entry av (n := nL) hl
  rw [lg_entry_eq]
  exact hb s.heap [] _ hK hP hD0.self va_S.rf hl1
theorem zv_R.of {l : Launch} {y : MethodName} {wy ws' : List Cond} {rm : Room} {D : va_G} {cl : List vw_C} {tys : List (ClassId × FieldType)} {av : List Value} {ws : va_W} {post : Option Value → Prop} (cc : ByteArray) (nL : Nat) (ret : Option FieldType) (hy : plainName y.cls = true) (hw : wy = Cond.code y cc nL ret :: ws') (hl : (lg_sl av).length ≤ nL)
    (body : ∀ (p : Program) (e : Env) (s : State) (m : MethodId) (args : Array Value) (below : List Frame) (meth : Method) (c : Code) (A : Nat → Prop), zv_C p m c cc nL s args wy y.cls A → meth.sig.returnType = ret → meth.locks = false → A = (fun q => s.heap.size ≤ q) → ∀ (Q : State → Prop), Q = MQ below (zv_r post) args s rm.cells rm.slots A → zv_V p l e rm s m args below meth c Q nL D cl A (fun _ => True) tys ws 0 0 0 (lv_args 0 av) []) : zv_R l y wy rm D cl tys av ws post := by
  intro sz
  refine Met.ofW (cc := cc) (maxL := nL) (ret := ret) hy hw ?_
  intro p e s m args below meth c s₁ B hml hv
  obtain ⟨rfl, hsz, hP, hK, hD0⟩ := hv
  subst hsz
  have hts := atoms_spec (ws := wy) B.pre
  have hown : s.vm.findClass y.cls = some m.cls := findClass_of_methodNamed B.named
  have hb := body p e s m av.toArray below meth c (fun q => s.heap.size ≤ q) ⟨⟨B.exec, B.bytes, hml, hown, hts⟩, fun q h => h⟩ B.returns B.notSynchronized rfl _ rfl
  have hl1 := lv_entry av (n := nL) hl
  rw [lg_entry_eq]
  exact hb s.heap [] _ hK hP hD0 va_S.rf hl1
end ZV2
section ZV3
variable {p : Program} {l : Launch} {e : Env} {R : Room} {s : State} {m : MethodId} {args : Array Value} {below : List Frame} {meth : Method} {c : Code} {Q : State → Prop} {cc : ByteArray} {nL : Nat} {own : String} {Ts : List Cond} {A B : Nat → Prop} {D : va_G} {cl : List vw_C} {tys : List (ClassId × FieldType)} {ws : va_W} {kc ns pc n : Nat} {lv : List (Nat × Value)} {st : List Value}
theorem zv_callV (C : zv_C p m c cc nL s args Ts own A) {y : MethodName} {wy : List Cond} {rm : Room} {index maxL nA : Nat} {bytes : ByteArray} {ret : Option FieldType} {C0 : String} {b : Addr} {As rest : List Value} {wc wr : va_W} {tyc : List (ClassId × FieldType)} {post : Option Value → va_W → Prop} (hM : zv_M l y wy rm D cl tyc (.ref b :: As) wc post) (cw : CallW R s args own C0 index y bytes maxL ret wy rm rm.cells rm.slots nA) (hdg : decode cc pc = .ok (.invokevirtual index, 3)) (n : Nat) (hn : pc + 3 = n) {ci : Nat} {TN : u_T × Nat} {fs : List Value} (q0 : Nat) (hci : cl[ci]? = some (C0, TN)) (hq0 : wc[q0]? = some (b, .inr (ci, fs))) (hst : st = As.reverse ++ .ref b :: rest) (hnA : As.length = nA) (hroom : (rest.map fun v => v.category).sum ≤ 8) (hcs : kc + rm.cells ≤ R.cells ∧ ns + rm.slots ≤ R.slots) (isT : List Nat) (hT : isT.filterMap (fun i => tys[i]?) = tyc) (isC : List Nat) (hC : isC.map (fun i => ws[i]?) = wc.map some) (hnC : va_nd isC = true) (isR : List Nat) (hRr : isR.map (fun i => ws[i]?) = wr.map some) (hnR : va_nd isR = true) (hdis : ∀ i ∈ isR, i ∉ isC) (kk : ∀ (v : Option Value) (w : va_W), post v w → zv_V p l e R s m args below meth c Q nL D cl A A tys (wr ++ w) (kc + rm.cells) (ns + rm.slots) n lv (v.toList ++ rest)) : zv_V p l e R s m args below meth c Q nL D cl A A tys ws kc ns pc lv (st) := by
  subst hn; subst hst
  intro H locs ls hK hP hD hS h
  have hPc := zv_subP hP isC hC
  have hDc := hD.sub isC hnC hC
  have hKc := hK.sub isT hT
  have hFc := va_free hD hS C.2 isC hC
  have hr := va_runV (l := l) (e := e) (below := below) (meth := meth) (locs := locs) (g := F0 m pc ls (As.reverse ++ .ref b :: rest)) (As := As) (rest := rest) (b := b) C.1 (hM H.size) cw ⟨zv_blind D cl tyc wc H.size _, va_recv hKc hPc hci hq0, fun U hU hW => ⟨rfl, by rw [hU], by rw [hU]; exact hPc, va_K.moved hW.alike hKc, hDc.weaken (fun _ _ _ _ => trivial)⟩⟩ rfl hnA h.1 rfl (lv_room hroom) hdg hcs
  intro T hT X
  obtain ⟨v, st₀, t, T', L, h0, X', hL, e1, e2, ⟨⟨v', w, hv, hpo, hP1, hD1⟩, hz, hk⟩, stp⟩ := hr T hT X
  cases hv
  rw [h0] at hz hk
  have hz1 : H.size ≤ T'.heap.size := by rw [e1]; exact hz
  obtain ⟨hPj, hDj⟩ := va_join (H1 := T'.heap) hP hD isC isR hC hRr hnR hdis (fun q h1 h2 => by rw [e1]; exact hk q h1 h2) hFc (by rw [e1]; exact hP1) hD1
  obtain ⟨t2, a1, b1⟩ := kk v w hpo T'.heap (locs ++ L) ls hK hPj hDj ⟨Nat.le_trans hS.1 hz1, fun q h1 h2 => by rw [e1, hk q (Nat.lt_of_lt_of_le h1 hS.1) (fun z => h2 (hFc q z))]; exact hS.2.1 q h1 h2, fun q hq => by
    rcases List.mem_append.mp hq with h | h
    · exact hS.2.2 q h
    · exact hFc _ (hL q h)⟩ h T' rfl X'
  exact ⟨t2, stp t2 a1, b1⟩
theorem zv_callVR (C : zv_C p m c cc nL s args Ts own A) {y : MethodName} {wy : List Cond} {rm : Room} {index maxL nA : Nat} {bytes : ByteArray} {ret : Option FieldType} {C0 : String} {b : Addr} {As rest : List Value} {wc : va_W} {tyc : List (ClassId × FieldType)} {post : Option Value → Prop} (hM : zv_R l y wy rm D cl tyc (.ref b :: As) wc post) (cw : CallW R s args own C0 index y bytes maxL ret wy rm rm.cells rm.slots nA) (hdg : decode cc pc = .ok (.invokevirtual index, 3)) (n : Nat) (hn : pc + 3 = n) {ci : Nat} {TN : u_T × Nat} {fs : List Value} (q0 : Nat) (hci : cl[ci]? = some (C0, TN)) (hq0 : wc[q0]? = some (b, .inr (ci, fs))) (hst : st = As.reverse ++ .ref b :: rest) (hnA : As.length = nA) (hroom : (rest.map fun v => v.category).sum ≤ 8) (hcs : kc + rm.cells ≤ R.cells ∧ ns + rm.slots ≤ R.slots) (isT : List Nat) (hT : isT.filterMap (fun i => tys[i]?) = tyc) (isC : List Nat) (hC : isC.map (fun i => ws[i]?) = wc.map some) (hnC : va_nd isC = true) (kk : ∀ v : Option Value, post v → zv_V p l e R s m args below meth c Q nL D cl A B tys ws (kc + rm.cells) (ns + rm.slots) n lv (v.toList ++ rest)) : zv_V p l e R s m args below meth c Q nL D cl A B tys ws kc ns pc lv (st) := by
  subst hn; subst hst
  intro H locs ls hK hP hD hS h
  have hPc := zv_subP hP isC hC
  have hDc := hD.sub isC hnC hC
  have hKc := hK.sub isT hT
  have hr := va_runV (l := l) (e := e) (below := below) (meth := meth) (locs := locs) (g := F0 m pc ls (As.reverse ++ .ref b :: rest)) (As := As) (rest := rest) (b := b) C.1 (hM H.size) cw ⟨zv_blind D cl tyc wc H.size _, va_recv hKc hPc hci hq0, fun U hU hW => ⟨rfl, by rw [hU], by rw [hU]; exact hPc, va_K.moved hW.alike hKc, hDc.weaken (fun _ _ _ _ => trivial)⟩⟩ rfl hnA h.1 rfl (lv_room hroom) hdg hcs
  intro T hT X
  obtain ⟨v, st₀, t, T', L, h0, X', hL, e1, e2, ⟨⟨v', hv, hpo⟩, hz, hk⟩, stp⟩ := hr T hT X
  cases hv
  rw [h0] at hz hk
  have hz1 : H.size ≤ T'.heap.size := by rw [e1]; exact hz
  have hk1 : ∀ q, q < H.size → T'.heap[q]? = H[q]? := fun q h1 => by rw [e1]; exact hk q h1 (Nat.not_le.mpr h1)
  obtain ⟨t2, a1, b1⟩ := kk v hpo T'.heap (locs ++ L) ls hK (hP.kept (fun k q hq => hk1 q.1 (hP k q hq).lt)) hD ⟨Nat.le_trans hS.1 hz1, fun q h1 h2 => (hk1 q (Nat.lt_of_lt_of_le h1 hS.1)).trans (hS.2.1 q h1 h2), fun q hq => by
    rcases List.mem_append.mp hq with h | h
    · exact hS.2.2 q h
    · exact C.2 _ (Nat.le_trans hS.1 (hL q h))⟩ h T' rfl X'
  exact ⟨t2, stp t2 a1, b1⟩
theorem zv_callS (C : zv_C p m c cc nL s args Ts own A) {y : MethodName} {wy : List Cond} {rm : Room} {index maxL nA : Nat} {bytes : ByteArray} {ret : Option FieldType} {As rest : List Value} {wc wr : va_W} {tyc : List (ClassId × FieldType)} {post : Option Value → va_W → Prop} (hM : zv_M l y wy rm D cl tyc (As) wc post) (cw : (CallB R s args own index y bytes maxL ret wy rm rm.cells rm.slots nA ∧ (Cond.static y).before args s = true)) (hdg : decode cc pc = .ok (.invokestatic index, 3)) (n : Nat) (hn : pc + 3 = n) (hst : st = As.reverse ++ rest) (hnA : As.length = nA) (hroom : (rest.map fun v => v.category).sum ≤ 8) (hcs : kc + rm.cells ≤ R.cells ∧ ns + rm.slots ≤ R.slots) (isT : List Nat) (hT : isT.filterMap (fun i => tys[i]?) = tyc) (isC : List Nat) (hC : isC.map (fun i => ws[i]?) = wc.map some) (hnC : va_nd isC = true) (isR : List Nat) (hRr : isR.map (fun i => ws[i]?) = wr.map some) (hnR : va_nd isR = true) (hdis : ∀ i ∈ isR, i ∉ isC) (kk : ∀ (v : Option Value) (w : va_W), post v w → zv_V p l e R s m args below meth c Q nL D cl A A tys (wr ++ w) (kc + rm.cells) (ns + rm.slots) n lv (v.toList ++ rest)) : zv_V p l e R s m args below meth c Q nL D cl A A tys ws kc ns pc lv (st) := by
  subst hn; subst hst
  intro H locs ls hK hP hD hS h
  have hPc := zv_subP hP isC hC
  have hDc := hD.sub isC hnC hC
  have hKc := hK.sub isT hT
  have hFc := va_free hD hS C.2 isC hC
  have hr := va_runS (l := l) (e := e) (below := below) (meth := meth) (locs := locs) (g := F0 m pc ls (As.reverse ++ rest)) (As := As) (rest := rest) C.1 (hM H.size) cw ⟨zv_blind D cl tyc wc H.size _, fun U hU hW => ⟨rfl, by rw [hU], by rw [hU]; exact hPc, va_K.moved hW.alike hKc, hDc.weaken (fun _ _ _ _ => trivial)⟩⟩ rfl hnA h.1 rfl (lv_room hroom) hdg hcs
  intro T hT X
  obtain ⟨v, st₀, t, T', L, h0, X', hL, e1, e2, ⟨⟨v', w, hv, hpo, hP1, hD1⟩, hz, hk⟩, stp⟩ := hr T hT X
  cases hv
  rw [h0] at hz hk
  have hz1 : H.size ≤ T'.heap.size := by rw [e1]; exact hz
  obtain ⟨hPj, hDj⟩ := va_join (H1 := T'.heap) hP hD isC isR hC hRr hnR hdis (fun q h1 h2 => by rw [e1]; exact hk q h1 h2) hFc (by rw [e1]; exact hP1) hD1
  obtain ⟨t2, a1, b1⟩ := kk v w hpo T'.heap (locs ++ L) ls hK hPj hDj ⟨Nat.le_trans hS.1 hz1, fun q h1 h2 => by rw [e1, hk q (Nat.lt_of_lt_of_le h1 hS.1) (fun z => h2 (hFc q z))]; exact hS.2.1 q h1 h2, fun q hq => by
    rcases List.mem_append.mp hq with h | h
    · exact hS.2.2 q h
    · exact hFc _ (hL q h)⟩ h T' rfl X'
  exact ⟨t2, stp t2 a1, b1⟩
theorem zv_callSR (C : zv_C p m c cc nL s args Ts own A) {y : MethodName} {wy : List Cond} {rm : Room} {index maxL nA : Nat} {bytes : ByteArray} {ret : Option FieldType} {As rest : List Value} {wc : va_W} {tyc : List (ClassId × FieldType)} {post : Option Value → Prop} (hM : zv_R l y wy rm D cl tyc (As) wc post) (cw : (CallB R s args own index y bytes maxL ret wy rm rm.cells rm.slots nA ∧ (Cond.static y).before args s = true)) (hdg : decode cc pc = .ok (.invokestatic index, 3)) (n : Nat) (hn : pc + 3 = n) (hst : st = As.reverse ++ rest) (hnA : As.length = nA) (hroom : (rest.map fun v => v.category).sum ≤ 8) (hcs : kc + rm.cells ≤ R.cells ∧ ns + rm.slots ≤ R.slots) (isT : List Nat) (hT : isT.filterMap (fun i => tys[i]?) = tyc) (isC : List Nat) (hC : isC.map (fun i => ws[i]?) = wc.map some) (hnC : va_nd isC = true) (kk : ∀ v : Option Value, post v → zv_V p l e R s m args below meth c Q nL D cl A B tys ws (kc + rm.cells) (ns + rm.slots) n lv (v.toList ++ rest)) : zv_V p l e R s m args below meth c Q nL D cl A B tys ws kc ns pc lv (st) := by
  subst hn; subst hst
  intro H locs ls hK hP hD hS h
  have hPc := zv_subP hP isC hC
  have hDc := hD.sub isC hnC hC
  have hKc := hK.sub isT hT
  have hr := va_runS (l := l) (e := e) (below := below) (meth := meth) (locs := locs) (g := F0 m pc ls (As.reverse ++ rest)) (As := As) (rest := rest) C.1 (hM H.size) cw ⟨zv_blind D cl tyc wc H.size _, fun U hU hW => ⟨rfl, by rw [hU], by rw [hU]; exact hPc, va_K.moved hW.alike hKc, hDc.weaken (fun _ _ _ _ => trivial)⟩⟩ rfl hnA h.1 rfl (lv_room hroom) hdg hcs
  intro T hT X
  obtain ⟨v, st₀, t, T', L, h0, X', hL, e1, e2, ⟨⟨v', hv, hpo⟩, hz, hk⟩, stp⟩ := hr T hT X
  cases hv
  rw [h0] at hz hk
  have hz1 : H.size ≤ T'.heap.size := by rw [e1]; exact hz
  have hk1 : ∀ q, q < H.size → T'.heap[q]? = H[q]? := fun q h1 => by rw [e1]; exact hk q h1 (Nat.not_le.mpr h1)
  obtain ⟨t2, a1, b1⟩ := kk v hpo T'.heap (locs ++ L) ls hK (hP.kept (fun k q hq => hk1 q.1 (hP k q hq).lt)) hD ⟨Nat.le_trans hS.1 hz1, fun q h1 h2 => (hk1 q (Nat.lt_of_lt_of_le h1 hS.1)).trans (hS.2.1 q h1 h2), fun q hq => by
    rcases List.mem_append.mp hq with h | h
    · exact hS.2.2 q h
    · exact C.2 _ (Nat.le_trans hS.1 (hL q h))⟩ h T' rfl X'
  exact ⟨t2, stp t2 a1, b1⟩
theorem zv_callI (C : zv_C p m c cc nL s args Ts own A) {y : MethodName} {wy : List Cond} {rm : Room} {index maxL nA : Nat} {bytes : ByteArray} {b : Addr} {As rest : List Value} {wc wr : va_W} {tyc : List (ClassId × FieldType)} {post : Option Value → va_W → Prop} (hM : zv_M l y wy rm D cl tyc (.ref b :: As) wc post) (cw : (CallB R s args own index y bytes maxL none wy rm rm.cells rm.slots nA ∧ y.name = "<init>" ∧ (Cond.instanceMethod y).before args s = true)) (hdg : decode cc pc = .ok (.invokespecial index, 3)) (n : Nat) (hn : pc + 3 = n) (hst : st = As.reverse ++ .ref b :: rest) (hnA : As.length = nA) (hroom : (rest.map fun v => v.category).sum ≤ 8) (hcs : kc + rm.cells ≤ R.cells ∧ ns + rm.slots ≤ R.slots) (isT : List Nat) (hT : isT.filterMap (fun i => tys[i]?) = tyc) (isC : List Nat) (hC : isC.map (fun i => ws[i]?) = wc.map some) (hnC : va_nd isC = true) (isR : List Nat) (hRr : isR.map (fun i => ws[i]?) = wr.map some) (hnR : va_nd isR = true) (hdis : ∀ i ∈ isR, i ∉ isC) (kk : ∀ (v : Option Value) (w : va_W), post v w → zv_V p l e R s m args below meth c Q nL D cl A A tys (wr ++ w) (kc + rm.cells) (ns + rm.slots) n lv (v.toList ++ rest)) : zv_V p l e R s m args below meth c Q nL D cl A A tys ws kc ns pc lv (st) := by
  subst hn; subst hst
  intro H locs ls hK hP hD hS h
  have hPc := zv_subP hP isC hC
  have hDc := hD.sub isC hnC hC
  have hKc := hK.sub isT hT
  have hFc := va_free hD hS C.2 isC hC
  have hr := va_runI (l := l) (e := e) (below := below) (meth := meth) (locs := locs) (g := F0 m pc ls (As.reverse ++ .ref b :: rest)) (As := As) (rest := rest) (b := b) C.1 (hM H.size) cw ⟨zv_blind D cl tyc wc H.size _, fun U hU hW => ⟨rfl, by rw [hU], by rw [hU]; exact hPc, va_K.moved hW.alike hKc, hDc.weaken (fun _ _ _ _ => trivial)⟩⟩ rfl hnA h.1 rfl (lv_room hroom) hdg hcs
  intro T hT X
  obtain ⟨v, st₀, t, T', L, h0, X', hL, e1, e2, ⟨⟨v', w, hv, hpo, hP1, hD1⟩, hz, hk⟩, stp⟩ := hr T hT X
  cases hv
  rw [h0] at hz hk
  have hz1 : H.size ≤ T'.heap.size := by rw [e1]; exact hz
  obtain ⟨hPj, hDj⟩ := va_join (H1 := T'.heap) hP hD isC isR hC hRr hnR hdis (fun q h1 h2 => by rw [e1]; exact hk q h1 h2) hFc (by rw [e1]; exact hP1) hD1
  obtain ⟨t2, a1, b1⟩ := kk v w hpo T'.heap (locs ++ L) ls hK hPj hDj ⟨Nat.le_trans hS.1 hz1, fun q h1 h2 => by rw [e1, hk q (Nat.lt_of_lt_of_le h1 hS.1) (fun z => h2 (hFc q z))]; exact hS.2.1 q h1 h2, fun q hq => by
    rcases List.mem_append.mp hq with h | h
    · exact hS.2.2 q h
    · exact hFc _ (hL q h)⟩ h T' rfl X'
  exact ⟨t2, stp t2 a1, b1⟩
theorem zv_mmax (C : zv_C p m c cc nL s args Ts own A) {index : Nat} {x y : Int32} (hdg : decode cc pc = .ok (.invokestatic index, 3)) (n : Nat) (hn : pc + 3 = n) (hlink : Cond.methodLink own index Lib.Math.max.name ∈ Ts) (hstat : Cond.static Lib.Math.max.name ∈ Ts) (hini : Cond.initialized "java/lang/Math" ∈ Ts) (hcode : Cond.code Lib.Math.max.name Lib.Math.max.code 2 (some .int) ∈ Ts) (hfr : 1 ≤ R.frames) (hlo : (st.map fun v => v.category).sum + 13 ≤ R.locals) (hc : kc ≤ R.cells) (hs : ns ≤ R.slots) (kk : zv_V p l e R s m args below meth c Q nL D cl A B tys ws kc ns n lv (.int (if x < y then y else x) :: st)) : zv_V p l e R s m args below meth c Q nL D cl A B tys ws kc ns pc lv (.int y :: .int x :: st) := by
  subst hn
  exact fun H locs ls hK hP hD hS h => va_mmax C.1.1 C.1.2.1 (C.1.2.2.1.trans h.1.symm) C.1.2.2.2.1 (C.1.2.2.2.2 _ hlink) (C.1.2.2.2.2 _ hstat) (C.1.2.2.2.2 _ hini) (C.1.2.2.2.2 _ hcode) hfr hlo hc hs hdg (kk H locs ls hK hP hD hS h)
theorem zv_mmin (C : zv_C p m c cc nL s args Ts own A) {index : Nat} {x y : Int32} (hdg : decode cc pc = .ok (.invokestatic index, 3)) (n : Nat) (hn : pc + 3 = n) (hlink : Cond.methodLink own index Lib.Math.min.name ∈ Ts) (hstat : Cond.static Lib.Math.min.name ∈ Ts) (hini : Cond.initialized "java/lang/Math" ∈ Ts) (hcode : Cond.code Lib.Math.min.name Lib.Math.min.code 2 (some .int) ∈ Ts) (hfr : 1 ≤ R.frames) (hlo : (st.map fun v => v.category).sum + 13 ≤ R.locals) (hc : kc ≤ R.cells) (hs : ns ≤ R.slots) (kk : zv_V p l e R s m args below meth c Q nL D cl A B tys ws kc ns n lv (.int (if y < x then y else x) :: st)) : zv_V p l e R s m args below meth c Q nL D cl A B tys ws kc ns pc lv (.int y :: .int x :: st) := by
  subst hn
  exact fun H locs ls hK hP hD hS h => va_mmin C.1.1 C.1.2.1 (C.1.2.2.1.trans h.1.symm) C.1.2.2.2.1 (C.1.2.2.2.2 _ hlink) (C.1.2.2.2.2 _ hstat) (C.1.2.2.2.2 _ hini) (C.1.2.2.2.2 _ hcode) hfr hlo hc hs hdg (kk H locs ls hK hP hD hS h)
end ZV3
end
section
/-! ===== int[3][n]: the instruction that makes an array of three arrays ===== -/
def zq_o (c : ClassId) (h : Nat) : Nat → Cell
  | 0 => { cls := c, slots := Array.replicate 3 .null, vm := .none }
  | i + 1 => (zq_o c h i).setSlot i (.ref (h + 1 + i))
def zq_s (s : State) (c comp : ClassId) (K : Nat) : Nat → State
  | 0 => s.pushCell (zq_o c s.heap.size 0)
  | i + 1 => ((zq_s s c comp K i).pushCell { cls := comp, slots := Array.replicate K (.int 0), vm := .none }).setCell s.heap.size (zq_o c s.heap.size (i + 1))
theorem zq_oE (c : ClassId) (h : Nat) : ∀ i, (zq_o c h i).cls = c ∧ (zq_o c h i).vm = .none ∧ (zq_o c h i).slots.size = 3
  | 0 => ⟨rfl, rfl, by simp [zq_o]⟩
  | i + 1 => by
    obtain ⟨a, b, d⟩ := zq_oE c h i
    exact ⟨by simp [zq_o, Cell.setSlot, a], by simp [zq_o, Cell.setSlot, b], by simp [zq_o, Cell.setSlot, d]⟩
theorem zq_sE (s : State) (c comp : ClassId) (K : Nat) : ∀ i, (zq_s s c comp K i).heap.size = s.heap.size + 1 + i ∧ (zq_s s c comp K i).heap[s.heap.size]? = some (zq_o c s.heap.size i) ∧ (zq_s s c comp K i).vm = s.vm ∧ (zq_s s c comp K i).slotsUsed = s.slotsUsed + 3 + i * K
  | 0 => ⟨by simp [zq_s], by simp [zq_s], rfl, by simp [zq_s, zq_o]⟩
  | i + 1 => by
    obtain ⟨a, b, d, u⟩ := zq_sE s c comp K i
    have hl : s.heap.size < (zq_s s c comp K i).heap.size := by omega
    refine ⟨?_, ?_, by simp [zq_s, d], ?_⟩
    · simp [zq_s, State.setCell, a]; omega
    · show (((zq_s s c comp K i).pushCell _).setCell s.heap.size _).heap[s.heap.size]? = _
      exact State.heap_setCell_self (by rw [State.heap_pushCell_of_lt (h := hl)]; exact b)
    · simp [zq_s, u, Nat.succ_mul]; omega
theorem zq_top (s : State) (f : JFrame) (c comp : ClassId) (K : Nat) : ∀ i, zq_s (s.setTop f) c comp K i = (zq_s s c comp K i).setTop f
  | 0 => rfl
  | i + 1 => by simp only [zq_s, zq_top s f c comp K i, State.heap_setTop, State.pushCell_setTop, State.setCell_setTop]
theorem zq_old (s : State) (c comp : ClassId) (K : Nat) {a : Nat} (ha : a < s.heap.size) : ∀ i, (zq_s s c comp K i).heap[a]? = s.heap[a]?
  | 0 => State.heap_pushCell_of_lt _ _ ha
  | i + 1 => by
    have hl : a < (zq_s s c comp K i).heap.size := by rw [(zq_sE s c comp K i).1]; omega
    show (((zq_s s c comp K i).pushCell _).setCell s.heap.size _).heap[a]? = _
    rw [State.heap_setCell_other (Nat.ne_of_gt ha), State.heap_pushCell_of_lt (h := hl)]
    exact zq_old s c comp K ha i
theorem zq_new (s : State) (c comp : ClassId) (K : Nat) : ∀ i j, j < i → (zq_s s c comp K i).heap[s.heap.size + 1 + j]? = some { cls := comp, slots := Array.replicate K (.int 0), vm := .none }
  | 0, _, h => absurd h (Nat.not_lt_zero _)
  | i + 1, j, h => by
    have f1 := (zq_sE s c comp K i).1
    show (((zq_s s c comp K i).pushCell _).setCell s.heap.size _).heap[s.heap.size + 1 + j]? = _
    rw [State.heap_setCell_other (show s.heap.size ≠ s.heap.size + 1 + j by omega)]
    by_cases e : j = i
    · subst e
      rw [← f1]
      exact State.heap_pushCell_size _ _
    · have hl : s.heap.size + 1 + j < (zq_s s c comp K i).heap.size := by rw [f1]; omega
      rw [State.heap_pushCell_of_lt (h := hl)]
      exact zq_new s c comp K i j (by omega)
section ZQW
variable {E : CtlPost} {e : Env} {d : Bool} {acts : List Action} {s : State}
theorem zq_make {c comp cc : ClassId} {k kc : Class} {K : Int32} (hk : s.vm.classes[c]? = some k) (hkind : k.kind = .array comp (.array .int)) (hkc : s.vm.classes[comp]? = some kc) (hkindc : kc.kind = .array cc .int) (hK : ¬ K < 0)
    (hl1 : ¬ 3 > e.platform.arrayLengthLimit) (hh1 : ¬ 3 * componentBytes (.array .int) > e.platform.maxHeapBytes) (hl2 : ¬ K.toNatClampNeg > e.platform.arrayLengthLimit) (hh2 : ¬ K.toNatClampNeg * componentBytes .int > e.platform.maxHeapBytes)
    (hc : s.heap.size + 4 ≤ e.platform.maxCells) (hs : s.slotsUsed + 3 + 3 * K.toNatClampNeg ≤ e.platform.maxSlots) {Q : Addr → Pre} (hq : ∀ d' acts', Q s.heap.size d' acts' (zq_s s c comp K.toNatClampNeg 3)) : wp (multianewarray.make c [3, K]) Q E e d acts s := by
  have e3 : (3 : Int32).toNatClampNeg = 3 := by decide
  have n3 : ¬ (3 : Int32) < 0 := by decide
  have hfind : ([K].find? (· < 0)) = none := by simp [hK]
  rw [multianewarray.make]
  simp only [wp_bind', W.ite, n3, if_false, wp_pure', W.theClass, hk, hkind, Option.some.injEq, exists_eq_left', e3]
  refine W.newArray_of hk hkind hl1 hh1 (by omega) (by omega) rfl (fun acts1 => ?_)
  simp only [hfind]
  rw [ite_self, wp_bind', Std.Legacy.Range.forIn_eq_forIn_range']
  show wp (forIn (List.range' 0 3 1) PUnit.unit _) _ E e d acts1 _
  refine wp_forIn_inv (fun rest s' => ∃ i, i ≤ 3 ∧ rest = List.range' i (3 - i) ∧ s' = zq_s s c comp K.toNatClampNeg i) _ _ ⟨0, by omega, rfl, rfl⟩ ?_ ?_
  · rintro x rest s' d' acts' Q' ⟨i, hi, hl, rfl⟩ hnext
    have hi3 : i < 3 := by
      rcases Nat.lt_or_ge i 3 with h | h
      · exact h
      · rw [show 3 - i = 0 from by omega] at hl; simp at hl
    have hx : x = i ∧ rest = List.range' (i + 1) (3 - (i + 1)) := by
      rw [show 3 - i = (3 - (i + 1)) + 1 from by omega, List.range'_succ] at hl
      exact ⟨(List.cons.inj hl).1, (List.cons.inj hl).2⟩
    obtain ⟨rfl, hrest⟩ := hx
    obtain ⟨f1, f2, f3, f4⟩ := zq_sE s c comp K.toNatClampNeg x
    obtain ⟨o1, o2, o3⟩ := zq_oE c s.heap.size x
    have hm : x * K.toNatClampNeg + K.toNatClampNeg ≤ 3 * K.toNatClampNeg := by
      have := Nat.mul_le_mul_right K.toNatClampNeg (show x + 1 ≤ 3 by omega)
      rw [Nat.succ_mul] at this; exact this
    simp only [wp_bind']
    rw [multianewarray.make]
    simp only [wp_bind', W.ite, hK, if_false, wp_pure', W.theClass, f3, hkc, hkindc, Option.some.injEq, exists_eq_left']
    refine W.newArray_of (by rw [f3]; exact hkc) hkindc hl2 hh2 (by rw [f1]; omega) (by rw [f4]; omega) rfl (fun acts2 => ?_)
    have hl0 : s.heap.size < (zq_s s c comp K.toNatClampNeg x).heap.size := by rw [f1]; omega
    simp only [wp_bind', W.writeLoc, wp_pure']
    refine ⟨zq_o c s.heap.size x, by rw [State.heap_pushCell_of_lt (h := hl0)]; exact f2, by rw [o2]; simp, by rw [o3]; exact hi3, ?_, hnext _ _ _ ⟨x + 1, hi3, hrest, ?_⟩⟩
    · rw [o1, o2]
      simp [State.fitsSlot, State.slotType?, f3, hk, hkind, fits]
    · rw [f1]; rfl
  · rintro s' d' acts' ⟨i, hi, hl, rfl⟩
    have hi3 : i = 3 := by
      rcases Nat.lt_or_ge i 3 with h | h
      · rw [show 3 - i = (3 - (i + 1)) + 1 from by omega, List.range'_succ] at hl; cases hl
      · omega
    subst hi3
    simp only [wp_pure']
    exact hq _ _
end ZQW
section ZQS
variable {p : Program} {l : Launch} {e : Env} {R : Room} {s : State} {m : MethodId} {args : Array Value} {below : List Frame} {meth : Method} {c : Code} {T : State} {locs : List Loc} {cells slots : Nat}
theorem zq_stand (X : Stand p l e R s m args below meth c T locs cells slots) (cA comp : ClassId) (K : Nat) : ∀ i, Stand p l e R s m args below meth c (zq_s T cA comp K i) (locs ++ (List.range i).map fun j => ⟨T.heap.size, j⟩) (cells + 1 + i) (slots + 3 + i * K)
  | 0 => by
    have h := X.pushed (zq_o cA T.heap.size 0)
    rw [(zq_oE cA T.heap.size 0).2.2] at h
    simpa [zq_s] using h
  | i + 1 => by
    have Xi := zq_stand X cA comp K i
    obtain ⟨f1, f2, f3, f4⟩ := zq_sE T cA comp K i
    have hl : T.heap.size < (zq_s T cA comp K i).heap.size := by rw [f1]; omega
    have hcell : ((zq_s T cA comp K i).pushCell { cls := comp, slots := Array.replicate K (.int 0), vm := .none }).heap[T.heap.size]? = some (zq_o cA T.heap.size i) := by rw [State.heap_pushCell_of_lt (h := hl)]; exact f2
    have h := (Xi.pushed { cls := comp, slots := Array.replicate K (.int 0), vm := .none }).stored hcell i (.ref (T.heap.size + 1 + i))
    have e1 : (Array.replicate K (Value.int 0)).size = K := by simp
    rw [e1] at h
    have e2 : (locs ++ (List.range (i + 1)).map fun j => (⟨T.heap.size, j⟩ : Loc)) = (locs ++ (List.range i).map fun j => (⟨T.heap.size, j⟩ : Loc)) ++ [⟨T.heap.size, i⟩] := by simp [List.range_succ, List.append_assoc]
    have e3 : slots + 3 + (i + 1) * K = slots + 3 + i * K + K := by rw [Nat.succ_mul]; omega
    rw [e2, e3]
    exact h
theorem zq_step (X : Stand p l e R s m args below meth c T locs cells slots) (hexec : p.tables.exec = Jvm.exec) {own : String} {index : Nat} (hown : s.vm.findClass own = some m.cls) (hclink : (Cond.classLink own index "[[I").before args s = true) (hover : (Cond.arrayOver (.array .int)).before args s = true) (harr : (Cond.arrayClass .int).before args s = true)
    {g : JFrame} (hg : g.method = m) (hdg : decode c.code g.pc = .ok (.multianewarray index 2, 4)) {K : Int32} {rest : List Value} (hstack : g.stack = .int K :: .int 3 :: rest) (hK : ¬ K < 0) (hb : K.toNatClampNeg ≤ 16) (hcells : cells + 4 ≤ R.cells) (hslots : slots + (3 + 3 * K.toNatClampNeg) ≤ R.slots) :
    ∃ (vm₁ : Vm) (cA comp : ClassId), s.vm.findClass "[[I" = some cA ∧ s.vm.findClass "[I" = some comp ∧
      Stand p l e R s m args below meth c (zq_s (T.setVm vm₁) cA comp K.toNatClampNeg 3) locs (cells + 4) (slots + 3 + 3 * K.toNatClampNeg) ∧
      ∀ target, Steps p.tables e below ((zq_s (T.setVm vm₁) cA comp K.toNatClampNeg 3).setTop { g with pc := g.pc + 4, stack := .ref T.heap.size :: rest }) target → Steps p.tables e below (T.setTop g) target := by
  subst hg
  have hpl : e.platform.magicAccessors = ({} : Platform).magicAccessors := by rw [X.admits.platform]
  obtain ⟨comp, cA, kA, hcomp, -, hkA, hkindA, hnameA⟩ := arrayOverA_spec hover
  obtain ⟨comp', kC, cc, hcomp', hkC, hkindC⟩ := Cond.arrayClass_spec harr
  have ecomp : comp' = comp := Option.some.inj (hcomp'.symm.trans hcomp)
  subst ecomp
  obtain ⟨c0, hfc0, hcl⟩ := Cond.classLink_spec hown hclink e.platform hpl
  have e0 : c0 = cA := Option.some.inj (hfc0.symm.trans hnameA)
  subst e0
  obtain ⟨hg₁, hwarm₁, hready₁⟩ := State.classEntry (e := e) X.warmed hcl
  generalize T.vm.noted g.method.cls index (.cls c0) = vm₁ at hg₁ hwarm₁ hready₁
  have hal : s.vm.Alike vm₁ := hwarm₁.alike
  obtain ⟨kA₁, hkA₁, heA⟩ := hal.2.2 _ _ hkA
  obtain ⟨kC₁, hkC₁, heC⟩ := hal.2.2 _ _ hkC
  have hkindA₁ : kA₁.kind = .array comp' (.array .int) := by rw [heA]; exact hkindA
  have hkindC₁ : kC₁.kind = .array cc .int := by rw [heC]; exact hkindC
  have X₁ := X.noted hwarm₁
  obtain ⟨hr1, hr2⟩ := X.roomAbove hcells hslots
  have XF := zq_stand X₁ c0 comp' K.toNatClampNeg 3
  refine ⟨vm₁, c0, comp', hfc0, hcomp, XF.dropFresh (fun x hx => ?_), fun target hrest => ?_⟩
  · obtain ⟨j, -, rfl⟩ := List.mem_map.mp hx
    exact X₁.heapGrown
  have hl1 : ¬ 3 > e.platform.arrayLengthLimit := by rw [Launch.admits_arrayLengthLimit X.admits]; omega
  have hh1 : ¬ 3 * componentBytes (.array .int) > e.platform.maxHeapBytes := by
    rw [Launch.admits_maxHeapBytes X.admits]; show ¬ 3 * 4 > 536870912; omega
  have hl2 : ¬ K.toNatClampNeg > e.platform.arrayLengthLimit := by rw [Launch.admits_arrayLengthLimit X.admits]; omega
  have hh2 : ¬ K.toNatClampNeg * componentBytes .int > e.platform.maxHeapBytes := by rw [Launch.admits_maxHeapBytes X.admits]; show ¬ K.toNatClampNeg * 4 > 536870912; omega
  jvm_step X.here [hexec, hdg]
  simp only [multianewarray.sem, wp_bind', W.resolveClassAt_links (State.method?_setTop g X.here.top) hg₁]
  rw [W.popN, if_neg (by decide)]
  refine ⟨g, State.topJava?_setTop' (s := T.setVm vm₁) g X.here.top, [.int 3, .int K], rest, rfl, hstack, ?_⟩
  simp only [List.mapM_cons, List.mapM_nil, wp_bind', wp_pure']
  refine zq_make (k := kA₁) (kc := kC₁) (comp := comp') (cc := cc) hkA₁ hkindA₁ hkC₁ hkindC₁ hK hl1 hh1 hl2 hh2 (by show T.heap.size + 4 ≤ _; omega) (by show T.slotsUsed + 3 + _ ≤ _; omega) (fun d' acts' => ?_)
  have eS : ((T.setTop g).setVm vm₁).setTop { g with stack := rest } = (T.setVm vm₁).setTop { g with stack := rest } := by
    show ((T.setVm vm₁).setTop g).setTop _ = _
    rw [State.setTop_setTop]
  rw [eS, zq_top]
  simp only [wp_bind', W.mark, W.pushRef, State.topJava?_setTop' _ XF.here.top, Option.some.injEq, exists_eq_left', State.setTop_setTop, State.heap_setTop]
  intro acts
  simp [jvm, XF.here.top]
  exact hrest
end ZQS
end
section
/-! ===== worlds as lists of cells, in any order: parts of them, and calls that keep the rest ===== -/
theorem zn_P {D : va_G} {cl : List vw_C} {ws : va_W} {H : Heap} : va_P D cl ws H ↔ ∀ q ∈ ws, va_at D cl q H := ⟨fun h q hq => by
  obtain ⟨i, hi⟩ := List.getElem?_of_mem hq
  exact h i q hi, fun h k q hk => h q (List.mem_of_getElem? hk)⟩
theorem zn_D {A : Nat → Prop} {ws : va_W} : va_D A ws ↔ ws.Pairwise (fun p q => ¬ p.1 = q.1) ∧ ∀ q ∈ ws, A q.1 := by
  constructor
  · intro h
    refine ⟨List.pairwise_iff_getElem.mpr (fun i j hi hj hij e => ?_), fun q hq => ?_⟩
    · have := h.1 i j _ _ (List.getElem?_eq_getElem hi) (List.getElem?_eq_getElem hj) e
      omega
    · obtain ⟨i, hi⟩ := List.getElem?_of_mem hq
      exact h.2 i q hi
  · rintro ⟨h1, h2⟩
    have hp := List.pairwise_iff_getElem.mp h1
    refine ⟨fun i j p q hi hj e => ?_, fun k q hk => h2 q (List.mem_of_getElem? hk)⟩
    obtain ⟨li, ei⟩ := List.getElem?_eq_some_iff.mp hi
    obtain ⟨lj, ej⟩ := List.getElem?_eq_some_iff.mp hj
    rcases Nat.lt_trichotomy i j with z | z | z
    · exact absurd (by rw [ei, ej]; exact e) (hp i j li lj z)
    · exact z
    · exact absurd (by rw [ei, ej]; exact e.symm) (hp j i lj li z)
theorem zn_Psub {D : va_G} {cl : List vw_C} {ws wc : va_W} {H : Heap} (h : va_P D cl ws H) (hs : wc.Sublist ws) : va_P D cl wc H := zn_P.mpr (fun q hq => zn_P.mp h q (hs.subset hq))
theorem zn_Dsub {A : Nat → Prop} {ws wc : va_W} (h : va_D A ws) (hs : wc.Sublist ws) : va_D A wc := by
  have h1 := zn_D.mp h
  exact zn_D.mpr ⟨h1.1.sublist hs, fun q hq => h1.2 q (hs.subset hq)⟩
theorem zn_Dperm {A : Nat → Prop} {ws wc : va_W} (h : va_D A ws) (hs : ws.Perm wc) : va_D A wc := by
  have h1 := zn_D.mp h
  exact zn_D.mpr ⟨(hs.pairwise_iff (fun {a b} (z : ¬ a.1 = b.1) e => z e.symm)).mp h1.1, fun q hq => h1.2 q (hs.mem_iff.mpr hq)⟩
theorem zn_Pperm {D : va_G} {cl : List vw_C} {ws wc : va_W} {H : Heap} (h : va_P D cl ws H) (hs : ws.Perm wc) : va_P D cl wc H := zn_P.mpr (fun q hq => zn_P.mp h q (hs.mem_iff.mpr hq))
theorem zn_ad {D : va_G} {cl : List vw_C} {ws : va_W} {H : Heap} (h : va_P D cl ws H) {q : Nat × va_E} (hq : q ∈ ws) : q.1 < H.size := (zn_P.mp h q hq).lt
/-- behind a call that may write the cells of wc -/
theorem zn_join {A0 : Nat → Prop} {D : va_G} {cl : List vw_C} {a wc b w : va_W} {H H1 : Heap} (hP : va_P D cl (a ++ (wc ++ b)) H) (hD : va_D A0 (a ++ (wc ++ b))) (hk : ∀ q : Nat, q < H.size → ¬ va_A wc H.size q → H1[q]? = H[q]?) (hF : ∀ q, va_A wc H.size q → A0 q) (hP1 : va_P D cl w H1) (hD1 : va_D (va_A wc H.size) w) : va_P D cl (a ++ (w ++ b)) H1 ∧ va_D A0 (a ++ (w ++ b)) := by
  have h0 := zn_D.mp hD
  have hp := h0.1
  rw [List.pairwise_append] at hp
  obtain ⟨pa, pcb, pab⟩ := hp
  rw [List.pairwise_append] at pcb
  obtain ⟨pc, pb, pcb⟩ := pcb
  have inA : ∀ q : Nat × va_E, q ∈ a ∨ q ∈ b → q.1 < H.size ∧ ¬ va_A wc H.size q.1 := by
    intro q hq
    have hm : q ∈ a ++ (wc ++ b) := by
      rcases hq with z | z
      · exact List.mem_append_left _ z
      · exact List.mem_append_right _ (List.mem_append_right _ z)
    have hl := zn_ad hP hm
    refine ⟨hl, ?_⟩
    rintro (⟨k, e, hke⟩ | z)
    · have hc : (q.1, e) ∈ wc := List.mem_of_getElem? hke
      rcases hq with z | z
      · exact pab q z (q.1, e) (List.mem_append_left _ hc) rfl
      · exact pcb (q.1, e) hc q z rfl
    · omega
  have h1 := zn_D.mp hD1
  constructor
  · refine zn_P.mpr (fun q hq => ?_)
    rcases List.mem_append.mp hq with z | z
    · have := inA q (Or.inl z)
      exact (zn_P.mp hP q (List.mem_append_left _ z)).kept (hk q.1 this.1 this.2)
    · rcases List.mem_append.mp z with z | z
      · exact zn_P.mp hP1 q z
      · have := inA q (Or.inr z)
        exact (zn_P.mp hP q (List.mem_append_right _ (List.mem_append_right _ z))).kept (hk q.1 this.1 this.2)
  · refine zn_D.mpr ⟨?_, fun q hq => ?_⟩
    · rw [List.pairwise_append]
      refine ⟨pa, ?_, fun x hx y hy => ?_⟩
      · rw [List.pairwise_append]
        refine ⟨h1.1, pb, fun x hx y hy e => ?_⟩
        exact (inA y (Or.inr hy)).2 (e ▸ h1.2 x hx)
      · rcases List.mem_append.mp hy with z | z
        · exact fun e => (inA x (Or.inl hx)).2 (e ▸ h1.2 y z)
        · exact pab x hx y (List.mem_append_right _ z)
    · rcases List.mem_append.mp hq with z | z
      · exact h0.2 q (List.mem_append_left _ z)
      · rcases List.mem_append.mp z with z | z
        · exact hF _ (h1.2 q z)
        · exact h0.2 q (List.mem_append_right _ (List.mem_append_right _ z))
/-- an end of a method that writes nothing old, and hands new cells back -/
def zv_n (D : va_G) (cl : List vw_C) (post : Option Value → va_W → Prop) : Array Value → State → Outcome → State → Prop := fun _ sa oc t => (∃ (v : Option Value) (w : va_W), oc = .returned v ∧ post v w ∧ va_P D cl w t.heap ∧ va_D (fun q => sa.heap.size ≤ q) w) ∧ va_F (fun q => sa.heap.size ≤ q) sa t
def zv_NE (E : State → Prop) (l : Launch) (y : MethodName) (wy : List Cond) (rm : Room) (D : va_G) (cl : List vw_C) (tys : List (ClassId × FieldType)) (av : List Value) (ws : va_W) (post : Option Value → va_W → Prop) : Prop := ∀ sz : Nat, Met l y wy rm (va_Pc av (fun U => zv_pre D cl tys ws sz U ∧ E U)) (zv_n D cl post) rm.cells rm.slots (fun q => sz ≤ q)
def zv_RX (E : State → Prop) (l : Launch) (y : MethodName) (wy : List Cond) (rm : Room) (D : va_G) (cl : List vw_C) (tys : List (ClassId × FieldType)) (av : List Value) (ws : va_W) (post : Option Value → Prop) : Prop := ∀ sz : Nat, Met l y wy rm (va_Pc av (fun U => zv_pre D cl tys ws sz U ∧ E U)) (zv_r post) rm.cells rm.slots (fun q => sz ≤ q)
def zv_ME (E : State → Prop) (l : Launch) (y : MethodName) (wy : List Cond) (rm : Room) (D : va_G) (cl : List vw_C) (tys : List (ClassId × FieldType)) (av : List Value) (ws : va_W) (post : Option Value → va_W → Prop) : Prop := ∀ sz : Nat, Met l y wy rm (va_Pc av (fun U => zv_pre D cl tys ws sz U ∧ E U)) (zv_q D cl (va_A ws sz) post) rm.cells rm.slots (va_A ws sz)
/-- a fact of the start that calls keep -/
def zn_B (E : State → Prop) : Prop := ∀ (U : State) (g : JFrame) (mk : MethodId) (a : Array Value), E U → E (U.calling g mk a)
theorem zn_blind {E : State → Prop} (hb : zn_B E) (D : va_G) (cl : List vw_C) (tys : List (ClassId × FieldType)) (ws : va_W) (sz : Nat) (av : List Value) : FrameBlind (va_Pc av (fun U => zv_pre D cl tys ws sz U ∧ E U)) := fun a U g mk q => by
  obtain ⟨q0, ⟨q1, qP, qK, qD⟩, qE⟩ := q
  exact ⟨q0, ⟨q1, qP, va_K.moved (u := U) (U := U.calling g mk a) (Vm.Alike.refl U.vm) qK, qD⟩, hb U g mk a qE⟩
theorem zn_ofM {E : State → Prop} {l : Launch} {y : MethodName} {wy : List Cond} {rm : Room} {D : va_G} {cl : List vw_C} {tys : List (ClassId × FieldType)} {av : List Value} {ws : va_W} {post : Option Value → va_W → Prop} (h : zv_M l y wy rm D cl tys av ws post) : zv_ME E l y wy rm D cl tys av ws post := fun sz => MetFree.mono (h sz) (fun _ _ h => ⟨h.1, h.2.1⟩) (fun _ _ _ _ _ h => h) (fun _ _ _ _ _ h => h)
theorem zn_ofR {E : State → Prop} {l : Launch} {y : MethodName} {wy : List Cond} {rm : Room} {D : va_G} {cl : List vw_C} {tys : List (ClassId × FieldType)} {av : List Value} {ws : va_W} {post : Option Value → Prop} (h : zv_R l y wy rm D cl tys av ws post) : zv_RX E l y wy rm D cl tys av ws post := fun sz => MetFree.mono (h sz) (fun _ _ h => ⟨h.1, h.2.1⟩) (fun _ _ _ _ _ h => h) (fun _ _ _ _ _ h => h)
section ZNC
variable {p : Program} {l : Launch} {e : Env} {R : Room} {s : State} {m : MethodId} {args : Array Value} {below : List Frame} {meth : Method} {c : Code} {Q : State → Prop} {cc : ByteArray} {nL : Nat} {own : String} {Ts : List Cond} {A B : Nat → Prop} {D : va_G} {cl : List vw_C} {tys : List (ClassId × FieldType)} {ws : va_W} {kc ns pc n : Nat} {lv : List (Nat × Value)} {st : List Value}
/-- behind the three kinds of calls -/
theorem zn_cR {Av : Array Value} {g : JFrame} {mc ms : Nat} {rest : List Value} {H : Heap} {locs : List Loc} {ls : Array Slot} {post : Option Value → Prop} (C : zv_C p m c cc nL s args Ts own A) (hr : va_Run p l e R s m args below meth c H locs kc ns mc ms (F0 m pc ls st) rest (zv_r post Av) (fun q => H.size ≤ q)) (hK : va_K D cl tys s) (hP : va_P D cl ws H) (hD : va_D B ws) (hS : va_S A s.heap H locs) (h : lv_has ls nL lv) (kk : ∀ v : Option Value, post v → zv_V p l e R s m args below meth c Q nL D cl A B tys ws (kc + mc) (ns + ms) (pc + 3) lv (v.toList ++ rest)) : W p l e R s m args below meth c H locs kc ns Q (F0 m pc ls st) := by
  intro T hT X
  obtain ⟨v, st₀, t, T', L, h0, X', hL, e1, e2, ⟨⟨v', hv, hpo⟩, hz, hk⟩, stp⟩ := hr T hT X
  cases hv
  rw [h0] at hz hk
  have hz1 : H.size ≤ T'.heap.size := by rw [e1]; exact hz
  have hk1 : ∀ q, q < H.size → T'.heap[q]? = H[q]? := fun q h1 => by rw [e1]; exact hk q h1 (Nat.not_le.mpr h1)
  obtain ⟨t2, a1, b1⟩ := kk v hpo T'.heap (locs ++ L) ls hK (hP.kept (fun k q hq => hk1 q.1 (hP k q hq).lt)) hD ⟨Nat.le_trans hS.1 hz1, fun q h1 h2 => (hk1 q (Nat.lt_of_lt_of_le h1 hS.1)).trans (hS.2.1 q h1 h2), fun q hq => by
    rcases List.mem_append.mp hq with h | h
    · exact hS.2.2 q h
    · exact C.2 _ (Nat.le_trans hS.1 (hL q h))⟩ h T' rfl X'
  exact ⟨t2, stp t2 a1, b1⟩
theorem zn_cN {Av : Array Value} {g : JFrame} {mc ms : Nat} {rest : List Value} {H : Heap} {locs : List Loc} {ls : Array Slot} {post : Option Value → va_W → Prop} (C : zv_C p m c cc nL s args Ts own A) (hB : ∀ q, s.heap.size ≤ q → B q) (hr : va_Run p l e R s m args below meth c H locs kc ns mc ms (F0 m pc ls st) rest (zv_n D cl post Av) (fun q => H.size ≤ q)) (hK : va_K D cl tys s) (hP : va_P D cl ws H) (hD : va_D B ws) (hS : va_S A s.heap H locs) (h : lv_has ls nL lv) (kk : ∀ (v : Option Value) (w : va_W), post v w → (∀ q ∈ w, s.heap.size ≤ q.1) → zv_V p l e R s m args below meth c Q nL D cl A B tys (w ++ ws) (kc + mc) (ns + ms) (pc + 3) lv (v.toList ++ rest)) : W p l e R s m args below meth c H locs kc ns Q (F0 m pc ls st) := by
  intro T hT X
  obtain ⟨v, st₀, t, T', L, h0, X', hL, e1, e2, ⟨⟨v', w, hv, hpo, hP1, hD1⟩, hz, hk⟩, stp⟩ := hr T hT X
  cases hv
  rw [h0] at hz hk hD1
  have hz1 : H.size ≤ T'.heap.size := by rw [e1]; exact hz
  have hk1 : ∀ q, q < H.size → T'.heap[q]? = H[q]? := fun q h1 => by rw [e1]; exact hk q h1 (Nat.not_le.mpr h1)
  have hd := zn_D.mp hD1
  have hPj : va_P D cl (w ++ ws) T'.heap := va_P.app (by rw [e1]; exact hP1) (hP.kept (fun k q hq => hk1 q.1 (hP k q hq).lt))
  have hDj : va_D B (w ++ ws) := by
    have h2 := zn_D.mp hD
    refine zn_D.mpr ⟨?_, fun q hq => ?_⟩
    · rw [List.pairwise_append]
      refine ⟨hd.1, h2.1, fun x hx y hy e => ?_⟩
      have := hd.2 x hx
      have := zn_ad hP hy
      omega
    · rcases List.mem_append.mp hq with z | z
      · exact hB _ (Nat.le_trans hS.1 (hd.2 q z))
      · exact h2.2 q z
  obtain ⟨t2, a1, b1⟩ := kk v w hpo (fun q hq => Nat.le_trans hS.1 (hd.2 q hq)) T'.heap (locs ++ L) ls hK hPj hDj ⟨Nat.le_trans hS.1 hz1, fun q h1 h2 => (hk1 q (Nat.lt_of_lt_of_le h1 hS.1)).trans (hS.2.1 q h1 h2), fun q hq => by
    rcases List.mem_append.mp hq with h | h
    · exact hS.2.2 q h
    · exact C.2 _ (Nat.le_trans hS.1 (hL q h))⟩ h T' rfl X'
  exact ⟨t2, stp t2 a1, b1⟩
theorem zn_cM {Av : Array Value} {g : JFrame} {mc ms : Nat} {rest : List Value} {H : Heap} {locs : List Loc} {ls : Array Slot} {post : Option Value → va_W → Prop} {a wc b : va_W} (C : zv_C p m c cc nL s args Ts own A) (hr : va_Run p l e R s m args below meth c H locs kc ns mc ms (F0 m pc ls st) rest (zv_q D cl (va_A wc H.size) post Av) (va_A wc H.size)) (hK : va_K D cl tys s) (hP : va_P D cl (a ++ (wc ++ b)) H) (hD : va_D A (a ++ (wc ++ b))) (hS : va_S A s.heap H locs) (h : lv_has ls nL lv) (kk : ∀ (v : Option Value) (w : va_W), post v w → zv_V p l e R s m args below meth c Q nL D cl A A tys (a ++ (w ++ b)) (kc + mc) (ns + ms) (pc + 3) lv (v.toList ++ rest)) : W p l e R s m args below meth c H locs kc ns Q (F0 m pc ls st) := by
  have h0 := zn_D.mp hD
  have hFc : ∀ q, va_A wc H.size q → A q := by
    rintro q (⟨k, ev, hke⟩ | z)
    · exact h0.2 (q, ev) (List.mem_append_right _ (List.mem_append_left _ (List.mem_of_getElem? hke)))
    · exact C.2 q (Nat.le_trans hS.1 z)
  intro T hT X
  obtain ⟨v, st₀, t, T', L, hst, X', hL, e1, e2, ⟨⟨v', w, hv, hpo, hP1, hD1⟩, hz, hk⟩, stp⟩ := hr T hT X
  cases hv
  rw [hst] at hz hk
  have hz1 : H.size ≤ T'.heap.size := by rw [e1]; exact hz
  obtain ⟨hPj, hDj⟩ := zn_join (H1 := T'.heap) hP hD (fun q h1 h2 => by rw [e1]; exact hk q h1 h2) hFc (by rw [e1]; exact hP1) hD1
  obtain ⟨t2, a1, b1⟩ := kk v w hpo T'.heap (locs ++ L) ls hK hPj hDj ⟨Nat.le_trans hS.1 hz1, fun q h1 h2 => by rw [e1, hk q (Nat.lt_of_lt_of_le h1 hS.1) (fun z => h2 (hFc q z))]; exact hS.2.1 q h1 h2, fun q hq => by
    rcases List.mem_append.mp hq with h | h
    · exact hS.2.2 q h
    · exact hFc _ (hL q h)⟩ h T' rfl X'
  exact ⟨t2, stp t2 a1, b1⟩
/-- what a caller shows of E where it calls -/
def zn_E (A : Nat → Prop) (s : State) (E : State → Prop) : Prop := ∀ (H : Heap) (locs : List Loc) (U : State), va_S A s.heap H locs → U.heap = H → s.WarmedH U.vm → E U
end ZNC
end
section
/-! ===== rows for new arrays, arrays of arrays, and stores into what is new ===== -/
theorem zn_arr {c : ClassId} {N : Nat} {f g : Nat → Value} (h : ∀ j, j < N → f j = g j) : arrV c N f = arrV c N g := by
  have e : (fun j : Fin N => f j.val) = fun j : Fin N => g j.val := funext (fun j => h _ j.isLt)
  unfold arrV
  rw [e]
abbrev aq (f : Nat → Nat) : (Nat → Int32) ⊕ (Nat → Int64) ⊕ (Nat → UInt32) ⊕ (Nat → UInt64) ⊕ (Nat → Option Nat) := .inr (.inr (.inr (.inr (fun i => some (f i)))))
abbrev tyS (cI cZ cA : ClassId) : List (ClassId × FieldType) := [(cI, .int), (cZ, .boolean), (cA, .array .int)]
theorem zn_ra {U : State} {c1 c2 : ClassId} {t : FieldType} (h1 : va_RA U c1 (.array t)) (h2 : va_RA U c2 (.array t)) : c1 = c2 := Option.some.inj ((Eq.symm h1).trans h2)
theorem zn_asg (vm : Vm) (c : ClassId) : vm.assignable c c = true := by
  show vm.assignableAux (255 + 1) c c = true
  rw [Vm.assignableAux]
  simp
def va_AOA (t : FieldType) (U : State) : Prop := (Cond.arrayOver (.array t)).before #[] U = true
theorem zn_OB : zn_B (va_AOA .int) := fun _ _ _ _ h => h
theorem zn_OW {s U : State} (hW : s.WarmedH U.vm) (h : va_AOA .int s) : va_AOA .int U := by
  have h1 := Cond.arrayOver_setVmC (args := #[]) hW.alike (.array .int)
  unfold va_AOA at h ⊢
  rw [h] at h1
  exact h1
theorem zn_OE {A : Nat → Prop} {s : State} (h : va_AOA .int s) : zn_E A s (va_AOA .int) := fun _ _ _ _ _ hW => zn_OW hW h
theorem zn_TB : zn_B (fun _ => True) := fun _ _ _ _ _ => trivial
theorem zn_TE {A : Nat → Prop} {s : State} : zn_E A s (fun _ => True) := fun _ _ _ _ _ _ => trivial
section ZNR
variable {p : Program} {l : Launch} {e : Env} {R : Room} {s : State} {m : MethodId} {args : Array Value} {below : List Frame} {meth : Method} {c : Code} {Q : State → Prop} {cc : ByteArray} {nL : Nat} {own : String} {Ts : List Cond} {A B : Nat → Prop} {D : va_G} {cl : List vw_C} {tys : List (ClassId × FieldType)} {ws : va_W} {kc ns pc n : Nat} {lv : List (Nat × Value)} {st : List Value}
theorem zn_wP {ws' : va_W} (h1 : ∀ H, va_P D cl ws H → va_P D cl ws' H) (h2 : va_D B ws → va_D B ws') (kk : zv_V p l e R s m args below meth c Q nL D cl A B tys ws' kc ns pc lv st) : zv_V p l e R s m args below meth c Q nL D cl A B tys ws kc ns pc lv st := fun H locs ls hK hP hD hS h => kk H locs ls hK (h1 H hP) (h2 hD) hS h
theorem zn_perm {ws' : va_W} (hs : ws.Perm ws') (kk : zv_V p l e R s m args below meth c Q nL D cl A B tys ws' kc ns pc lv st) : zv_V p l e R s m args below meth c Q nL D cl A B tys ws kc ns pc lv st := zn_wP (fun _ h => zn_Pperm h hs) (fun h => zn_Dperm h hs) kk
theorem zn_part {ws' : va_W} (hs : ws'.Sublist ws) (kk : zv_V p l e R s m args below meth c Q nL D cl A B tys ws' kc ns pc lv st) : zv_V p l e R s m args below meth c Q nL D cl A B tys ws kc ns pc lv st := zn_wP (fun _ h => zn_Psub h hs) (fun h => zn_Dsub h hs) kk
theorem zn_push {D : va_G} {cl : List vw_C} {B : Nat → Prop} {ws : va_W} {ev : va_E} {H H1 : Heap} (hP : va_P D cl ws H) (hD : va_D B ws) (hB : B H.size) (o1 : ∀ q : Nat, q < H.size → H1[q]? = H[q]?) (he : va_at D cl (H.size, ev) H1) : va_P D cl ((H.size, ev) :: ws) H1 ∧ va_D B ((H.size, ev) :: ws) := by
  have h2 := zn_D.mp hD
  refine ⟨zn_P.mpr (fun q hq => ?_), zn_D.mpr ⟨List.pairwise_cons.mpr ⟨fun q hq e => ?_, h2.1⟩, fun q hq => ?_⟩⟩
  · rcases List.mem_cons.mp hq with z | z
    · subst z; exact he
    · exact (zn_P.mp hP q z).kept (o1 q.1 (zn_ad hP z))
  · have := zn_ad hP hq
    have e2 : H.size = q.1 := e
    omega
  · rcases List.mem_cons.mp hq with z | z
    · subst z; exact hB
    · exact h2.2 q z
theorem zn_newa (C : zv_C p m c cc nL s args Ts own A) (hB : ∀ q, s.heap.size ≤ q → B q) {atype : ArrayType} (harr : Cond.arrayClass (newarray.typeOf atype) ∈ Ts) {ty : FieldType} (hty : newarray.typeOf atype = ty) (hdg : decode cc pc = .ok (.newarray atype, 2)) (n : Nat) (hn : pc + 2 = n) {x : Int32} {N' : Nat} {a0 : vp_A} (ha : ∀ cA : ClassId, vp_cell cA a0 = arrV cA N' (fun _ => defaultValue ty)) (t0 : Nat) {cA : ClassId} (ht : tys[t0]? = some (cA, ty)) (hra : ∀ {U : State} {c1 : ClassId}, va_RA U c1 ty → U.vm.findClass ("[" ++ ty.toString) = some c1) (hx : ¬ x < 0) (hN : x.toNatClampNeg = N') (hbytes : N' * componentBytes ty ≤ 536870912) (hcells : kc + 1 ≤ R.cells) (hslots : ns + N' ≤ R.slots) (kk : ∀ q : Nat, s.heap.size ≤ q → zv_V p l e R s m args below meth c Q nL D cl A B tys ((q, .inl (cA, a0)) :: ws) (kc + 1) (ns + N') n lv (.ref q :: st)) : zv_V p l e R s m args below meth c Q nL D cl A B tys ws kc ns pc lv (.int x :: st) := by
  subst hn; subst hty
  intro H locs ls hK hP hD hS h
  refine va_newaK C.1.1 C.1.2.1 (C.1.2.2.2.2 _ harr) rfl hdg rfl hx hN hbytes hcells hslots rfl fun H1 cA2 e1 z1 o1 hAr hNm => ?_
  have he : cA2 = cA := Option.some.inj (hNm.symm.trans (hra (hK.2 t0 _ ht).2))
  subst he
  obtain ⟨hP1, hD1⟩ := zn_push (ev := .inl (cA2, a0)) (H1 := H1) hP hD (hB _ hS.1) o1 (by show H1[H.size]? = some (vp_cell _ _); rw [ha]; exact e1)
  exact kk H.size hS.1 H1 locs ls hK hP1 hD1 ⟨Nat.le_trans hS.1 (by omega), fun x h1 h2 => (o1 x (Nat.lt_of_lt_of_le h1 hS.1)).trans (hS.2.1 x h1 h2), hS.2.2⟩ h
theorem zn_anew (C : zv_C p m c cc nL s args Ts own A) (hB : ∀ q, s.heap.size ≤ q → B q) (hO : va_AOA .int s) {index : Nat} (hcl : Cond.classLink own index "[I" ∈ Ts) (hdg : decode cc pc = .ok (.anewarray index, 3)) (n : Nat) (hn : pc + 3 = n) {x : Int32} {N' : Nat} (t0 : Nat) {cA : ClassId} (ht : tys[t0]? = some (cA, .array .int)) (hx : ¬ x < 0) (hN : x.toNatClampNeg = N') (hbytes : N' * 4 ≤ 536870912) (hcells : kc + 1 ≤ R.cells) (hslots : ns + N' ≤ R.slots) (kk : ∀ q : Nat, s.heap.size ≤ q → zv_V p l e R s m args below meth c Q nL D cl A B tys ((q, .inl (cA, N', .inr (.inr (.inr (.inr (fun _ => none)))))) :: ws) (kc + 1) (ns + N') n lv (.ref q :: st)) : zv_V p l e R s m args below meth c Q nL D cl A B tys ws kc ns pc lv (.int x :: st) := by
  subst hn; subst hN
  intro H locs ls hK hP hD hS h
  refine W.anewA (t := .int) C.1.1 C.1.2.1 C.1.2.2.2.1 (C.1.2.2.2.2 _ hcl) hO rfl hdg rfl hx hbytes hcells hslots fun cA2 kA comp f1 f2 f3 f4 => ?_
  have he : cA2 = cA := Option.some.inj (f1.symm.trans (hK.2 t0 _ ht).2)
  subst he
  generalize hH1 : H.push ({ cls := cA2, slots := Array.replicate x.toNatClampNeg .null, vm := .none } : Cell) = H1
  have z1 : H1.size = H.size + 1 := by rw [← hH1, Array.size_push]
  have e1 : H1[H.size]? = some (arrV cA2 x.toNatClampNeg (fun _ => .null)) := by rw [← hH1, Array.getElem?_push_size, ← arrV_new]
  have o1 : ∀ q : Nat, q < H.size → H1[q]? = H[q]? := fun q hq => by rw [← hH1, Array.getElem?_push, if_neg (Nat.ne_of_lt hq)]
  obtain ⟨hP1, hD1⟩ := zn_push (ev := .inl (cA2, x.toNatClampNeg, .inr (.inr (.inr (.inr (fun _ => none)))))) (H1 := H1) hP hD (hB _ hS.1) o1 (by show H1[H.size]? = some (vp_cell _ _); rw [vp_cell_q]; exact e1)
  exact kk H.size hS.1 H1 locs ls hK hP1 hD1 ⟨Nat.le_trans hS.1 (by omega), fun x h1 h2 => (o1 x (Nat.lt_of_lt_of_le h1 hS.1)).trans (hS.2.1 x h1 h2), hS.2.2⟩ h
theorem zq_cell (c : ClassId) (h : Nat) : zq_o c h 3 = vp_cell c (3, aq (fun i => h + 1 + i)) := by
  rw [vp_cell_q]
  show (((({ cls := c, slots := Array.replicate 3 .null, vm := .none } : Cell).setSlot 0 (.ref (h + 1 + 0))).setSlot 1 (.ref (h + 1 + 1))).setSlot 2 (.ref (h + 1 + 2))) = _
  rw [arrV_new, arrV_store, arrV_store, arrV_store]
  refine zn_arr (fun j hj => ?_)
  have h3 : j = 0 ∨ j = 1 ∨ j = 2 := by omega
  rcases h3 with z | z | z <;> subst z <;> rfl
theorem zn_mna (C : zv_C p m c cc nL s args Ts own A) (hB : ∀ q, s.heap.size ≤ q → B q) (hO : va_AOA .int s) {index : Nat} (hcl : Cond.classLink own index "[[I" ∈ Ts) (harr : Cond.arrayClass .int ∈ Ts) (hdg : decode cc pc = .ok (.multianewarray index 2, 4)) (n : Nat) (hn : pc + 4 = n) {N' : Nat} (hN : N' ≤ 16) (t0 t1 : Nat) {cA cI : ClassId} (ht : tys[t0]? = some (cA, .array .int)) (hti : tys[t1]? = some (cI, .int)) (hcells : kc + 4 ≤ R.cells) (hslots : ns + (3 + 3 * N') ≤ R.slots) (kk : ∀ (q : Nat), s.heap.size ≤ q → zv_V p l e R s m args below meth c Q nL D cl A B tys ((q, .inl (cA, 3, aq (fun i => q + 1 + i))) :: (q + 1, .inl (cI, N', .inl (fun _ => 0))) :: (q + 2, .inl (cI, N', .inl (fun _ => 0))) :: (q + 3, .inl (cI, N', .inl (fun _ => 0))) :: ws) (kc + 4) (ns + (3 + 3 * N')) n lv (.ref q :: st)) : zv_V p l e R s m args below meth c Q nL D cl A B tys ws kc ns pc lv (.int (nI N') :: .int 3 :: st) := by
  subst hn
  intro H locs ls hK hP hD hS h T hT X
  have hc : (nI N').toNatClampNeg = N' := nI_clamp (by omega)
  obtain ⟨vm₁, cA2, comp, f1, f2, X', stp⟩ := zq_step X C.1.1 C.1.2.2.2.1 (C.1.2.2.2.2 _ hcl) hO (C.1.2.2.2.2 _ harr) (g := F0 m pc ls (.int (nI N') :: .int 3 :: st)) rfl (by rw [C.1.2.1]; exact hdg) rfl (nI_nneg (by omega)) (by omega) hcells (by rw [hc]; exact hslots)
  rw [hc] at X' stp
  have e1 : cA2 = cA := Option.some.inj (f1.symm.trans (hK.2 t0 _ ht).2)
  have e2 : comp = cI := Option.some.inj (f2.symm.trans (hK.2 t1 _ hti).2)
  subst e1; subst e2
  have hTh : (T.setVm vm₁).heap = H := hT
  generalize hF : zq_s (T.setVm vm₁) cA2 comp N' 3 = F at X' stp
  obtain ⟨z1, z2, -, -⟩ := zq_sE (T.setVm vm₁) cA2 comp N' 3
  have hold : ∀ q : Nat, q < H.size → F.heap[q]? = H[q]? := fun q hq => by
    have := zq_old (T.setVm vm₁) cA2 comp N' (a := q) (by rw [hTh]; exact hq) 3
    rw [hF, hTh] at this
    exact this
  have hrow : ∀ j : Nat, j < 3 → F.heap[H.size + 1 + j]? = some (vp_cell comp (N', .inl (fun _ => 0))) := fun j hj => by
    have := zq_new (T.setVm vm₁) cA2 comp N' 3 j hj
    rw [hF, hTh] at this
    rw [this, vp_cell_i, arrV_new]
  rw [hF, hTh] at z1 z2
  rw [zq_cell] at z2
  have hsz : s.heap.size ≤ H.size := hS.1
  have h2 := zn_D.mp hD
  have hP1 : va_P D cl ((H.size, .inl (cA2, 3, aq (fun i => H.size + 1 + i))) :: (H.size + 1, .inl (comp, N', .inl (fun _ => 0))) :: (H.size + 2, .inl (comp, N', .inl (fun _ => 0))) :: (H.size + 3, .inl (comp, N', .inl (fun _ => 0))) :: ws) F.heap := zn_P.mpr (fun q hq => by
    rcases List.mem_cons.mp hq with z | hq
    · subst z; exact z2
    rcases List.mem_cons.mp hq with z | hq
    · subst z; exact hrow 0 (by omega)
    rcases List.mem_cons.mp hq with z | hq
    · subst z; exact hrow 1 (by omega)
    rcases List.mem_cons.mp hq with z | hq
    · subst z; exact hrow 2 (by omega)
    exact (zn_P.mp hP q hq).kept (hold q.1 (zn_ad hP hq)))
  have hD1 : va_D B ((H.size, .inl (cA2, 3, aq (fun i => H.size + 1 + i))) :: (H.size + 1, .inl (comp, N', .inl (fun _ => 0))) :: (H.size + 2, .inl (comp, N', .inl (fun _ => 0))) :: (H.size + 3, .inl (comp, N', .inl (fun _ => 0))) :: ws) := by
    refine zn_D.mpr ⟨?_, fun q hq => ?_⟩
    · have hw : ∀ (k : Nat) (q : Nat × va_E), q ∈ ws → ¬ H.size + k = q.1 := fun k q hq e2 => by
        have h9 := zn_ad hP hq
        omega
      refine List.pairwise_cons.mpr ⟨fun q hq => ?_, List.pairwise_cons.mpr ⟨fun q hq => ?_, List.pairwise_cons.mpr ⟨fun q hq => ?_, List.pairwise_cons.mpr ⟨fun q hq => hw 3 q hq, h2.1⟩⟩⟩⟩
      · rcases List.mem_cons.mp hq with z | hq
        · subst z; exact Nat.ne_of_lt (Nat.lt_add_of_pos_right (by omega))
        rcases List.mem_cons.mp hq with z | hq
        · subst z; exact Nat.ne_of_lt (Nat.lt_add_of_pos_right (by omega))
        rcases List.mem_cons.mp hq with z | hq
        · subst z; exact Nat.ne_of_lt (Nat.lt_add_of_pos_right (by omega))
        exact hw 0 q hq
      · rcases List.mem_cons.mp hq with z | hq
        · subst z; exact Nat.ne_of_lt (by show H.size + 1 < H.size + 2; omega)
        rcases List.mem_cons.mp hq with z | hq
        · subst z; exact Nat.ne_of_lt (by show H.size + 1 < H.size + 3; omega)
        exact hw 1 q hq
      · rcases List.mem_cons.mp hq with z | hq
        · subst z; exact Nat.ne_of_lt (by show H.size + 2 < H.size + 3; omega)
        exact hw 2 q hq
    · rcases List.mem_cons.mp hq with z | hq
      · subst z; exact hB _ hsz
      rcases List.mem_cons.mp hq with z | hq
      · subst z; exact hB _ (by show s.heap.size ≤ H.size + 1; omega)
      rcases List.mem_cons.mp hq with z | hq
      · subst z; exact hB _ (by show s.heap.size ≤ H.size + 2; omega)
      rcases List.mem_cons.mp hq with z | hq
      · subst z; exact hB _ (by show s.heap.size ≤ H.size + 3; omega)
      exact h2.2 q hq
  have X2 : Stand p l e R s m args below meth c F locs (kc + 4) (ns + (3 + 3 * N')) := by rw [← Nat.add_assoc]; exact X'
  obtain ⟨t, a1, b1⟩ := kk H.size hsz F.heap locs ls hK hP1 hD1 ⟨by omega, fun x h1 h2 => (hold x (Nat.lt_of_lt_of_le h1 hsz)).trans (hS.2.1 x h1 h2), hS.2.2⟩ h F rfl X2
  refine ⟨t, stp t ?_, b1⟩
  rw [show T.heap.size = H.size by rw [hT]]
  exact a1
theorem zn_aald (C : zv_C p m c cc nL s args Ts own A) {a N : Nat} {cA : ClassId} {f : Nat → Option Nat} {i : Int32} {r : Nat} (hdg : decode cc pc = .ok (.aaload, 1)) (n : Nat) (hn : pc + 1 = n) (q0 t0 j : Nat) (ha : ws[q0]? = some (a, .inl (cA, N, .inr (.inr (.inr (.inr f)))))) (ht : tys[t0]? = some (cA, .array .int)) (hi : i = nI j) (hj : j < N) (hN : N < 2 ^ 31) (hv : f j = some r) (kk : zv_V p l e R s m args below meth c Q nL D cl A B tys ws kc ns n lv (.ref r :: st)) : zv_V p l e R s m args below meth c Q nL D cl A B tys ws kc ns pc lv (.int i :: .ref a :: st) := by
  subst hn
  obtain ⟨h1, h2⟩ := zv_in hi hj hN
  have hlt : i.toNatClampNeg < N := by rw [h2]; exact hj
  exact fun H locs ls hK hP hD hS h => W.aald (v := .ref r) (ty := .array .int) C.1.1 C.1.2.1 (hP q0 _ ha) ((hK.2 t0 _ ht).1 N (fun j => va_rf (f j))) rfl (fun q => by cases q) (by show ¬ (i < 0 ∨ (arrV _ _ _).slots.size ≤ _); rw [arrV_size]; exact h1) (by show (arrV _ _ _).slots[_]? = _; rw [arrV_read _ _ hlt, h2, hv]; rfl) rfl rfl hdg (kk H locs ls hK hP hD hS h)
theorem zn_iast (C : zv_C p m c cc nL s args Ts own A) {a N : Nat} {cA : ClassId} {f : Nat → Int32} {i x x' : Int32} (hdg : decode cc pc = .ok (.iastore, 1)) (n : Nat) (hn : pc + 1 = n) (q0 t0 j : Nat) (ha : ws[q0]? = some (a, .inl (cA, N, .inl f))) (hAa : A a) (ht : tys[t0]? = some (cA, .int)) (hi : i = nI j) (hj : j < N) (hN : N < 2 ^ 31) (hx : x = x') (ws' : va_W) (hw : ws.set q0 (a, .inl (cA, N, .inl (upd f j x'))) = ws') (kk : zv_V p l e R s m args below meth c Q nL D cl A B tys ws' kc ns n lv st) : zv_V p l e R s m args below meth c Q nL D cl A B tys ws kc ns pc lv (.int x :: .int i :: .ref a :: st) := by
  subst hn; subst hw; subst hx
  obtain ⟨h1, h2⟩ := zv_in hi hj hN
  subst h2
  intro H locs ls hK hP hD hS h
  refine W.iast C.1.1 C.1.2.1 (hP q0 _ ha) ((hK.2 t0 _ ht).1 N (fun j => .int (f j))) (fun q => by cases q) (by show ¬ (i < 0 ∨ (arrV _ _ _).slots.size ≤ _); rw [arrV_size]; exact h1) rfl rfl hdg fun H1 e z oq => ?_
  refine kk H1 _ ls hK (hP.set hD ha ?_ oq) (hD.set ha) (hS.put z oq hAa) h
  show H1[a]? = some (vp_cell _ _)
  rw [e, vp_cell_i, vp_cell_i, arrV_store]
  refine congrArg some (zn_arr (fun q _ => ?_))
  by_cases hq : q = i.toNatClampNeg
  · subst hq; simp [updV, upd]
  · simp [updV, upd, hq]
theorem zn_zast (C : zv_C p m c cc nL s args Ts own A) {a N : Nat} {cA : ClassId} {f : Nat → Int32} {i x x' : Int32} (hdg : decode cc pc = .ok (.bastore, 1)) (n : Nat) (hn : pc + 1 = n) (q0 t0 j : Nat) (ha : ws[q0]? = some (a, .inl (cA, N, .inl f))) (hAa : A a) (ht : tys[t0]? = some (cA, .boolean)) (hi : i = nI j) (hj : j < N) (hN : N < 2 ^ 31) (hx : (vp_nar .boolean x) = x') (ws' : va_W) (hw : ws.set q0 (a, .inl (cA, N, .inl (upd f j x'))) = ws') (kk : zv_V p l e R s m args below meth c Q nL D cl A B tys ws' kc ns n lv st) : zv_V p l e R s m args below meth c Q nL D cl A B tys ws kc ns pc lv (.int x :: .int i :: .ref a :: st) := by
  subst hn; subst hw; subst hx
  obtain ⟨h1, h2⟩ := zv_in hi hj hN
  subst h2
  intro H locs ls hK hP hD hS h
  refine W.zast C.1.1 C.1.2.1 (hP q0 _ ha) ((hK.2 t0 _ ht).1 N (fun j => .int (f j))) (fun q => by cases q) (by show ¬ (i < 0 ∨ (arrV _ _ _).slots.size ≤ _); rw [arrV_size]; exact h1) rfl rfl hdg fun H1 e z oq => ?_
  refine kk H1 _ ls hK (hP.set hD ha ?_ oq) (hD.set ha) (hS.put z oq hAa) h
  show H1[a]? = some (vp_cell _ _)
  rw [e, vp_cell_i, vp_cell_i, arrV_store]
  refine congrArg some (zn_arr (fun q _ => ?_))
  by_cases hq : q = i.toNatClampNeg
  · subst hq
    simp [updV, upd, vp_nar]
    try rfl
  · simp [updV, upd, hq]
theorem zn_aast (C : zv_C p m c cc nL s args Ts own A) (hO : va_AOA .int s) {a N v : Nat} {cA cI : ClassId} {y : vp_A} {f : Nat → Option Nat} {i : Int32} (hdg : decode cc pc = .ok (.aastore, 1)) (n : Nat) (hn : pc + 1 = n) (q0 t0 q1 t1 j : Nat) (ha : ws[q0]? = some (a, .inl (cA, N, .inr (.inr (.inr (.inr f)))))) (hAa : A a) (ht : tys[t0]? = some (cA, .array .int)) (hv : ws[q1]? = some (v, .inl (cI, y))) (hti : tys[t1]? = some (cI, .int)) (hi : i = nI j) (hj : j < N) (hN : N < 2 ^ 31) (ws' : va_W) (hw : ws.set q0 (a, .inl (cA, N, .inr (.inr (.inr (.inr (fun k => if k = j then some v else f k)))))) = ws') (kk : zv_V p l e R s m args below meth c Q nL D cl A B tys ws' kc ns n lv st) : zv_V p l e R s m args below meth c Q nL D cl A B tys ws kc ns pc lv (.ref v :: .int i :: .ref a :: st) := by
  subst hn; subst hw
  obtain ⟨h1, h2⟩ := zv_in hi hj hN
  subst h2
  intro H locs ls hK hP hD hS h
  have h0 : ¬ i < 0 := fun q => h1 (Or.inl q)
  obtain ⟨comp, cA2, kA, k3, -, k1, k2, k4⟩ := arrayOverA_spec (args := args) (first := s) (o := none) (idx := []) (s := s) (t := .int) hO
  have eA : cA = cA2 := Option.some.inj (((hK.2 t0 _ ht).2 : s.vm.findClass ("[" ++ (FieldType.array .int).toString) = some cA).symm.trans k4)
  subst eA
  have eI : comp = cI := Option.some.inj (k3.symm.trans (hK.2 t1 _ hti).2)
  subst eI
  obtain ⟨kE, hkE, -⟩ := Vm.findClass_spec k3
  have hvc : H[v]? = some (vp_cell comp y) := hP q1 _ hv
  have hcl : (vp_cell comp y).cls = comp ∧ ∀ q, (vp_cell comp y).vm ≠ .statics q := by
    obtain ⟨N9, y⟩ := y
    rcases y with y | y | y | y | y <;> exact ⟨rfl, fun q z => by cases z⟩
  refine W.aast C.1.1 C.1.2.1 (hP q0 _ ha) (fun q h => by cases h) (fun h => by cases h) k1 k2 rfl hkE ⟨h0, by show _ < (arrV _ _ _).slots.size; rw [arrV_size]; exact hj⟩ hvc hcl.2 (by rw [hcl.1]; exact hkE) (by rw [hcl.1]; exact zn_asg _ _) rfl rfl hdg fun H1 e z oq => ?_
  refine kk H1 _ ls hK (hP.set hD ha ?_ oq) (hD.set ha) (hS.put z oq hAa) h
  show H1[a]? = some (vp_cell _ _)
  rw [e, vp_cell_q, vp_cell_q, arrV_store]
  refine congrArg some (zn_arr (fun q _ => ?_))
  by_cases hq : q = i.toNatClampNeg
  · subst hq; simp [updV, va_rf]
  · simp [updV, hq]
theorem zn_aret (C : zv_C p m c cc nL s args Ts own A) {a : Nat} {rt : FieldType} (hr : meth.sig.returnType = some rt) (hrt : (∃ n, rt = .object n) ∨ ∃ t, rt = .array t) (hlk : meth.locks = false) {post : Option Value → va_W → Prop} (hA : A = fun q => s.heap.size ≤ q) (hQ : Q = MQ below (zv_n D cl post) args s kc ns A) (hdg : decode cc pc = .ok (.areturn, 1)) (w : va_W) (hsub : w.Sublist ws) (hw : ∀ q ∈ w, s.heap.size ≤ q.1) (hp : post (some (.ref a)) w) : zv_V p l e R s m args below meth c Q nL D cl A B tys ws kc ns pc lv [.ref a] := by
  subst hQ
  exact fun H locs ls hK hP hD hS h => W.aret C.1.1 C.1.2.1 hr hrt (Or.inr ⟨a, rfl⟩) (fun t ht hW => ⟨⟨_, w, rfl, hp, by rw [ht]; exact zn_Psub hP hsub, zn_D.mpr ⟨(zn_D.mp (zn_Dsub hD hsub)).1, hw⟩⟩, by subst hA; exact hS.F ht⟩) hS.2.2 hdg (hlocks := hlk)
theorem zn_aretM (C : zv_C p m c cc nL s args Ts own A) {a : Nat} {rt : FieldType} (hr : meth.sig.returnType = some rt) (hrt : (∃ n, rt = .object n) ∨ ∃ t, rt = .array t) (hlk : meth.locks = false) {post : Option Value → va_W → Prop} (hQ : Q = MQ below (zv_q D cl A post) args s kc ns A) (hdg : decode cc pc = .ok (.areturn, 1)) (hp : post (some (.ref a)) ws) : zv_V p l e R s m args below meth c Q nL D cl A A tys ws kc ns pc lv [.ref a] := by
  subst hQ
  exact fun H locs ls hK hP hD hS h => W.aret C.1.1 C.1.2.1 hr hrt (Or.inr ⟨a, rfl⟩) (fun t ht hW => ⟨⟨_, ws, rfl, hp, by rw [ht]; exact hP, hD⟩, hS.F ht⟩) hS.2.2 hdg (hlocks := hlk)
theorem zn_irem (C : zv_C p m c cc nL s args Ts own A) {x y v : Int32} (hdg : decode cc pc = .ok (.irem, 1)) (n : Nat) (hn : pc + 1 = n) (hne : ¬ y = 0) (hv : x - x / y * y = v) (kk : zv_V p l e R s m args below meth c Q nL D cl A B tys ws kc ns n lv (.int v :: st)) : zv_V p l e R s m args below meth c Q nL D cl A B tys ws kc ns pc lv (.int y :: .int x :: st) := by
  subst hn
  exact fun H locs ls hK hP hD hS h => lv_irem C.1.1 C.1.2.1 hdg hne (by rw [hv]; exact (kk H locs ls hK hP hD hS h))
theorem zn_ishr (C : zv_C p m c cc nL s args Ts own A) {x y : Int32} (hdg : decode cc pc = .ok (.ishr, 1)) (n : Nat) (hn : pc + 1 = n) (kk : zv_V p l e R s m args below meth c Q nL D cl A B tys ws kc ns n lv (.int (x >>> (y &&& 31)) :: st)) : zv_V p l e R s m args below meth c Q nL D cl A B tys ws kc ns pc lv (.int y :: .int x :: st) := by
  subst hn
  exact fun H locs ls hK hP hD hS h => lv_ishr C.1.1 C.1.2.1 hdg (kk H locs ls hK hP hD hS h)
theorem zn_ior (C : zv_C p m c cc nL s args Ts own A) {x y v : Int32} (hdg : decode cc pc = .ok (.ior, 1)) (n : Nat) (hn : pc + 1 = n) (hv : x ||| y = v) (kk : zv_V p l e R s m args below meth c Q nL D cl A B tys ws kc ns n lv (.int v :: st)) : zv_V p l e R s m args below meth c Q nL D cl A B tys ws kc ns pc lv (.int y :: .int x :: st) := by
  subst hn
  exact fun H locs ls hK hP hD hS h => lv_ior C.1.1 C.1.2.1 hdg (by rw [hv]; exact (kk H locs ls hK hP hD hS h))
theorem zn_ldc (C : zv_C p m c cc nL s args Ts own A) {index : Nat} {v : Int32} (hdg : decode cc pc = .ok (.ldc index, 2)) (n : Nat) (hn : pc + 2 = n) (hconst : Cond.constant own index v ∈ Ts) (kk : zv_V p l e R s m args below meth c Q nL D cl A B tys ws kc ns n lv (.int v :: st)) : zv_V p l e R s m args below meth c Q nL D cl A B tys ws kc ns pc lv st := by
  subst hn
  exact fun H locs ls hK hP hD hS h => lv_ldc C.1.1 C.1.2.1 C.1.2.2.2.1 (C.1.2.2.2.2 _ hconst) hdg (kk H locs ls hK hP hD hS h)
theorem zn_pop (C : zv_C p m c cc nL s args Ts own A) {va : Value} (hdg : decode cc pc = .ok (.pop, 1)) (n : Nat) (hn : pc + 1 = n) (hva : va.category = 1) (kk : zv_V p l e R s m args below meth c Q nL D cl A B tys ws kc ns n lv st) : zv_V p l e R s m args below meth c Q nL D cl A B tys ws kc ns pc lv (va :: st) := by
  subst hn
  exact fun H locs ls hK hP hD hS h => lv_pop C.1.1 C.1.2.1 hdg hva (kk H locs ls hK hP hD hS h)
theorem zn_ifnn (C : zv_C p m c cc nL s args Ts own A) {x : Nat} {off : Int} (hdg : decode cc pc = .ok (.ifnonnull off, 3)) (tgt : Nat) (ht : (pc : Int) + off = (tgt : Int)) (kk : zv_V p l e R s m args below meth c Q nL D cl A B tys ws kc ns tgt lv st) : zv_V p l e R s m args below meth c Q nL D cl A B tys ws kc ns pc lv (.ref x :: st) := fun H locs ls hK hP hD hS h => lv_ifnonnull C.1.1 C.1.2.1 hdg ht (kk H locs ls hK hP hD hS h)
end ZNR
section ZNO
theorem zv_NE.of {E : State → Prop} {l : Launch} {y : MethodName} {wy ws' : List Cond} {rm : Room} {D : va_G} {cl : List vw_C} {tys : List (ClassId × FieldType)} {av : List Value} {ws : va_W} {post : Option Value → va_W → Prop} (cc : ByteArray) (nL : Nat) (ret : Option FieldType) (hy : plainName y.cls = true) (hw : wy = Cond.code y cc nL ret :: ws') (hl : (lg_sl av).length ≤ nL)
    (body : ∀ (p : Program) (e : Env) (s : State) (m : MethodId) (args : Array Value) (below : List Frame) (meth : Method) (c : Code) (A : Nat → Prop), zv_C p m c cc nL s args wy y.cls A → meth.sig.returnType = ret → meth.locks = false → A = (fun q => s.heap.size ≤ q) → E s → ∀ (Q : State → Prop), Q = MQ below (zv_n D cl post) args s rm.cells rm.slots A → zv_V p l e rm s m args below meth c Q nL D cl A (fun _ => True) tys ws 0 0 0 (lv_args 0 av) []) : zv_NE E l y wy rm D cl tys av ws post := by
  intro sz
  refine Met.ofW (cc := cc) (maxL := nL) (ret := ret) hy hw ?_
  intro p e s m args below meth c s₁ B hml hv
  obtain ⟨rfl, ⟨hsz, hP, hK, hD0⟩, hE⟩ := hv
  subst hsz
  have hts := atoms_spec (ws := wy) B.pre
  have hown : s.vm.findClass y.cls = some m.cls := findClass_of_methodNamed B.named
  have hb := body p e s m av.toArray below meth c (fun q => s.heap.size ≤ q) ⟨⟨B.exec, B.bytes, hml, hown, hts⟩, fun q h => h⟩ B.returns B.notSynchronized rfl hE _ rfl
  have hl1 := lv_entry av (n := nL) hl
  rw [lg_entry_eq]
  exact hb s.heap [] _ hK hP hD0 va_S.rf hl1
theorem zv_RX.of {E : State → Prop} {l : Launch} {y : MethodName} {wy ws' : List Cond} {rm : Room} {D : va_G} {cl : List vw_C} {tys : List (ClassId × FieldType)} {av : List Value} {ws : va_W} {post : Option Value → Prop} (cc : ByteArray) (nL : Nat) (ret : Option FieldType) (hy : plainName y.cls = true) (hw : wy = Cond.code y cc nL ret :: ws') (hl : (lg_sl av).length ≤ nL)
    (body : ∀ (p : Program) (e : Env) (s : State) (m : MethodId) (args : Array Value) (below : List Frame) (meth : Method) (c : Code) (A : Nat → Prop), zv_C p m c cc nL s args wy y.cls A → meth.sig.returnType = ret → meth.locks = false → A = (fun q => s.heap.size ≤ q) → E s → ∀ (Q : State → Prop), Q = MQ below (zv_r post) args s rm.cells rm.slots A → zv_V p l e rm s m args below meth c Q nL D cl A (fun _ => True) tys ws 0 0 0 (lv_args 0 av) []) : zv_RX E l y wy rm D cl tys av ws post := by
  intro sz
  refine Met.ofW (cc := cc) (maxL := nL) (ret := ret) hy hw ?_
  intro p e s m args below meth c s₁ B hml hv
  obtain ⟨rfl, ⟨hsz, hP, hK, hD0⟩, hE⟩ := hv
  subst hsz
  have hts := atoms_spec (ws := wy) B.pre
  have hown : s.vm.findClass y.cls = some m.cls := findClass_of_methodNamed B.named
  have hb := body p e s m av.toArray below meth c (fun q => s.heap.size ≤ q) ⟨⟨B.exec, B.bytes, hml, hown, hts⟩, fun q h => h⟩ B.returns B.notSynchronized rfl hE _ rfl
  have hl1 := lv_entry av (n := nL) hl
  rw [lg_entry_eq]
  exact hb s.heap [] _ hK hP hD0 va_S.rf hl1
theorem zv_ME.of {E : State → Prop} {l : Launch} {y : MethodName} {wy ws' : List Cond} {rm : Room} {D : va_G} {cl : List vw_C} {tys : List (ClassId × FieldType)} {av : List Value} {ws : va_W} {post : Option Value → va_W → Prop} (cc : ByteArray) (nL : Nat) (ret : Option FieldType) (hy : plainName y.cls = true) (hw : wy = Cond.code y cc nL ret :: ws') (hl : (lg_sl av).length ≤ nL)
    (body : ∀ (p : Program) (e : Env) (s : State) (m : MethodId) (args : Array Value) (below : List Frame) (meth : Method) (c : Code) (A : Nat → Prop), zv_C p m c cc nL s args wy y.cls A → meth.sig.returnType = ret → meth.locks = false → meth.name = y.name → A = va_A ws s.heap.size → E s → ∀ (Q : State → Prop), Q = MQ below (zv_q D cl A post) args s rm.cells rm.slots A → zv_V p l e rm s m args below meth c Q nL D cl A A tys ws 0 0 0 (lv_args 0 av) []) : zv_ME E l y wy rm D cl tys av ws post := by
  intro sz
  refine Met.ofW (cc := cc) (maxL := nL) (ret := ret) hy hw ?_
  intro p e s m args below meth c s₁ B hml hv
  obtain ⟨rfl, ⟨hsz, hP, hK, hD0⟩, hE⟩ := hv
  subst hsz
  have hts := atoms_spec (ws := wy) B.pre
  have hown : s.vm.findClass y.cls = some m.cls := findClass_of_methodNamed B.named
  have hnm : meth.name = y.name := (name_of_methodNamed B.named B.method).1
  have hA : ∀ q : Nat, s.heap.size ≤ q → va_A ws s.heap.size q := fun q h => Or.inr h
  have hb := body p e s m av.toArray below meth c (va_A ws s.heap.size) ⟨⟨B.exec, B.bytes, hml, hown, hts⟩, hA⟩ B.returns B.notSynchronized hnm rfl hE _ rfl
  have hl1 := lv_entry av (n := nL) hl
  rw [lg_entry_eq]
  exact hb s.heap [] _ hK hP hD0.self va_S.rf hl1
end ZNO
end
section
/-! ===== rows for calls: the callee's cells are a part of the world, or a stretch of it ===== -/
section ZND
variable {p : Program} {l : Launch} {e : Env} {R : Room} {s : State} {m : MethodId} {args : Array Value} {below : List Frame} {meth : Method} {c : Code} {Q : State → Prop} {cc : ByteArray} {nL : Nat} {own : String} {Ts : List Cond} {A B : Nat → Prop} {D : va_G} {cl : List vw_C} {tys : List (ClassId × FieldType)} {ws : va_W} {kc ns pc n : Nat} {lv : List (Nat × Value)} {st : List Value}
theorem zn_callNV (C : zv_C p m c cc nL s args Ts own A) {y : MethodName} {wy : List Cond} {rm : Room} {index maxL nA : Nat} {bytes : ByteArray} {As rest : List Value} {wc : va_W} {tyc : List (ClassId × FieldType)} {E : State → Prop} {post : Option Value → va_W → Prop} {ret : Option FieldType} {C0 : String} {b : Addr} {ci : Nat} {TN : u_T × Nat} {fs : List Value} (hb : zn_B E) (hE : zn_E A s E) (hM : zv_NE E l y wy rm D cl tyc (.ref b :: As) wc post) (cw : CallW R s args own C0 index y bytes maxL ret wy rm rm.cells rm.slots nA) (hdg : decode cc pc = .ok (.invokevirtual index, 3)) (n : Nat) (hn : pc + 3 = n) (hci : cl[ci]? = some (C0, TN)) (hq0 : wc[0]? = some (b, .inr (ci, fs))) (hst : st = As.reverse ++ .ref b :: rest) (hnA : As.length = nA) (hroom : (rest.map fun v => v.category).sum ≤ 8) (hcs : kc + rm.cells ≤ R.cells ∧ ns + rm.slots ≤ R.slots) (isT : List Nat) (hT : isT.filterMap (fun i => tys[i]?) = tyc) (hsub : wc.Sublist ws) (hB : ∀ q, s.heap.size ≤ q → B q) (kk : ∀ (v : Option Value) (w : va_W), post v w → (∀ q ∈ w, s.heap.size ≤ q.1) → zv_V p l e R s m args below meth c Q nL D cl A B tys (w ++ ws) (kc + rm.cells) (ns + rm.slots) n lv (v.toList ++ rest)) : zv_V p l e R s m args below meth c Q nL D cl A B tys ws kc ns pc lv st := by
  subst hn; subst hst
  intro H locs ls hK hP hD hS h
  have hPc := zn_Psub hP hsub
  have hDc := zn_Dsub hD hsub
  have hKc := hK.sub isT hT
  exact zn_cN C hB (g := F0 m pc ls (As.reverse ++ .ref b :: rest)) (va_runV (l := l) (e := e) (below := below) (meth := meth) (locs := locs) (g := F0 m pc ls (As.reverse ++ .ref b :: rest)) (As := As) (rest := rest) (b := b) C.1 (hM H.size) cw ⟨zn_blind hb D cl tyc wc H.size _, va_recv hKc hPc hci hq0, fun U hU hW => ⟨rfl, ⟨by rw [hU], by rw [hU]; exact hPc, va_K.moved hW.alike hKc, hDc.weaken (fun _ _ _ _ => trivial)⟩, hE H locs U hS hU hW⟩⟩ rfl hnA h.1 rfl (lv_room hroom) hdg hcs) hK hP hD hS h kk
theorem zn_callNS (C : zv_C p m c cc nL s args Ts own A) {y : MethodName} {wy : List Cond} {rm : Room} {index maxL nA : Nat} {bytes : ByteArray} {As rest : List Value} {wc : va_W} {tyc : List (ClassId × FieldType)} {E : State → Prop} {post : Option Value → va_W → Prop} {ret : Option FieldType} (hb : zn_B E) (hE : zn_E A s E) (hM : zv_NE E l y wy rm D cl tyc As wc post) (cw : CallB R s args own index y bytes maxL ret wy rm rm.cells rm.slots nA ∧ (Cond.static y).before args s = true) (hdg : decode cc pc = .ok (.invokestatic index, 3)) (n : Nat) (hn : pc + 3 = n) (hst : st = As.reverse ++ rest) (hnA : As.length = nA) (hroom : (rest.map fun v => v.category).sum ≤ 8) (hcs : kc + rm.cells ≤ R.cells ∧ ns + rm.slots ≤ R.slots) (isT : List Nat) (hT : isT.filterMap (fun i => tys[i]?) = tyc) (hsub : wc.Sublist ws) (hB : ∀ q, s.heap.size ≤ q → B q) (kk : ∀ (v : Option Value) (w : va_W), post v w → (∀ q ∈ w, s.heap.size ≤ q.1) → zv_V p l e R s m args below meth c Q nL D cl A B tys (w ++ ws) (kc + rm.cells) (ns + rm.slots) n lv (v.toList ++ rest)) : zv_V p l e R s m args below meth c Q nL D cl A B tys ws kc ns pc lv st := by
  subst hn; subst hst
  intro H locs ls hK hP hD hS h
  have hPc := zn_Psub hP hsub
  have hDc := zn_Dsub hD hsub
  have hKc := hK.sub isT hT
  exact zn_cN C hB (g := F0 m pc ls (As.reverse ++ rest)) (va_runS (l := l) (e := e) (below := below) (meth := meth) (locs := locs) (g := F0 m pc ls (As.reverse ++ rest)) (As := As) (rest := rest) C.1 (hM H.size) cw ⟨zn_blind hb D cl tyc wc H.size _, fun U hU hW => ⟨rfl, ⟨by rw [hU], by rw [hU]; exact hPc, va_K.moved hW.alike hKc, hDc.weaken (fun _ _ _ _ => trivial)⟩, hE H locs U hS hU hW⟩⟩ rfl hnA h.1 rfl (lv_room hroom) hdg hcs) hK hP hD hS h kk
theorem zn_callRV (C : zv_C p m c cc nL s args Ts own A) {y : MethodName} {wy : List Cond} {rm : Room} {index maxL nA : Nat} {bytes : ByteArray} {As rest : List Value} {wc : va_W} {tyc : List (ClassId × FieldType)} {E : State → Prop} {post : Option Value → Prop} {ret : Option FieldType} {C0 : String} {b : Addr} {ci : Nat} {TN : u_T × Nat} {fs : List Value} (hb : zn_B E) (hE : zn_E A s E) (hM : zv_RX E l y wy rm D cl tyc (.ref b :: As) wc post) (cw : CallW R s args own C0 index y bytes maxL ret wy rm rm.cells rm.slots nA) (hdg : decode cc pc = .ok (.invokevirtual index, 3)) (n : Nat) (hn : pc + 3 = n) (hci : cl[ci]? = some (C0, TN)) (hq0 : wc[0]? = some (b, .inr (ci, fs))) (hst : st = As.reverse ++ .ref b :: rest) (hnA : As.length = nA) (hroom : (rest.map fun v => v.category).sum ≤ 8) (hcs : kc + rm.cells ≤ R.cells ∧ ns + rm.slots ≤ R.slots) (isT : List Nat) (hT : isT.filterMap (fun i => tys[i]?) = tyc) (hsub : wc.Sublist ws) (kk : ∀ v : Option Value, post v → zv_V p l e R s m args below meth c Q nL D cl A B tys ws (kc + rm.cells) (ns + rm.slots) n lv (v.toList ++ rest)) : zv_V p l e R s m args below meth c Q nL D cl A B tys ws kc ns pc lv st := by
  subst hn; subst hst
  intro H locs ls hK hP hD hS h
  have hPc := zn_Psub hP hsub
  have hDc := zn_Dsub hD hsub
  have hKc := hK.sub isT hT
  exact zn_cR C (g := F0 m pc ls (As.reverse ++ .ref b :: rest)) (va_runV (l := l) (e := e) (below := below) (meth := meth) (locs := locs) (g := F0 m pc ls (As.reverse ++ .ref b :: rest)) (As := As) (rest := rest) (b := b) C.1 (hM H.size) cw ⟨zn_blind hb D cl tyc wc H.size _, va_recv hKc hPc hci hq0, fun U hU hW => ⟨rfl, ⟨by rw [hU], by rw [hU]; exact hPc, va_K.moved hW.alike hKc, hDc.weaken (fun _ _ _ _ => trivial)⟩, hE H locs U hS hU hW⟩⟩ rfl hnA h.1 rfl (lv_room hroom) hdg hcs) hK hP hD hS h kk
theorem zn_callRS (C : zv_C p m c cc nL s args Ts own A) {y : MethodName} {wy : List Cond} {rm : Room} {index maxL nA : Nat} {bytes : ByteArray} {As rest : List Value} {wc : va_W} {tyc : List (ClassId × FieldType)} {E : State → Prop} {post : Option Value → Prop} {ret : Option FieldType} (hb : zn_B E) (hE : zn_E A s E) (hM : zv_RX E l y wy rm D cl tyc As wc post) (cw : CallB R s args own index y bytes maxL ret wy rm rm.cells rm.slots nA ∧ (Cond.static y).before args s = true) (hdg : decode cc pc = .ok (.invokestatic index, 3)) (n : Nat) (hn : pc + 3 = n) (hst : st = As.reverse ++ rest) (hnA : As.length = nA) (hroom : (rest.map fun v => v.category).sum ≤ 8) (hcs : kc + rm.cells ≤ R.cells ∧ ns + rm.slots ≤ R.slots) (isT : List Nat) (hT : isT.filterMap (fun i => tys[i]?) = tyc) (hsub : wc.Sublist ws) (kk : ∀ v : Option Value, post v → zv_V p l e R s m args below meth c Q nL D cl A B tys ws (kc + rm.cells) (ns + rm.slots) n lv (v.toList ++ rest)) : zv_V p l e R s m args below meth c Q nL D cl A B tys ws kc ns pc lv st := by
  subst hn; subst hst
  intro H locs ls hK hP hD hS h
  have hPc := zn_Psub hP hsub
  have hDc := zn_Dsub hD hsub
  have hKc := hK.sub isT hT
  exact zn_cR C (g := F0 m pc ls (As.reverse ++ rest)) (va_runS (l := l) (e := e) (below := below) (meth := meth) (locs := locs) (g := F0 m pc ls (As.reverse ++ rest)) (As := As) (rest := rest) C.1 (hM H.size) cw ⟨zn_blind hb D cl tyc wc H.size _, fun U hU hW => ⟨rfl, ⟨by rw [hU], by rw [hU]; exact hPc, va_K.moved hW.alike hKc, hDc.weaken (fun _ _ _ _ => trivial)⟩, hE H locs U hS hU hW⟩⟩ rfl hnA h.1 rfl (lv_room hroom) hdg hcs) hK hP hD hS h kk
theorem zn_callMV (C : zv_C p m c cc nL s args Ts own A) {y : MethodName} {wy : List Cond} {rm : Room} {index maxL nA : Nat} {bytes : ByteArray} {As rest : List Value} {wc : va_W} {tyc : List (ClassId × FieldType)} {E : State → Prop} {post : Option Value → va_W → Prop} {ret : Option FieldType} {C0 : String} {b : Addr} {ci : Nat} {TN : u_T × Nat} {fs : List Value} {a bb : va_W} (hb : zn_B E) (hE : zn_E A s E) (hM : zv_ME E l y wy rm D cl tyc (.ref b :: As) wc post) (cw : CallW R s args own C0 index y bytes maxL ret wy rm rm.cells rm.slots nA) (hdg : decode cc pc = .ok (.invokevirtual index, 3)) (n : Nat) (hn : pc + 3 = n) (hci : cl[ci]? = some (C0, TN)) (hq0 : wc[0]? = some (b, .inr (ci, fs))) (hst : st = As.reverse ++ .ref b :: rest) (hnA : As.length = nA) (hroom : (rest.map fun v => v.category).sum ≤ 8) (hcs : kc + rm.cells ≤ R.cells ∧ ns + rm.slots ≤ R.slots) (isT : List Nat) (hT : isT.filterMap (fun i => tys[i]?) = tyc) (kk : ∀ (v : Option Value) (w : va_W), post v w → zv_V p l e R s m args below meth c Q nL D cl A A tys (a ++ (w ++ bb)) (kc + rm.cells) (ns + rm.slots) n lv (v.toList ++ rest)) : zv_V p l e R s m args below meth c Q nL D cl A A tys (a ++ (wc ++ bb)) kc ns pc lv st := by
  subst hn; subst hst
  intro H locs ls hK hP hD hS h
  have hPc := zn_Psub hP ((List.sublist_append_left wc bb).trans (List.sublist_append_right a (wc ++ bb)))
  have hDc := zn_Dsub hD ((List.sublist_append_left wc bb).trans (List.sublist_append_right a (wc ++ bb)))
  have hKc := hK.sub isT hT
  exact zn_cM C (g := F0 m pc ls (As.reverse ++ .ref b :: rest)) (va_runV (l := l) (e := e) (below := below) (meth := meth) (locs := locs) (g := F0 m pc ls (As.reverse ++ .ref b :: rest)) (As := As) (rest := rest) (b := b) C.1 (hM H.size) cw ⟨zn_blind hb D cl tyc wc H.size _, va_recv hKc hPc hci hq0, fun U hU hW => ⟨rfl, ⟨by rw [hU], by rw [hU]; exact hPc, va_K.moved hW.alike hKc, hDc.weaken (fun _ _ _ _ => trivial)⟩, hE H locs U hS hU hW⟩⟩ rfl hnA h.1 rfl (lv_room hroom) hdg hcs) hK hP hD hS h kk
theorem zn_callMS (C : zv_C p m c cc nL s args Ts own A) {y : MethodName} {wy : List Cond} {rm : Room} {index maxL nA : Nat} {bytes : ByteArray} {As rest : List Value} {wc : va_W} {tyc : List (ClassId × FieldType)} {E : State → Prop} {post : Option Value → va_W → Prop} {ret : Option FieldType} {a bb : va_W} (hb : zn_B E) (hE : zn_E A s E) (hM : zv_ME E l y wy rm D cl tyc As wc post) (cw : CallB R s args own index y bytes maxL ret wy rm rm.cells rm.slots nA ∧ (Cond.static y).before args s = true) (hdg : decode cc pc = .ok (.invokestatic index, 3)) (n : Nat) (hn : pc + 3 = n) (hst : st = As.reverse ++ rest) (hnA : As.length = nA) (hroom : (rest.map fun v => v.category).sum ≤ 8) (hcs : kc + rm.cells ≤ R.cells ∧ ns + rm.slots ≤ R.slots) (isT : List Nat) (hT : isT.filterMap (fun i => tys[i]?) = tyc) (kk : ∀ (v : Option Value) (w : va_W), post v w → zv_V p l e R s m args below meth c Q nL D cl A A tys (a ++ (w ++ bb)) (kc + rm.cells) (ns + rm.slots) n lv (v.toList ++ rest)) : zv_V p l e R s m args below meth c Q nL D cl A A tys (a ++ (wc ++ bb)) kc ns pc lv st := by
  subst hn; subst hst
  intro H locs ls hK hP hD hS h
  have hPc := zn_Psub hP ((List.sublist_append_left wc bb).trans (List.sublist_append_right a (wc ++ bb)))
  have hDc := zn_Dsub hD ((List.sublist_append_left wc bb).trans (List.sublist_append_right a (wc ++ bb)))
  have hKc := hK.sub isT hT
  exact zn_cM C (g := F0 m pc ls (As.reverse ++ rest)) (va_runS (l := l) (e := e) (below := below) (meth := meth) (locs := locs) (g := F0 m pc ls (As.reverse ++ rest)) (As := As) (rest := rest) C.1 (hM H.size) cw ⟨zn_blind hb D cl tyc wc H.size _, fun U hU hW => ⟨rfl, ⟨by rw [hU], by rw [hU]; exact hPc, va_K.moved hW.alike hKc, hDc.weaken (fun _ _ _ _ => trivial)⟩, hE H locs U hS hU hW⟩⟩ rfl hnA h.1 rfl (lv_room hroom) hdg hcs) hK hP hD hS h kk
theorem zn_callMI (C : zv_C p m c cc nL s args Ts own A) {y : MethodName} {wy : List Cond} {rm : Room} {index maxL nA : Nat} {bytes : ByteArray} {As rest : List Value} {wc : va_W} {tyc : List (ClassId × FieldType)} {E : State → Prop} {post : Option Value → va_W → Prop} {b : Addr} {a bb : va_W} (hb : zn_B E) (hE : zn_E A s E) (hM : zv_ME E l y wy rm D cl tyc (.ref b :: As) wc post) (cw : CallB R s args own index y bytes maxL none wy rm rm.cells rm.slots nA ∧ y.name = "<init>" ∧ (Cond.instanceMethod y).before args s = true) (hdg : decode cc pc = .ok (.invokespecial index, 3)) (n : Nat) (hn : pc + 3 = n) (hst : st = As.reverse ++ .ref b :: rest) (hnA : As.length = nA) (hroom : (rest.map fun v => v.category).sum ≤ 8) (hcs : kc + rm.cells ≤ R.cells ∧ ns + rm.slots ≤ R.slots) (isT : List Nat) (hT : isT.filterMap (fun i => tys[i]?) = tyc) (kk : ∀ (v : Option Value) (w : va_W), post v w → zv_V p l e R s m args below meth c Q nL D cl A A tys (a ++ (w ++ bb)) (kc + rm.cells) (ns + rm.slots) n lv (v.toList ++ rest)) : zv_V p l e R s m args below meth c Q nL D cl A A tys (a ++ (wc ++ bb)) kc ns pc lv st := by
  subst hn; subst hst
  intro H locs ls hK hP hD hS h
  have hPc := zn_Psub hP ((List.sublist_append_left wc bb).trans (List.sublist_append_right a (wc ++ bb)))
  have hDc := zn_Dsub hD ((List.sublist_append_left wc bb).trans (List.sublist_append_right a (wc ++ bb)))
  have hKc := hK.sub isT hT
  exact zn_cM C (g := F0 m pc ls (As.reverse ++ .ref b :: rest)) (va_runI (l := l) (e := e) (below := below) (meth := meth) (locs := locs) (g := F0 m pc ls (As.reverse ++ .ref b :: rest)) (As := As) (rest := rest) (b := b) C.1 (hM H.size) cw ⟨zn_blind hb D cl tyc wc H.size _, fun U hU hW => ⟨rfl, ⟨by rw [hU], by rw [hU]; exact hPc, va_K.moved hW.alike hKc, hDc.weaken (fun _ _ _ _ => trivial)⟩, hE H locs U hS hU hW⟩⟩ rfl hnA h.1 rfl (lv_room hroom) hdg hcs) hK hP hD hS h kk
theorem zn_callMSW (C : zv_C p m c cc nL s args Ts own A) {y : MethodName} {wy : List Cond} {rm : Room} {index maxL nA : Nat} {bytes : ByteArray} {As rest : List Value} {wc : va_W} {tyc : List (ClassId × FieldType)} {E : State → Prop} {post : Option Value → va_W → Prop} {ret : Option FieldType} {hh : List (Nat × Nat × Nat × Nat)} {a bb : va_W} (hb : zn_B E) (hE : zn_E A s E) (hM : zv_ME E l y wy rm D cl tyc As wc post) (cw : vx_CSW R s args own index y bytes maxL ret hh wy rm rm.cells rm.slots nA) (hdg : decode cc pc = .ok (.invokestatic index, 3)) (n : Nat) (hn : pc + 3 = n) (hst : st = As.reverse ++ rest) (hnA : As.length = nA) (hroom : (rest.map fun v => v.category).sum ≤ 8) (hcs : kc + rm.cells ≤ R.cells ∧ ns + rm.slots ≤ R.slots) (isT : List Nat) (hT : isT.filterMap (fun i => tys[i]?) = tyc) (kk : ∀ (v : Option Value) (w : va_W), post v w → zv_V p l e R s m args below meth c Q nL D cl A A tys (a ++ (w ++ bb)) (kc + rm.cells) (ns + rm.slots) n lv (v.toList ++ rest)) : zv_V p l e R s m args below meth c Q nL D cl A A tys (a ++ (wc ++ bb)) kc ns pc lv st := by
  subst hn; subst hst
  intro H locs ls hK hP hD hS h
  have hPc := zn_Psub hP ((List.sublist_append_left wc bb).trans (List.sublist_append_right a (wc ++ bb)))
  have hDc := zn_Dsub hD ((List.sublist_append_left wc bb).trans (List.sublist_append_right a (wc ++ bb)))
  have hKc := hK.sub isT hT
  exact zn_cM C (g := F0 m pc ls (As.reverse ++ rest)) (vx_runSW (l := l) (e := e) (below := below) (meth := meth) (locs := locs) (g := F0 m pc ls (As.reverse ++ rest)) (As := As) (rest := rest) C.1 (hM H.size) cw ⟨zn_blind hb D cl tyc wc H.size _, fun U hU hW => ⟨rfl, ⟨by rw [hU], by rw [hU]; exact hPc, va_K.moved hW.alike hKc, hDc.weaken (fun _ _ _ _ => trivial)⟩, hE H locs U hS hU hW⟩⟩ rfl hnA h.1 rfl (lv_room hroom) hdg hcs) hK hP hD hS h kk
theorem zn_callRSW (C : zv_C p m c cc nL s args Ts own A) {y : MethodName} {wy : List Cond} {rm : Room} {index maxL nA : Nat} {bytes : ByteArray} {As rest : List Value} {wc : va_W} {tyc : List (ClassId × FieldType)} {E : State → Prop} {post : Option Value → Prop} {ret : Option FieldType} {hh : List (Nat × Nat × Nat × Nat)} (hb : zn_B E) (hE : zn_E A s E) (hM : zv_RX E l y wy rm D cl tyc As wc post) (cw : vx_CSW R s args own index y bytes maxL ret hh wy rm rm.cells rm.slots nA) (hdg : decode cc pc = .ok (.invokestatic index, 3)) (n : Nat) (hn : pc + 3 = n) (hst : st = As.reverse ++ rest) (hnA : As.length = nA) (hroom : (rest.map fun v => v.category).sum ≤ 8) (hcs : kc + rm.cells ≤ R.cells ∧ ns + rm.slots ≤ R.slots) (isT : List Nat) (hT : isT.filterMap (fun i => tys[i]?) = tyc) (hsub : wc.Sublist ws) (kk : ∀ v : Option Value, post v → zv_V p l e R s m args below meth c Q nL D cl A B tys ws (kc + rm.cells) (ns + rm.slots) n lv (v.toList ++ rest)) : zv_V p l e R s m args below meth c Q nL D cl A B tys ws kc ns pc lv st := by
  subst hn; subst hst
  intro H locs ls hK hP hD hS h
  have hPc := zn_Psub hP hsub
  have hDc := zn_Dsub hD hsub
  have hKc := hK.sub isT hT
  exact zn_cR C (g := F0 m pc ls (As.reverse ++ rest)) (vx_runSW (l := l) (e := e) (below := below) (meth := meth) (locs := locs) (g := F0 m pc ls (As.reverse ++ rest)) (As := As) (rest := rest) C.1 (hM H.size) cw ⟨zn_blind hb D cl tyc wc H.size _, fun U hU hW => ⟨rfl, ⟨by rw [hU], by rw [hU]; exact hPc, va_K.moved hW.alike hKc, hDc.weaken (fun _ _ _ _ => trivial)⟩, hE H locs U hS hU hW⟩⟩ rfl hnA h.1 rfl (lv_room hroom) hdg hcs) hK hP hD hS h kk
end ZND
end
