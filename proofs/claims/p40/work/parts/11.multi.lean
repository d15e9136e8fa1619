/-! ===== int[3][n]: the instruction that makes an array of three arrays ===== -/
def zq_o (c : ClassId) (h : Nat) : Nat → Cell
  | 0 => { cls := c, slots := Array.replicate 3 .null, vm := .none }
  | i + 1 => (zq_o c h i).setSlot i (.ref (h + 1 + i))
def zq_s (s : State) (c comp : ClassId) (K : Nat) : Nat → State
  | 0 => s.pushCell (zq_o c s.heap.size 0)
  | i + 1 => ((zq_s s c comp K i).pushCell { cls := comp, slots := Array.replicate K (.int 0), vm := .none }).setCell s.heap.size (zq_o c s.heap.size (i + 1))
theorem zq_oE (c : ClassId) (h : Nat) : ∀ i, (zq_o c h i).cls = c ∧ (zq_o c h i).vm = .none ∧ (zq_o c h i).slots.size = 3
  | 0 => ⟨rfl, rfl, by simp [zq_o]⟩
  | i + 1 => by
    obtain ⟨a, b, d⟩ := zq_oE c h i
    exact ⟨by simp [zq_o, Cell.setSlot, a], by simp [zq_o, Cell.setSlot, b], by simp [zq_o, Cell.setSlot, d]⟩
theorem zq_sE (s : State) (c comp : ClassId) (K : Nat) : ∀ i, (zq_s s c comp K i).heap.size = s.heap.size + 1 + i ∧ (zq_s s c comp K i).heap[s.heap.size]? = some (zq_o c s.heap.size i) ∧ (zq_s s c comp K i).vm = s.vm ∧ (zq_s s c comp K i).slotsUsed = s.slotsUsed + 3 + i * K
  | 0 => ⟨by simp [zq_s], by simp [zq_s], rfl, by simp [zq_s, zq_o]⟩
  | i + 1 => by
    obtain ⟨a, b, d, u⟩ := zq_sE s c comp K i
    have hl : s.heap.size < (zq_s s c comp K i).heap.size := by omega
    refine ⟨?_, ?_, by simp [zq_s, d], ?_⟩
    · simp [zq_s, State.setCell, a]; omega
    · show (((zq_s s c comp K i).pushCell _).setCell s.heap.size _).heap[s.heap.size]? = _
      exact State.heap_setCell_self (by rw [State.heap_pushCell_of_lt (h := hl)]; exact b)
    · simp [zq_s, u, Nat.succ_mul]; omega
theorem zq_top (s : State) (f : JFrame) (c comp : ClassId) (K : Nat) : ∀ i, zq_s (s.setTop f) c comp K i = (zq_s s c comp K i).setTop f
  | 0 => rfl
  | i + 1 => by simp only [zq_s, zq_top s f c comp K i, State.heap_setTop, State.pushCell_setTop, State.setCell_setTop]
theorem zq_old (s : State) (c comp : ClassId) (K : Nat) {a : Nat} (ha : a < s.heap.size) : ∀ i, (zq_s s c comp K i).heap[a]? = s.heap[a]?
  | 0 => State.heap_pushCell_of_lt _ _ ha
  | i + 1 => by
    have hl : a < (zq_s s c comp K i).heap.size := by rw [(zq_sE s c comp K i).1]; omega
    show (((zq_s s c comp K i).pushCell _).setCell s.heap.size _).heap[a]? = _
    rw [State.heap_setCell_other (Nat.ne_of_gt ha), State.heap_pushCell_of_lt (h := hl)]
    exact zq_old s c comp K ha i
theorem zq_new (s : State) (c comp : ClassId) (K : Nat) : ∀ i j, j < i → (zq_s s c comp K i).heap[s.heap.size + 1 + j]? = some { cls := comp, slots := Array.replicate K (.int 0), vm := .none }
  | 0, _, h => absurd h (Nat.not_lt_zero _)
  | i + 1, j, h => by
    have f1 := (zq_sE s c comp K i).1
    show (((zq_s s c comp K i).pushCell _).setCell s.heap.size _).heap[s.heap.size + 1 + j]? = _
    rw [State.heap_setCell_other (show s.heap.size ≠ s.heap.size + 1 + j by omega)]
    by_cases e : j = i
    · subst e
      rw [← f1]
      exact State.heap_pushCell_size _ _
    · have hl : s.heap.size + 1 + j < (zq_s s c comp K i).heap.size := by rw [f1]; omega
      rw [State.heap_pushCell_of_lt (h := hl)]
      exact zq_new s c comp K i j (by omega)
section ZQW
variable {E : CtlPost} {e : Env} {d : Bool} {acts : List Action} {s : State}
theorem zq_make {c comp cc : ClassId} {k kc : Class} {K : Int32} (hk : s.vm.classes[c]? = some k) (hkind : k.kind = .array comp (.array .int)) (hkc : s.vm.classes[comp]? = some kc) (hkindc : kc.kind = .array cc .int) (hK : ¬ K < 0)
    (hl1 : ¬ 3 > e.platform.arrayLengthLimit) (hh1 : ¬ 3 * componentBytes (.array .int) > e.platform.maxHeapBytes) (hl2 : ¬ K.toNatClampNeg > e.platform.arrayLengthLimit) (hh2 : ¬ K.toNatClampNeg * componentBytes .int > e.platform.maxHeapBytes)
    (hc : s.heap.size + 4 ≤ e.platform.maxCells) (hs : s.slotsUsed + 3 + 3 * K.toNatClampNeg ≤ e.platform.maxSlots) {Q : Addr → Pre} (hq : ∀ d' acts', Q s.heap.size d' acts' (zq_s s c comp K.toNatClampNeg 3)) : wp (multianewarray.make c [3, K]) Q E e d acts s := by
  have e3 : (3 : Int32).toNatClampNeg = 3 := by decide
  have n3 : ¬ (3 : Int32) < 0 := by decide
  have hfind : ([K].find? (· < 0)) = none := by simp [hK]
  rw [multianewarray.make]
  simp only [wp_bind', W.ite, n3, if_false, wp_pure', W.theClass, hk, hkind, Option.some.injEq, exists_eq_left', e3]
  refine W.newArray_of hk hkind hl1 hh1 (by omega) (by omega) rfl (fun acts1 => ?_)
  simp only [hfind]
  rw [ite_self, wp_bind', Std.Legacy.Range.forIn_eq_forIn_range']
  show wp (forIn (List.range' 0 3 1) PUnit.unit _) _ E e d acts1 _
  refine wp_forIn_inv (fun rest s' => ∃ i, i ≤ 3 ∧ rest = List.range' i (3 - i) ∧ s' = zq_s s c comp K.toNatClampNeg i) _ _ ⟨0, by omega, rfl, rfl⟩ ?_ ?_
  · rintro x rest s' d' acts' Q' ⟨i, hi, hl, rfl⟩ hnext
    have hi3 : i < 3 := by
      rcases Nat.lt_or_ge i 3 with h | h
      · exact h
      · rw [show 3 - i = 0 from by omega] at hl; simp at hl
    have hx : x = i ∧ rest = List.range' (i + 1) (3 - (i + 1)) := by
      rw [show 3 - i = (3 - (i + 1)) + 1 from by omega, List.range'_succ] at hl
      exact ⟨(List.cons.inj hl).1, (List.cons.inj hl).2⟩
    obtain ⟨rfl, hrest⟩ := hx
    obtain ⟨f1, f2, f3, f4⟩ := zq_sE s c comp K.toNatClampNeg x
    obtain ⟨o1, o2, o3⟩ := zq_oE c s.heap.size x
    have hm : x * K.toNatClampNeg + K.toNatClampNeg ≤ 3 * K.toNatClampNeg := by
      have := Nat.mul_le_mul_right K.toNatClampNeg (show x + 1 ≤ 3 by omega)
      rw [Nat.succ_mul] at this; exact this
    simp only [wp_bind']
    rw [multianewarray.make]
    simp only [wp_bind', W.ite, hK, if_false, wp_pure', W.theClass, f3, hkc, hkindc, Option.some.injEq, exists_eq_left']
    refine W.newArray_of (by rw [f3]; exact hkc) hkindc hl2 hh2 (by rw [f1]; omega) (by rw [f4]; omega) rfl (fun acts2 => ?_)
    have hl0 : s.heap.size < (zq_s s c comp K.toNatClampNeg x).heap.size := by rw [f1]; omega
    simp only [wp_bind', W.writeLoc, wp_pure']
    refine ⟨zq_o c s.heap.size x, by rw [State.heap_pushCell_of_lt (h := hl0)]; exact f2, by rw [o2]; simp, by rw [o3]; exact hi3, ?_, hnext _ _ _ ⟨x + 1, hi3, hrest, ?_⟩⟩
    · rw [o1, o2]
      simp [State.fitsSlot, State.slotType?, f3, hk, hkind, fits]
    · rw [f1]; rfl
  · rintro s' d' acts' ⟨i, hi, hl, rfl⟩
    have hi3 : i = 3 := by
      rcases Nat.lt_or_ge i 3 with h | h
      · rw [show 3 - i = (3 - (i + 1)) + 1 from by omega, List.range'_succ] at hl; cases hl
      · omega
    subst hi3
    simp only [wp_pure']
    exact hq _ _
end ZQW
section ZQS
variable {p : Program} {l : Launch} {e : Env} {R : Room} {s : State} {m : MethodId} {args : Array Value} {below : List Frame} {meth : Method} {c : Code} {T : State} {locs : List Loc} {cells slots : Nat}
theorem zq_stand (X : Stand p l e R s m args below meth c T locs cells slots) (cA comp : ClassId) (K : Nat) : ∀ i, Stand p l e R s m args below meth c (zq_s T cA comp K i) (locs ++ (List.range i).map fun j => ⟨T.heap.size, j⟩) (cells + 1 + i) (slots + 3 + i * K)
  | 0 => by
    have h := X.pushed (zq_o cA T.heap.size 0)
    rw [(zq_oE cA T.heap.size 0).2.2] at h
    simpa [zq_s] using h
  | i + 1 => by
    have Xi := zq_stand X cA comp K i
    obtain ⟨f1, f2, f3, f4⟩ := zq_sE T cA comp K i
    have hl : T.heap.size < (zq_s T cA comp K i).heap.size := by rw [f1]; omega
    have hcell : ((zq_s T cA comp K i).pushCell { cls := comp, slots := Array.replicate K (.int 0), vm := .none }).heap[T.heap.size]? = some (zq_o cA T.heap.size i) := by rw [State.heap_pushCell_of_lt (h := hl)]; exact f2
    have h := (Xi.pushed { cls := comp, slots := Array.replicate K (.int 0), vm := .none }).stored hcell i (.ref (T.heap.size + 1 + i))
    have e1 : (Array.replicate K (Value.int 0)).size = K := by simp
    rw [e1] at h
    have e2 : (locs ++ (List.range (i + 1)).map fun j => (⟨T.heap.size, j⟩ : Loc)) = (locs ++ (List.range i).map fun j => (⟨T.heap.size, j⟩ : Loc)) ++ [⟨T.heap.size, i⟩] := by simp [List.range_succ, List.append_assoc]
    have e3 : slots + 3 + (i + 1) * K = slots + 3 + i * K + K := by rw [Nat.succ_mul]; omega
    rw [e2, e3]
    exact h
theorem zq_step (X : Stand p l e R s m args below meth c T locs cells slots) (hexec : p.tables.exec = Jvm.exec) {own : String} {index : Nat} (hown : s.vm.findClass own = some m.cls) (hclink : (Cond.classLink own index "[[I").before args s = true) (hover : (Cond.arrayOver (.array .int)).before args s = true) (harr : (Cond.arrayClass .int).before args s = true)
    {g : JFrame} (hg : g.method = m) (hdg : decode c.code g.pc = .ok (.multianewarray index 2, 4)) {K : Int32} {rest : List Value} (hstack : g.stack = .int K :: .int 3 :: rest) (hK : ¬ K < 0) (hb : K.toNatClampNeg ≤ 16) (hcells : cells + 4 ≤ R.cells) (hslots : slots + (3 + 3 * K.toNatClampNeg) ≤ R.slots) :
    ∃ (vm₁ : Vm) (cA comp : ClassId), s.vm.findClass "[[I" = some cA ∧ s.vm.findClass "[I" = some comp ∧
      Stand p l e R s m args below meth c (zq_s (T.setVm vm₁) cA comp K.toNatClampNeg 3) locs (cells + 4) (slots + 3 + 3 * K.toNatClampNeg) ∧
      ∀ target, Steps p.tables e below ((zq_s (T.setVm vm₁) cA comp K.toNatClampNeg 3).setTop { g with pc := g.pc + 4, stack := .ref T.heap.size :: rest }) target → Steps p.tables e below (T.setTop g) target := by
  subst hg
  have hpl : e.platform.magicAccessors = ({} : Platform).magicAccessors := by rw [X.admits.platform]
  obtain ⟨comp, cA, kA, hcomp, -, hkA, hkindA, hnameA⟩ := arrayOverA_spec hover
  obtain ⟨comp', kC, cc, hcomp', hkC, hkindC⟩ := Cond.arrayClass_spec harr
  have ecomp : comp' = comp := Option.some.inj (hcomp'.symm.trans hcomp)
  subst ecomp
  obtain ⟨c0, hfc0, hcl⟩ := Cond.classLink_spec hown hclink e.platform hpl
  have e0 : c0 = cA := Option.some.inj (hfc0.symm.trans hnameA)
  subst e0
  obtain ⟨hg₁, hwarm₁, hready₁⟩ := State.classEntry (e := e) X.warmed hcl
  generalize T.vm.noted g.method.cls index (.cls c0) = vm₁ at hg₁ hwarm₁ hready₁
  have hal : s.vm.Alike vm₁ := hwarm₁.alike
  obtain ⟨kA₁, hkA₁, heA⟩ := hal.2.2 _ _ hkA
  obtain ⟨kC₁, hkC₁, heC⟩ := hal.2.2 _ _ hkC
  have hkindA₁ : kA₁.kind = .array comp' (.array .int) := by rw [heA]; exact hkindA
  have hkindC₁ : kC₁.kind = .array cc .int := by rw [heC]; exact hkindC
  have X₁ := X.noted hwarm₁
  obtain ⟨hr1, hr2⟩ := X.roomAbove hcells hslots
  have XF := zq_stand X₁ c0 comp' K.toNatClampNeg 3
  refine ⟨vm₁, c0, comp', hfc0, hcomp, XF.dropFresh (fun x hx => ?_), fun target hrest => ?_⟩
  · obtain ⟨j, -, rfl⟩ := List.mem_map.mp hx
    exact X₁.heapGrown
  have hl1 : ¬ 3 > e.platform.arrayLengthLimit := by rw [Launch.admits_arrayLengthLimit X.admits]; omega
  have hh1 : ¬ 3 * componentBytes (.array .int) > e.platform.maxHeapBytes := by
    rw [Launch.admits_maxHeapBytes X.admits]; show ¬ 3 * 4 > 536870912; omega
  have hl2 : ¬ K.toNatClampNeg > e.platform.arrayLengthLimit := by rw [Launch.admits_arrayLengthLimit X.admits]; omega
  have hh2 : ¬ K.toNatClampNeg * componentBytes .int > e.platform.maxHeapBytes := by rw [Launch.admits_maxHeapBytes X.admits]; show ¬ K.toNatClampNeg * 4 > 536870912; omega
  jvm_step X.here [hexec, hdg]
  simp only [multianewarray.sem, wp_bind', W.resolveClassAt_links (State.method?_setTop g X.here.top) hg₁]
  rw [W.popN, if_neg (by decide)]
  refine ⟨g, State.topJava?_setTop' (s := T.setVm vm₁) g X.here.top, [.int 3, .int K], rest, rfl, hstack, ?_⟩
  simp only [List.mapM_cons, List.mapM_nil, wp_bind', wp_pure']
  refine zq_make (k := kA₁) (kc := kC₁) (comp := comp') (cc := cc) hkA₁ hkindA₁ hkC₁ hkindC₁ hK hl1 hh1 hl2 hh2 (by show T.heap.size + 4 ≤ _; omega) (by show T.slotsUsed + 3 + _ ≤ _; omega) (fun d' acts' => ?_)
  have eS : ((T.setTop g).setVm vm₁).setTop { g with stack := rest } = (T.setVm vm₁).setTop { g with stack := rest } := by
    show ((T.setVm vm₁).setTop g).setTop _ = _
    rw [State.setTop_setTop]
  rw [eS, zq_top]
  simp only [wp_bind', W.mark, W.pushRef, State.topJava?_setTop' _ XF.here.top, Option.some.injEq, exists_eq_left', State.setTop_setTop, State.heap_setTop]
  intro acts
  simp [jvm, XF.here.top]
  exact hrest
end ZQS
