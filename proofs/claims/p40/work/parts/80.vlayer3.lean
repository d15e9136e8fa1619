/-! ===== rows that make cells: a new object, a new array, Object's constructor ===== -/
theorem ra_int {U : State} {c1 c2 : ClassId} (h1 : va_RA U c1 .int) (h2 : va_RA U c2 .int) : c1 = c2 := Option.some.inj ((Eq.symm h1).trans h2)
theorem ra_boolean {U : State} {c1 c2 : ClassId} (h1 : va_RA U c1 .boolean) (h2 : va_RA U c2 .boolean) : c1 = c2 := Option.some.inj ((Eq.symm h1).trans h2)
section ZV9
variable {p : Program} {l : Launch} {e : Env} {R : Room} {s : State} {m : MethodId} {args : Array Value} {below : List Frame} {meth : Method} {c : Code} {Q : State → Prop} {cc : ByteArray} {nL : Nat} {own : String} {Ts : List Cond} {A B : Nat → Prop} {D : va_G} {cl : List vw_C} {tys : List (ClassId × FieldType)} {ws : va_W} {kc ns pc n : Nat} {lv : List (Nat × Value)} {st : List Value}
theorem zv_new (C : zv_C p m c cc nL s args Ts own A) {C0 : String} {T : u_T} {N ci index : Nat} (hin : ∀ w ∈ u_ws C0 T N, w ∈ Ts) (hc : cl[ci]? = some (C0, T, N)) {ty0 : Nat → FieldType} (hty : ∀ k, k < N → parseFieldDescriptor (T k).2.2.1 = some (ty0 k)) (hdg : decode cc pc = .ok (.new index, 3)) (n : Nat) (hn : pc + 3 = n) (hcl : Cond.classLink own index C0 ∈ Ts) (hinst : Cond.instantiable C0 N ∈ Ts) (hini : Cond.initialized C0 ∈ Ts) (fs : List Value) (hfs : ∀ j, j < N → defaultValue (ty0 j) = vp_V fs j) (hcells : kc + 1 ≤ R.cells) (hslots : ns + N ≤ R.slots) (kk : ∀ q : Nat, zv_V p l e R s m args below meth c Q nL D cl A A tys (ws ++ [(q, .inr (ci, fs))]) (kc + 1) (ns + N) n lv (.ref q :: st)) : zv_V p l e R s m args below meth c Q nL D cl A A tys ws kc ns pc lv st := by
  subst hn
  exact fun H locs ls hK hP hD hS h => va_new C.1.1 C.1.2.1 C.1.2.2.2.2 hin ty0 hty C.1.2.2.2.1 (C.1.2.2.2.2 _ hcl) (C.1.2.2.2.2 _ hinst) (C.1.2.2.2.2 _ hini) hK hP hD hS C.2 hc hfs hcells hslots hdg (fun q H1 hP1 hD1 hS1 => kk q H1 locs ls hK hP1 hD1 hS1 h)
theorem zv_newa (C : zv_C p m c cc nL s args Ts own A) {atype : ArrayType} (harr : Cond.arrayClass (newarray.typeOf atype) ∈ Ts) {ty : FieldType} (hty : newarray.typeOf atype = ty) (hdg : decode cc pc = .ok (.newarray atype, 2)) (n : Nat) (hn : pc + 2 = n) {x : Int32} {N' : Nat} {a0 : vp_A} (ha : ∀ cA : ClassId, vp_cell cA a0 = arrV cA N' (fun _ => defaultValue ty)) (t0 : Nat) {cA : ClassId} (ht : tys[t0]? = some (cA, ty)) (hra : ∀ {U : State} {c1 c2 : ClassId}, va_RA U c1 ty → va_RA U c2 ty → c1 = c2) (hx : ¬ x < 0) (hN : x.toNatClampNeg = N') (hbytes : N' * componentBytes ty ≤ 536870912) (hcells : kc + 1 ≤ R.cells) (hslots : ns + N' ≤ R.slots) (kk : ∀ q : Nat, zv_V p l e R s m args below meth c Q nL D cl A A tys (ws ++ [(q, .inl (cA, a0))]) (kc + 1) (ns + N') n lv (.ref q :: st)) : zv_V p l e R s m args below meth c Q nL D cl A A tys ws kc ns pc lv (.int x :: st) := by
  subst hn
  intro H locs ls hK hP hD hS h
  refine va_newa C.1.1 C.1.2.1 (C.1.2.2.2.2 _ harr) hty hK hP hD hS C.2 ha hx hN hbytes hcells hslots hdg (fun q cA2 H1 hK2 hP1 hD1 hS1 => ?_)
  have h1 := (hK2.2 tys.length (cA2, ty) (by simp)).2
  have h2 := (hK.2 t0 _ ht).2
  have he : cA2 = cA := hra h1 h2
  subst he
  exact kk q H1 locs ls hK hP1 hD1 hS1 h
theorem zv_oinit (C : zv_C p m c cc nL s args Ts own A) {idx a : Nat} (hdg : decode cc pc = .ok (.invokespecial idx, 3)) (n : Nat) (hn : pc + 3 = n) (hlink : Cond.methodLink own idx Lib.objectInit ∈ Ts) (hinst : Cond.instanceMethod Lib.objectInit ∈ Ts) (hcode : Cond.code Lib.objectInit ⟨#[0xb1]⟩ 1 none ∈ Ts) (hfr : 1 ≤ R.frames) (hlo : (st.map fun v => v.category).sum + 12 ≤ R.locals) (kk : zv_V p l e R s m args below meth c Q nL D cl A B tys ws kc ns n lv st) : zv_V p l e R s m args below meth c Q nL D cl A B tys ws kc ns pc lv (.ref a :: st) := by
  subst hn
  exact fun H locs ls hK hP hD hS h => W.objInit C.1.1 C.1.2.1 C.1.2.2.2.1 (C.1.2.2.2.2 _ hlink) (C.1.2.2.2.2 _ hinst) (C.1.2.2.2.2 _ hcode) (g := F0 m pc ls (.ref a :: st)) rfl (C.1.2.2.1.trans h.1.symm).symm rfl hdg hfr (by show 2 * 0 + _ + 12 ≤ _; omega) (kk H locs ls hK hP hD hS h)
end ZV9
def ad15 (a0 a1 a2 a3 a4 a5 a6 a7 a8 a9 a10 a11 a12 a13 a14 : Nat) : Nat → Nat := fun i => match i with
  | 0 => a0
  | 1 => a1
  | 2 => a2
  | 3 => a3
  | 4 => a4
  | 5 => a5
  | 6 => a6
  | 7 => a7
  | 8 => a8
  | 9 => a9
  | 10 => a10
  | 11 => a11
  | 12 => a12
  | 13 => a13
  | _ => a14
def ad3 (a0 a1 a2 : Nat) : Nat → Nat := fun i => match i with
  | 0 => a0
  | 1 => a1
  | _ => a2
def z0 : Nat → Int32 := fun _ => 0
