/-! ===== the class's world in the words of the land by hand ===== -/
def zR (cI cZ : ClassId) (a n b : Nat) (r y : Int32) (m0 m1 m2 m3 m4 m5 m6 m7 : Nat → Int32) (w : va_W) : Prop := (∃ (q h k d : Nat → Nat) (f0 f1 f2 f3 f4 f5 f6 f7 f8 f9 f10 f11 f12 f13 : Nat → Int32) (n1 : Nat) (r1 : Int32) (g0 g1 g2 g3 g4 g5 g6 g7 g8 g9 g10 g11 g12 g13 : Nat → Int32) (bp bn : Nat → Int32), q 0 = a ∧ w = cR cI cZ q h k (nI b) y (nI n) r f0 f1 f2 f3 f4 f5 f6 f7 f8 f9 f10 f11 f12 f13 (nI n1) r1 g0 g1 g2 g3 g4 g5 g6 g7 g8 g9 g10 g11 g12 g13 bp bn ∧ LI n b r d f0 f1 f2 f3 f4 f5 f6 f7 f8 f9 f10 f11 f12 f13 bp bn m0 m1 m2 m3 m4 m5 m6 m7) ∧ (∀ i, i < n → ¬ m1 i = 0 → ∃ a, a ≤ 9 ∧ m2 i = nI a) ∧ ∀ i, i < b → m7 i = -1 ∨ ∃ a, a ≤ 9 ∧ m7 i = nI a
section ZRW
variable {cI cZ : ClassId} {a n b : Nat} {r y : Int32} {m0 m1 m2 m3 m4 m5 m6 m7 : Nat → Int32} {w : va_W}
theorem zR.lv (h : zR cI cZ a n b r y m0 m1 m2 m3 m4 m5 m6 m7 w) : LV n b r m0 m1 m2 m3 m4 m5 m6 m7 := by
  obtain ⟨⟨q, hh, k, d, f0, f1, f2, f3, f4, f5, f6, f7, f8, f9, f10, f11, f12, f13, n1, r1, g0, g1, g2, g3, g4, g5, g6, g7, g8, g9, g10, g11, g12, g13, bp, bn, -, -, hI⟩, h1, h2⟩ := h
  exact ⟨⟨d, f0, f1, f2, f3, f4, f5, f6, f7, f8, f9, f10, f11, f12, f13, bp, bn, hI⟩, h1, h2⟩
theorem zR.recv (h : zR cI cZ a n b r y m0 m1 m2 m3 m4 m5 m6 m7 w) : ∃ fs : List Value, w[0]? = some (a, .inr (1, fs)) := by
  obtain ⟨⟨q, hh, k, d, f0, f1, f2, f3, f4, f5, f6, f7, f8, f9, f10, f11, f12, f13, n1, r1, g0, g1, g2, g3, g4, g5, g6, g7, g8, g9, g10, g11, g12, g13, bp, bn, rfl, rfl, hI⟩, h1, h2⟩ := h
  exact ⟨_, rfl⟩
end ZRW
theorem zn_Mmono {l : Launch} {y : MethodName} {wy : List Cond} {rm : Room} {D : va_G} {cl : List vw_C} {tys : List (ClassId × FieldType)} {av : List Value} {ws : va_W} {post post' : Option Value → va_W → Prop} (h : zv_M l y wy rm D cl tys av ws post) (hp : ∀ v w, post v w → post' v w) : zv_M l y wy rm D cl tys av ws post' := fun sz => MetFree.mono (h sz) (fun _ _ h => h) (fun _ _ _ _ _ h => h) (fun _ _ _ _ _ h => by
  obtain ⟨⟨⟨v, w, e1, hpo, hP, hD⟩, hF⟩, hL⟩ := h
  exact ⟨⟨⟨v, w, e1, hp v w hpo, hP, hD⟩, hF⟩, hL⟩)
theorem w_year (l : Launch) (D : va_G) {cI cZ : ClassId} {a n b : Nat} {r y : Int32} {m0 m1 m2 m3 m4 m5 m6 m7 : Nat → Int32} {w : va_W} (hR : zR cI cZ a n b r y m0 m1 m2 m3 m4 m5 m6 m7 w)  : zv_R l yX1_year wsX1_year rmX1_year D vwCl (tyL cI cZ) [.ref a] w (fun v => v = some (.int y)) := by
  obtain ⟨⟨q, h, k, d, f0, f1, f2, f3, f4, f5, f6, f7, f8, f9, f10, f11, f12, f13, n1, r1, g0, g1, g2, g3, g4, g5, g6, g7, g8, g9, g10, g11, g12, g13, bp, bn, rfl, rfl, hI⟩, hb, hk⟩ := hR
  exact k_X1_year l D cI cZ q h k b y n r f0 f1 f2 f3 f4 f5 f6 f7 f8 f9 f10 f11 f12 f13 n1 r1 g0 g1 g2 g3 g4 g5 g6 g7 g8 g9 g10 g11 g12 g13 bp bn 
theorem w_places (l : Launch) (D : va_G) {cI cZ : ClassId} {a n b : Nat} {r y : Int32} {m0 m1 m2 m3 m4 m5 m6 m7 : Nat → Int32} {w : va_W} (hR : zR cI cZ a n b r y m0 m1 m2 m3 m4 m5 m6 m7 w)  : zv_R l yX1_places wsX1_places rmX1_places D vwCl (tyL cI cZ) [.ref a] w (fun v => v = some (.int (nI n))) := by
  obtain ⟨⟨q, h, k, d, f0, f1, f2, f3, f4, f5, f6, f7, f8, f9, f10, f11, f12, f13, n1, r1, g0, g1, g2, g3, g4, g5, g6, g7, g8, g9, g10, g11, g12, g13, bp, bn, rfl, rfl, hI⟩, hb, hk⟩ := hR
  exact k_X1_places l D cI cZ q h k b y n r f0 f1 f2 f3 f4 f5 f6 f7 f8 f9 f10 f11 f12 f13 n1 r1 g0 g1 g2 g3 g4 g5 g6 g7 g8 g9 g10 g11 g12 g13 bp bn 
theorem w_bridges (l : Launch) (D : va_G) {cI cZ : ClassId} {a n b : Nat} {r y : Int32} {m0 m1 m2 m3 m4 m5 m6 m7 : Nat → Int32} {w : va_W} (hR : zR cI cZ a n b r y m0 m1 m2 m3 m4 m5 m6 m7 w)  : zv_R l yX1_bridges wsX1_bridges rmX1_bridges D vwCl (tyL cI cZ) [.ref a] w (fun v => v = some (.int (nI b))) := by
  obtain ⟨⟨q, h, k, d, f0, f1, f2, f3, f4, f5, f6, f7, f8, f9, f10, f11, f12, f13, n1, r1, g0, g1, g2, g3, g4, g5, g6, g7, g8, g9, g10, g11, g12, g13, bp, bn, rfl, rfl, hI⟩, hb, hk⟩ := hR
  exact k_X1_bridges l D cI cZ q h k b y n r f0 f1 f2 f3 f4 f5 f6 f7 f8 f9 f10 f11 f12 f13 n1 r1 g0 g1 g2 g3 g4 g5 g6 g7 g8 g9 g10 g11 g12 g13 bp bn 
theorem w_leadsTo (l : Launch) (D : va_G) {cI cZ : ClassId} {a n b : Nat} {r y : Int32} {m0 m1 m2 m3 m4 m5 m6 m7 : Nat → Int32} {w : va_W} (hR : zR cI cZ a n b r y m0 m1 m2 m3 m4 m5 m6 m7 w) (p : Nat) (hp : p < n) : zv_R l yX1_leadsTo wsX1_leadsTo rmX1_leadsTo D vwCl (tyL cI cZ) [.ref a, .int (nI p)] w (fun v => v = some (.int (m0 p))) := by
  obtain ⟨⟨q, h, k, d, f0, f1, f2, f3, f4, f5, f6, f7, f8, f9, f10, f11, f12, f13, n1, r1, g0, g1, g2, g3, g4, g5, g6, g7, g8, g9, g10, g11, g12, g13, bp, bn, rfl, rfl, hI⟩, hb, hk⟩ := hR
  rw [(hI.E p hp).1]
  exact k_X1_leadsTo l D cI cZ q h k b y n r f0 f1 f2 f3 f4 f5 f6 f7 f8 f9 f10 f11 f12 f13 n1 r1 g0 g1 g2 g3 g4 g5 g6 g7 g8 g9 g10 g11 g12 g13 bp bn p hI.n16 hp
theorem w_hasSpring (l : Launch) (D : va_G) {cI cZ : ClassId} {a n b : Nat} {r y : Int32} {m0 m1 m2 m3 m4 m5 m6 m7 : Nat → Int32} {w : va_W} (hR : zR cI cZ a n b r y m0 m1 m2 m3 m4 m5 m6 m7 w) (p : Nat) (hp : p < n) : zv_R l yX1_hasSpring wsX1_hasSpring rmX1_hasSpring D vwCl (tyL cI cZ) [.ref a, .int (nI p)] w (fun v => v = some (.int (m1 p))) := by
  obtain ⟨⟨q, h, k, d, f0, f1, f2, f3, f4, f5, f6, f7, f8, f9, f10, f11, f12, f13, n1, r1, g0, g1, g2, g3, g4, g5, g6, g7, g8, g9, g10, g11, g12, g13, bp, bn, rfl, rfl, hI⟩, hb, hk⟩ := hR
  rw [(hI.E p hp).2.1]
  exact k_X1_hasSpring l D cI cZ q h k b y n r f0 f1 f2 f3 f4 f5 f6 f7 f8 f9 f10 f11 f12 f13 n1 r1 g0 g1 g2 g3 g4 g5 g6 g7 g8 g9 g10 g11 g12 g13 bp bn p hI.n16 hp (hI.z2 p)
theorem w_springOf (l : Launch) (D : va_G) {cI cZ : ClassId} {a n b : Nat} {r y : Int32} {m0 m1 m2 m3 m4 m5 m6 m7 : Nat → Int32} {w : va_W} (hR : zR cI cZ a n b r y m0 m1 m2 m3 m4 m5 m6 m7 w) (p : Nat) (hp : p < n) : zv_R l yX1_springOf wsX1_springOf rmX1_springOf D vwCl (tyL cI cZ) [.ref a, .int (nI p)] w (fun v => v = some (.int (m3 p))) := by
  obtain ⟨⟨q, h, k, d, f0, f1, f2, f3, f4, f5, f6, f7, f8, f9, f10, f11, f12, f13, n1, r1, g0, g1, g2, g3, g4, g5, g6, g7, g8, g9, g10, g11, g12, g13, bp, bn, rfl, rfl, hI⟩, hb, hk⟩ := hR
  rw [(hI.E p hp).2.2.1]
  exact k_X1_springOf l D cI cZ q h k b y n r f0 f1 f2 f3 f4 f5 f6 f7 f8 f9 f10 f11 f12 f13 n1 r1 g0 g1 g2 g3 g4 g5 g6 g7 g8 g9 g10 g11 g12 g13 bp bn p hI.n16 hp
theorem w_waterAt (l : Launch) (D : va_G) {cI cZ : ClassId} {a n b : Nat} {r y : Int32} {m0 m1 m2 m3 m4 m5 m6 m7 : Nat → Int32} {w : va_W} (hR : zR cI cZ a n b r y m0 m1 m2 m3 m4 m5 m6 m7 w) (p : Nat) (hp : p < n) : zv_R l yX1_waterAt wsX1_waterAt rmX1_waterAt D vwCl (tyL cI cZ) [.ref a, .int (nI p)] w (fun v => v = some (.int ((sol n m0 m1 m2 m3 m5 r).1 p))) := by
  obtain ⟨⟨q, h, k, d, f0, f1, f2, f3, f4, f5, f6, f7, f8, f9, f10, f11, f12, f13, n1, r1, g0, g1, g2, g3, g4, g5, g6, g7, g8, g9, g10, g11, g12, g13, bp, bn, rfl, rfl, hI⟩, hb, hk⟩ := hR
  rw [← (hI.ms p hp).1]
  exact k_X1_waterAt l D cI cZ q h k b y n r f0 f1 f2 f3 f4 f5 f6 f7 f8 f9 f10 f11 f12 f13 n1 r1 g0 g1 g2 g3 g4 g5 g6 g7 g8 g9 g10 g11 g12 g13 bp bn p hI.n16 hp
theorem w_lengthAt (l : Launch) (D : va_G) {cI cZ : ClassId} {a n b : Nat} {r y : Int32} {m0 m1 m2 m3 m4 m5 m6 m7 : Nat → Int32} {w : va_W} (hR : zR cI cZ a n b r y m0 m1 m2 m3 m4 m5 m6 m7 w) (p : Nat) (hp : p < n) : zv_R l yX1_lengthAt wsX1_lengthAt rmX1_lengthAt D vwCl (tyL cI cZ) [.ref a, .int (nI p)] w (fun v => v = some (.int ((sol n m0 m1 m2 m3 m5 r).2.1 p))) := by
  obtain ⟨⟨q, h, k, d, f0, f1, f2, f3, f4, f5, f6, f7, f8, f9, f10, f11, f12, f13, n1, r1, g0, g1, g2, g3, g4, g5, g6, g7, g8, g9, g10, g11, g12, g13, bp, bn, rfl, rfl, hI⟩, hb, hk⟩ := hR
  rw [← (hI.ms p hp).2.1]
  exact k_X1_lengthAt l D cI cZ q h k b y n r f0 f1 f2 f3 f4 f5 f6 f7 f8 f9 f10 f11 f12 f13 n1 r1 g0 g1 g2 g3 g4 g5 g6 g7 g8 g9 g10 g11 g12 g13 bp bn p hI.n16 hp
theorem w_nameAt (l : Launch) (D : va_G) {cI cZ : ClassId} {a n b : Nat} {r y : Int32} {m0 m1 m2 m3 m4 m5 m6 m7 : Nat → Int32} {w : va_W} (hR : zR cI cZ a n b r y m0 m1 m2 m3 m4 m5 m6 m7 w) (p : Nat) (hp : p < n) : zv_R l yX1_nameAt wsX1_nameAt rmX1_nameAt D vwCl (tyL cI cZ) [.ref a, .int (nI p)] w (fun v => v = some (.int (nmS n m0 m1 m2 m3 m5 r p))) := by
  obtain ⟨⟨q, h, k, d, f0, f1, f2, f3, f4, f5, f6, f7, f8, f9, f10, f11, f12, f13, n1, r1, g0, g1, g2, g3, g4, g5, g6, g7, g8, g9, g10, g11, g12, g13, bp, bn, rfl, rfl, hI⟩, hb, hk⟩ := hR
  rw [← hI.n9 hp]
  exact k_X1_nameAt l D cI cZ q h k b y n r f0 f1 f2 f3 f4 f5 f6 f7 f8 f9 f10 f11 f12 f13 n1 r1 g0 g1 g2 g3 g4 g5 g6 g7 g8 g9 g10 g11 g12 g13 bp bn p hI.n16 hp
theorem w_arguing (l : Launch) (D : va_G) {cI cZ : ClassId} {a n b : Nat} {r y : Int32} {m0 m1 m2 m3 m4 m5 m6 m7 : Nat → Int32} {w : va_W} (hR : zR cI cZ a n b r y m0 m1 m2 m3 m4 m5 m6 m7 w) (p : Nat) (hp : p < n) : zv_R l yX1_arguing wsX1_arguing rmX1_arguing D vwCl (tyL cI cZ) [.ref a, .int (nI p)] w (fun v => v = some (.int (nI (agA m0 m1 m3 m5 (nmS n m0 m1 m2 m3 m5 r) p n)))) := by
  obtain ⟨⟨q, h, k, d, f0, f1, f2, f3, f4, f5, f6, f7, f8, f9, f10, f11, f12, f13, n1, r1, g0, g1, g2, g3, g4, g5, g6, g7, g8, g9, g10, g11, g12, g13, bp, bn, rfl, rfl, hI⟩, hb, hk⟩ := hR
  rw [← hI.vArg hp]
  exact k_X1_arguing l D cI cZ q h k b y n r f0 f1 f2 f3 f4 f5 f6 f7 f8 f9 f10 f11 f12 f13 n1 r1 g0 g1 g2 g3 g4 g5 g6 g7 g8 g9 g10 g11 g12 g13 bp bn p hI.n16 hp
theorem w_isArgued (l : Launch) (D : va_G) {cI cZ : ClassId} {a n b : Nat} {r y : Int32} {m0 m1 m2 m3 m4 m5 m6 m7 : Nat → Int32} {w : va_W} (hR : zR cI cZ a n b r y m0 m1 m2 m3 m4 m5 m6 m7 w) (p : Nat) (hp : p < n) : zv_R l yX1_isArgued wsX1_isArgued rmX1_isArgued D vwCl (tyL cI cZ) [.ref a, .int (nI p)] w (fun v => v = some (.int (zb (agD m0 m1 m2 m3 m5 (nmS n m0 m1 m2 m3 m5 r) p n)))) := by
  obtain ⟨⟨q, h, k, d, f0, f1, f2, f3, f4, f5, f6, f7, f8, f9, f10, f11, f12, f13, n1, r1, g0, g1, g2, g3, g4, g5, g6, g7, g8, g9, g10, g11, g12, g13, bp, bn, rfl, rfl, hI⟩, hb, hk⟩ := hR
  rw [← hI.vDis hp]
  exact k_X1_isArgued l D cI cZ q h k b y n r f0 f1 f2 f3 f4 f5 f6 f7 f8 f9 f10 f11 f12 f13 n1 r1 g0 g1 g2 g3 g4 g5 g6 g7 g8 g9 g10 g11 g12 g13 bp bn p hI.n16 hp (hI.z11 hp)
theorem w_mouthOf (l : Launch) (D : va_G) {cI cZ : ClassId} {a n b : Nat} {r y : Int32} {m0 m1 m2 m3 m4 m5 m6 m7 : Nat → Int32} {w : va_W} (hR : zR cI cZ a n b r y m0 m1 m2 m3 m4 m5 m6 m7 w) (p : Nat) (hp : p < n) : zv_R l yX1_mouthOf wsX1_mouthOf rmX1_mouthOf D vwCl (tyL cI cZ) [.ref a, .int (nI p)] w (fun v => v = some (.int (nI (mo m0 16 p)))) := by
  obtain ⟨⟨q, h, k, d, f0, f1, f2, f3, f4, f5, f6, f7, f8, f9, f10, f11, f12, f13, n1, r1, g0, g1, g2, g3, g4, g5, g6, g7, g8, g9, g10, g11, g12, g13, bp, bn, rfl, rfl, hI⟩, hb, hk⟩ := hR
  rw [← hI.vMouth hp]
  exact k_X1_mouthOf l D cI cZ q h k b y n r f0 f1 f2 f3 f4 f5 f6 f7 f8 f9 f10 f11 f12 f13 n1 r1 g0 g1 g2 g3 g4 g5 g6 g7 g8 g9 g10 g11 g12 g13 bp bn p hI.n16 hp hI.vw
theorem w_isAbove (l : Launch) (D : va_G) {cI cZ : ClassId} {a n b : Nat} {r y : Int32} {m0 m1 m2 m3 m4 m5 m6 m7 : Nat → Int32} {w : va_W} (hR : zR cI cZ a n b r y m0 m1 m2 m3 m4 m5 m6 m7 w) (p z : Nat) (hp : p < n) (hz : z < n) : zv_R l yX1_isAbove wsX1_isAbove rmX1_isAbove D vwCl (tyL cI cZ) [.ref a, .int (nI p), .int (nI z)] w (fun v => v = some (.int (zb (fl m0 (nI z) 16 (m0 p))))) := by
  obtain ⟨⟨q, h, k, d, f0, f1, f2, f3, f4, f5, f6, f7, f8, f9, f10, f11, f12, f13, n1, r1, g0, g1, g2, g3, g4, g5, g6, g7, g8, g9, g10, g11, g12, g13, bp, bn, rfl, rfl, hI⟩, hb, hk⟩ := hR
  rw [← hI.vAbove hp]
  exact k_X1_isAbove l D cI cZ q h k b y n r f0 f1 f2 f3 f4 f5 f6 f7 f8 f9 f10 f11 f12 f13 n1 r1 g0 g1 g2 g3 g4 g5 g6 g7 g8 g9 g10 g11 g12 g13 bp bn p z hI.n16 hp hz hI.vw
theorem w_meeting (l : Launch) (D : va_G) {cI cZ : ClassId} {a n b : Nat} {r y : Int32} {m0 m1 m2 m3 m4 m5 m6 m7 : Nat → Int32} {w : va_W} (hR : zR cI cZ a n b r y m0 m1 m2 m3 m4 m5 m6 m7 w) (p z : Nat) (hp : p < n) (hz : z < n) : zv_R l yX1_meeting wsX1_meeting rmX1_meeting D vwCl (tyL cI cZ) [.ref a, .int (nI p), .int (nI z)] w (fun v => v = some (.int (fc m0 z 16 (nI p)))) := by
  obtain ⟨⟨q, h, k, d, f0, f1, f2, f3, f4, f5, f6, f7, f8, f9, f10, f11, f12, f13, n1, r1, g0, g1, g2, g3, g4, g5, g6, g7, g8, g9, g10, g11, g12, g13, bp, bn, rfl, rfl, hI⟩, hb, hk⟩ := hR
  rw [← hI.vFc hp hz]
  exact k_X1_meeting l D cI cZ q h k b y n r f0 f1 f2 f3 f4 f5 f6 f7 f8 f9 f10 f11 f12 f13 n1 r1 g0 g1 g2 g3 g4 g5 g6 g7 g8 g9 g10 g11 g12 g13 bp bn p z hI.n16 hp hz hI.vw
theorem w_placesAbove (l : Launch) (D : va_G) {cI cZ : ClassId} {a n b : Nat} {r y : Int32} {m0 m1 m2 m3 m4 m5 m6 m7 : Nat → Int32} {w : va_W} (hR : zR cI cZ a n b r y m0 m1 m2 m3 m4 m5 m6 m7 w) (p : Nat) (hp : p < n) : zv_R l yX1_placesAbove wsX1_placesAbove rmX1_placesAbove D vwCl (tyL cI cZ) [.ref a, .int (nI p)] w (fun v => v = some (.int (nI (ao n m0 p)))) := by
  obtain ⟨⟨q, h, k, d, f0, f1, f2, f3, f4, f5, f6, f7, f8, f9, f10, f11, f12, f13, n1, r1, g0, g1, g2, g3, g4, g5, g6, g7, g8, g9, g10, g11, g12, g13, bp, bn, rfl, rfl, hI⟩, hb, hk⟩ := hR
  rw [← hI.vAo p]
  exact k_X1_placesAbove l D cI cZ q h k b y n r f0 f1 f2 f3 f4 f5 f6 f7 f8 f9 f10 f11 f12 f13 n1 r1 g0 g1 g2 g3 g4 g5 g6 g7 g8 g9 g10 g11 g12 g13 bp bn p hI.n16 hp hI.vw
theorem w_placesNamed (l : Launch) (D : va_G) {cI cZ : ClassId} {a n b : Nat} {r y : Int32} {m0 m1 m2 m3 m4 m5 m6 m7 : Nat → Int32} {w : va_W} (hR : zR cI cZ a n b r y m0 m1 m2 m3 m4 m5 m6 m7 w) (x : Int32) (hx : isI x 0 9 = true) : zv_R l yX1_placesNamed wsX1_placesNamed rmX1_placesNamed D vwCl (tyL cI cZ) [.ref a, .int x] w (fun v => v = some (.int (nI (cnt (nmS n m0 m1 m2 m3 m5 r) x n)))) := by
  obtain ⟨⟨q, h, k, d, f0, f1, f2, f3, f4, f5, f6, f7, f8, f9, f10, f11, f12, f13, n1, r1, g0, g1, g2, g3, g4, g5, g6, g7, g8, g9, g10, g11, g12, g13, bp, bn, rfl, rfl, hI⟩, hb, hk⟩ := hR
  rw [← hI.vCnt x]
  exact k_X1_placesNamed l D cI cZ q h k b y n r f0 f1 f2 f3 f4 f5 f6 f7 f8 f9 f10 f11 f12 f13 n1 r1 g0 g1 g2 g3 g4 g5 g6 g7 g8 g9 g10 g11 g12 g13 bp bn x hI.n16 hx
theorem w_nameless (l : Launch) (D : va_G) {cI cZ : ClassId} {a n b : Nat} {r y : Int32} {m0 m1 m2 m3 m4 m5 m6 m7 : Nat → Int32} {w : va_W} (hR : zR cI cZ a n b r y m0 m1 m2 m3 m4 m5 m6 m7 w)  : zv_R l yX1_nameless wsX1_nameless rmX1_nameless D vwCl (tyL cI cZ) [.ref a] w (fun v => v = some (.int (nI (cnt (nmS n m0 m1 m2 m3 m5 r) (-1) n)))) := by
  obtain ⟨⟨q, h, k, d, f0, f1, f2, f3, f4, f5, f6, f7, f8, f9, f10, f11, f12, f13, n1, r1, g0, g1, g2, g3, g4, g5, g6, g7, g8, g9, g10, g11, g12, g13, bp, bn, rfl, rfl, hI⟩, hb, hk⟩ := hR
  rw [← hI.vCnt (-1)]
  exact k_X1_nameless l D cI cZ q h k b y n r f0 f1 f2 f3 f4 f5 f6 f7 f8 f9 f10 f11 f12 f13 n1 r1 g0 g1 g2 g3 g4 g5 g6 g7 g8 g9 g10 g11 g12 g13 bp bn hI.n16
theorem w_greatestName (l : Launch) (D : va_G) {cI cZ : ClassId} {a n b : Nat} {r y : Int32} {m0 m1 m2 m3 m4 m5 m6 m7 : Nat → Int32} {w : va_W} (hR : zR cI cZ a n b r y m0 m1 m2 m3 m4 m5 m6 m7 w)  : zv_R l yX1_greatestName wsX1_greatestName rmX1_greatestName D vwCl (tyL cI cZ) [.ref a] w (fun v => v = some (.int (gst (nmS n m0 m1 m2 m3 m5 r) n 10))) := by
  obtain ⟨⟨q, h, k, d, f0, f1, f2, f3, f4, f5, f6, f7, f8, f9, f10, f11, f12, f13, n1, r1, g0, g1, g2, g3, g4, g5, g6, g7, g8, g9, g10, g11, g12, g13, bp, bn, rfl, rfl, hI⟩, hb, hk⟩ := hR
  rw [← hI.vGst 10]
  exact k_X1_greatestName l D cI cZ q h k b y n r f0 f1 f2 f3 f4 f5 f6 f7 f8 f9 f10 f11 f12 f13 n1 r1 g0 g1 g2 g3 g4 g5 g6 g7 g8 g9 g10 g11 g12 g13 bp bn hI.n16
theorem w_placeOf (l : Launch) (D : va_G) {cI cZ : ClassId} {a n b : Nat} {r y : Int32} {m0 m1 m2 m3 m4 m5 m6 m7 : Nat → Int32} {w : va_W} (hR : zR cI cZ a n b r y m0 m1 m2 m3 m4 m5 m6 m7 w) (p : Nat) (hp : p < b) : zv_R l yX1_placeOf wsX1_placeOf rmX1_placeOf D vwCl (tyL cI cZ) [.ref a, .int (nI p)] w (fun v => v = some (.int (m6 p))) := by
  obtain ⟨⟨q, h, k, d, f0, f1, f2, f3, f4, f5, f6, f7, f8, f9, f10, f11, f12, f13, n1, r1, g0, g1, g2, g3, g4, g5, g6, g7, g8, g9, g10, g11, g12, g13, bp, bn, rfl, rfl, hI⟩, hb, hk⟩ := hR
  rw [(hI.F p hp).1]
  exact k_X1_placeOf l D cI cZ q h k b y n r f0 f1 f2 f3 f4 f5 f6 f7 f8 f9 f10 f11 f12 f13 n1 r1 g0 g1 g2 g3 g4 g5 g6 g7 g8 g9 g10 g11 g12 g13 bp bn p hI.b16 hp
theorem w_keeps (l : Launch) (D : va_G) {cI cZ : ClassId} {a n b : Nat} {r y : Int32} {m0 m1 m2 m3 m4 m5 m6 m7 : Nat → Int32} {w : va_W} (hR : zR cI cZ a n b r y m0 m1 m2 m3 m4 m5 m6 m7 w) (p : Nat) (hp : p < b) : zv_R l yX1_keeps wsX1_keeps rmX1_keeps D vwCl (tyL cI cZ) [.ref a, .int (nI p)] w (fun v => v = some (.int (m7 p))) := by
  obtain ⟨⟨q, h, k, d, f0, f1, f2, f3, f4, f5, f6, f7, f8, f9, f10, f11, f12, f13, n1, r1, g0, g1, g2, g3, g4, g5, g6, g7, g8, g9, g10, g11, g12, g13, bp, bn, rfl, rfl, hI⟩, hb, hk⟩ := hR
  rw [(hI.F p hp).2]
  exact k_X1_keeps l D cI cZ q h k b y n r f0 f1 f2 f3 f4 f5 f6 f7 f8 f9 f10 f11 f12 f13 n1 r1 g0 g1 g2 g3 g4 g5 g6 g7 g8 g9 g10 g11 g12 g13 bp bn p hI.b16 hp
theorem w_isInsulted (l : Launch) (D : va_G) {cI cZ : ClassId} {a n b : Nat} {r y : Int32} {m0 m1 m2 m3 m4 m5 m6 m7 : Nat → Int32} {w : va_W} (hR : zR cI cZ a n b r y m0 m1 m2 m3 m4 m5 m6 m7 w) (p : Nat) (hp : p < b) : zv_R l yX1_isInsulted wsX1_isInsulted rmX1_isInsulted D vwCl (tyL cI cZ) [.ref a, .int (nI p)] w (fun v => v = some (.int (zb (insd (m7 p) (nmS n m0 m1 m2 m3 m5 r (m6 p).toNatClampNeg))))) := by
  obtain ⟨⟨q, h, k, d, f0, f1, f2, f3, f4, f5, f6, f7, f8, f9, f10, f11, f12, f13, n1, r1, g0, g1, g2, g3, g4, g5, g6, g7, g8, g9, g10, g11, g12, g13, bp, bn, rfl, rfl, hI⟩, hb, hk⟩ := hR
  rw [← hI.vIns hp]
  exact k_X1_isInsulted l D cI cZ q h k b y n r f0 f1 f2 f3 f4 f5 f6 f7 f8 f9 f10 f11 f12 f13 n1 r1 g0 g1 g2 g3 g4 g5 g6 g7 g8 g9 g10 g11 g12 g13 bp bn p hI.n16 hI.b16 hI.brg hp
theorem w_insults (l : Launch) (D : va_G) {cI cZ : ClassId} {a n b : Nat} {r y : Int32} {m0 m1 m2 m3 m4 m5 m6 m7 : Nat → Int32} {w : va_W} (hR : zR cI cZ a n b r y m0 m1 m2 m3 m4 m5 m6 m7 w)  : zv_R l yX1_insults wsX1_insults rmX1_insults D vwCl (tyL cI cZ) [.ref a] w (fun v => v = some (.int (nI (inN m6 m7 (nmS n m0 m1 m2 m3 m5 r) b)))) := by
  obtain ⟨⟨q, h, k, d, f0, f1, f2, f3, f4, f5, f6, f7, f8, f9, f10, f11, f12, f13, n1, r1, g0, g1, g2, g3, g4, g5, g6, g7, g8, g9, g10, g11, g12, g13, bp, bn, rfl, rfl, hI⟩, hb, hk⟩ := hR
  rw [← hI.vInN]
  exact k_X1_insults l D cI cZ q h k b y n r f0 f1 f2 f3 f4 f5 f6 f7 f8 f9 f10 f11 f12 f13 n1 r1 g0 g1 g2 g3 g4 g5 g6 g7 g8 g9 g10 g11 g12 g13 bp bn hI.n16 hI.b16 hI.brg
theorem w_insultsAt (l : Launch) (D : va_G) {cI cZ : ClassId} {a n b : Nat} {r y : Int32} {m0 m1 m2 m3 m4 m5 m6 m7 : Nat → Int32} {w : va_W} (hR : zR cI cZ a n b r y m0 m1 m2 m3 m4 m5 m6 m7 w) (p : Nat) (hp : p < n) : zv_R l yX1_insultsAt wsX1_insultsAt rmX1_insultsAt D vwCl (tyL cI cZ) [.ref a, .int (nI p)] w (fun v => v = some (.int (nI (inP m6 m7 (nmS n m0 m1 m2 m3 m5 r) p b)))) := by
  obtain ⟨⟨q, h, k, d, f0, f1, f2, f3, f4, f5, f6, f7, f8, f9, f10, f11, f12, f13, n1, r1, g0, g1, g2, g3, g4, g5, g6, g7, g8, g9, g10, g11, g12, g13, bp, bn, rfl, rfl, hI⟩, hb, hk⟩ := hR
  rw [← hI.vInP p]
  exact k_X1_insultsAt l D cI cZ q h k b y n r f0 f1 f2 f3 f4 f5 f6 f7 f8 f9 f10 f11 f12 f13 n1 r1 g0 g1 g2 g3 g4 g5 g6 g7 g8 g9 g10 g11 g12 g13 bp bn p hI.n16 hI.b16 hI.brg hp
theorem w_meanMouth (l : Launch) (D : va_G) {cI cZ : ClassId} {a n b : Nat} {r y : Int32} {m0 m1 m2 m3 m4 m5 m6 m7 : Nat → Int32} {w : va_W} (hR : zR cI cZ a n b r y m0 m1 m2 m3 m4 m5 m6 m7 w)  : zv_R l yX1_meanMouth wsX1_meanMouth rmX1_meanMouth D vwCl (tyL cI cZ) [.ref a] w (fun v => v = some (.double (mmV m0 (sol n m0 m1 m2 m3 m5 r).1 n))) := by
  obtain ⟨⟨q, h, k, d, f0, f1, f2, f3, f4, f5, f6, f7, f8, f9, f10, f11, f12, f13, n1, r1, g0, g1, g2, g3, g4, g5, g6, g7, g8, g9, g10, g11, g12, g13, bp, bn, rfl, rfl, hI⟩, hb, hk⟩ := hR
  rw [← hI.vMean]
  exact k_X1_meanMouth l D cI cZ q h k b y n r f0 f1 f2 f3 f4 f5 f6 f7 f8 f9 f10 f11 f12 f13 n1 r1 g0 g1 g2 g3 g4 g5 g6 g7 g8 g9 g10 g11 g12 g13 bp bn hI.n16
theorem w_nameIn (l : Launch) (D : va_G) {cI cZ : ClassId} {a n b : Nat} {r y : Int32} {m0 m1 m2 m3 m4 m5 m6 m7 : Nat → Int32} {w : va_W} (hR : zR cI cZ a n b r y m0 m1 m2 m3 m4 m5 m6 m7 w) (p z : Nat) (hp : p < n) (hz1 : 1 ≤ z) (hz5 : z ≤ 50) : zv_M l yX1_nameIn wsX1_nameIn rmX1_nameIn D vwCl (tyL cI cZ) [.ref a, .int (nI p), .int (nI z)] w (fun v w' => v = some (.int (nmS n m0 m1 m2 (swN m1 m3 m4 z) m5 r p)) ∧ zR cI cZ a n b r y m0 m1 m2 m3 m4 m5 m6 m7 w') := by
  have hV := hR.lv
  obtain ⟨⟨q, h, k, d, f0, f1, f2, f3, f4, f5, f6, f7, f8, f9, f10, f11, f12, f13, n1, r1, g0, g1, g2, g3, g4, g5, g6, g7, g8, g9, g10, g11, g12, g13, bp, bn, rfl, rfl, hI⟩, hb, hk⟩ := hR
  refine zn_Mmono (k_X1_nameIn l D cI cZ q h k b y n r f0 f1 f2 f3 f4 f5 f6 f7 f8 f9 f10 f11 f12 f13 n1 r1 g0 g1 g2 g3 g4 g5 g6 g7 g8 g9 g10 g11 g12 g13 bp bn p z hz1 hz5 d hI.n16 hI.dep hI.wat hI.stl hI.z2 hI.z6 hI.swlI hp) (fun v w hv => ?_)
  obtain ⟨tn, tr, tg_, rfl, rfl⟩ := hv
  exact ⟨by rw [hI.nmY z], ⟨q, h, k, d, f0, f1, f2, f3, f4, f5, f6, f7, f8, f9, f10, f11, f12, f13, tn, tr, tg_ 0, tg_ 1, tg_ 2, tg_ 3, tg_ 4, tg_ 5, tg_ 6, tg_ 7, tg_ 8, tg_ 9, tg_ 10, tg_ 11, tg_ 12, tg_ 13, bp, bn, rfl, rfl, hI⟩, hb, hk⟩
theorem w_yearsUntilRenamed (l : Launch) (D : va_G) {cI cZ : ClassId} {a n b : Nat} {r y : Int32} {m0 m1 m2 m3 m4 m5 m6 m7 : Nat → Int32} {w : va_W} (hR : zR cI cZ a n b r y m0 m1 m2 m3 m4 m5 m6 m7 w) (p : Nat) (hp : p < n) : zv_M l yX1_yearsUntilRenamed wsX1_yearsUntilRenamed rmX1_yearsUntilRenamed D vwCl (tyL cI cZ) [.ref a, .int (nI p)] w (fun v w' => v = some (.int (utl (anY n m0 m1 m2 m3 m4 m5 r p) 50)) ∧ zR cI cZ a n b r y m0 m1 m2 m3 m4 m5 m6 m7 w') := by
  have hV := hR.lv
  obtain ⟨⟨q, h, k, d, f0, f1, f2, f3, f4, f5, f6, f7, f8, f9, f10, f11, f12, f13, n1, r1, g0, g1, g2, g3, g4, g5, g6, g7, g8, g9, g10, g11, g12, g13, bp, bn, rfl, rfl, hI⟩, hb, hk⟩ := hR
  refine zn_Mmono (k_X1_yearsUntilRenamed l D cI cZ q h k b y n r f0 f1 f2 f3 f4 f5 f6 f7 f8 f9 f10 f11 f12 f13 n1 r1 g0 g1 g2 g3 g4 g5 g6 g7 g8 g9 g10 g11 g12 g13 bp bn p d hI.n16 hI.dep hI.wat hI.stl hI.z2 hI.z6 hI.swlI hp) (fun v w hv => ?_)
  obtain ⟨tn, tr, tg_, rfl, rfl⟩ := hv
  exact ⟨by rw [hI.vUtl p], ⟨q, h, k, d, f0, f1, f2, f3, f4, f5, f6, f7, f8, f9, f10, f11, f12, f13, tn, tr, tg_ 0, tg_ 1, tg_ 2, tg_ 3, tg_ 4, tg_ 5, tg_ 6, tg_ 7, tg_ 8, tg_ 9, tg_ 10, tg_ 11, tg_ 12, tg_ 13, bp, bn, rfl, rfl, hI⟩, hb, hk⟩
theorem w_weightiestSpring (l : Launch) (D : va_G) {cI cZ : ClassId} {a n b : Nat} {r y : Int32} {m0 m1 m2 m3 m4 m5 m6 m7 : Nat → Int32} {w : va_W} (hR : zR cI cZ a n b r y m0 m1 m2 m3 m4 m5 m6 m7 w)  : zv_M l yX1_weightiestSpring wsX1_weightiestSpring rmX1_weightiestSpring D vwCl (tyL cI cZ) [.ref a] w (fun v w' => v = some (.int ((wst (sprg m1 m3) (dry n m0 m1 m2 m3 m5 r) n).1)) ∧ zR cI cZ a n b r y m0 m1 m2 m3 m4 m5 m6 m7 w') := by
  have hV := hR.lv
  obtain ⟨⟨q, h, k, d, f0, f1, f2, f3, f4, f5, f6, f7, f8, f9, f10, f11, f12, f13, n1, r1, g0, g1, g2, g3, g4, g5, g6, g7, g8, g9, g10, g11, g12, g13, bp, bn, rfl, rfl, hI⟩, hb, hk⟩ := hR
  refine zn_Mmono (k_X1_weightiestSpring l D cI cZ q h k b y n r f0 f1 f2 f3 f4 f5 f6 f7 f8 f9 f10 f11 f12 f13 n1 r1 g0 g1 g2 g3 g4 g5 g6 g7 g8 g9 g10 g11 g12 g13 bp bn d hI.n16 hI.dep hI.wat hI.stl hI.z2 hI.z6) (fun v w hv => ?_)
  obtain ⟨tn, tr, tg_, rfl, rfl⟩ := hv
  exact ⟨by rw [hI.vWst], ⟨q, h, k, d, f0, f1, f2, f3, f4, f5, f6, f7, f8, f9, f10, f11, f12, f13, tn, tr, tg_ 0, tg_ 1, tg_ 2, tg_ 3, tg_ 4, tg_ 5, tg_ 6, tg_ 7, tg_ 8, tg_ 9, tg_ 10, tg_ 11, tg_ 12, tg_ 13, bp, bn, rfl, rfl, hI⟩, hb, hk⟩
theorem w_renamedByDelta (l : Launch) (D : va_G) {cI cZ : ClassId} {a n b : Nat} {r y : Int32} {m0 m1 m2 m3 m4 m5 m6 m7 : Nat → Int32} {w : va_W} (hR : zR cI cZ a n b r y m0 m1 m2 m3 m4 m5 m6 m7 w) (p : Nat) (hp : p < n) : zv_M l yX1_renamedByDelta wsX1_renamedByDelta rmX1_renamedByDelta D vwCl (tyL cI cZ) [.ref a, .int (nI p)] w (fun v w' => v = some (.int (nI (cne (nmS n m0 m1 m2 m3 (upd m5 p (tg (m5 p))) r) (nmS n m0 m1 m2 m3 m5 r) n))) ∧ zR cI cZ a n b r y m0 m1 m2 m3 m4 m5 m6 m7 w') := by
  have hV := hR.lv
  obtain ⟨⟨q, h, k, d, f0, f1, f2, f3, f4, f5, f6, f7, f8, f9, f10, f11, f12, f13, n1, r1, g0, g1, g2, g3, g4, g5, g6, g7, g8, g9, g10, g11, g12, g13, bp, bn, rfl, rfl, hI⟩, hb, hk⟩ := hR
  refine zn_Mmono (k_X1_renamedByDelta l D cI cZ q h k b y n r f0 f1 f2 f3 f4 f5 f6 f7 f8 f9 f10 f11 f12 f13 n1 r1 g0 g1 g2 g3 g4 g5 g6 g7 g8 g9 g10 g11 g12 g13 bp bn p d hI.n16 hI.dep hI.wat hI.stl hI.z2 hI.z6 hp) (fun v w hv => ?_)
  obtain ⟨tn, tr, tg_, rfl, rfl⟩ := hv
  exact ⟨by rw [hI.vDel hp], ⟨q, h, k, d, f0, f1, f2, f3, f4, f5, f6, f7, f8, f9, f10, f11, f12, f13, tn, tr, tg_ 0, tg_ 1, tg_ 2, tg_ 3, tg_ 4, tg_ 5, tg_ 6, tg_ 7, tg_ 8, tg_ 9, tg_ 10, tg_ 11, tg_ 12, tg_ 13, bp, bn, rfl, rfl, hI⟩, hb, hk⟩
theorem w_renamedByRule (l : Launch) (D : va_G) {cI cZ : ClassId} {a n b : Nat} {r y : Int32} {m0 m1 m2 m3 m4 m5 m6 m7 : Nat → Int32} {w : va_W} (hR : zR cI cZ a n b r y m0 m1 m2 m3 m4 m5 m6 m7 w)  : zv_M l yX1_renamedByRule wsX1_renamedByRule rmX1_renamedByRule D vwCl (tyL cI cZ) [.ref a] w (fun v w' => v = some (.int (nI (cne (nmS n m0 m1 m2 m3 m5 (1 - r)) (nmS n m0 m1 m2 m3 m5 r) n))) ∧ zR cI cZ a n b r y m0 m1 m2 m3 m4 m5 m6 m7 w') := by
  have hV := hR.lv
  obtain ⟨⟨q, h, k, d, f0, f1, f2, f3, f4, f5, f6, f7, f8, f9, f10, f11, f12, f13, n1, r1, g0, g1, g2, g3, g4, g5, g6, g7, g8, g9, g10, g11, g12, g13, bp, bn, rfl, rfl, hI⟩, hb, hk⟩ := hR
  refine zn_Mmono (k_X1_renamedByRule l D cI cZ q h k b y n r f0 f1 f2 f3 f4 f5 f6 f7 f8 f9 f10 f11 f12 f13 n1 r1 g0 g1 g2 g3 g4 g5 g6 g7 g8 g9 g10 g11 g12 g13 bp bn d hI.n16 hI.dep hI.wat hI.stl hI.z2 hI.z6 hI.r01) (fun v w hv => ?_)
  obtain ⟨tn, tr, tg_, rfl, rfl⟩ := hv
  exact ⟨by rw [hI.vRul], ⟨q, h, k, d, f0, f1, f2, f3, f4, f5, f6, f7, f8, f9, f10, f11, f12, f13, tn, tr, tg_ 0, tg_ 1, tg_ 2, tg_ 3, tg_ 4, tg_ 5, tg_ 6, tg_ 7, tg_ 8, tg_ 9, tg_ 10, tg_ 11, tg_ 12, tg_ 13, bp, bn, rfl, rfl, hI⟩, hb, hk⟩
theorem w_digest (l : Launch) (D : va_G) {cI cZ : ClassId} {a n b : Nat} {r y : Int32} {m0 m1 m2 m3 m4 m5 m6 m7 : Nat → Int32} {w : va_W} (hR : zR cI cZ a n b r y m0 m1 m2 m3 m4 m5 m6 m7 w)  : zv_M l yX1_digest wsX1_digest rmX1_digest D vwCl (tyL cI cZ) [.ref a] w (fun v w' => v = some (.long (dgM n b m0 m1 m2 m3 m5 m6 m7 r y)) ∧ zR cI cZ a n b r y m0 m1 m2 m3 m4 m5 m6 m7 w') := by
  have hV := hR.lv
  obtain ⟨⟨q, h, k, d, f0, f1, f2, f3, f4, f5, f6, f7, f8, f9, f10, f11, f12, f13, n1, r1, g0, g1, g2, g3, g4, g5, g6, g7, g8, g9, g10, g11, g12, g13, bp, bn, rfl, rfl, hI⟩, hb, hk⟩ := hR
  refine zn_Mmono (k_X1_digest l D cI cZ q h k b y n r f0 f1 f2 f3 f4 f5 f6 f7 f8 f9 f10 f11 f12 f13 n1 r1 g0 g1 g2 g3 g4 g5 g6 g7 g8 g9 g10 g11 g12 g13 bp bn d hI.n16 hI.dep hI.wat hI.stl hI.z2 hI.z6 hI.r01 hI.b16 hI.brg) (fun v w hv => ?_)
  obtain ⟨tn, tr, tg_, rfl, rfl⟩ := hv
  exact ⟨by rw [hI.vDig y], ⟨q, h, k, d, f0, f1, f2, f3, f4, f5, f6, f7, f8, f9, f10, f11, f12, f13, tn, tr, tg_ 0, tg_ 1, tg_ 2, tg_ 3, tg_ 4, tg_ 5, tg_ 6, tg_ 7, tg_ 8, tg_ 9, tg_ 10, tg_ 11, tg_ 12, tg_ 13, bp, bn, rfl, rfl, hI⟩, hb, hk⟩
theorem w_addPlace (l : Launch) (D : va_G) {cI cZ : ClassId} {a n b : Nat} {r y : Int32} {m0 m1 m2 m3 m4 m5 m6 m7 : Nat → Int32} {w : va_W} (hR : zR cI cZ a n b r y m0 m1 m2 m3 m4 m5 m6 m7 w) (hn : n < 16) : zv_M l yX1_addPlace wsX1_addPlace rmX1_addPlace D vwCl (tyL cI cZ) [.ref a] w (fun v w' => v = some (.int (nI n)) ∧ zR cI cZ a (n + 1) b r y (upd m0 n (-1)) (upd m1 n 0) (upd m2 n (-1)) (upd m3 n 0) (upd m4 n 0) m5 m6 m7 w') := by
  have hV := hR.lv
  obtain ⟨⟨q, h, k, d, f0, f1, f2, f3, f4, f5, f6, f7, f8, f9, f10, f11, f12, f13, n1, r1, g0, g1, g2, g3, g4, g5, g6, g7, g8, g9, g10, g11, g12, g13, bp, bn, rfl, rfl, hI⟩, hb, hk⟩ := hR
  refine zn_Mmono (k_X1_addPlace l D cI cZ q h k b y n r f0 f1 f2 f3 f4 f5 f6 f7 f8 f9 f10 f11 f12 f13 n1 r1 g0 g1 g2 g3 g4 g5 g6 g7 g8 g9 g10 g11 g12 g13 bp bn (dAdd n d) hn hI.depAdd) (fun v w hv => ?_)
  obtain ⟨v7, v8, v9, v10, v11, v12, v13, rfl, rfl, hs⟩ := hv
  exact ⟨rfl, ⟨q, h, k, dAdd n d, upd f0 n (-1), f1, f2, f3, f4, f5, f6, v7, v8, v9, v10, v11, v12, v13, n1, r1, g0, g1, g2, g3, g4, g5, g6, g7, g8, g9, g10, g11, g12, g13, bp, bn, rfl, rfl, hI.addPlace hs hn⟩, fun i hi hz => by
    by_cases e : i = n
    · subst e; rw [upd_at] at hz; exact absurd rfl hz
    · rw [upd_ne _ _ _ e] at hz ⊢; exact hb i (by omega) hz, hk⟩
theorem w_addSpring (l : Launch) (D : va_G) {cI cZ : ClassId} {a n b : Nat} {r y : Int32} {m0 m1 m2 m3 m4 m5 m6 m7 : Nat → Int32} {w : va_W} (hR : zR cI cZ a n b r y m0 m1 m2 m3 m4 m5 m6 m7 w) (nm wa sw : Int32) (hn : n < 16) (h1 : isI nm 0 9 = true) (h2 : isI wa 0 99 = true) (h3 : isI sw (-9) 9 = true) : zv_M l yX1_addSpring wsX1_addSpring rmX1_addSpring D vwCl (tyL cI cZ) [.ref a, .int nm, .int wa, .int sw] w (fun v w' => v = some (.int (nI n)) ∧ zR cI cZ a (n + 1) b r y (upd m0 n (-1)) (upd m1 n 1) (upd m2 n nm) (upd m3 n wa) (upd m4 n sw) m5 m6 m7 w') := by
  have hV := hR.lv
  obtain ⟨⟨q, h, k, d, f0, f1, f2, f3, f4, f5, f6, f7, f8, f9, f10, f11, f12, f13, n1, r1, g0, g1, g2, g3, g4, g5, g6, g7, g8, g9, g10, g11, g12, g13, bp, bn, rfl, rfl, hI⟩, hb, hk⟩ := hR
  refine zn_Mmono (k_X1_addSpring l D cI cZ q h k b y n r f0 f1 f2 f3 f4 f5 f6 f7 f8 f9 f10 f11 f12 f13 n1 r1 g0 g1 g2 g3 g4 g5 g6 g7 g8 g9 g10 g11 g12 g13 bp bn nm wa sw (dAdd n d) hn hI.depAdd h1 h2 h3) (fun v w hv => ?_)
  obtain ⟨v7, v8, v9, v10, v11, v12, v13, rfl, rfl, hs⟩ := hv
  exact ⟨rfl, ⟨q, h, k, dAdd n d, upd f0 n (-1), f1, upd f2 n 1, upd f3 n nm, upd f4 n wa, upd f5 n sw, f6, v7, v8, v9, v10, v11, v12, v13, n1, r1, g0, g1, g2, g3, g4, g5, g6, g7, g8, g9, g10, g11, g12, g13, bp, bn, rfl, rfl, hI.addSpring hs hn h2 h3⟩, fun i hi hz => by
    by_cases e : i = n
    · subst e; rw [upd_at]; exact isI_true (hi := 9) (by omega) h1
    · rw [upd_ne _ _ _ e] at hz ⊢; exact hb i (by omega) hz, hk⟩
theorem w_turnDelta (l : Launch) (D : va_G) {cI cZ : ClassId} {a n b : Nat} {r y : Int32} {m0 m1 m2 m3 m4 m5 m6 m7 : Nat → Int32} {w : va_W} (hR : zR cI cZ a n b r y m0 m1 m2 m3 m4 m5 m6 m7 w) (p : Nat) (hp : p < n) : zv_M l yX1_turnDelta wsX1_turnDelta rmX1_turnDelta D vwCl (tyL cI cZ) [.ref a, .int (nI p)] w (fun v w' => v = some (.int (tg (m5 p))) ∧ zR cI cZ a n b r y m0 m1 m2 m3 m4 (upd m5 p (tg (m5 p))) m6 m7 w') := by
  have hV := hR.lv
  obtain ⟨⟨q, h, k, d, f0, f1, f2, f3, f4, f5, f6, f7, f8, f9, f10, f11, f12, f13, n1, r1, g0, g1, g2, g3, g4, g5, g6, g7, g8, g9, g10, g11, g12, g13, bp, bn, rfl, rfl, hI⟩, hb, hk⟩ := hR
  refine zn_Mmono (k_X1_turnDelta l D cI cZ q h k b y n r f0 f1 f2 f3 f4 f5 f6 f7 f8 f9 f10 f11 f12 f13 n1 r1 g0 g1 g2 g3 g4 g5 g6 g7 g8 g9 g10 g11 g12 g13 bp bn p d hI.n16 hI.dep hp) (fun v w hv => ?_)
  obtain ⟨v7, v8, v9, v10, v11, v12, v13, rfl, rfl, hs⟩ := hv
  exact ⟨by rw [(hI.E p hp).2.2.2.2.1], ⟨q, h, k, d, f0, f1, f2, f3, f4, f5, upd f6 p (tg (f6 p)), v7, v8, v9, v10, v11, v12, v13, n1, r1, g0, g1, g2, g3, g4, g5, g6, g7, g8, g9, g10, g11, g12, g13, bp, bn, rfl, rfl, hI.turn hp hs⟩, hb, hk⟩
theorem w_setRule (l : Launch) (D : va_G) {cI cZ : ClassId} {a n b : Nat} {r y : Int32} {m0 m1 m2 m3 m4 m5 m6 m7 : Nat → Int32} {w : va_W} (hR : zR cI cZ a n b r y m0 m1 m2 m3 m4 m5 m6 m7 w) (ru : Int32) (h1 : isI ru 0 1 = true) : zv_M l yX1_setRule wsX1_setRule rmX1_setRule D vwCl (tyL cI cZ) [.ref a, .int ru] w (fun v w' => v = some (.int r) ∧ zR cI cZ a n b ru y m0 m1 m2 m3 m4 m5 m6 m7 w') := by
  have hV := hR.lv
  obtain ⟨⟨q, h, k, d, f0, f1, f2, f3, f4, f5, f6, f7, f8, f9, f10, f11, f12, f13, n1, r1, g0, g1, g2, g3, g4, g5, g6, g7, g8, g9, g10, g11, g12, g13, bp, bn, rfl, rfl, hI⟩, hb, hk⟩ := hR
  refine zn_Mmono (k_X1_setRule l D cI cZ q h k b y n r f0 f1 f2 f3 f4 f5 f6 f7 f8 f9 f10 f11 f12 f13 n1 r1 g0 g1 g2 g3 g4 g5 g6 g7 g8 g9 g10 g11 g12 g13 bp bn ru d hI.n16 hI.dep h1) (fun v w hv => ?_)
  obtain ⟨v7, v8, v9, v10, v11, v12, v13, rfl, rfl, hs⟩ := hv
  exact ⟨rfl, ⟨q, h, k, d, f0, f1, f2, f3, f4, f5, f6, v7, v8, v9, v10, v11, v12, v13, n1, r1, g0, g1, g2, g3, g4, g5, g6, g7, g8, g9, g10, g11, g12, g13, bp, bn, rfl, rfl, hI.rule h1 hs⟩, hb, hk⟩
theorem w_build (l : Launch) (D : va_G) {cI cZ : ClassId} {a n b : Nat} {r y : Int32} {m0 m1 m2 m3 m4 m5 m6 m7 : Nat → Int32} {w : va_W} (hR : zR cI cZ a n b r y m0 m1 m2 m3 m4 m5 m6 m7 w) (p : Nat) (hp : p < n) (hbb : b < 16) : zv_M l yX1_build wsX1_build rmX1_build D vwCl (tyL cI cZ) [.ref a, .int (nI p)] w (fun v w' => v = some (.int (nI b)) ∧ zR cI cZ a n (b + 1) r y m0 m1 m2 m3 m4 m5 (upd m6 b (nI p)) (upd m7 b (nmS n m0 m1 m2 m3 m5 r p)) w') := by
  have hV := hR.lv
  obtain ⟨⟨q, h, k, d, f0, f1, f2, f3, f4, f5, f6, f7, f8, f9, f10, f11, f12, f13, n1, r1, g0, g1, g2, g3, g4, g5, g6, g7, g8, g9, g10, g11, g12, g13, bp, bn, rfl, rfl, hI⟩, hb, hk⟩ := hR
  refine zn_Mmono (k_X1_build l D cI cZ q h k b y n r f0 f1 f2 f3 f4 f5 f6 f7 f8 f9 f10 f11 f12 f13 n1 r1 g0 g1 g2 g3 g4 g5 g6 g7 g8 g9 g10 g11 g12 g13 bp bn p hI.n16 hp hbb) (fun v w hv => ?_)
  obtain ⟨rfl, rfl⟩ := hv
  exact ⟨rfl, ⟨q, h, k, d, f0, f1, f2, f3, f4, f5, f6, f7, f8, f9, f10, f11, f12, f13, n1, r1, g0, g1, g2, g3, g4, g5, g6, g7, g8, g9, g10, g11, g12, g13, upd bp b (nI p), upd bn b (f9 p), rfl, rfl, hI.build hp hbb⟩, hb, fun i hi => by
    by_cases e : i = b
    · subst e; rw [upd_at]; exact hV.nv hp
    · rw [upd_ne _ _ _ e]; exact hk i (by omega)⟩
theorem w_pass (l : Launch) (D : va_G) {cI cZ : ClassId} {a n b : Nat} {r y : Int32} {m0 m1 m2 m3 m4 m5 m6 m7 : Nat → Int32} {w : va_W} (hR : zR cI cZ a n b r y m0 m1 m2 m3 m4 m5 m6 m7 w) (z : Nat) (hz1 : 1 ≤ z) (hz5 : z ≤ 50) : zv_M l yX1_pass wsX1_pass rmX1_pass D vwCl (tyL cI cZ) [.ref a, .int (nI z)] w (fun v w' => v = some (.int (nI (inN m6 m7 (nmS n m0 m1 m2 (swN m1 m3 m4 z) m5 r) b))) ∧ zR cI cZ a n b r (y + nI z) m0 m1 m2 (swN m1 m3 m4 z) m4 m5 m6 m7 w') := by
  have hV := hR.lv
  obtain ⟨⟨q, h, k, d, f0, f1, f2, f3, f4, f5, f6, f7, f8, f9, f10, f11, f12, f13, n1, r1, g0, g1, g2, g3, g4, g5, g6, g7, g8, g9, g10, g11, g12, g13, bp, bn, rfl, rfl, hI⟩, hb, hk⟩ := hR
  refine zn_Mmono (k_X1_pass l D cI cZ q h k b y n r f0 f1 f2 f3 f4 f5 f6 f7 f8 f9 f10 f11 f12 f13 n1 r1 g0 g1 g2 g3 g4 g5 g6 g7 g8 g9 g10 g11 g12 g13 bp bn z hz1 hz5 d hI.n16 hI.dep hI.b16 hI.brg) (fun v w hv => ?_)
  obtain ⟨v4, v7, v8, v9, v10, v11, v12, v13, rfl, rfl, e4, o4, hs⟩ := hv
  exact ⟨by rw [hI.vPass hz5 e4 hs], ⟨q, h, k, d, f0, f1, f2, f3, v4, f5, f6, v7, v8, v9, v10, v11, v12, v13, n1, r1, g0, g1, g2, g3, g4, g5, g6, g7, g8, g9, g10, g11, g12, g13, bp, bn, rfl, rfl, hI.pass hz5 e4 o4 (fun i hi => rfl) hs⟩, hb, hk⟩
theorem w_lead (l : Launch) (D : va_G) {cI cZ : ClassId} {a n b : Nat} {r y : Int32} {m0 m1 m2 m3 m4 m5 m6 m7 : Nat → Int32} {w : va_W} (hR : zR cI cZ a n b r y m0 m1 m2 m3 m4 m5 m6 m7 w) (p z : Nat) (hp : p < n) (hz : z < n) (hne : ¬ p = z) (hfl : fl m0 (nI p) 16 (m0 z) = false) : zv_M l yX1_lead wsX1_lead rmX1_lead D vwCl (tyL cI cZ) [.ref a, .int (nI p), .int (nI z)] w (fun v w' => v = some (.int (m0 p)) ∧ zR cI cZ a n b r y (upd m0 p (nI z)) m1 m2 m3 m4 m5 m6 m7 w') := by
  have hV := hR.lv
  obtain ⟨⟨q, h, k, d, f0, f1, f2, f3, f4, f5, f6, f7, f8, f9, f10, f11, f12, f13, n1, r1, g0, g1, g2, g3, g4, g5, g6, g7, g8, g9, g10, g11, g12, g13, bp, bn, rfl, rfl, hI⟩, hb, hk⟩ := hR
  refine zn_Mmono (k_X1_lead l D cI cZ q h k b y n r f0 f1 f2 f3 f4 f5 f6 f7 f8 f9 f10 f11 f12 f13 n1 r1 g0 g1 g2 g3 g4 g5 g6 g7 g8 g9 g10 g11 g12 g13 bp bn p z (leadD f0 d p z) hI.n16 hp hz hI.vw hne ((hI.vAbove hz).trans hfl) (lead_vw hI.dep hI.n16 hp hz hne ((hI.vAbove hz).trans hfl)) (lead_dep hI.dep hI.n16 hp hz hne ((hI.vAbove hz).trans hfl))) (fun v w hv => ?_)
  obtain ⟨v1, v7, v8, v9, v10, v11, v12, v13, rfl, rfl, e1, o1, hs⟩ := hv
  exact ⟨by rw [(hI.E p hp).1], ⟨q, h, k, leadD f0 d p z, upd f0 p (nI z), v1, f2, f3, f4, f5, f6, v7, v8, v9, v10, v11, v12, v13, n1, r1, g0, g1, g2, g3, g4, g5, g6, g7, g8, g9, g10, g11, g12, g13, bp, bn, rfl, rfl, hI.lead hp hz hne ((hI.vAbove hz).trans hfl) e1 o1 hs⟩, hb, hk⟩
