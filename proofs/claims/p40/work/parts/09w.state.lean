abbrev vwCl : List vw_C := [(RX0, TX0, 16), (RX1, TX1, 6), (RX2, TX2, 4)]
/-! ===== truth values, and what the cells of a state are ===== -/
def zb (b : Bool) : Int32 := if b = true then 1 else 0
theorem zb_t : zb true = 1 := rfl
theorem zb_f : zb false = 0 := rfl
theorem zb_eq0 {b : Bool} : zb b = 0 ↔ b = false := by cases b <;> decide
theorem zb_ne0 {b : Bool} : ¬ zb b = 0 ↔ b = true := by cases b <;> decide
theorem zb_dec {P Q : Prop} {h1 : Decidable P} {h2 : Decidable Q} (h : P ↔ Q) : zb (@decide P h1) = zb (@decide Q h2) := by
  have : (@decide P h1) = (@decide Q h2) := by
    by_cases hp : P
    · rw [decide_eq_true hp, decide_eq_true (h.mp hp)]
    · rw [decide_eq_false hp, decide_eq_false (fun q => hp (h.mpr q))]
  rw [this]
theorem zb_narrow (b : Bool) : narrow .boolean (.int (zb b)) = .int (zb b) := by cases b <;> decide
theorem zb_nar (b : Bool) : vp_nar .boolean (zb b) = zb b := by cases b <;> decide
def zo (x : Int32) : Prop := x = 0 ∨ x = 1
theorem zo_narrow {x : Int32} (h : zo x) : narrow .boolean (.int x) = .int x := by
  rcases h with h | h <;> subst h <;> decide
theorem zo_nar {x : Int32} (h : zo x) : vp_nar .boolean x = x := by
  rcases h with h | h <;> subst h <;> decide
theorem zo_zb (b : Bool) : zo (zb b) := by cases b <;> simp [zo, zb]
theorem zo_0 : zo 0 := Or.inl rfl
theorem zo_1 : zo 1 := Or.inr rfl
theorem upd_at (f : Nat → Int32) (k : Nat) (x : Int32) : upd f k x k = x := by simp [upd]
theorem upd_ne (f : Nat → Int32) (k : Nat) (x : Int32) {j : Nat} (h : ¬ j = k) : upd f k x j = f j := by simp [upd, h]
abbrev tyL (cI cZ : ClassId) : List (ClassId × FieldType) := [(cI, .int), (cZ, .boolean)]
abbrev cL (cI cZ : ClassId) (h : Nat → Nat) (n r : Int32) (f0 f1 f2 f3 f4 f5 f6 f7 f8 f9 f10 f11 f12 f13 : Nat → Int32) : va_W := [(h 0, .inr (0, [.int n, .int r, .ref (h 1), .ref (h 2), .ref (h 3), .ref (h 4), .ref (h 5), .ref (h 6), .ref (h 7), .ref (h 8), .ref (h 9), .ref (h 10), .ref (h 11), .ref (h 12), .ref (h 13), .ref (h 14)])), (h 1, .inl (cI, 16, .inl f0)), (h 2, .inl (cI, 16, .inl f1)), (h 3, .inl (cZ, 16, .inl f2)), (h 4, .inl (cI, 16, .inl f3)), (h 5, .inl (cI, 16, .inl f4)), (h 6, .inl (cI, 16, .inl f5)), (h 7, .inl (cZ, 16, .inl f6)), (h 8, .inl (cI, 16, .inl f7)), (h 9, .inl (cI, 16, .inl f8)), (h 10, .inl (cI, 16, .inl f9)), (h 11, .inl (cI, 16, .inl f10)), (h 12, .inl (cZ, 16, .inl f11)), (h 13, .inl (cI, 16, .inl f12)), (h 14, .inl (cI, 16, .inl f13))]
abbrev cR (cI cZ : ClassId) (q h k : Nat → Nat) (bc yr : Int32) (n r : Int32) (f0 f1 f2 f3 f4 f5 f6 f7 f8 f9 f10 f11 f12 f13 : Nat → Int32) (n1 r1 : Int32) (g0 g1 g2 g3 g4 g5 g6 g7 g8 g9 g10 g11 g12 g13 : Nat → Int32) (bp bn : Nat → Int32) : va_W := (q 0, .inr (1, [.ref (h 0), .ref (k 0), .ref (q 1), .ref (q 2), .int bc, .int yr])) :: (cL cI cZ h n r f0 f1 f2 f3 f4 f5 f6 f7 f8 f9 f10 f11 f12 f13 ++ (cL cI cZ k n1 r1 g0 g1 g2 g3 g4 g5 g6 g7 g8 g9 g10 g11 g12 g13 ++ [(q 1, .inl (cI, 16, .inl bp)), (q 2, .inl (cI, 16, .inl bn))]))
