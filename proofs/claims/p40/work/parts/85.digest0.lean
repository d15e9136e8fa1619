/-! ===== the digest: its folds ===== -/
def bitL (x : Int32) : Int64 := if x = 0 then 0 else 1
def mxl (d z : Int64) : Int64 := d * 31 + z
def mx (d : Int64) (x : Int32) : Int64 := mxl d (Int32.toInt64 x)
theorem bitL_zo {x : Int32} (h : zo x) : bitL x = Int32.toInt64 x := by rcases h with h | h <;> subst h <;> decide
theorem bitL_zb (b : Bool) : bitL (zb b) = Int32.toInt64 (zb b) := bitL_zo (zo_zb b)
def mx10 (d : Int64) (a0 a1 a2 a3 a4 a5 a6 a7 a8 a9 : Int32) : Int64 := mx (mx (mx (mx (mx (mx (mx (mx (mx (mx d a0) a1) a2) a3) a4) a5) a6) a7) a8) a9
def mx3 (d : Int64) (a0 a1 a2 : Int32) : Int64 := mx (mx (mx d a0) a1) a2
def fdP (F : Nat → Int64 → Int64) : Nat → Int64 → Int64
  | 0, d => d
  | k + 1, d => F k (fdP F k d)
theorem fdP_congr {F G : Nat → Int64 → Int64} (d : Int64) : ∀ k : Nat, (∀ i, i < k → ∀ x, F i x = G i x) → fdP F k d = fdP G k d
  | 0, _ => rfl
  | k + 1, h => by
    simp only [fdP]
    rw [fdP_congr d k (fun i hi => h i (by omega)), h k (by omega)]
def plR (n : Nat) (w has spr wat len nm : Nat → Int32) (ag : Nat → Int32) (ar : Nat → Int32) (p : Nat) (d : Int64) : Int64 := mx10 d (w p) (has p) (spr p) (wat p) (len p) (nI (mo w 16 p)) (nI (ao n w p)) (nm p) (ag p) (ar p)
def brR (bp bn nm : Nat → Int32) (i : Nat) (d : Int64) : Int64 := mx3 d (bp i) (bn i) (zb (insd (bn i) (nm (bp i).toNatClampNeg)))
def dg8 (y n b ins gr nl we re : Int32) : Int64 := mx (mx (mx (mx (mx (mx (mx (mx 2027 y) n) b) ins) gr) nl) we) re
theorem plR_congr {n : Nat} {w has spr wat len nm ag ar w' has' spr' wat' len' nm' ag' ar' : Nat → Int32} {p : Nat} {x : Int64} (hmo : mo w 16 p = mo w' 16 p) (hao : ao n w p = ao n w' p) (h0 : w p = w' p) (h1 : has p = has' p) (h2 : spr p = spr' p) (h3 : wat p = wat' p) (h4 : len p = len' p) (h5 : nm p = nm' p) (h6 : ag p = ag' p) (h7 : ar p = ar' p) : plR n w has spr wat len nm ag ar p x = plR n w' has' spr' wat' len' nm' ag' ar' p x := by
  unfold plR; rw [hmo, hao, h0, h1, h2, h3, h4, h5, h6, h7]
theorem brR_congr {bp bn nm bp' bn' nm' : Nat → Int32} {i : Nat} {x : Int64} (h0 : bp i = bp' i) (h1 : bn i = bn' i) (h2 : nm (bp' i).toNatClampNeg = nm' (bp' i).toNatClampNeg) : brR bp bn nm i x = brR bp' bn' nm' i x := by
  unfold brR; rw [h0, h1, h2]
