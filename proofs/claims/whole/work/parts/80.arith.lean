/-! BOUNDS of what is summed -/
def bd (b : Int) (x : Int64) : Prop := -b ≤ x.toInt ∧ x.toInt ≤ b
theorem bm64 {z : Int} (h1 : -2 ^ 62 ≤ z) (h2 : z ≤ 2 ^ 62) : z.bmod (2 ^ 64) = z := Int.bmod_eq_of_le (by omega) (by omega)
theorem i_add {x y : Int64} {b d : Int} (hx : bd b x) (hy : bd d y) (h : b + d ≤ 2 ^ 62) : (x + y).toInt = x.toInt + y.toInt := by
  obtain ⟨h1, h2⟩ := hx
  obtain ⟨h3, h4⟩ := hy
  rw [Int64.toInt_add, bm64 (by omega) (by omega)]
theorem i_sub {x y : Int64} {b d : Int} (hx : bd b x) (hy : bd d y) (h : b + d ≤ 2 ^ 62) : (x - y).toInt = x.toInt - y.toInt := by
  obtain ⟨h1, h2⟩ := hx
  obtain ⟨h3, h4⟩ := hy
  rw [Int64.toInt_sub, bm64 (by omega) (by omega)]
theorem bd_add {x y : Int64} {b d : Int} (hx : bd b x) (hy : bd d y) (h : b + d ≤ 2 ^ 62) : bd (b + d) (x + y) := by
  have e := i_add hx hy h
  obtain ⟨h1, h2⟩ := hx
  obtain ⟨h3, h4⟩ := hy
  constructor <;> rw [e] <;> omega
theorem bd_sub {x y : Int64} {b d : Int} (hx : bd b x) (hy : bd d y) (h : b + d ≤ 2 ^ 62) : bd (b + d) (x - y) := by
  have e := i_sub hx hy h
  obtain ⟨h1, h2⟩ := hx
  obtain ⟨h3, h4⟩ := hy
  constructor <;> rw [e] <;> omega
theorem bd_w {x : Int64} {b d : Int} (hx : bd b x) (h : b ≤ d) : bd d x := ⟨by have := hx.1; omega, by have := hx.2; omega⟩
theorem sq_le {a m : Int} (h1 : -m ≤ a) (h2 : a ≤ m) : 0 ≤ a * a ∧ a * a ≤ m * m := by
  have h3 : a.natAbs ≤ m.natAbs := by omega
  have h4 : a * a = ((a.natAbs * a.natAbs : Nat) : Int) := (Int.natAbs_mul_self).symm
  have h5 : m * m = ((m.natAbs * m.natAbs : Nat) : Int) := (Int.natAbs_mul_self).symm
  have h6 := Nat.mul_le_mul h3 h3
  rw [h4, h5]
  omega
/-- a square of what is at most 2 ^ 28 -/
theorem i_sq {x : Int64} (h : bd 268435456 x) : 0 ≤ (x * x).toInt ∧ (x * x).toInt ≤ 72057594037927936 := by
  obtain ⟨h1, h2⟩ := sq_le h.1 h.2
  rw [Int64.toInt_mul, bm64 (by omega) (by omega)]
  omega
theorem kTab_bd (k : Nat) : -64 ≤ (kTab k).toInt ∧ (kTab k).toInt ≤ 64 := by
  by_cases h : k < 16
  · have h16 : k = 0 ∨ k = 1 ∨ k = 2 ∨ k = 3 ∨ k = 4 ∨ k = 5 ∨ k = 6 ∨ k = 7 ∨ k = 8 ∨ k = 9 ∨ k = 10 ∨ k = 11 ∨ k = 12 ∨ k = 13 ∨ k = 14 ∨ k = 15 := by omega
    rcases h16 with rfl | rfl | rfl | rfl | rfl | rfl | rfl | rfl | rfl | rfl | rfl | rfl | rfl | rfl | rfl | rfl <;> decide +kernel
  · have e : kTab k = 0 := by
      unfold kTab
      rw [List.getD_eq_getElem?_getD, List.getElem?_eq_none (by show (16 : Nat) ≤ k; omega)]
      rfl
    rw [e]; decide
theorem t_bd {t : Int32} {v : Int32} (h1 : 0 ≤ t.toInt) (h2 : t.toInt ≤ 200) (h3 : -64 ≤ v.toInt) (h4 : v.toInt ≤ 64) : bd 12800 (t * v).toInt64 := by
  have e : (t * v).toInt64.toInt = t.toInt * v.toInt := by
    rw [Int32.toInt_toInt64, Int32.toInt_mul]
    have q1 : t.toInt * v.toInt ≤ 200 * 64 := by
      have := Int.mul_le_mul_of_nonneg_left h4 h1
      have := Int.mul_le_mul_of_nonneg_right h2 (show (0 : Int) ≤ 64 by decide)
      omega
    have q2 : -(200 * 64) ≤ t.toInt * v.toInt := by
      have := Int.mul_le_mul_of_nonneg_left h3 h1
      have := Int.mul_le_mul_of_nonneg_right h2 (show (0 : Int) ≤ 64 by decide)
      omega
    exact Int.bmod_eq_of_le (by omega) (by omega)
  have q1 : t.toInt * v.toInt ≤ 200 * 64 := by
    have := Int.mul_le_mul_of_nonneg_left h4 h1
    have := Int.mul_le_mul_of_nonneg_right h2 (show (0 : Int) ≤ 64 by decide)
    omega
  have q2 : -(200 * 64) ≤ t.toInt * v.toInt := by
    have := Int.mul_le_mul_of_nonneg_left h3 h1
    have := Int.mul_le_mul_of_nonneg_right h2 (show (0 : Int) ≤ 64 by decide)
    omega
  constructor <;> rw [e] <;> omega
section PLACE
variable {t z : Int32} {b d : Int} {bx bu : Int64}
theorem bd_pU (h1 : 0 ≤ t.toInt) (h2 : t.toInt ≤ 200) (hb : bd b bu) (h : b ≤ 2 ^ 40) : bd (b + 12800) (pU bu t z) :=
  bd_add hb (t_bd h1 h2 (kTab_bd _).1 (kTab_bd _).2) (by omega)
theorem bd_pV (h1 : 0 ≤ t.toInt) (h2 : t.toInt ≤ 200) (hb : bd b bu) (h : b ≤ 2 ^ 40) : bd (b + 12800) (pV bu t z) :=
  bd_add hb (t_bd h1 h2 (kTab_bd _).1 (kTab_bd _).2) (by omega)
theorem bd_pX (h1 : 0 ≤ t.toInt) (h2 : t.toInt ≤ 200) (hd : bd d bx) (hb : bd b bu) (h : b ≤ 2 ^ 40) (h9 : d ≤ 2 ^ 40) : bd (d + b + (b + 12800)) (pX bx bu t z) :=
  bd_add (bd_add hd hb (by omega)) (bd_pU h1 h2 hb h) (by omega)
theorem bd_pY (h1 : 0 ≤ t.toInt) (h2 : t.toInt ≤ 200) (hd : bd d bx) (hb : bd b bu) (h : b ≤ 2 ^ 40) (h9 : d ≤ 2 ^ 40) : bd (d + b + (b + 12800)) (pY bx bu t z) :=
  bd_add (bd_add hd hb (by omega)) (bd_pV h1 h2 hb h) (by omega)
end PLACE
theorem oV_bd {x1 y1 lx ly : Int64} (h1 : bd 250000000 x1) (h2 : bd 250000000 y1) (h3 : bd 10000000 lx) (h4 : bd 10000000 ly) : 0 ≤ (oV x1 y1 lx ly).toInt ∧ (oV x1 y1 lx ly).toInt ≤ 144115188075855872 := by
  have a1 := i_sq (bd_w (bd_sub h1 h3 (by omega)) (by omega))
  have a2 := i_sq (bd_w (bd_sub h2 h4 (by omega)) (by omega))
  unfold oV
  rw [i_add (b := 72057594037927936) (d := 72057594037927936) ⟨by omega, by omega⟩ ⟨by omega, by omega⟩ (by omega)]
  omega
theorem noW_I : noW.toInt = 4611686018427387904 := rfl
theorem lt_J {x y : Int64} : x < y ↔ x.toInt < y.toInt := Int64.lt_iff_toInt_lt
theorem ne_J {x y : Int64} : x = y ↔ x.toInt = y.toInt := Int64.toInt_inj.symm
