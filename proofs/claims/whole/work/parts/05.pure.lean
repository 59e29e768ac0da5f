/-! pure rows: numbers, bits, the people's answers -/
theorem lgc_lt {x y : Int64} : lg_cmp x y < 0 ↔ x.toInt < y.toInt := by
  unfold lg_cmp
  simp only [gt_iff_lt, Int64.lt_iff_toInt_lt, ← Int64.toInt_inj]
  split
  · constructor
    · intro h; exact absurd h (by decide)
    · intro h; omega
  · split
    · constructor
      · intro h; exact absurd h (by decide)
      · intro h; omega
    · constructor
      · intro _; omega
      · intro _; decide
theorem lgc_gt {x y : Int64} : 0 < lg_cmp x y ↔ y.toInt < x.toInt := by
  unfold lg_cmp
  simp only [gt_iff_lt, Int64.lt_iff_toInt_lt, ← Int64.toInt_inj]
  split
  · constructor
    · intro _; assumption
    · intro _; decide
  · split
    · constructor
      · intro h; exact absurd h (by decide)
      · intro h; omega
    · constructor
      · intro h; exact absurd h (by decide)
      · intro _; omega
theorem lgc_eq {x y : Int64} : lg_cmp x y = 0 ↔ x.toInt = y.toInt := by
  unfold lg_cmp
  simp only [gt_iff_lt, Int64.lt_iff_toInt_lt, ← Int64.toInt_inj]
  split
  · constructor
    · intro h; exact absurd h (by decide)
    · intro h; omega
  · split
    · constructor
      · intro _; assumption
      · intro _; decide
    · constructor
      · intro h; exact absurd h (by decide)
      · intro _; omega
theorem i32_lt {x y : Int32} : x < y ↔ x.toInt < y.toInt := Int32.lt_iff_toInt_lt
theorem i32_le {x y : Int32} : x ≤ y ↔ x.toInt ≤ y.toInt := Int32.le_iff_toInt_le
theorem i32_eq {x y : Int32} : x = y ↔ x.toInt = y.toInt := Int32.toInt_inj.symm
theorem i32_l (x : Int32) : x.toInt64.toInt = x.toInt := by simp
/-- which people are told: their number, kind, whom, many by place, who did it the day before -/
def tOK (t : Nat → Int32) (np : Nat) (kd wh mn : Nat → Nat) (day b : Nat) : Prop := np ≤ 6 ∧ t 0 = nI np ∧ t 1 = nI day ∧ day ≤ 9999 ∧ t 2 = nI b ∧ b < 2 ^ np ∧ ∀ p, p < np → t (3 + 3 * p) = nI (kd p) ∧ t (4 + 3 * p) = nI (wh p) ∧ t (5 + 3 * p) = nI (mn p) ∧ 1 ≤ kd p ∧ kd p ≤ 5 ∧ wh p ≤ 5 ∧ mn p ≤ 9
theorem lgc_ge {x y : Int64} : 0 ≤ lg_cmp x y ↔ y.toInt ≤ x.toInt := by
  rw [lg_cmp_ge, Int64.le_iff_toInt_le]
theorem lgc_le {x y : Int64} : lg_cmp x y ≤ 0 ↔ x.toInt ≤ y.toInt := by
  rw [i32_le, show (0 : Int32).toInt = 0 by decide]
  have h := lgc_gt (x := x) (y := y)
  rw [i32_lt, show (0 : Int32).toInt = 0 by decide] at h
  omega
theorem i32_rng (x : Int32) : -2147483648 ≤ x.toInt ∧ x.toInt < 2147483648 := ⟨by have := Int32.le_toInt x; omega, by have := Int32.toInt_lt x; omega⟩
theorem i32_add {x y : Int32} (h1 : -2147483648 ≤ x.toInt + y.toInt) (h2 : x.toInt + y.toInt < 2147483648) : (x + y).toInt = x.toInt + y.toInt := by
  rw [Int32.toInt_add]; exact Int.bmod_eq_of_le (by omega) (by omega)
theorem i32_sub {x y : Int32} (h1 : -2147483648 ≤ x.toInt - y.toInt) (h2 : x.toInt - y.toInt < 2147483648) : (x - y).toInt = x.toInt - y.toInt := by
  rw [Int32.toInt_sub]; exact Int.bmod_eq_of_le (by omega) (by omega)
theorem i32_mul {x y : Int32} (h1 : -2147483648 ≤ x.toInt * y.toInt) (h2 : x.toInt * y.toInt < 2147483648) : (x * y).toInt = x.toInt * y.toInt := by
  rw [Int32.toInt_mul]; exact Int.bmod_eq_of_le (by omega) (by omega)
theorem i64_add {x y : Int64} (h1 : -9223372036854775808 ≤ x.toInt + y.toInt) (h2 : x.toInt + y.toInt < 9223372036854775808) : (x + y).toInt = x.toInt + y.toInt := by
  rw [Int64.toInt_add]; exact Int.bmod_eq_of_le (by omega) (by omega)
theorem i64_sub {x y : Int64} (h1 : -9223372036854775808 ≤ x.toInt - y.toInt) (h2 : x.toInt - y.toInt < 9223372036854775808) : (x - y).toInt = x.toInt - y.toInt := by
  rw [Int64.toInt_sub]; exact Int.bmod_eq_of_le (by omega) (by omega)
theorem xv {a b : Int32} (e : a = b) : some (Value.int b) = some (Value.int a) := by rw [e]
/-- a number that isn't below 0, by its Nat -/
theorem i32_tn {x : Int32} (h : 0 ≤ x.toInt) : x = nI x.toNatClampNeg ∧ (x.toNatClampNeg : Int) = x.toInt := by
  have e : (x.toNatClampNeg : Int) = x.toInt := by
    show ((x.toInt.toNat : Nat) : Int) = _
    omega
  refine ⟨?_, e⟩
  have := i32_rng x
  rw [i32_eq, nI_toInt (by omega)]
  omega
theorem xI_c {x : Int32} {N : Nat} (h0 : 0 ≤ x.toInt) (h1 : x.toInt < N) : xI x x.toNatClampNeg N := by
  have h := i32_tn h0
  refine ⟨?_, rfl, by omega⟩
  rw [i32_lt, show (0 : Int32).toInt = 0 by decide]
  omega
theorem xI_i {x : Int32} {j N : Nat} (h : x.toInt = (j : Int)) (hj : j < N) : xI x j N := by
  have h1 := i32_tn (x := x) (by omega)
  refine ⟨?_, by omega, hj⟩
  rw [i32_lt, show (0 : Int32).toInt = 0 by decide]
  omega
/-- zeros from a on, n of them -/
def zf (f : Nat → Int32) (a n : Nat) : Nat → Int32 := fun q => if a ≤ q ∧ q < a + n then 0 else f q
theorem zf_0 (f : Nat → Int32) (a : Nat) : zf f a 0 = f := by
  funext q
  unfold zf
  rw [if_neg (by omega)]
theorem zf_s (f : Nat → Int32) (a n : Nat) : upd (zf f a n) (a + n) 0 = zf f a (n + 1) := by
  funext q
  unfold zf upd
  by_cases h : q = a + n
  · rw [if_pos h, if_pos (by omega)]
  · rw [if_neg h]
    show (if a ≤ q ∧ q < a + n then (0 : Int32) else f q) = _
    by_cases h2 : a ≤ q ∧ q < a + n
    · rw [if_pos h2, if_pos (by omega)]
    · rw [if_neg h2, if_neg (by omega)]
theorem k32_m1 : (-1 : Int32).toInt = -1 := by decide
theorem k32_0 : (0 : Int32).toInt = 0 := by decide
theorem k32_1 : (1 : Int32).toInt = 1 := by decide
theorem k32_2 : (2 : Int32).toInt = 2 := by decide
theorem k32_3 : (3 : Int32).toInt = 3 := by decide
theorem k32_4 : (4 : Int32).toInt = 4 := by decide
theorem k32_5 : (5 : Int32).toInt = 5 := by decide
theorem k32_6 : (6 : Int32).toInt = 6 := by decide
theorem k32_7 : (7 : Int32).toInt = 7 := by decide
theorem k32_8 : (8 : Int32).toInt = 8 := by decide
theorem k32_9 : (9 : Int32).toInt = 9 := by decide
theorem k32_10 : (10 : Int32).toInt = 10 := by decide
theorem k32_16 : (16 : Int32).toInt = 16 := by decide
theorem k32_20 : (20 : Int32).toInt = 20 := by decide
theorem k32_21 : (21 : Int32).toInt = 21 := by decide
theorem k32_23 : (23 : Int32).toInt = 23 := by decide
theorem k32_24 : (24 : Int32).toInt = 24 := by decide
theorem k32_31 : (31 : Int32).toInt = 31 := by decide
theorem k32_32 : (32 : Int32).toInt = 32 := by decide
theorem k32_40 : (40 : Int32).toInt = 40 := by decide
theorem k32_42 : (42 : Int32).toInt = 42 := by decide
theorem k32_47 : (47 : Int32).toInt = 47 := by decide
theorem k32_48 : (48 : Int32).toInt = 48 := by decide
theorem k32_57 : (57 : Int32).toInt = 57 := by decide
theorem k32_59 : (59 : Int32).toInt = 59 := by decide
theorem k32_64 : (64 : Int32).toInt = 64 := by decide
theorem k32_65 : (65 : Int32).toInt = 65 := by decide
theorem k32_90 : (90 : Int32).toInt = 90 := by decide
theorem k32_97 : (97 : Int32).toInt = 97 := by decide
theorem k32_100 : (100 : Int32).toInt = 100 := by decide
theorem k32_122 : (122 : Int32).toInt = 122 := by decide
theorem k32_255 : (255 : Int32).toInt = 255 := by decide
theorem k32_300 : (300 : Int32).toInt = 300 := by decide
theorem k32_483 : (483 : Int32).toInt = 483 := by decide
theorem k32_504 : (504 : Int32).toInt = 504 := by decide
theorem k32_1000 : (1000 : Int32).toInt = 1000 := by decide
theorem k32_9999 : (9999 : Int32).toInt = 9999 := by decide
theorem k32_999999 : (999999 : Int32).toInt = 999999 := by decide
theorem k32_m1000000 : (-1000000 : Int32).toInt = -1000000 := by decide
theorem k32_m1000001 : (-1000001 : Int32).toInt = -1000001 := by decide
theorem k32_m1000002 : (-1000002 : Int32).toInt = -1000002 := by decide
theorem k32_m1000003 : (-1000003 : Int32).toInt = -1000003 := by decide
theorem k32_m1000010 : (-1000010 : Int32).toInt = -1000010 := by decide
theorem k32_m1000100 : (-1000100 : Int32).toInt = -1000100 := by decide
theorem k64_0 : (0 : Int64).toInt = 0 := by decide
theorem k64_1 : (1 : Int64).toInt = 1 := by decide
theorem k64_2 : (2 : Int64).toInt = 2 := by decide
theorem k64_3 : (3 : Int64).toInt = 3 := by decide
theorem k64_5 : (5 : Int64).toInt = 5 := by decide
theorem k64_6 : (6 : Int64).toInt = 6 := by decide
theorem k64_7 : (7 : Int64).toInt = 7 := by decide
theorem k64_8 : (8 : Int64).toInt = 8 := by decide
theorem k64_9 : (9 : Int64).toInt = 9 := by decide
theorem k64_10 : (10 : Int64).toInt = 10 := by decide
theorem k64_24 : (24 : Int64).toInt = 24 := by decide
theorem k64_40 : (40 : Int64).toInt = 40 := by decide
theorem k64_255 : (255 : Int64).toInt = 255 := by decide
theorem k64_999999 : (999999 : Int64).toInt = 999999 := by decide
theorem i32_m40 {x : Int32} (h0 : 0 ≤ x.toInt) (h : x.toInt < 1000) : (40 * x).toInt = 40 * x.toInt := by
  have e := i32_mul (x := 40) (y := x) (by rw [k32_40]; omega) (by rw [k32_40]; omega)
  rw [e, k32_40]
theorem xI_40 {x y : Int32} {j : Nat} (h0 : 0 ≤ x.toInt) (h8 : x.toInt < 8) (hy : y.toInt = (j : Int)) (hj : j < 40) : xI (40 * x + y) (40 * x.toNatClampNeg + j) 320 := by
  have h1 := i32_m40 h0 (by omega)
  have h2 := i32_tn h0
  refine xI_i ?_ (by omega)
  rw [i32_add (by omega) (by omega)]
  omega
theorem i64_addl (x y : Int32) : (x.toInt64 + y.toInt64).toInt = x.toInt + y.toInt := by
  have h1 := i32_rng x
  have h2 := i32_rng y
  rw [i64_add (by rw [i32_l, i32_l]; omega) (by rw [i32_l, i32_l]; omega), i32_l, i32_l]
