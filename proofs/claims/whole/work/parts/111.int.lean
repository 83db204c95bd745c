section ZPI
/-! 64 and 32 bits as whole numbers -/
theorem p_lo (x : Int64) : -9223372036854775808 ≤ x.toInt := x.le_toInt
theorem p_hi (x : Int64) : x.toInt < 9223372036854775808 := x.toInt_lt
theorem p_lo32 (x : Int32) : -2147483648 ≤ x.toInt := x.le_toInt
theorem p_hi32 (x : Int32) : x.toInt < 2147483648 := x.toInt_lt
theorem p_bm (x : Int) (h1 : -9223372036854775808 ≤ x) (h2 : x < 9223372036854775808) : x.bmod (2 ^ 64) = x := Int.bmod_eq_of_le (by omega) (by omega)
theorem p_bm32 (x : Int) (h1 : -2147483648 ≤ x) (h2 : x < 2147483648) : x.bmod (2 ^ 32) = x := Int.bmod_eq_of_le (by omega) (by omega)
theorem p_add {a b : Int64} {x y : Int} (ha : a.toInt = x) (hb : b.toInt = y) (h1 : -9223372036854775808 ≤ x + y) (h2 : x + y < 9223372036854775808) : (a + b).toInt = x + y := by
  rw [Int64.toInt_add, ha, hb]; exact p_bm _ h1 h2
theorem p_sub {a b : Int64} {x y : Int} (ha : a.toInt = x) (hb : b.toInt = y) (h1 : -9223372036854775808 ≤ x - y) (h2 : x - y < 9223372036854775808) : (a - b).toInt = x - y := by
  rw [Int64.toInt_sub, ha, hb]; exact p_bm _ h1 h2
theorem p_mul {a b : Int64} {x y : Int} (ha : a.toInt = x) (hb : b.toInt = y) (h1 : -9223372036854775808 ≤ x * y) (h2 : x * y < 9223372036854775808) : (a * b).toInt = x * y := by
  rw [Int64.toInt_mul, ha, hb]; exact p_bm _ h1 h2
theorem p_neg {a : Int64} {x : Int} (ha : a.toInt = x) (h1 : -9223372036854775808 < x) : (-a).toInt = -x := by
  have := p_hi a
  rw [Int64.toInt_neg, ha]; exact p_bm _ (by omega) (by omega)
theorem p_add32 {a b : Int32} {x y : Int} (ha : a.toInt = x) (hb : b.toInt = y) (h1 : -2147483648 ≤ x + y) (h2 : x + y < 2147483648) : (a + b).toInt = x + y := by
  rw [Int32.toInt_add, ha, hb]; exact p_bm32 _ h1 h2
theorem p_sub32 {a b : Int32} {x y : Int} (ha : a.toInt = x) (hb : b.toInt = y) (h1 : -2147483648 ≤ x - y) (h2 : x - y < 2147483648) : (a - b).toInt = x - y := by
  rw [Int32.toInt_sub, ha, hb]; exact p_bm32 _ h1 h2
theorem p_mul32 {a b : Int32} {x y : Int} (ha : a.toInt = x) (hb : b.toInt = y) (h1 : -2147483648 ≤ x * y) (h2 : x * y < 2147483648) : (a * b).toInt = x * y := by
  rw [Int32.toInt_mul, ha, hb]; exact p_bm32 _ h1 h2
theorem p_neg32 {a : Int32} {x : Int} (ha : a.toInt = x) (h1 : -2147483648 < x) : (-a).toInt = -x := by
  have := p_hi32 a
  rw [Int32.toInt_neg, ha]; exact p_bm32 _ (by omega) (by omega)
theorem p_w {a : Int32} {x : Int} (ha : a.toInt = x) : (a.toInt64).toInt = x := by rw [Int32.toInt_toInt64]; exact ha
theorem p_n {a : Int64} {x : Int} (ha : a.toInt = x) (h1 : -2147483648 ≤ x) (h2 : x < 2147483648) : (a.toInt32).toInt = x := by
  rw [Int64.toInt_toInt32, ha]; exact p_bm32 _ h1 h2
theorem p_ext {a b : Int64} {x : Int} (ha : a.toInt = x) (hb : b.toInt = x) : a = b := Int64.toInt_inj.mp (ha.trans hb.symm)
theorem p_ext32 {a b : Int32} {x : Int} (ha : a.toInt = x) (hb : b.toInt = x) : a = b := Int32.toInt_inj.mp (ha.trans hb.symm)
theorem p_lt {a b : Int64} {x y : Int} (ha : a.toInt = x) (hb : b.toInt = y) : a < b ↔ x < y := by rw [Int64.lt_iff_toInt_lt, ha, hb]
theorem p_le {a b : Int64} {x y : Int} (ha : a.toInt = x) (hb : b.toInt = y) : a ≤ b ↔ x ≤ y := by rw [Int64.le_iff_toInt_le, ha, hb]
theorem p_eq {a b : Int64} {x y : Int} (ha : a.toInt = x) (hb : b.toInt = y) : a = b ↔ x = y := by rw [← Int64.toInt_inj, ha, hb]
theorem p_lt32 {a b : Int32} {x y : Int} (ha : a.toInt = x) (hb : b.toInt = y) : a < b ↔ x < y := by rw [Int32.lt_iff_toInt_lt, ha, hb]
theorem p_le32 {a b : Int32} {x y : Int} (ha : a.toInt = x) (hb : b.toInt = y) : a ≤ b ↔ x ≤ y := by rw [Int32.le_iff_toInt_le, ha, hb]
theorem p_eq32 {a b : Int32} {x y : Int} (ha : a.toInt = x) (hb : b.toInt = y) : a = b ↔ x = y := by rw [← Int32.toInt_inj, ha, hb]
theorem p_of {a b : Int64} (h : a.toInt = b.toInt) : a = b := Int64.toInt_inj.mp h
/-- the quotient of Java by a divisor above 0, as a floor -/
theorem p_td {x y : Int} (hy : 0 < y) : x.tdiv y = if x < 0 ∧ x % y ≠ 0 then x / y + 1 else x / y := by
  rw [Int.tdiv_eq_ediv]
  have hs : Int.sign y = 1 := Int.sign_eq_one_of_pos hy
  rw [hs]
  by_cases h : x < 0
  · by_cases h2 : x % y = 0
    · have hd : y ∣ x := Int.dvd_of_emod_eq_zero h2
      rw [if_pos (Or.inr hd), if_neg (fun z => z.2 h2)]; omega
    · have hd : ¬ y ∣ x := fun z => h2 (Int.emod_eq_zero_of_dvd z)
      rw [if_neg (fun z => z.elim (fun z => by omega) hd), if_pos ⟨h, h2⟩]
  · rw [if_pos (Or.inl (by omega)), if_neg (fun z => h z.1)]; omega
theorem p_div {a b : Int64} {x y : Int} (ha : a.toInt = x) (hb : b.toInt = y) (hy : 0 < y) : (a / b).toInt = if x < 0 ∧ x % y ≠ 0 then x / y + 1 else x / y := by
  rw [Int64.toInt_div_of_ne_right _ _ (fun z => by rw [z] at hb; have : (-1 : Int64).toInt = -1 := rfl; omega), ha, hb]
  exact p_td hy
theorem p_div32 {a b : Int32} {x y : Int} (ha : a.toInt = x) (hb : b.toInt = y) (hy : 0 < y) : (a / b).toInt = if x < 0 ∧ x % y ≠ 0 then x / y + 1 else x / y := by
  rw [Int32.toInt_div_of_ne_right _ _ (fun z => by rw [z] at hb; have : (-1 : Int32).toInt = -1 := rfl; omega), ha, hb]
  exact p_td hy
theorem p_divn {a b : Int64} {x y : Int} (ha : a.toInt = x) (hb : b.toInt = y) (hy : 0 < y) (hx : 0 ≤ x) : (a / b).toInt = x / y := by
  rw [p_div ha hb hy, if_neg (fun z => by omega)]
theorem p_divn32 {a b : Int32} {x y : Int} (ha : a.toInt = x) (hb : b.toInt = y) (hy : 0 < y) (hx : 0 ≤ x) : (a / b).toInt = x / y := by
  rw [p_div32 ha hb hy, if_neg (fun z => by omega)]
/-- the remainder of Java, as the rows have it -/
theorem p_rem {a b : Int64} {x y : Int} (ha : a.toInt = x) (hb : b.toInt = y) (hy : 0 < y) : (a - a / b * b).toInt = if x < 0 ∧ x % y ≠ 0 then x % y - y else x % y := by
  have h0 := p_div ha hb hy
  have e1 : y * (x / y) + x % y = x := Int.mul_ediv_add_emod x y
  have e2 : 0 ≤ x % y := Int.emod_nonneg _ (by omega)
  have e3 : x % y < y := Int.emod_lt_of_pos _ hy
  have l1 := p_lo a
  have l2 := p_hi a
  have l3 := p_hi b
  rw [ha] at l1 l2
  rw [hb] at l3
  by_cases h : x < 0 ∧ x % y ≠ 0
  · rw [if_pos h] at h0
    rw [if_pos h]
    have e4 : (x / y + 1) * y = x - x % y + y := by rw [Int.add_mul, Int.mul_comm (x / y) y]; omega
    have h1 : (a / b * b).toInt = x - x % y + y := by
      rw [← e4]
      exact p_mul h0 hb (by rw [e4]; omega) (by rw [e4]; omega)
    rw [p_sub ha h1 (by omega) (by omega)]; omega
  · rw [if_neg h] at h0
    rw [if_neg h]
    have e4 : (x / y) * y = x - x % y := by rw [Int.mul_comm (x / y) y]; omega
    have h9 : 0 ≤ x ∨ x % y = 0 := by
      by_cases z : x < 0
      · exact Or.inr (Classical.byContradiction fun q => h ⟨z, q⟩)
      · exact Or.inl (by omega)
    have h1 : (a / b * b).toInt = x - x % y := by
      rw [← e4]
      exact p_mul h0 hb (by rw [e4]; omega) (by rw [e4]; omega)
    rw [p_sub ha h1 (by omega) (by omega)]; omega
theorem p_rem0 {a b : Int64} {x y : Int} (ha : a.toInt = x) (hb : b.toInt = y) (hy : 0 < y) : a - a / b * b = 0 ↔ x % y = 0 := by
  have h := p_rem ha hb hy
  have e2 : 0 ≤ x % y := Int.emod_nonneg _ (by omega)
  have e3 : x % y < y := Int.emod_lt_of_pos _ hy
  rw [← Int64.toInt_inj, h]
  have e0 : (0 : Int64).toInt = 0 := rfl
  rw [e0]
  by_cases h : x < 0 ∧ x % y ≠ 0
  · rw [if_pos h]; omega
  · rw [if_neg h]
theorem p_remn {a b : Int64} {x y : Int} (ha : a.toInt = x) (hb : b.toInt = y) (hy : 0 < y) (hx : 0 ≤ x) : (a - a / b * b).toInt = x % y := by
  rw [p_rem ha hb hy, if_neg (fun z => by omega)]
theorem p_xor {a b : Int64} : 0 ≤ (a ^^^ b) ↔ (0 ≤ a.toInt ↔ 0 ≤ b.toInt) := by
  have e : (0 : Int64).toInt = 0 := rfl
  rw [Int64.le_iff_toInt_le, e]
  have h1 : (a ^^^ b).toBitVec.msb = (a.toBitVec.msb ^^ b.toBitVec.msb) := by rw [Int64.toBitVec_xor, BitVec.msb_xor]
  rw [BitVec.msb_eq_toInt, BitVec.msb_eq_toInt, BitVec.msb_eq_toInt] at h1
  have g1 : (a ^^^ b).toBitVec.toInt = (a ^^^ b).toInt := rfl
  have g2 : a.toBitVec.toInt = a.toInt := rfl
  have g3 : b.toBitVec.toInt = b.toInt := rfl
  rw [g1, g2, g3] at h1
  by_cases c1 : (a ^^^ b).toInt < 0 <;> by_cases c2 : a.toInt < 0 <;> by_cases c3 : b.toInt < 0 <;> simp [c1, c2, c3] at h1 <;> constructor <;> intro _ <;> first | omega | (constructor <;> intro _ <;> omega) | (exfalso; omega)
theorem p_xor32 {a b : Int32} : 0 ≤ (a ^^^ b) ↔ (0 ≤ a.toInt ↔ 0 ≤ b.toInt) := by
  have e : (0 : Int32).toInt = 0 := rfl
  rw [Int32.le_iff_toInt_le, e]
  have h1 : (a ^^^ b).toBitVec.msb = (a.toBitVec.msb ^^ b.toBitVec.msb) := by rw [Int32.toBitVec_xor, BitVec.msb_xor]
  rw [BitVec.msb_eq_toInt, BitVec.msb_eq_toInt, BitVec.msb_eq_toInt] at h1
  have g1 : (a ^^^ b).toBitVec.toInt = (a ^^^ b).toInt := rfl
  have g2 : a.toBitVec.toInt = a.toInt := rfl
  have g3 : b.toBitVec.toInt = b.toInt := rfl
  rw [g1, g2, g3] at h1
  by_cases c1 : (a ^^^ b).toInt < 0 <;> by_cases c2 : a.toInt < 0 <;> by_cases c3 : b.toInt < 0 <;> simp [c1, c2, c3] at h1 <;> constructor <;> intro _ <;> first | omega | (constructor <;> intro _ <;> omega) | (exfalso; omega)
/-! the calendar over the whole numbers -/
def iL (y : Int) : Int := if y % 4 = 0 then (if y % 100 = 0 then (if y % 400 = 0 then 1 else 0) else 1) else 0
def iFY (y : Int) : Int := 365 * y + (y + 3) / 4 - (y + 99) / 100 + (y + 399) / 400 - 719528
def iML (y m : Int) : Int := if m = 2 then 28 + iL y else if m = 4 then 30 else if m = 6 then 30 else if m = 9 then 30 else if m = 11 then 30 else 31
def iC (y m : Int) : Int := if m ≤ 2 then (367 * m - 362) / 12 else (367 * m - 362) / 12 - 2 + iL y
def iFM (i : Int) : Int := iFY (i / 12) + iC (i / 12) (i % 12 + 1)
theorem iL_01 (y : Int) : iL y = 0 ∨ iL y = 1 := by
  unfold iL
  repeat (first | exact Or.inl rfl | exact Or.inr rfl | split)
theorem iFY_succ (y : Int) : iFY (y + 1) = iFY y + 365 + iL y := by
  unfold iFY iL
  repeat (first | split | omega)
theorem iML_r (y m : Int) : 28 ≤ iML y m ∧ iML y m ≤ 31 := by
  have := iL_01 y
  unfold iML
  repeat (first | split | omega)
theorem i12 {m : Int} (h1 : 1 ≤ m) (h2 : m ≤ 12) : m = 1 ∨ m = 2 ∨ m = 3 ∨ m = 4 ∨ m = 5 ∨ m = 6 ∨ m = 7 ∨ m = 8 ∨ m = 9 ∨ m = 10 ∨ m = 11 ∨ m = 12 := by omega
theorem iC_succ {y m : Int} (h1 : 1 ≤ m) (h2 : m ≤ 11) : iC y (m + 1) = iC y m + iML y m := by
  have := iL_01 y
  rcases i12 h1 (by omega) with h | h | h | h | h | h | h | h | h | h | h | h <;> subst h <;> unfold iC iML <;> simp <;> omega
theorem iC_1 (y : Int) : iC y 1 = 0 := by unfold iC; simp
theorem iC_13 (y : Int) : iC y 12 + iML y 12 = 365 + iL y := by
  unfold iC iML; simp; omega
theorem iC_r {y m : Int} (h1 : 1 ≤ m) (h2 : m ≤ 12) : 0 ≤ iC y m ∧ iC y m ≤ 335 := by
  have := iL_01 y
  rcases i12 h1 h2 with h | h | h | h | h | h | h | h | h | h | h | h <;> subst h <;> unfold iC <;> simp <;> omega
theorem iFM_succ (i : Int) : iFM (i + 1) = iFM i + iML (i / 12) (i % 12 + 1) := by
  unfold iFM
  by_cases h : i % 12 = 11
  · have e1 : (i + 1) / 12 = i / 12 + 1 := by omega
    have e2 : (i + 1) % 12 = 0 := by omega
    rw [e1, e2, h, iFY_succ]
    have a := iC_1 (i / 12 + 1)
    have b := iC_13 (i / 12)
    have c : (0 : Int) + 1 = 1 := rfl
    have d : (11 : Int) + 1 = 12 := rfl
    rw [c, d, a]; omega
  · have e1 : (i + 1) / 12 = i / 12 := by omega
    have e2 : (i + 1) % 12 = i % 12 + 1 := by omega
    rw [e1, e2, iC_succ (by omega) (by omega)]; omega
theorem iFM_mono (i : Int) : ∀ k : Nat, iFM i ≤ iFM (i + k)
  | 0 => by simp
  | k + 1 => by
    have h := iFM_mono i k
    have e : i + ((k + 1 : Nat) : Int) = (i + k) + 1 := by omega
    have r := iML_r ((i + k) / 12) ((i + k) % 12 + 1)
    rw [e, iFM_succ]; omega
theorem iFM_le {i j : Int} (h : i ≤ j) : iFM i ≤ iFM j := by
  have := iFM_mono i (j - i).toNat
  rw [show i + ((j - i).toNat : Int) = j by omega] at this
  exact this
theorem iFM_one {i j n : Int} (h1 : iFM i ≤ n) (h2 : n < iFM (i + 1)) (h3 : iFM j ≤ n) (h4 : n < iFM (j + 1)) : i = j := by
  rcases Int.lt_trichotomy i j with h | h | h
  · have := iFM_le (show i + 1 ≤ j by omega); omega
  · exact h
  · have := iFM_le (show j + 1 ≤ i by omega); omega
theorem iFY_mono (i : Int) : ∀ k : Nat, iFY i ≤ iFY (i + k)
  | 0 => by simp
  | k + 1 => by
    have h := iFY_mono i k
    have e : i + ((k + 1 : Nat) : Int) = (i + k) + 1 := by omega
    have r := iL_01 (i + k)
    rw [e, iFY_succ]; omega
theorem iFY_le {i j : Int} (h : i ≤ j) : iFY i ≤ iFY j := by
  have := iFY_mono i (j - i).toNat
  rw [show i + ((j - i).toNat : Int) = j by omega] at this
  exact this
theorem iFY_one {i j n : Int} (h1 : iFY i ≤ n) (h2 : n < iFY (i + 1)) (h3 : iFY j ≤ n) (h4 : n < iFY (j + 1)) : i = j := by
  rcases Int.lt_trichotomy i j with h | h | h
  · have := iFY_le (show i + 1 ≤ j by omega); omega
  · exact h
  · have := iFY_le (show j + 1 ≤ i by omega); omega
theorem iFM_year (y : Int) : iFM (12 * y) = iFY y := by
  unfold iFM
  have e1 : 12 * y / 12 = y := by omega
  have e2 : 12 * y % 12 = 0 := by omega
  rw [e1, e2]
  have := iC_1 y
  have c : (0 : Int) + 1 = 1 := rfl
  rw [c, this]; omega
theorem iFM_ym {y m : Int} (h1 : 1 ≤ m) (h2 : m ≤ 12) : iFM (12 * y + m - 1) = iFY y + iC y m := by
  unfold iFM
  have e1 : (12 * y + m - 1) / 12 = y := by omega
  have e2 : (12 * y + m - 1) % 12 + 1 = m := by omega
  rw [e1, e2]
/-- the month of a number of a day lies in its year -/
theorem iFM_in {i n : Int} (h1 : iFM i ≤ n) (h2 : n < iFM (i + 1)) : iFY (i / 12) ≤ n ∧ n < iFY (i / 12 + 1) := by
  constructor
  · have := iFM_le (show 12 * (i / 12) ≤ i by omega); rw [iFM_year] at this; omega
  · have := iFM_le (show i + 1 ≤ 12 * (i / 12 + 1) by omega); rw [iFM_year] at this; omega
/-- the guess by the mean year is wrong by one at most -/
theorem iFY_guess {e N : Int} (he : e = 400 * (N + 719528) / 146097) : iFY (e - 1) ≤ N ∧ N < iFY (e + 2) := by
  unfold iFY
  omega
theorem iFY_guess2 {e n : Int} (he : e = 1970 + n * 400 / 146097) : iFY (e - 1) ≤ n ∧ n < iFY (e + 2) := by
  unfold iFY
  omega
theorem iFY_lo : iFY (-9999) = -4371587 := by decide
theorem iFY_hi : iFY 10000 = 2932897 := by decide
theorem iFY_r {y : Int} {B : Int} (hB : 0 ≤ B) (h1 : -B ≤ y) (h2 : y ≤ B) : -366 * B - 719900 ≤ iFY y ∧ iFY y ≤ 366 * B + 719900 := by
  unfold iFY
  omega
end ZPI
