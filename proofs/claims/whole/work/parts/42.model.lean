section ZPM
theorem m_fl {a b : Int64} {x y : Int} (ha : a.toInt = x) (hb : b.toInt = y) (hy : 0 < y) (h1 : -4611686018427387904 ≤ x) (h2 : y ≤ 4611686018427387904) : (f_X3_floor a b).toInt = x / y := by
  unfold f_X3_floor
  have c := p_lt ha (show (0 : Int64).toInt = 0 from rfl)
  by_cases h : x < 0
  · rw [if_pos (c.mpr h)]
    have e1 := p_sub hb (show (1 : Int64).toInt = 1 from rfl) (by omega) (by omega)
    have e2 := p_sub e1 ha (by omega) (by omega)
    have e3 := p_divn e2 hb hy (by omega)
    have q : (y - 1 - x) / y = -(x / y) := by
      have g := Int.mul_ediv_add_emod x y
      have r1 : 0 ≤ x % y := Int.emod_nonneg _ (by omega)
      have r2 : x % y < y := Int.emod_lt_of_pos _ hy
      have e : y - 1 - x = (y - 1 - x % y) + (-(x / y)) * y := by rw [Int.neg_mul, Int.mul_comm (x / y) y]; omega
      rw [e, Int.add_mul_ediv_right _ _ (by omega), Int.ediv_eq_zero_of_lt (by omega) (by omega)]; omega
    rw [q] at e3
    have l := p_hi ((b - 1 - a) / b)
    rw [e3] at l
    have q1 : x / y < 0 := Int.ediv_neg_of_neg_of_pos h hy
    have e4 := p_neg e3 (by omega)
    rw [e4]; omega
  · rw [if_neg (fun z => h (c.mp z))]
    exact p_divn ha hb hy (by omega)
theorem m_rs {a b : Int64} {x y : Int} (ha : a.toInt = x) (hb : b.toInt = y) (hy : 0 < y) (h1 : -4611686018427387904 ≤ x) (h2 : y ≤ 4611686018427387904) : (f_X3_rest a b).toInt = x % y := by
  unfold f_X3_rest
  have e1 := m_fl ha hb hy h1 h2
  have g := Int.mul_ediv_add_emod x y
  have r1 : 0 ≤ x % y := Int.emod_nonneg _ (by omega)
  have r2 : x % y < y := Int.emod_lt_of_pos _ hy
  have l2 := p_hi a
  rw [ha] at l2
  have e2 := p_mul hb e1 (by omega) (by omega)
  rw [p_sub ha e2 (by omega) (by omega)]; omega
theorem m_rs0 {a b : Int64} {x y : Int} (ha : a.toInt = x) (hb : b.toInt = y) (hy : 0 < y) (h1 : -4611686018427387904 ≤ x) (h2 : y ≤ 4611686018427387904) : f_X3_rest a b = 0 ↔ x % y = 0 := p_eq (m_rs ha hb hy h1 h2) rfl
theorem m_long {a : Int64} {x : Int} (ha : a.toInt = x) (h1 : -4611686018427387904 ≤ x) : (f_X3_isLong a).toInt = iL x := by
  unfold f_X3_isLong iL
  have h4 := m_rs0 ha (show (4 : Int64).toInt = 4 from rfl) (by omega) h1 (by omega)
  have h9 := m_rs0 ha (show (100 : Int64).toInt = 100 from rfl) (by omega) h1 (by omega)
  have h0 := m_rs0 ha (show (400 : Int64).toInt = 400 from rfl) (by omega) h1 (by omega)
  simp only [h4, h9, h0]
  repeat (first | rfl | (exfalso; omega) | split)
theorem m_long0 {a : Int64} {x : Int} (ha : a.toInt = x) (h1 : -4611686018427387904 ≤ x) : f_X3_isLong a = 0 ↔ iL x = 0 := by
  have h := m_long ha h1
  rw [← Int32.toInt_inj, h]; rfl
theorem m_ahead {a : Int64} {x : Int} (ha : a.toInt = x) (h1 : -1000000000 ≤ x) (h2 : x ≤ 1000000000) : (f_X3_ahead a).toInt = iFY x + 719528 := by
  unfold f_X3_ahead
  have a3 := p_add ha (show (3 : Int64).toInt = 3 from rfl) (by omega) (by omega)
  have a9 := p_add ha (show (99 : Int64).toInt = 99 from rfl) (by omega) (by omega)
  have a4 := p_add ha (show (399 : Int64).toInt = 399 from rfl) (by omega) (by omega)
  have d3 := m_fl a3 (show (4 : Int64).toInt = 4 from rfl) (by omega) (by omega) (by omega)
  have d9 := m_fl a9 (show (100 : Int64).toInt = 100 from rfl) (by omega) (by omega) (by omega)
  have d4 := m_fl a4 (show (400 : Int64).toInt = 400 from rfl) (by omega) (by omega) (by omega)
  have e1 := p_mul (show (365 : Int64).toInt = 365 from rfl) ha (by omega) (by omega)
  have e2 := p_add e1 d3 (by omega) (by omega)
  have e3 := p_sub e2 d9 (by omega) (by omega)
  have e4 := p_add e3 d4 (by omega) (by omega)
  rw [e4]; unfold iFY; omega
theorem m_first {a : Int64} {x : Int} (ha : a.toInt = x) (h1 : -1000000000 ≤ x) (h2 : x ≤ 1000000000) : (f_X3_first a).toInt = iFY x := by
  unfold f_X3_first
  have e1 := m_ahead ha h1 h2
  have e2 := m_ahead (show (1970 : Int64).toInt = 1970 from rfl) (by omega) (by omega)
  have z : iFY 1970 = 0 := by decide
  rw [z] at e2
  have r := iFY_r (y := x) (B := 1000000000) (by omega) h1 h2
  rw [p_sub e1 e2 (by omega) (by omega)]; omega
theorem m_many {a : Int64} {x : Int} {b : Int32} {m : Int} (ha : a.toInt = x) (hb : b.toInt = m) (h1 : -4611686018427387904 ≤ x) : (f_X3_many a b).toInt = iML x m := by
  unfold f_X3_many iML
  have c2 := p_eq32 hb (show (2 : Int32).toInt = 2 from rfl)
  have c4 := p_eq32 hb (show (4 : Int32).toInt = 4 from rfl)
  have c6 := p_eq32 hb (show (6 : Int32).toInt = 6 from rfl)
  have c9 := p_eq32 hb (show (9 : Int32).toInt = 9 from rfl)
  have c11 := p_eq32 hb (show (11 : Int32).toInt = 11 from rfl)
  simp only [c2, c4, c6, c9, c11, m_long0 ha h1]
  have l := iL_01 x
  repeat (first | (show (28 : Int) = _; omega) | (show (29 : Int) = _; omega) | (show (30 : Int) = _; omega) | (show (31 : Int) = _; omega) | split)
theorem m_number {a : Int64} {x : Int} {b e : Int32} {m q : Int} (ha : a.toInt = x) (hb : b.toInt = m) (he : e.toInt = q) (h1 : -1000000000 ≤ x) (h2 : x ≤ 1000000000) (m1 : 1 ≤ m) (m2 : m ≤ 12) : (f_X3_number a b e).toInt = iFY x + iC x m + q - 1 := by
  have f := m_first ha h1 h2
  have r := iFY_r (y := x) (B := 1000000000) (by omega) h1 h2
  have k1 := p_lo32 e
  have k2 := p_hi32 e
  rw [he] at k1 k2
  have t0 := p_add f (p_w he) (by omega) (by omega)
  have c1 := iC_1 x
  have t1 : ((f_X3_first a) + (e).toInt64 - 1).toInt = iFY x + iC x 1 + q - 1 := (p_sub t0 (show (1 : Int64).toInt = 1 from rfl) (by omega) (by omega)).trans (by omega)
  have st : ∀ (w : Int64) (k : Int32) (K : Int), w.toInt = iFY x + iC x K + q - 1 → k.toInt = K → 1 ≤ K → K ≤ 11 → (w + ((f_X3_many a k)).toInt64).toInt = iFY x + iC x (K + 1) + q - 1 := by
    intro w k K hw hk K1 K2
    have c := iC_r (y := x) K1 (by omega)
    have l := iML_r x K
    rw [p_add hw (p_w (m_many ha hk (by omega))) (by omega) (by omega), iC_succ K1 K2]; omega
  have t2 := st _ 1 1 t1 rfl (by omega) (by omega)
  have t3 := st _ 2 2 t2 rfl (by omega) (by omega)
  have t4 := st _ 3 3 t3 rfl (by omega) (by omega)
  have t5 := st _ 4 4 t4 rfl (by omega) (by omega)
  have t6 := st _ 5 5 t5 rfl (by omega) (by omega)
  have t7 := st _ 6 6 t6 rfl (by omega) (by omega)
  have t8 := st _ 7 7 t7 rfl (by omega) (by omega)
  have t9 := st _ 8 8 t8 rfl (by omega) (by omega)
  have t10 := st _ 9 9 t9 rfl (by omega) (by omega)
  have t11 := st _ 10 10 t10 rfl (by omega) (by omega)
  have t12 := st _ 11 11 t11 rfl (by omega) (by omega)
  have g : ∀ k : Int32, b ≤ k ↔ m ≤ k.toInt := fun k => p_le32 hb rfl
  unfold f_X3_number
  rcases i12 m1 m2 with z | z | z | z | z | z | z | z | z | z | z | z <;> subst z <;>
    first
    | (rw [if_pos ((g 1).mpr (by decide))]; exact t1)
    | (rw [if_neg (fun w => absurd ((g 1).mp w) (by decide)), if_pos ((g 2).mpr (by decide))]; exact t2)
    | (rw [if_neg (fun w => absurd ((g 1).mp w) (by decide)), if_neg (fun w => absurd ((g 2).mp w) (by decide)), if_pos ((g 3).mpr (by decide))]; exact t3)
    | (rw [if_neg (fun w => absurd ((g 1).mp w) (by decide)), if_neg (fun w => absurd ((g 2).mp w) (by decide)), if_neg (fun w => absurd ((g 3).mp w) (by decide)), if_pos ((g 4).mpr (by decide))]; exact t4)
    | (rw [if_neg (fun w => absurd ((g 1).mp w) (by decide)), if_neg (fun w => absurd ((g 2).mp w) (by decide)), if_neg (fun w => absurd ((g 3).mp w) (by decide)), if_neg (fun w => absurd ((g 4).mp w) (by decide)), if_pos ((g 5).mpr (by decide))]; exact t5)
    | (rw [if_neg (fun w => absurd ((g 1).mp w) (by decide)), if_neg (fun w => absurd ((g 2).mp w) (by decide)), if_neg (fun w => absurd ((g 3).mp w) (by decide)), if_neg (fun w => absurd ((g 4).mp w) (by decide)), if_neg (fun w => absurd ((g 5).mp w) (by decide)), if_pos ((g 6).mpr (by decide))]; exact t6)
    | (rw [if_neg (fun w => absurd ((g 1).mp w) (by decide)), if_neg (fun w => absurd ((g 2).mp w) (by decide)), if_neg (fun w => absurd ((g 3).mp w) (by decide)), if_neg (fun w => absurd ((g 4).mp w) (by decide)), if_neg (fun w => absurd ((g 5).mp w) (by decide)), if_neg (fun w => absurd ((g 6).mp w) (by decide)), if_pos ((g 7).mpr (by decide))]; exact t7)
    | (rw [if_neg (fun w => absurd ((g 1).mp w) (by decide)), if_neg (fun w => absurd ((g 2).mp w) (by decide)), if_neg (fun w => absurd ((g 3).mp w) (by decide)), if_neg (fun w => absurd ((g 4).mp w) (by decide)), if_neg (fun w => absurd ((g 5).mp w) (by decide)), if_neg (fun w => absurd ((g 6).mp w) (by decide)), if_neg (fun w => absurd ((g 7).mp w) (by decide)), if_pos ((g 8).mpr (by decide))]; exact t8)
    | (rw [if_neg (fun w => absurd ((g 1).mp w) (by decide)), if_neg (fun w => absurd ((g 2).mp w) (by decide)), if_neg (fun w => absurd ((g 3).mp w) (by decide)), if_neg (fun w => absurd ((g 4).mp w) (by decide)), if_neg (fun w => absurd ((g 5).mp w) (by decide)), if_neg (fun w => absurd ((g 6).mp w) (by decide)), if_neg (fun w => absurd ((g 7).mp w) (by decide)), if_neg (fun w => absurd ((g 8).mp w) (by decide)), if_pos ((g 9).mpr (by decide))]; exact t9)
    | (rw [if_neg (fun w => absurd ((g 1).mp w) (by decide)), if_neg (fun w => absurd ((g 2).mp w) (by decide)), if_neg (fun w => absurd ((g 3).mp w) (by decide)), if_neg (fun w => absurd ((g 4).mp w) (by decide)), if_neg (fun w => absurd ((g 5).mp w) (by decide)), if_neg (fun w => absurd ((g 6).mp w) (by decide)), if_neg (fun w => absurd ((g 7).mp w) (by decide)), if_neg (fun w => absurd ((g 8).mp w) (by decide)), if_neg (fun w => absurd ((g 9).mp w) (by decide)), if_pos ((g 10).mpr (by decide))]; exact t10)
    | (rw [if_neg (fun w => absurd ((g 1).mp w) (by decide)), if_neg (fun w => absurd ((g 2).mp w) (by decide)), if_neg (fun w => absurd ((g 3).mp w) (by decide)), if_neg (fun w => absurd ((g 4).mp w) (by decide)), if_neg (fun w => absurd ((g 5).mp w) (by decide)), if_neg (fun w => absurd ((g 6).mp w) (by decide)), if_neg (fun w => absurd ((g 7).mp w) (by decide)), if_neg (fun w => absurd ((g 8).mp w) (by decide)), if_neg (fun w => absurd ((g 9).mp w) (by decide)), if_neg (fun w => absurd ((g 10).mp w) (by decide)), if_pos ((g 11).mpr (by decide))]; exact t11)
    | (rw [if_neg (fun w => absurd ((g 1).mp w) (by decide)), if_neg (fun w => absurd ((g 2).mp w) (by decide)), if_neg (fun w => absurd ((g 3).mp w) (by decide)), if_neg (fun w => absurd ((g 4).mp w) (by decide)), if_neg (fun w => absurd ((g 5).mp w) (by decide)), if_neg (fun w => absurd ((g 6).mp w) (by decide)), if_neg (fun w => absurd ((g 7).mp w) (by decide)), if_neg (fun w => absurd ((g 8).mp w) (by decide)), if_neg (fun w => absurd ((g 9).mp w) (by decide)), if_neg (fun w => absurd ((g 10).mp w) (by decide)), if_neg (fun w => absurd ((g 11).mp w) (by decide))]; exact t12)
end ZPM
