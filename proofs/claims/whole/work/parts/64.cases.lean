section ZPK
set_option maxHeartbeats 4000000 in
set_option maxRecDepth 100000 in
theorem i_c19 (d : Nat → Int64) (sy : Nat → Int32) (sm : Nat → Int32) (sd : Nat → Int32) (mi : Nat → Int32) (ti : Nat → Int64) (sL : Nat → Int64) (bL : Nat → Int64) (mD : Nat → Int64) (mT : Nat → Int64) (ou : Nat → Int64) (q1 q2 q3 q4 q5 : Int32) (I : iInv d sy sm sd mi ti sL bL mD mT) : pre_Lc19 mi ou q1 q2 q3 ∧ (s_X3_month_mi (zw mi) q1 q2 q3) = zw (s_L_month_mi mi q1 q2 q3) ∧ iInv d sy sm sd (s_L_month_mi mi q1 q2 q3) ti sL bL mD mT := by
  unfold pre_Lc19
  rcases v_s4 q1 with ⟨a1, a2, a3, a4, a5⟩ | ⟨a4, a5⟩
  rotate_left
  · simp +decide only [f_X1_monthIndex, k_X2_checkArgument, k_X2_checkOutcome, f_X2_isYear, f_X2_keepMonth, s_X2_keepMonth_mi, k_X2_keepMonth, f_X2_month, s_X2_month_mi, k_X2_month, f_X3_isYear, f_X3_fails, s_X3_fails_co, f_X3_monthMany, f_X3_month_j1, f_X3_month, s_X3_month_co, s_X3_month_mi, f_L_month, s_L_month_mi, s_L_month_ou, pre_L_month, pre_Lc19, reduceIte, updL_at, upd_at, ite_self, m_in_eq, m_unit_eq, false_implies, true_implies, implies_true, true_and, and_true, not_true_eq_false, not_false_eq_true, *]
  rcases v_in32 (a := q2) (b := -9999) (c := 9999) (x := q2.toInt) (y := -9999) (z := 9999) rfl rfl rfl with ⟨y1, y2, y3⟩ | ⟨y9, y3⟩
  rotate_left
  · rcases v_in32 (a := q3) (b := 1) (c := 12) (x := q3.toInt) (y := 1) (z := 12) rfl rfl rfl with ⟨m1, m2, m3⟩ | ⟨m9, m3⟩
    all_goals simp +decide only [f_X1_monthIndex, k_X2_checkArgument, k_X2_checkOutcome, f_X2_isYear, f_X2_keepMonth, s_X2_keepMonth_mi, k_X2_keepMonth, f_X2_month, s_X2_month_mi, k_X2_month, f_X3_isYear, f_X3_fails, s_X3_fails_co, f_X3_monthMany, f_X3_month_j1, f_X3_month, s_X3_month_co, s_X3_month_mi, f_L_month, s_L_month_mi, s_L_month_ou, pre_L_month, pre_Lc19, reduceIte, updL_at, upd_at, ite_self, m_in_eq, m_unit_eq, false_implies, true_implies, implies_true, true_and, and_true, not_true_eq_false, not_false_eq_true, *]
  rcases v_in32 (a := q3) (b := 1) (c := 12) (x := q3.toInt) (y := 1) (z := 12) rfl rfl rfl with ⟨m1, m2, m3⟩ | ⟨m9, m3⟩
  rotate_left
  · skip
    simp +decide only [f_X1_monthIndex, k_X2_checkArgument, k_X2_checkOutcome, f_X2_isYear, f_X2_keepMonth, s_X2_keepMonth_mi, k_X2_keepMonth, f_X2_month, s_X2_month_mi, k_X2_month, f_X3_isYear, f_X3_fails, s_X3_fails_co, f_X3_monthMany, f_X3_month_j1, f_X3_month, s_X3_month_co, s_X3_month_mi, f_L_month, s_L_month_mi, s_L_month_ou, pre_L_month, pre_Lc19, reduceIte, updL_at, upd_at, ite_self, m_in_eq, m_unit_eq, false_implies, true_implies, implies_true, true_and, and_true, not_true_eq_false, not_false_eq_true, *]
  have X := p_sub (p_add (p_mul p_k12 (p_w (rfl : q2.toInt = _)) (by omega) (by omega)) (p_w (rfl : q3.toInt = _)) (by omega) (by omega)) p_k1 (by omega) (by omega)
  obtain ⟨e1, e2, e3, e4, ⟨e5, e6, e7⟩ | e5⟩ := mth (x := (12 * q2.toInt64 + q3.toInt64 - 1)) (by omega) (by omega)
  · obtain ⟨J, j1⟩ := J_mi I q1.toNatClampNeg e6 e7
    clear X e6 e7
    simp +decide only [f_X1_monthIndex, k_X2_checkArgument, k_X2_checkOutcome, f_X2_isYear, f_X2_keepMonth, s_X2_keepMonth_mi, k_X2_keepMonth, f_X2_month, s_X2_month_mi, k_X2_month, f_X3_isYear, f_X3_fails, s_X3_fails_co, f_X3_monthMany, f_X3_month_j1, f_X3_month, s_X3_month_co, s_X3_month_mi, f_L_month, s_L_month_mi, s_L_month_ou, pre_L_month, pre_Lc19, reduceIte, updL_at, upd_at, ite_self, m_in_eq, m_unit_eq, false_implies, true_implies, implies_true, true_and, and_true, not_true_eq_false, not_false_eq_true, zw_at, *]
  · exfalso
    rcases v_in (v_yom X) (show (-9999 : Int64).toInt = -9999 from rfl) (show (9999 : Int64).toInt = 9999 from rfl) with ⟨_, _, h⟩ | ⟨h, _⟩
    · rw [e5] at h; exact absurd h (by decide)
    · omega
set_option maxHeartbeats 4000000 in
set_option maxRecDepth 100000 in
theorem i_c20 (d : Nat → Int64) (sy : Nat → Int32) (sm : Nat → Int32) (sd : Nat → Int32) (mi : Nat → Int32) (ti : Nat → Int64) (sL : Nat → Int64) (bL : Nat → Int64) (mD : Nat → Int64) (mT : Nat → Int64) (ou : Nat → Int64) (q1 q2 q3 q4 q5 : Int32) (I : iInv d sy sm sd mi ti sL bL mD mT) : pre_Lc20 mi ou q1 q2 q3 q4 ∧ (s_X3_moveMonth_mi (zw mi) q1 ((q2.toUInt32 % 65536).toInt32) q3 q4) = zw (s_L_moveMonth_mi mi q1 ((q2.toUInt32 % 65536).toInt32) q3 q4) ∧ iInv d sy sm sd (s_L_moveMonth_mi mi q1 ((q2.toUInt32 % 65536).toInt32) q3 q4) ti sL bL mD mT := by
  unfold pre_Lc20
  generalize (q2.toUInt32 % 65536).toInt32 = u
  rcases v_s4 q1 with ⟨a1, a2, a3, a4, a5⟩ | ⟨a4, a5⟩
  rotate_left
  · simp +decide only [k_X2_checkArgument, k_X2_checkOutcome, f_X2_isYear, f_X2_keepMonth, s_X2_keepMonth_mi, k_X2_keepMonth, f_X2_moveMonth_j1, f_X2_moveMonth_j2, f_X2_moveMonth, s_X2_moveMonth_mi, k_X2_moveMonth, f_X3_isYear, f_X3_fails, s_X3_fails_co, f_X3_monthMany, f_X3_moveMonth_j1, f_X3_moveMonth_j2, f_X3_moveMonth_j3, f_X3_moveMonth_j4, f_X3_moveMonth, s_X3_moveMonth_co, s_X3_moveMonth_mi, f_L_moveMonth, s_L_moveMonth_mi, s_L_moveMonth_ou, pre_Lc20, reduceIte, updL_at, upd_at, ite_self, m_in_eq, m_unit_eq, false_implies, true_implies, implies_true, true_and, and_true, not_true_eq_false, not_false_eq_true, *]
  rcases v_s4 q4 with ⟨b1, b2, b3, b4, b5⟩ | ⟨b4, b5⟩
  rotate_left
  · simp +decide only [k_X2_checkArgument, k_X2_checkOutcome, f_X2_isYear, f_X2_keepMonth, s_X2_keepMonth_mi, k_X2_keepMonth, f_X2_moveMonth_j1, f_X2_moveMonth_j2, f_X2_moveMonth, s_X2_moveMonth_mi, k_X2_moveMonth, f_X3_isYear, f_X3_fails, s_X3_fails_co, f_X3_monthMany, f_X3_moveMonth_j1, f_X3_moveMonth_j2, f_X3_moveMonth_j3, f_X3_moveMonth_j4, f_X3_moveMonth, s_X3_moveMonth_co, s_X3_moveMonth_mi, f_L_moveMonth, s_L_moveMonth_mi, s_L_moveMonth_ou, pre_Lc20, reduceIte, updL_at, upd_at, ite_self, m_in_eq, m_unit_eq, false_implies, true_implies, implies_true, true_and, and_true, not_true_eq_false, not_false_eq_true, *]
  have M := iI_at I.2.2.2.2.1 a1
  have o1 : 1 * q3.toInt64 = q3.toInt64 := Int64.one_mul _
  by_cases h1 : u = 109
  · subst h1
    rcases v_in32 (a := q3) (b := -1000000) (c := 1000000) (x := q3.toInt) (y := -1000000) (z := 1000000) rfl rfl rfl with ⟨z1, z2, z3⟩ | ⟨z9, z3⟩
    rotate_left
    · skip
      simp +decide only [k_X2_checkArgument, k_X2_checkOutcome, f_X2_isYear, f_X2_keepMonth, s_X2_keepMonth_mi, k_X2_keepMonth, f_X2_moveMonth_j1, f_X2_moveMonth_j2, f_X2_moveMonth, s_X2_moveMonth_mi, k_X2_moveMonth, f_X3_isYear, f_X3_fails, s_X3_fails_co, f_X3_monthMany, f_X3_moveMonth_j1, f_X3_moveMonth_j2, f_X3_moveMonth_j3, f_X3_moveMonth_j4, f_X3_moveMonth, s_X3_moveMonth_co, s_X3_moveMonth_mi, f_L_moveMonth, s_L_moveMonth_mi, s_L_moveMonth_ou, pre_Lc20, reduceIte, updL_at, upd_at, ite_self, m_in_eq, m_unit_eq, false_implies, true_implies, implies_true, true_and, and_true, not_true_eq_false, not_false_eq_true, *]
    have X := p_add (p_w (rfl : (mi q1.toNatClampNeg).toInt = _)) (p_w (rfl : q3.toInt = _)) (by omega) (by omega)
    obtain ⟨e1, e2, e3, e4, ⟨e5, e6, e7⟩ | e5⟩ := mth (x := ((mi q1.toNatClampNeg).toInt64 + q3.toInt64)) (by omega) (by omega)
    · obtain ⟨J, j1⟩ := J_mi I q4.toNatClampNeg e6 e7
      clear X e6 e7
      simp +decide only [k_X2_checkArgument, k_X2_checkOutcome, f_X2_isYear, f_X2_keepMonth, s_X2_keepMonth_mi, k_X2_keepMonth, f_X2_moveMonth_j1, f_X2_moveMonth_j2, f_X2_moveMonth, s_X2_moveMonth_mi, k_X2_moveMonth, f_X3_isYear, f_X3_fails, s_X3_fails_co, f_X3_monthMany, f_X3_moveMonth_j1, f_X3_moveMonth_j2, f_X3_moveMonth_j3, f_X3_moveMonth_j4, f_X3_moveMonth, s_X3_moveMonth_co, s_X3_moveMonth_mi, f_L_moveMonth, s_L_moveMonth_mi, s_L_moveMonth_ou, pre_Lc20, reduceIte, updL_at, upd_at, ite_self, m_in_eq, m_unit_eq, false_implies, true_implies, implies_true, true_and, and_true, not_true_eq_false, not_false_eq_true, zw_at, *]
    · clear X
      simp +decide only [k_X2_checkArgument, k_X2_checkOutcome, f_X2_isYear, f_X2_keepMonth, s_X2_keepMonth_mi, k_X2_keepMonth, f_X2_moveMonth_j1, f_X2_moveMonth_j2, f_X2_moveMonth, s_X2_moveMonth_mi, k_X2_moveMonth, f_X3_isYear, f_X3_fails, s_X3_fails_co, f_X3_monthMany, f_X3_moveMonth_j1, f_X3_moveMonth_j2, f_X3_moveMonth_j3, f_X3_moveMonth_j4, f_X3_moveMonth, s_X3_moveMonth_co, s_X3_moveMonth_mi, f_L_moveMonth, s_L_moveMonth_mi, s_L_moveMonth_ou, pre_Lc20, reduceIte, updL_at, upd_at, ite_self, m_in_eq, m_unit_eq, false_implies, true_implies, implies_true, true_and, and_true, not_true_eq_false, not_false_eq_true, zw_at, *]
  by_cases h2 : u = 121
  · subst h2
    rcases v_in32 (a := q3) (b := -1000000) (c := 1000000) (x := q3.toInt) (y := -1000000) (z := 1000000) rfl rfl rfl with ⟨z1, z2, z3⟩ | ⟨z9, z3⟩
    rotate_left
    · skip
      simp +decide only [k_X2_checkArgument, k_X2_checkOutcome, f_X2_isYear, f_X2_keepMonth, s_X2_keepMonth_mi, k_X2_keepMonth, f_X2_moveMonth_j1, f_X2_moveMonth_j2, f_X2_moveMonth, s_X2_moveMonth_mi, k_X2_moveMonth, f_X3_isYear, f_X3_fails, s_X3_fails_co, f_X3_monthMany, f_X3_moveMonth_j1, f_X3_moveMonth_j2, f_X3_moveMonth_j3, f_X3_moveMonth_j4, f_X3_moveMonth, s_X3_moveMonth_co, s_X3_moveMonth_mi, f_L_moveMonth, s_L_moveMonth_mi, s_L_moveMonth_ou, pre_Lc20, reduceIte, updL_at, upd_at, ite_self, m_in_eq, m_unit_eq, false_implies, true_implies, implies_true, true_and, and_true, not_true_eq_false, not_false_eq_true, *]
    have X := p_add (p_w (rfl : (mi q1.toNatClampNeg).toInt = _)) (p_mul p_k12 (p_w (rfl : q3.toInt = _)) (by omega) (by omega)) (by omega) (by omega)
    obtain ⟨e1, e2, e3, e4, ⟨e5, e6, e7⟩ | e5⟩ := mth (x := ((mi q1.toNatClampNeg).toInt64 + 12 * q3.toInt64)) (by omega) (by omega)
    · obtain ⟨J, j1⟩ := J_mi I q4.toNatClampNeg e6 e7
      clear X e6 e7
      simp +decide only [k_X2_checkArgument, k_X2_checkOutcome, f_X2_isYear, f_X2_keepMonth, s_X2_keepMonth_mi, k_X2_keepMonth, f_X2_moveMonth_j1, f_X2_moveMonth_j2, f_X2_moveMonth, s_X2_moveMonth_mi, k_X2_moveMonth, f_X3_isYear, f_X3_fails, s_X3_fails_co, f_X3_monthMany, f_X3_moveMonth_j1, f_X3_moveMonth_j2, f_X3_moveMonth_j3, f_X3_moveMonth_j4, f_X3_moveMonth, s_X3_moveMonth_co, s_X3_moveMonth_mi, f_L_moveMonth, s_L_moveMonth_mi, s_L_moveMonth_ou, pre_Lc20, reduceIte, updL_at, upd_at, ite_self, m_in_eq, m_unit_eq, false_implies, true_implies, implies_true, true_and, and_true, not_true_eq_false, not_false_eq_true, zw_at, *]
    · clear X
      simp +decide only [k_X2_checkArgument, k_X2_checkOutcome, f_X2_isYear, f_X2_keepMonth, s_X2_keepMonth_mi, k_X2_keepMonth, f_X2_moveMonth_j1, f_X2_moveMonth_j2, f_X2_moveMonth, s_X2_moveMonth_mi, k_X2_moveMonth, f_X3_isYear, f_X3_fails, s_X3_fails_co, f_X3_monthMany, f_X3_moveMonth_j1, f_X3_moveMonth_j2, f_X3_moveMonth_j3, f_X3_moveMonth_j4, f_X3_moveMonth, s_X3_moveMonth_co, s_X3_moveMonth_mi, f_L_moveMonth, s_L_moveMonth_mi, s_L_moveMonth_ou, pre_Lc20, reduceIte, updL_at, upd_at, ite_self, m_in_eq, m_unit_eq, false_implies, true_implies, implies_true, true_and, and_true, not_true_eq_false, not_false_eq_true, zw_at, *]
  simp +decide only [k_X2_checkArgument, k_X2_checkOutcome, f_X2_isYear, f_X2_keepMonth, s_X2_keepMonth_mi, k_X2_keepMonth, f_X2_moveMonth_j1, f_X2_moveMonth_j2, f_X2_moveMonth, s_X2_moveMonth_mi, k_X2_moveMonth, f_X3_isYear, f_X3_fails, s_X3_fails_co, f_X3_monthMany, f_X3_moveMonth_j1, f_X3_moveMonth_j2, f_X3_moveMonth_j3, f_X3_moveMonth_j4, f_X3_moveMonth, s_X3_moveMonth_co, s_X3_moveMonth_mi, f_L_moveMonth, s_L_moveMonth_mi, s_L_moveMonth_ou, pre_Lc20, reduceIte, updL_at, upd_at, ite_self, m_in_eq, m_unit_eq, false_implies, true_implies, implies_true, true_and, and_true, not_true_eq_false, not_false_eq_true, *]
set_option maxHeartbeats 4000000 in
set_option maxRecDepth 100000 in
theorem i_c21 (d : Nat → Int64) (sy : Nat → Int32) (sm : Nat → Int32) (sd : Nat → Int32) (mi : Nat → Int32) (ti : Nat → Int64) (sL : Nat → Int64) (bL : Nat → Int64) (mD : Nat → Int64) (mT : Nat → Int64) (ou : Nat → Int64) (q1 q2 q3 q4 q5 : Int32) (I : iInv d sy sm sd mi ti sL bL mD mT) : pre_Lc21 mi ou q1 q2 := by
  unfold pre_Lc21
  generalize (q2.toUInt32 % 65536).toInt32 = u
  rcases v_s4 q1 with ⟨a1, a2, a3, a4, a5⟩ | ⟨a4, a5⟩
  rotate_left
  · simp +decide only [f_X1_lengthOfYear, k_X2_checkArgument, k_X2_checkOutcome, f_X2_isYear, f_X2_monthPart, k_X2_monthPart, f_X3_isYear, f_X3_fails, s_X3_fails_co, f_X3_monthMany, f_X3_monthPart_j1, f_X3_monthPart, s_X3_monthPart_co, f_L_monthPart, s_L_monthPart_ou, pre_L_monthPart, pre_Lc21, reduceIte, updL_at, upd_at, ite_self, m_in_eq, m_unit_eq, false_implies, true_implies, implies_true, true_and, and_true, not_true_eq_false, not_false_eq_true, *]
  have M := iI_at I.2.2.2.2.1 a1
  have X := p_w (rfl : (mi q1.toNatClampNeg).toInt = _)
  obtain ⟨e1, e2, e3, e4, _⟩ := mth (x := (mi q1.toNatClampNeg).toInt64) (by omega) (by omega)
  have e5 : f_X3_isLong (f_X1_yearOfMonth (mi q1.toNatClampNeg).toInt64) = f_X1_isLongYear (f_X1_yearOfMonth (mi q1.toNatClampNeg).toInt64) := p_ext32 (m_long (v_yom X) (by omega)) (v_long (v_yom X))
  clear X
  by_cases h76 : u = 76
  · subst h76
    simp +decide only [f_X1_lengthOfYear, k_X2_checkArgument, k_X2_checkOutcome, f_X2_isYear, f_X2_monthPart, k_X2_monthPart, f_X3_isYear, f_X3_fails, s_X3_fails_co, f_X3_monthMany, f_X3_monthPart_j1, f_X3_monthPart, s_X3_monthPart_co, f_L_monthPart, s_L_monthPart_ou, pre_L_monthPart, pre_Lc21, reduceIte, updL_at, upd_at, ite_self, m_in_eq, m_unit_eq, false_implies, true_implies, implies_true, true_and, and_true, not_true_eq_false, not_false_eq_true, zw_at, *]
  by_cases h108 : u = 108
  · subst h108
    simp +decide only [f_X1_lengthOfYear, k_X2_checkArgument, k_X2_checkOutcome, f_X2_isYear, f_X2_monthPart, k_X2_monthPart, f_X3_isYear, f_X3_fails, s_X3_fails_co, f_X3_monthMany, f_X3_monthPart_j1, f_X3_monthPart, s_X3_monthPart_co, f_L_monthPart, s_L_monthPart_ou, pre_L_monthPart, pre_Lc21, reduceIte, updL_at, upd_at, ite_self, m_in_eq, m_unit_eq, false_implies, true_implies, implies_true, true_and, and_true, not_true_eq_false, not_false_eq_true, zw_at, *]
  by_cases h109 : u = 109
  · subst h109
    simp +decide only [f_X1_lengthOfYear, k_X2_checkArgument, k_X2_checkOutcome, f_X2_isYear, f_X2_monthPart, k_X2_monthPart, f_X3_isYear, f_X3_fails, s_X3_fails_co, f_X3_monthMany, f_X3_monthPart_j1, f_X3_monthPart, s_X3_monthPart_co, f_L_monthPart, s_L_monthPart_ou, pre_L_monthPart, pre_Lc21, reduceIte, updL_at, upd_at, ite_self, m_in_eq, m_unit_eq, false_implies, true_implies, implies_true, true_and, and_true, not_true_eq_false, not_false_eq_true, zw_at, *]
  by_cases h121 : u = 121
  · subst h121
    simp +decide only [f_X1_lengthOfYear, k_X2_checkArgument, k_X2_checkOutcome, f_X2_isYear, f_X2_monthPart, k_X2_monthPart, f_X3_isYear, f_X3_fails, s_X3_fails_co, f_X3_monthMany, f_X3_monthPart_j1, f_X3_monthPart, s_X3_monthPart_co, f_L_monthPart, s_L_monthPart_ou, pre_L_monthPart, pre_Lc21, reduceIte, updL_at, upd_at, ite_self, m_in_eq, m_unit_eq, false_implies, true_implies, implies_true, true_and, and_true, not_true_eq_false, not_false_eq_true, zw_at, *]
  simp +decide only [f_X1_lengthOfYear, k_X2_checkArgument, k_X2_checkOutcome, f_X2_isYear, f_X2_monthPart, k_X2_monthPart, f_X3_isYear, f_X3_fails, s_X3_fails_co, f_X3_monthMany, f_X3_monthPart_j1, f_X3_monthPart, s_X3_monthPart_co, f_L_monthPart, s_L_monthPart_ou, pre_L_monthPart, pre_Lc21, reduceIte, updL_at, upd_at, ite_self, m_in_eq, m_unit_eq, false_implies, true_implies, implies_true, true_and, and_true, not_true_eq_false, not_false_eq_true, *]
set_option maxHeartbeats 4000000 in
set_option maxRecDepth 100000 in
theorem i_c22 (d : Nat → Int64) (sy : Nat → Int32) (sm : Nat → Int32) (sd : Nat → Int32) (mi : Nat → Int32) (ti : Nat → Int64) (sL : Nat → Int64) (bL : Nat → Int64) (mD : Nat → Int64) (mT : Nat → Int64) (ou : Nat → Int64) (q1 q2 q3 q4 q5 : Int32) (I : iInv d sy sm sd mi ti sL bL mD mT) : pre_Lc22 d mi ou q1 q2 q3 ∧ (s_X3_atDay_d d (zw mi) q1 q2 q3) = (s_L_atDay_d d mi q1 q2 q3) ∧ iInv (s_L_atDay_d d mi q1 q2 q3) sy sm sd mi ti sL bL mD mT := by
  unfold pre_Lc22
  rcases v_s4 q1 with ⟨a1, a2, a3, a4, a5⟩ | ⟨a4, a5⟩
  rotate_left
  · simp +decide only [k_X2_checkArgument, k_X2_checkOutcome, f_X2_isYear, f_X2_keepDate, s_X2_keepDate_d, k_X2_keepDate, f_X2_atDay_j1, f_X2_atDay, s_X2_atDay_d, k_X2_atDay, f_X3_isYear, f_X3_fails, s_X3_fails_co, f_X3_monthMany, f_X3_atDay_j1, f_X3_atDay_j2, f_X3_atDay, s_X3_atDay_co, s_X3_atDay_d, pre_X3_atDay, f_L_atDay, s_L_atDay_d, s_L_atDay_ou, pre_L_atDay, pre_Lc22, reduceIte, updL_at, upd_at, ite_self, m_in_eq, m_unit_eq, false_implies, true_implies, implies_true, true_and, and_true, not_true_eq_false, not_false_eq_true, *]
  rcases v_s6 q3 with ⟨b1, b2, b3, b4, b5⟩ | ⟨b4, b5⟩
  rotate_left
  · simp +decide only [k_X2_checkArgument, k_X2_checkOutcome, f_X2_isYear, f_X2_keepDate, s_X2_keepDate_d, k_X2_keepDate, f_X2_atDay_j1, f_X2_atDay, s_X2_atDay_d, k_X2_atDay, f_X3_isYear, f_X3_fails, s_X3_fails_co, f_X3_monthMany, f_X3_atDay_j1, f_X3_atDay_j2, f_X3_atDay, s_X3_atDay_co, s_X3_atDay_d, pre_X3_atDay, f_L_atDay, s_L_atDay_d, s_L_atDay_ou, pre_L_atDay, pre_Lc22, reduceIte, updL_at, upd_at, ite_self, m_in_eq, m_unit_eq, false_implies, true_implies, implies_true, true_and, and_true, not_true_eq_false, not_false_eq_true, *]
  have M := iI_at I.2.2.2.2.1 a1
  have X := p_w (rfl : (mi q1.toNatClampNeg).toInt = _)
  obtain ⟨e1, e2, e3, e4, _⟩ := mth (x := (mi q1.toNatClampNeg).toInt64) (by omega) (by omega)
  have L := v_lom X
  have l := iM_ML (mi q1.toNatClampNeg).toInt
  have F := v_fom X (by omega) (by omega)
  have fr := iFM_r2 (i := (mi q1.toNatClampNeg).toInt) (by omega) (by omega)
  rcases v_in32 (a := q2) (b := 0) (c := (f_X1_lengthOfMonth (mi q1.toNatClampNeg).toInt64).toInt64) (x := q2.toInt) (y := 0) rfl rfl (p_w L) with ⟨z1, z2, z3⟩ | ⟨z9, z3⟩
  rotate_left
  · clear L F X
    simp +decide only [k_X2_checkArgument, k_X2_checkOutcome, f_X2_isYear, f_X2_keepDate, s_X2_keepDate_d, k_X2_keepDate, f_X2_atDay_j1, f_X2_atDay, s_X2_atDay_d, k_X2_atDay, f_X3_isYear, f_X3_fails, s_X3_fails_co, f_X3_monthMany, f_X3_atDay_j1, f_X3_atDay_j2, f_X3_atDay, s_X3_atDay_co, s_X3_atDay_d, pre_X3_atDay, f_L_atDay, s_L_atDay_d, s_L_atDay_ou, pre_L_atDay, pre_Lc22, reduceIte, updL_at, upd_at, ite_self, m_in_eq, m_unit_eq, false_implies, true_implies, implies_true, true_and, and_true, not_true_eq_false, not_false_eq_true, zw_at, *]
  by_cases h : q2 = 0
  · have N := m_number (v_yom X) (v_miy X) L (by omega) (by omega) (by omega) (by omega)
    rw [← iFM_div] at N
    have G := p_sub (p_add F (p_w L) (by omega) (by omega)) p_k1 (by omega) (by omega)
    have e6 := p_ext N G
    obtain ⟨k1, k2, k3⟩ := v_kd X G (by omega) (by omega) (by omega) (by omega)
    have J : iInv (vp_updL d q3.toNatClampNeg (f_X1_firstOfMonth (mi q1.toNatClampNeg).toInt64 + (f_X1_lengthOfMonth (mi q1.toNatClampNeg).toInt64).toInt64 - 1)) sy sm sd mi ti sL bL mD mT := ⟨iD_upd I.1 k2 k3, I.2⟩
    subst h
    clear N G L F X z1 z2
    simp +decide only [k_X2_checkArgument, k_X2_checkOutcome, f_X2_isYear, f_X2_keepDate, s_X2_keepDate_d, k_X2_keepDate, f_X2_atDay_j1, f_X2_atDay, s_X2_atDay_d, k_X2_atDay, f_X3_isYear, f_X3_fails, s_X3_fails_co, f_X3_monthMany, f_X3_atDay_j1, f_X3_atDay_j2, f_X3_atDay, s_X3_atDay_co, s_X3_atDay_d, pre_X3_atDay, f_L_atDay, s_L_atDay_d, s_L_atDay_ou, pre_L_atDay, pre_Lc22, reduceIte, updL_at, upd_at, ite_self, m_in_eq, m_unit_eq, false_implies, true_implies, implies_true, true_and, and_true, not_true_eq_false, not_false_eq_true, zw_at, *]
  · have h0 : q2.toInt ≠ 0 := fun t => h (p_ext32 t rfl)
    have N := m_number (v_yom X) (v_miy X) (rfl : q2.toInt = _) (by omega) (by omega) (by omega) (by omega)
    rw [← iFM_div] at N
    have G := p_sub (p_add F (p_w (rfl : q2.toInt = _)) (by omega) (by omega)) p_k1 (by omega) (by omega)
    have e6 := p_ext N G
    obtain ⟨k1, k2, k3⟩ := v_kd X G (by omega) (by omega) (by omega) (by omega)
    have J : iInv (vp_updL d q3.toNatClampNeg (f_X1_firstOfMonth (mi q1.toNatClampNeg).toInt64 + q2.toInt64 - 1)) sy sm sd mi ti sL bL mD mT := ⟨iD_upd I.1 k2 k3, I.2⟩
    clear N G L F X h0
    simp +decide only [k_X2_checkArgument, k_X2_checkOutcome, f_X2_isYear, f_X2_keepDate, s_X2_keepDate_d, k_X2_keepDate, f_X2_atDay_j1, f_X2_atDay, s_X2_atDay_d, k_X2_atDay, f_X3_isYear, f_X3_fails, s_X3_fails_co, f_X3_monthMany, f_X3_atDay_j1, f_X3_atDay_j2, f_X3_atDay, s_X3_atDay_co, s_X3_atDay_d, pre_X3_atDay, f_L_atDay, s_L_atDay_d, s_L_atDay_ou, pre_L_atDay, pre_Lc22, reduceIte, updL_at, upd_at, ite_self, m_in_eq, m_unit_eq, false_implies, true_implies, implies_true, true_and, and_true, not_true_eq_false, not_false_eq_true, zw_at, *]
set_option maxHeartbeats 4000000 in
set_option maxRecDepth 100000 in
theorem i_c23 (d : Nat → Int64) (sy : Nat → Int32) (sm : Nat → Int32) (sd : Nat → Int32) (mi : Nat → Int32) (ti : Nat → Int64) (sL : Nat → Int64) (bL : Nat → Int64) (mD : Nat → Int64) (mT : Nat → Int64) (ou : Nat → Int64) (q1 q2 q3 q4 q5 : Int32) (I : iInv d sy sm sd mi ti sL bL mD mT) : pre_Lc23 mi ou q1 q2 := by
  rcases v_s4 q1 with ⟨a1, a2, a3, a4, a5⟩ | ⟨a4, a5⟩
  rotate_left
  · simp +decide only [k_X2_checkArgument, k_X2_checkOutcome, f_X2_isYear, f_X2_orderMonths, k_X2_orderMonths, f_X3_isYear, f_X3_fails, s_X3_fails_co, f_X3_orderMonths_j1, f_X3_orderMonths, s_X3_orderMonths_co, f_L_orderMonths, s_L_orderMonths_ou, pre_L_orderMonths, pre_Lc23, reduceIte, updL_at, upd_at, ite_self, m_in_eq, m_unit_eq, false_implies, true_implies, implies_true, true_and, and_true, not_true_eq_false, not_false_eq_true, *]
  rcases v_s4 q2 with ⟨b1, b2, b3, b4, b5⟩ | ⟨b4, b5⟩
  rotate_left
  · simp +decide only [k_X2_checkArgument, k_X2_checkOutcome, f_X2_isYear, f_X2_orderMonths, k_X2_orderMonths, f_X3_isYear, f_X3_fails, s_X3_fails_co, f_X3_orderMonths_j1, f_X3_orderMonths, s_X3_orderMonths_co, f_L_orderMonths, s_L_orderMonths_ou, pre_L_orderMonths, pre_Lc23, reduceIte, updL_at, upd_at, ite_self, m_in_eq, m_unit_eq, false_implies, true_implies, implies_true, true_and, and_true, not_true_eq_false, not_false_eq_true, *]
  have e := v_sgn (mi q1.toNatClampNeg).toInt64 (mi q2.toNatClampNeg).toInt64
  simp +decide only [k_X2_checkArgument, k_X2_checkOutcome, f_X2_isYear, f_X2_orderMonths, k_X2_orderMonths, f_X3_isYear, f_X3_fails, s_X3_fails_co, f_X3_orderMonths_j1, f_X3_orderMonths, s_X3_orderMonths_co, f_L_orderMonths, s_L_orderMonths_ou, pre_L_orderMonths, pre_Lc23, reduceIte, updL_at, upd_at, ite_self, m_in_eq, m_unit_eq, false_implies, true_implies, implies_true, true_and, and_true, not_true_eq_false, not_false_eq_true, zw_at, *]
end ZPK
