section ZPK
set_option maxHeartbeats 4000000 in
set_option maxRecDepth 100000 in
theorem i_c1 (d : Nat → Int64) (sy : Nat → Int32) (sm : Nat → Int32) (sd : Nat → Int32) (mi : Nat → Int32) (ti : Nat → Int64) (sL : Nat → Int64) (bL : Nat → Int64) (mD : Nat → Int64) (mT : Nat → Int64) (ou : Nat → Int64) (q1 q2 q3 q4 q5 : Int32) (I : iInv d sy sm sd mi ti sL bL mD mT) : pre_Lc1 ou q1 q2 q3 ∧ (s_X3_ofDay_d d q1 (((q2).toInt64 <<< ((32 : Int32).toInt64 &&& 63)) ||| ((q3).toInt64 &&& 4294967295))) = (s_L_ofDay_d d q1 (((q2).toInt64 <<< ((32 : Int32).toInt64 &&& 63)) ||| ((q3).toInt64 &&& 4294967295))) ∧ iInv (s_L_ofDay_d d q1 (((q2).toInt64 <<< ((32 : Int32).toInt64 &&& 63)) ||| ((q3).toInt64 &&& 4294967295))) sy sm sd mi ti sL bL mD mT := by
  unfold pre_Lc1
  generalize (((q2).toInt64 <<< ((32 : Int32).toInt64 &&& 63)) ||| ((q3).toInt64 &&& 4294967295)) = x
  rcases v_s6 q1 with ⟨a1, a2, a3, a4, a5⟩ | ⟨a4, a5⟩
  rotate_left
  · simp +decide only [k_X2_checkArgument, k_X2_checkOutcome, f_X2_isYear, f_X2_keepDate, s_X2_keepDate_d, k_X2_keepDate, f_X2_ofDay, s_X2_ofDay_d, k_X2_ofDay, f_X3_isYear, f_X3_fails, s_X3_fails_co, f_X3_ofDay_j1, f_X3_ofDay, s_X3_ofDay_co, s_X3_ofDay_d, s_X3_ofDay_yr, s_X3_ofDay_mo, s_X3_ofDay_dy, pre_X3_ofDay, f_L_ofDay, s_L_ofDay_d, s_L_ofDay_ou, pre_L_ofDay, pre_Lc1, reduceIte, updL_at, upd_at, ite_self, m_in_eq, m_unit_eq, false_implies, true_implies, implies_true, true_and, and_true, not_true_eq_false, not_false_eq_true, *]
  have b1 := m_first (show (-9999 : Int64).toInt = -9999 from rfl) (by omega) (by omega)
  have b2 := m_first (show (10000 : Int64).toInt = 10000 from rfl) (by omega) (by omega)
  rw [iFY_lo] at b1
  rw [iFY_hi] at b2
  have b3 := p_sub b2 p_k1 (by omega) (by omega)
  have e1 : f_X3_first (-9999) = -4371587 := p_ext b1 rfl
  have e2 : f_X3_first 10000 - 1 = 2932896 := p_ext b3 rfl
  have w : f_X1_isDay x = f_X2_isIn x (-4371587) 2932896 := rfl
  rcases v_in (rfl : x.toInt = _) (show (-4371587 : Int64).toInt = -4371587 from rfl) (show (2932896 : Int64).toInt = 2932896 from rfl) with ⟨r1, r2, r3⟩ | ⟨r9, r3⟩
  rotate_left
  · clear b1 b2 b3
    simp +decide only [k_X2_checkArgument, k_X2_checkOutcome, f_X2_isYear, f_X2_keepDate, s_X2_keepDate_d, k_X2_keepDate, f_X2_ofDay, s_X2_ofDay_d, k_X2_ofDay, f_X3_isYear, f_X3_fails, s_X3_fails_co, f_X3_ofDay_j1, f_X3_ofDay, s_X3_ofDay_co, s_X3_ofDay_d, s_X3_ofDay_yr, s_X3_ofDay_mo, s_X3_ofDay_dy, pre_X3_ofDay, f_L_ofDay, s_L_ofDay_d, s_L_ofDay_ou, pre_L_ofDay, pre_Lc1, reduceIte, updL_at, upd_at, ite_self, m_in_eq, m_unit_eq, false_implies, true_implies, implies_true, true_and, and_true, not_true_eq_false, not_false_eq_true, *]
  obtain ⟨i, hi, i1, i2, pp, hy, hm, hd, hmo, hyo, f1, f2, d1, d2⟩ := dt r1 r2
  have e3 := p_ext hy hyo
  have J : iInv (vp_updL d q1.toNatClampNeg x) sy sm sd mi ti sL bL mD mT := ⟨iD_upd I.1 r1 r2, I.2⟩
  clear b1 b2 b3 hi hy hm hd hmo hyo
  simp +decide only [k_X2_checkArgument, k_X2_checkOutcome, f_X2_isYear, f_X2_keepDate, s_X2_keepDate_d, k_X2_keepDate, f_X2_ofDay, s_X2_ofDay_d, k_X2_ofDay, f_X3_isYear, f_X3_fails, s_X3_fails_co, f_X3_ofDay_j1, f_X3_ofDay, s_X3_ofDay_co, s_X3_ofDay_d, s_X3_ofDay_yr, s_X3_ofDay_mo, s_X3_ofDay_dy, pre_X3_ofDay, f_L_ofDay, s_L_ofDay_d, s_L_ofDay_ou, pre_L_ofDay, pre_Lc1, reduceIte, updL_at, upd_at, ite_self, m_in_eq, m_unit_eq, false_implies, true_implies, implies_true, true_and, and_true, not_true_eq_false, not_false_eq_true, *]
set_option maxHeartbeats 4000000 in
set_option maxRecDepth 100000 in
theorem i_c3 (d : Nat → Int64) (sy : Nat → Int32) (sm : Nat → Int32) (sd : Nat → Int32) (mi : Nat → Int32) (ti : Nat → Int64) (sL : Nat → Int64) (bL : Nat → Int64) (mD : Nat → Int64) (mT : Nat → Int64) (ou : Nat → Int64) (q1 q2 q3 q4 q5 : Int32) (I : iInv d sy sm sd mi ti sL bL mD mT) : pre_Lc3 d ou q1 q2 := by
  unfold pre_Lc3
  generalize (q2.toUInt32 % 65536).toInt32 = u
  rcases v_s6 q1 with ⟨a1, a2, a3, a4, a5⟩ | ⟨a4, a5⟩
  rotate_left
  · simp +decide only [f_X1_lengthOfYear, k_X2_checkArgument, k_X2_checkOutcome, f_X2_isYear, f_X2_part, k_X2_part, f_X3_isYear, f_X3_fails, s_X3_fails_co, f_X3_part_j1, f_X3_part, s_X3_part_co, s_X3_part_yr, s_X3_part_mo, s_X3_part_dy, pre_X3_part, f_L_part, s_L_part_ou, pre_L_part, pre_Lc3, reduceIte, updL_at, upd_at, ite_self, m_in_eq, m_unit_eq, false_implies, true_implies, implies_true, true_and, and_true, not_true_eq_false, not_false_eq_true, *]
  have A := iD_at I.1 a1
  obtain ⟨i, hi, i1, i2, pp, hy, hm, hd, hmo, hyo, f1, f2, d1, d2⟩ := dt A.1 A.2
  have e1 := p_ext hy hyo
  have e2 := p_ext32 hm (v_miy hmo)
  have dd := v_dim (rfl : (d q1.toNatClampNeg).toInt = _) (by omega) (by omega) hi
  have e3 := p_ext32 hd dd
  have e4 : f_X3_isLong (f_X1_yearOfDay (d q1.toNatClampNeg)) = f_X1_isLongYear (f_X1_yearOfDay (d q1.toNatClampNeg)) := p_ext32 (m_long hyo (by omega)) (v_long hyo)
  have e5 : f_X3_many (f_X1_yearOfDay (d q1.toNatClampNeg)) (f_X1_monthInYear (f_X1_monthOfDay (d q1.toNatClampNeg))) = f_X1_lengthOfMonth (f_X1_monthOfDay (d q1.toNatClampNeg)) := p_ext32 (m_many hyo (v_miy hmo) (by omega)) (v_lom hmo)
  have e6 : f_X3_first (f_X1_yearOfDay (d q1.toNatClampNeg)) = f_X1_firstOfYear (f_X1_yearOfDay (d q1.toNatClampNeg)) := p_ext (m_first hyo (by omega) (by omega)) (v_foy hyo (by omega) (by omega))
  have e7 : f_X3_weekdayOf (d q1.toNatClampNeg) = f_X1_weekdayOf (d q1.toNatClampNeg) := p_ext32 (m_wd rfl (by omega) (by omega)) (v_wd rfl (by omega) (by omega))
  clear hi hy hm hd hmo hyo dd
  by_cases h76 : u = 76
  · subst h76
    simp +decide only [f_X1_lengthOfYear, k_X2_checkArgument, k_X2_checkOutcome, f_X2_isYear, f_X2_part, k_X2_part, f_X3_isYear, f_X3_fails, s_X3_fails_co, f_X3_part_j1, f_X3_part, s_X3_part_co, s_X3_part_yr, s_X3_part_mo, s_X3_part_dy, pre_X3_part, f_L_part, s_L_part_ou, pre_L_part, pre_Lc3, reduceIte, updL_at, upd_at, ite_self, m_in_eq, m_unit_eq, false_implies, true_implies, implies_true, true_and, and_true, not_true_eq_false, not_false_eq_true, *]
  by_cases h98 : u = 98
  · subst h98
    simp +decide only [f_X1_lengthOfYear, k_X2_checkArgument, k_X2_checkOutcome, f_X2_isYear, f_X2_part, k_X2_part, f_X3_isYear, f_X3_fails, s_X3_fails_co, f_X3_part_j1, f_X3_part, s_X3_part_co, s_X3_part_yr, s_X3_part_mo, s_X3_part_dy, pre_X3_part, f_L_part, s_L_part_ou, pre_L_part, pre_Lc3, reduceIte, updL_at, upd_at, ite_self, m_in_eq, m_unit_eq, false_implies, true_implies, implies_true, true_and, and_true, not_true_eq_false, not_false_eq_true, *]
  by_cases h100 : u = 100
  · subst h100
    simp +decide only [f_X1_lengthOfYear, k_X2_checkArgument, k_X2_checkOutcome, f_X2_isYear, f_X2_part, k_X2_part, f_X3_isYear, f_X3_fails, s_X3_fails_co, f_X3_part_j1, f_X3_part, s_X3_part_co, s_X3_part_yr, s_X3_part_mo, s_X3_part_dy, pre_X3_part, f_L_part, s_L_part_ou, pre_L_part, pre_Lc3, reduceIte, updL_at, upd_at, ite_self, m_in_eq, m_unit_eq, false_implies, true_implies, implies_true, true_and, and_true, not_true_eq_false, not_false_eq_true, *]
  by_cases h108 : u = 108
  · subst h108
    simp +decide only [f_X1_lengthOfYear, k_X2_checkArgument, k_X2_checkOutcome, f_X2_isYear, f_X2_part, k_X2_part, f_X3_isYear, f_X3_fails, s_X3_fails_co, f_X3_part_j1, f_X3_part, s_X3_part_co, s_X3_part_yr, s_X3_part_mo, s_X3_part_dy, pre_X3_part, f_L_part, s_L_part_ou, pre_L_part, pre_Lc3, reduceIte, updL_at, upd_at, ite_self, m_in_eq, m_unit_eq, false_implies, true_implies, implies_true, true_and, and_true, not_true_eq_false, not_false_eq_true, *]
  by_cases h109 : u = 109
  · subst h109
    simp +decide only [f_X1_lengthOfYear, k_X2_checkArgument, k_X2_checkOutcome, f_X2_isYear, f_X2_part, k_X2_part, f_X3_isYear, f_X3_fails, s_X3_fails_co, f_X3_part_j1, f_X3_part, s_X3_part_co, s_X3_part_yr, s_X3_part_mo, s_X3_part_dy, pre_X3_part, f_L_part, s_L_part_ou, pre_L_part, pre_Lc3, reduceIte, updL_at, upd_at, ite_self, m_in_eq, m_unit_eq, false_implies, true_implies, implies_true, true_and, and_true, not_true_eq_false, not_false_eq_true, *]
  by_cases h110 : u = 110
  · subst h110
    simp +decide only [f_X1_lengthOfYear, k_X2_checkArgument, k_X2_checkOutcome, f_X2_isYear, f_X2_part, k_X2_part, f_X3_isYear, f_X3_fails, s_X3_fails_co, f_X3_part_j1, f_X3_part, s_X3_part_co, s_X3_part_yr, s_X3_part_mo, s_X3_part_dy, pre_X3_part, f_L_part, s_L_part_ou, pre_L_part, pre_Lc3, reduceIte, updL_at, upd_at, ite_self, m_in_eq, m_unit_eq, false_implies, true_implies, implies_true, true_and, and_true, not_true_eq_false, not_false_eq_true, *]
  by_cases h119 : u = 119
  · subst h119
    simp +decide only [f_X1_lengthOfYear, k_X2_checkArgument, k_X2_checkOutcome, f_X2_isYear, f_X2_part, k_X2_part, f_X3_isYear, f_X3_fails, s_X3_fails_co, f_X3_part_j1, f_X3_part, s_X3_part_co, s_X3_part_yr, s_X3_part_mo, s_X3_part_dy, pre_X3_part, f_L_part, s_L_part_ou, pre_L_part, pre_Lc3, reduceIte, updL_at, upd_at, ite_self, m_in_eq, m_unit_eq, false_implies, true_implies, implies_true, true_and, and_true, not_true_eq_false, not_false_eq_true, *]
  by_cases h121 : u = 121
  · subst h121
    simp +decide only [f_X1_lengthOfYear, k_X2_checkArgument, k_X2_checkOutcome, f_X2_isYear, f_X2_part, k_X2_part, f_X3_isYear, f_X3_fails, s_X3_fails_co, f_X3_part_j1, f_X3_part, s_X3_part_co, s_X3_part_yr, s_X3_part_mo, s_X3_part_dy, pre_X3_part, f_L_part, s_L_part_ou, pre_L_part, pre_Lc3, reduceIte, updL_at, upd_at, ite_self, m_in_eq, m_unit_eq, false_implies, true_implies, implies_true, true_and, and_true, not_true_eq_false, not_false_eq_true, *]
  simp +decide only [f_X1_lengthOfYear, k_X2_checkArgument, k_X2_checkOutcome, f_X2_isYear, f_X2_part, k_X2_part, f_X3_isYear, f_X3_fails, s_X3_fails_co, f_X3_part_j1, f_X3_part, s_X3_part_co, s_X3_part_yr, s_X3_part_mo, s_X3_part_dy, pre_X3_part, f_L_part, s_L_part_ou, pre_L_part, pre_Lc3, reduceIte, updL_at, upd_at, ite_self, m_in_eq, m_unit_eq, false_implies, true_implies, implies_true, true_and, and_true, not_true_eq_false, not_false_eq_true, *]
set_option maxHeartbeats 4000000 in
set_option maxRecDepth 100000 in
theorem i_c5 (d : Nat → Int64) (sy : Nat → Int32) (sm : Nat → Int32) (sd : Nat → Int32) (mi : Nat → Int32) (ti : Nat → Int64) (sL : Nat → Int64) (bL : Nat → Int64) (mD : Nat → Int64) (mT : Nat → Int64) (ou : Nat → Int64) (q1 q2 q3 q4 q5 : Int32) (I : iInv d sy sm sd mi ti sL bL mD mT) : pre_Lc5 d ou q1 q2 q3 q4 ∧ (s_X3_with_d d q1 ((q2.toUInt32 % 65536).toInt32) q3 q4) = (s_L_with_d d q1 ((q2.toUInt32 % 65536).toInt32) q3 q4) ∧ iInv (s_L_with_d d q1 ((q2.toUInt32 % 65536).toInt32) q3 q4) sy sm sd mi ti sL bL mD mT := by
  unfold pre_Lc5
  generalize (q2.toUInt32 % 65536).toInt32 = u
  rcases v_s6 q1 with ⟨a1, a2, a3, a4, a5⟩ | ⟨a4, a5⟩
  rotate_left
  · simp +decide only [f_X1_lengthOfYear, k_X2_checkArgument, k_X2_checkOutcome, f_X2_isYear, f_X2_keepDate, s_X2_keepDate_d, k_X2_keepDate, f_X2_with, s_X2_with_d, k_X2_with, f_X3_isYear, f_X3_fails, s_X3_fails_co, f_X3_becomes_j1, f_X3_becomes, s_X3_becomes_co, s_X3_becomes_d, s_X3_becomes_yr, s_X3_becomes_mo, s_X3_becomes_dy, pre_X3_becomes, f_X3_with_j1, f_X3_with_j2, f_X3_with_j3, f_X3_with_j4, f_X3_with_j5, f_X3_with_j6, f_X3_with_j7, f_X3_with, s_X3_with_co, s_X3_with_d, s_X3_with_yr, s_X3_with_mo, s_X3_with_dy, pre_X3_with, f_L_with, s_L_with_d, s_L_with_ou, pre_L_with, pre_Lc5, reduceIte, updL_at, upd_at, ite_self, m_in_eq, m_unit_eq, false_implies, true_implies, implies_true, true_and, and_true, not_true_eq_false, not_false_eq_true, *]
  rcases v_s6 q4 with ⟨b1, b2, b3, b4, b5⟩ | ⟨b4, b5⟩
  rotate_left
  · simp +decide only [f_X1_lengthOfYear, k_X2_checkArgument, k_X2_checkOutcome, f_X2_isYear, f_X2_keepDate, s_X2_keepDate_d, k_X2_keepDate, f_X2_with, s_X2_with_d, k_X2_with, f_X3_isYear, f_X3_fails, s_X3_fails_co, f_X3_becomes_j1, f_X3_becomes, s_X3_becomes_co, s_X3_becomes_d, s_X3_becomes_yr, s_X3_becomes_mo, s_X3_becomes_dy, pre_X3_becomes, f_X3_with_j1, f_X3_with_j2, f_X3_with_j3, f_X3_with_j4, f_X3_with_j5, f_X3_with_j6, f_X3_with_j7, f_X3_with, s_X3_with_co, s_X3_with_d, s_X3_with_yr, s_X3_with_mo, s_X3_with_dy, pre_X3_with, f_L_with, s_L_with_d, s_L_with_ou, pre_L_with, pre_Lc5, reduceIte, updL_at, upd_at, ite_self, m_in_eq, m_unit_eq, false_implies, true_implies, implies_true, true_and, and_true, not_true_eq_false, not_false_eq_true, *]
  have A := iD_at I.1 a1
  obtain ⟨i, hi, i1, i2, pp, hy, hm, hd, hmo, hyo, f1, f2, d1, d2⟩ := dt A.1 A.2
  have c12 : s_X3_parts_mo (d q1.toNatClampNeg) ≤ 12 := (p_le32 hm p_w12).mpr (by omega)
  have ml := iM_ML i
  have l01 := iL_01 (i / 12)
  have hl := m_long hy (by omega)
  have hl2 := v_long (v_yom hmo)
  have eL := p_ext32 hl hl2
  have lz : f_X1_isLongYear (f_X1_yearOfMonth (f_X1_monthOfDay (d q1.toNatClampNeg))) = 0 ∨ f_X1_isLongYear (f_X1_yearOfMonth (f_X1_monthOfDay (d q1.toNatClampNeg))) = 1 := by
    rcases l01 with z | z
    · exact Or.inl (p_ext32 (hl2.trans z) rfl)
    · exact Or.inr (p_ext32 (hl2.trans z) rfl)
  by_cases h1 : u = 100
  · subst h1
    have e1 := p_ext32 (m_many hy hm (by omega)) (v_lom hmo)
    rcases v_in32 (a := q3) (b := 1) (c := (f_X1_lengthOfMonth (f_X1_monthOfDay (d q1.toNatClampNeg))).toInt64) (x := q3.toInt) (y := 1) rfl rfl (p_w (v_lom hmo)) with ⟨z1, z2, z3⟩ | ⟨z9, z3⟩
    rotate_left
    · clear hl hl2 hi hmo hyo hy hm hd
      rcases lz with lz | lz
      all_goals simp +decide only [f_X1_lengthOfYear, k_X2_checkArgument, k_X2_checkOutcome, f_X2_isYear, f_X2_keepDate, s_X2_keepDate_d, k_X2_keepDate, f_X2_with, s_X2_with_d, k_X2_with, f_X3_isYear, f_X3_fails, s_X3_fails_co, f_X3_becomes_j1, f_X3_becomes, s_X3_becomes_co, s_X3_becomes_d, s_X3_becomes_yr, s_X3_becomes_mo, s_X3_becomes_dy, pre_X3_becomes, f_X3_with_j1, f_X3_with_j2, f_X3_with_j3, f_X3_with_j4, f_X3_with_j5, f_X3_with_j6, f_X3_with_j7, f_X3_with, s_X3_with_co, s_X3_with_d, s_X3_with_yr, s_X3_with_mo, s_X3_with_dy, pre_X3_with, f_L_with, s_L_with_d, s_L_with_ou, pre_L_with, pre_Lc5, reduceIte, updL_at, upd_at, ite_self, m_in_eq, m_unit_eq, false_implies, true_implies, implies_true, true_and, and_true, not_true_eq_false, not_false_eq_true, *]
    have N := m_number hy hm (rfl : q3.toInt = _) (by omega) (by omega) (by omega) (by omega)
    have F := v_fom hmo (by omega) (by omega)
    have G := p_sub (p_add F (p_w (rfl : q3.toInt = _)) (by omega) (by omega)) p_k1 (by omega) (by omega)
    rw [← iFM_div] at N
    have e2 := p_ext N G
    clear N F
    rcases lz with lz | lz
    all_goals (
      have R : -4371587 ≤ (f_X1_firstOfMonth (f_X1_monthOfDay (d q1.toNatClampNeg)) + q3.toInt64 - 1).toInt ∧ (f_X1_firstOfMonth (f_X1_monthOfDay (d q1.toNatClampNeg)) + q3.toInt64 - 1).toInt ≤ 2932896 := by rw [G]; exact (iM_y (iM_at z1 z2)).mp (by omega)
      obtain ⟨k1, k4, k5⟩ := v_dayR (rfl : (f_X1_firstOfMonth (f_X1_monthOfDay (d q1.toNatClampNeg)) + q3.toInt64 - 1).toInt = _) R.1 R.2
      have J : iInv (vp_updL d q4.toNatClampNeg (f_X1_firstOfMonth (f_X1_monthOfDay (d q1.toNatClampNeg)) + q3.toInt64 - 1)) sy sm sd mi ti sL bL mD mT := ⟨iD_upd I.1 R.1 R.2, I.2⟩
      clear R G hl hl2 hi hmo hyo hy hm hd
      simp +decide only [f_X1_lengthOfYear, k_X2_checkArgument, k_X2_checkOutcome, f_X2_isYear, f_X2_keepDate, s_X2_keepDate_d, k_X2_keepDate, f_X2_with, s_X2_with_d, k_X2_with, f_X3_isYear, f_X3_fails, s_X3_fails_co, f_X3_becomes_j1, f_X3_becomes, s_X3_becomes_co, s_X3_becomes_d, s_X3_becomes_yr, s_X3_becomes_mo, s_X3_becomes_dy, pre_X3_becomes, f_X3_with_j1, f_X3_with_j2, f_X3_with_j3, f_X3_with_j4, f_X3_with_j5, f_X3_with_j6, f_X3_with_j7, f_X3_with, s_X3_with_co, s_X3_with_d, s_X3_with_yr, s_X3_with_mo, s_X3_with_dy, pre_X3_with, f_L_with, s_L_with_d, s_L_with_ou, pre_L_with, pre_Lc5, reduceIte, updL_at, upd_at, ite_self, m_in_eq, m_unit_eq, false_implies, true_implies, implies_true, true_and, and_true, not_true_eq_false, not_false_eq_true, *])
  by_cases h2 : u = 109
  · subst h2
    rcases v_in32 (a := q3) (b := 1) (c := 12) (x := q3.toInt) (y := 1) (z := 12) rfl rfl rfl with ⟨z1, z2, z3⟩ | ⟨z9, z3⟩
    rotate_left
    · clear hl hl2 hi hmo hyo hy hm hd
      rcases lz with lz | lz
      all_goals simp +decide only [f_X1_lengthOfYear, k_X2_checkArgument, k_X2_checkOutcome, f_X2_isYear, f_X2_keepDate, s_X2_keepDate_d, k_X2_keepDate, f_X2_with, s_X2_with_d, k_X2_with, f_X3_isYear, f_X3_fails, s_X3_fails_co, f_X3_becomes_j1, f_X3_becomes, s_X3_becomes_co, s_X3_becomes_d, s_X3_becomes_yr, s_X3_becomes_mo, s_X3_becomes_dy, pre_X3_becomes, f_X3_with_j1, f_X3_with_j2, f_X3_with_j3, f_X3_with_j4, f_X3_with_j5, f_X3_with_j6, f_X3_with_j7, f_X3_with, s_X3_with_co, s_X3_with_d, s_X3_with_yr, s_X3_with_mo, s_X3_with_dy, pre_X3_with, f_L_with, s_L_with_d, s_L_with_ou, pre_L_with, pre_Lc5, reduceIte, updL_at, upd_at, ite_self, m_in_eq, m_unit_eq, false_implies, true_implies, implies_true, true_and, and_true, not_true_eq_false, not_false_eq_true, *]
    have k0 := p_w (p_sub32 (rfl : q3.toInt = _) (v_miy hmo) (by omega) (by omega))
    have P := v_pm (rfl : (d q1.toNatClampNeg).toInt = _) k0 (by omega) (by omega) hi (by omega) (by omega)
    have N := m_nl hy (rfl : q3.toInt = _) hd (by omega) (by omega) z1 z2
    rw [show 12 * (i / 12) + q3.toInt - 1 = i + (q3.toInt - (i % 12 + 1)) by omega] at N
    have e2 := p_ext N P
    have dl := iDL_r2 (i := i + (q3.toInt - (i % 12 + 1))) (q := (d q1.toNatClampNeg).toInt - iFM i + 1) (by omega) (by omega) d1
    have q12 : q3 ≤ 12 := (p_le32 (rfl : q3.toInt = _) p_w12).mpr z2
    clear N
    rcases lz with lz | lz
    all_goals (
      have R : -4371587 ≤ (f_X1_plusMonths (d q1.toNatClampNeg) (q3 - f_X1_monthInYear (f_X1_monthOfDay (d q1.toNatClampNeg))).toInt64).toInt ∧ (f_X1_plusMonths (d q1.toNatClampNeg) (q3 - f_X1_monthInYear (f_X1_monthOfDay (d q1.toNatClampNeg))).toInt64).toInt ≤ 2932896 := by rw [P]; exact (iM_y (iDL_in d1)).mp (by omega)
      obtain ⟨k1, k4, k5⟩ := v_dayR (rfl : (f_X1_plusMonths (d q1.toNatClampNeg) (q3 - f_X1_monthInYear (f_X1_monthOfDay (d q1.toNatClampNeg))).toInt64).toInt = _) R.1 R.2
      have J : iInv (vp_updL d q4.toNatClampNeg (f_X1_plusMonths (d q1.toNatClampNeg) (q3 - f_X1_monthInYear (f_X1_monthOfDay (d q1.toNatClampNeg))).toInt64)) sy sm sd mi ti sL bL mD mT := ⟨iD_upd I.1 R.1 R.2, I.2⟩
      clear R P k0 dl hl hl2 hi hmo hyo hy hm hd
      simp +decide only [f_X1_lengthOfYear, k_X2_checkArgument, k_X2_checkOutcome, f_X2_isYear, f_X2_keepDate, s_X2_keepDate_d, k_X2_keepDate, f_X2_with, s_X2_with_d, k_X2_with, f_X3_isYear, f_X3_fails, s_X3_fails_co, f_X3_becomes_j1, f_X3_becomes, s_X3_becomes_co, s_X3_becomes_d, s_X3_becomes_yr, s_X3_becomes_mo, s_X3_becomes_dy, pre_X3_becomes, f_X3_with_j1, f_X3_with_j2, f_X3_with_j3, f_X3_with_j4, f_X3_with_j5, f_X3_with_j6, f_X3_with_j7, f_X3_with, s_X3_with_co, s_X3_with_d, s_X3_with_yr, s_X3_with_mo, s_X3_with_dy, pre_X3_with, f_L_with, s_L_with_d, s_L_with_ou, pre_L_with, pre_Lc5, reduceIte, updL_at, upd_at, ite_self, m_in_eq, m_unit_eq, false_implies, true_implies, implies_true, true_and, and_true, not_true_eq_false, not_false_eq_true, *])
  by_cases h3 : u = 110
  · subst h3
    have F := v_foy (v_yom hmo) (by omega) (by omega)
    have e1 := p_ext (m_first hy (by omega) (by omega)) F
    have fr := iFY_r (y := i / 12) (B := 10000) (by omega) (by omega) (by omega)
    rcases lz with lz | lz
    · have lz3 := hl2.symm.trans (congrArg Int32.toInt lz)
      have lz4 : ((0 : Int32).toInt = 0 ∧ (1 : Int32).toInt = 1) := ⟨rfl, rfl⟩
      rw [lz4.1] at lz3
      rcases v_in32 (a := q3) (b := 1) (c := 365) (x := q3.toInt) (y := 1) (z := 365) rfl rfl rfl with ⟨z1, z2, z3⟩ | ⟨z9, z3⟩
      rotate_left
      · skip
        clear F fr hl hl2 hi hmo hyo hy hm hd
        simp +decide only [f_X1_lengthOfYear, k_X2_checkArgument, k_X2_checkOutcome, f_X2_isYear, f_X2_keepDate, s_X2_keepDate_d, k_X2_keepDate, f_X2_with, s_X2_with_d, k_X2_with, f_X3_isYear, f_X3_fails, s_X3_fails_co, f_X3_becomes_j1, f_X3_becomes, s_X3_becomes_co, s_X3_becomes_d, s_X3_becomes_yr, s_X3_becomes_mo, s_X3_becomes_dy, pre_X3_becomes, f_X3_with_j1, f_X3_with_j2, f_X3_with_j3, f_X3_with_j4, f_X3_with_j5, f_X3_with_j6, f_X3_with_j7, f_X3_with, s_X3_with_co, s_X3_with_d, s_X3_with_yr, s_X3_with_mo, s_X3_with_dy, pre_X3_with, f_L_with, s_L_with_d, s_L_with_ou, pre_L_with, pre_Lc5, reduceIte, updL_at, upd_at, ite_self, m_in_eq, m_unit_eq, false_implies, true_implies, implies_true, true_and, and_true, not_true_eq_false, not_false_eq_true, p_365, p_366, *]
      clear lz4
      have G := p_sub (p_add F (p_w (rfl : q3.toInt = _)) (by omega) (by omega)) p_k1 (by omega) (by omega)
      have R : -4371587 ≤ (f_X1_firstOfYear (f_X1_yearOfMonth (f_X1_monthOfDay (d q1.toNatClampNeg))) + q3.toInt64 - 1).toInt ∧ (f_X1_firstOfYear (f_X1_yearOfMonth (f_X1_monthOfDay (d q1.toNatClampNeg))) + q3.toInt64 - 1).toInt ≤ 2932896 := by rw [G]; exact yR q3.toInt (by omega) (by omega) z1 (by omega)
      obtain ⟨k1, k4, k5⟩ := v_dayR (rfl : (f_X1_firstOfYear (f_X1_yearOfMonth (f_X1_monthOfDay (d q1.toNatClampNeg))) + q3.toInt64 - 1).toInt = _) R.1 R.2
      have J : iInv (vp_updL d q4.toNatClampNeg (f_X1_firstOfYear (f_X1_yearOfMonth (f_X1_monthOfDay (d q1.toNatClampNeg))) + q3.toInt64 - 1)) sy sm sd mi ti sL bL mD mT := ⟨iD_upd I.1 R.1 R.2, I.2⟩
      clear R F G fr hl hl2 hi hmo hyo hy hm hd
      simp +decide only [f_X1_lengthOfYear, k_X2_checkArgument, k_X2_checkOutcome, f_X2_isYear, f_X2_keepDate, s_X2_keepDate_d, k_X2_keepDate, f_X2_with, s_X2_with_d, k_X2_with, f_X3_isYear, f_X3_fails, s_X3_fails_co, f_X3_becomes_j1, f_X3_becomes, s_X3_becomes_co, s_X3_becomes_d, s_X3_becomes_yr, s_X3_becomes_mo, s_X3_becomes_dy, pre_X3_becomes, f_X3_with_j1, f_X3_with_j2, f_X3_with_j3, f_X3_with_j4, f_X3_with_j5, f_X3_with_j6, f_X3_with_j7, f_X3_with, s_X3_with_co, s_X3_with_d, s_X3_with_yr, s_X3_with_mo, s_X3_with_dy, pre_X3_with, f_L_with, s_L_with_d, s_L_with_ou, pre_L_with, pre_Lc5, reduceIte, updL_at, upd_at, ite_self, m_in_eq, m_unit_eq, false_implies, true_implies, implies_true, true_and, and_true, not_true_eq_false, not_false_eq_true, p_365, p_366, *]
    · have lz3 := hl2.symm.trans (congrArg Int32.toInt lz)
      have lz4 : ((0 : Int32).toInt = 0 ∧ (1 : Int32).toInt = 1) := ⟨rfl, rfl⟩
      rw [lz4.2] at lz3
      rcases v_in32 (a := q3) (b := 1) (c := 366) (x := q3.toInt) (y := 1) (z := 366) rfl rfl rfl with ⟨z1, z2, z3⟩ | ⟨z9, z3⟩
      rotate_left
      · skip
        clear F fr hl hl2 hi hmo hyo hy hm hd
        simp +decide only [f_X1_lengthOfYear, k_X2_checkArgument, k_X2_checkOutcome, f_X2_isYear, f_X2_keepDate, s_X2_keepDate_d, k_X2_keepDate, f_X2_with, s_X2_with_d, k_X2_with, f_X3_isYear, f_X3_fails, s_X3_fails_co, f_X3_becomes_j1, f_X3_becomes, s_X3_becomes_co, s_X3_becomes_d, s_X3_becomes_yr, s_X3_becomes_mo, s_X3_becomes_dy, pre_X3_becomes, f_X3_with_j1, f_X3_with_j2, f_X3_with_j3, f_X3_with_j4, f_X3_with_j5, f_X3_with_j6, f_X3_with_j7, f_X3_with, s_X3_with_co, s_X3_with_d, s_X3_with_yr, s_X3_with_mo, s_X3_with_dy, pre_X3_with, f_L_with, s_L_with_d, s_L_with_ou, pre_L_with, pre_Lc5, reduceIte, updL_at, upd_at, ite_self, m_in_eq, m_unit_eq, false_implies, true_implies, implies_true, true_and, and_true, not_true_eq_false, not_false_eq_true, p_365, p_366, *]
      clear lz4
      have G := p_sub (p_add F (p_w (rfl : q3.toInt = _)) (by omega) (by omega)) p_k1 (by omega) (by omega)
      have R : -4371587 ≤ (f_X1_firstOfYear (f_X1_yearOfMonth (f_X1_monthOfDay (d q1.toNatClampNeg))) + q3.toInt64 - 1).toInt ∧ (f_X1_firstOfYear (f_X1_yearOfMonth (f_X1_monthOfDay (d q1.toNatClampNeg))) + q3.toInt64 - 1).toInt ≤ 2932896 := by rw [G]; exact yR q3.toInt (by omega) (by omega) z1 (by omega)
      obtain ⟨k1, k4, k5⟩ := v_dayR (rfl : (f_X1_firstOfYear (f_X1_yearOfMonth (f_X1_monthOfDay (d q1.toNatClampNeg))) + q3.toInt64 - 1).toInt = _) R.1 R.2
      have J : iInv (vp_updL d q4.toNatClampNeg (f_X1_firstOfYear (f_X1_yearOfMonth (f_X1_monthOfDay (d q1.toNatClampNeg))) + q3.toInt64 - 1)) sy sm sd mi ti sL bL mD mT := ⟨iD_upd I.1 R.1 R.2, I.2⟩
      clear R F G fr hl hl2 hi hmo hyo hy hm hd
      simp +decide only [f_X1_lengthOfYear, k_X2_checkArgument, k_X2_checkOutcome, f_X2_isYear, f_X2_keepDate, s_X2_keepDate_d, k_X2_keepDate, f_X2_with, s_X2_with_d, k_X2_with, f_X3_isYear, f_X3_fails, s_X3_fails_co, f_X3_becomes_j1, f_X3_becomes, s_X3_becomes_co, s_X3_becomes_d, s_X3_becomes_yr, s_X3_becomes_mo, s_X3_becomes_dy, pre_X3_becomes, f_X3_with_j1, f_X3_with_j2, f_X3_with_j3, f_X3_with_j4, f_X3_with_j5, f_X3_with_j6, f_X3_with_j7, f_X3_with, s_X3_with_co, s_X3_with_d, s_X3_with_yr, s_X3_with_mo, s_X3_with_dy, pre_X3_with, f_L_with, s_L_with_d, s_L_with_ou, pre_L_with, pre_Lc5, reduceIte, updL_at, upd_at, ite_self, m_in_eq, m_unit_eq, false_implies, true_implies, implies_true, true_and, and_true, not_true_eq_false, not_false_eq_true, p_365, p_366, *]
  by_cases h4 : u = 121
  · subst h4
    rcases v_in32 (a := q3) (b := -9999) (c := 9999) (x := q3.toInt) (y := -9999) (z := 9999) rfl rfl rfl with ⟨z1, z2, z3⟩ | ⟨z9, z3⟩
    rotate_left
    · clear hl hl2 hi hmo hyo hy hm hd
      rcases lz with lz | lz
      all_goals simp +decide only [f_X1_lengthOfYear, k_X2_checkArgument, k_X2_checkOutcome, f_X2_isYear, f_X2_keepDate, s_X2_keepDate_d, k_X2_keepDate, f_X2_with, s_X2_with_d, k_X2_with, f_X3_isYear, f_X3_fails, s_X3_fails_co, f_X3_becomes_j1, f_X3_becomes, s_X3_becomes_co, s_X3_becomes_d, s_X3_becomes_yr, s_X3_becomes_mo, s_X3_becomes_dy, pre_X3_becomes, f_X3_with_j1, f_X3_with_j2, f_X3_with_j3, f_X3_with_j4, f_X3_with_j5, f_X3_with_j6, f_X3_with_j7, f_X3_with, s_X3_with_co, s_X3_with_d, s_X3_with_yr, s_X3_with_mo, s_X3_with_dy, pre_X3_with, f_L_with, s_L_with_d, s_L_with_ou, pre_L_with, pre_Lc5, reduceIte, updL_at, upd_at, ite_self, m_in_eq, m_unit_eq, false_implies, true_implies, implies_true, true_and, and_true, not_true_eq_false, not_false_eq_true, *]
    have k0 := p_mul p_k12 (p_sub (p_w (rfl : q3.toInt = _)) (v_yom hmo) (by omega) (by omega)) (by omega) (by omega)
    have P := v_pm (rfl : (d q1.toNatClampNeg).toInt = _) k0 (by omega) (by omega) hi (by omega) (by omega)
    have N := m_nl (p_w (rfl : q3.toInt = _)) hm hd (by omega) (by omega) (by omega) (by omega)
    rw [show 12 * q3.toInt + (i % 12 + 1) - 1 = i + 12 * (q3.toInt - i / 12) by omega] at N
    have e2 := p_ext N P
    have dl := iDL_r2 (i := i + 12 * (q3.toInt - i / 12)) (q := (d q1.toNatClampNeg).toInt - iFM i + 1) (by omega) (by omega) d1
    clear N
    rcases lz with lz | lz
    all_goals (
      have R : -4371587 ≤ (f_X1_plusMonths (d q1.toNatClampNeg) (12 * (q3.toInt64 - f_X1_yearOfMonth (f_X1_monthOfDay (d q1.toNatClampNeg))))).toInt ∧ (f_X1_plusMonths (d q1.toNatClampNeg) (12 * (q3.toInt64 - f_X1_yearOfMonth (f_X1_monthOfDay (d q1.toNatClampNeg))))).toInt ≤ 2932896 := by rw [P]; exact (iM_y (iDL_in d1)).mp (by omega)
      obtain ⟨k1, k4, k5⟩ := v_dayR (rfl : (f_X1_plusMonths (d q1.toNatClampNeg) (12 * (q3.toInt64 - f_X1_yearOfMonth (f_X1_monthOfDay (d q1.toNatClampNeg))))).toInt = _) R.1 R.2
      have J : iInv (vp_updL d q4.toNatClampNeg (f_X1_plusMonths (d q1.toNatClampNeg) (12 * (q3.toInt64 - f_X1_yearOfMonth (f_X1_monthOfDay (d q1.toNatClampNeg)))))) sy sm sd mi ti sL bL mD mT := ⟨iD_upd I.1 R.1 R.2, I.2⟩
      clear R P k0 dl hl hl2 hi hmo hyo hy hm hd
      simp +decide only [f_X1_lengthOfYear, k_X2_checkArgument, k_X2_checkOutcome, f_X2_isYear, f_X2_keepDate, s_X2_keepDate_d, k_X2_keepDate, f_X2_with, s_X2_with_d, k_X2_with, f_X3_isYear, f_X3_fails, s_X3_fails_co, f_X3_becomes_j1, f_X3_becomes, s_X3_becomes_co, s_X3_becomes_d, s_X3_becomes_yr, s_X3_becomes_mo, s_X3_becomes_dy, pre_X3_becomes, f_X3_with_j1, f_X3_with_j2, f_X3_with_j3, f_X3_with_j4, f_X3_with_j5, f_X3_with_j6, f_X3_with_j7, f_X3_with, s_X3_with_co, s_X3_with_d, s_X3_with_yr, s_X3_with_mo, s_X3_with_dy, pre_X3_with, f_L_with, s_L_with_d, s_L_with_ou, pre_L_with, pre_Lc5, reduceIte, updL_at, upd_at, ite_self, m_in_eq, m_unit_eq, false_implies, true_implies, implies_true, true_and, and_true, not_true_eq_false, not_false_eq_true, *])
  clear hl hl2 hi hmo hyo hy hm hd
  simp +decide only [f_X1_lengthOfYear, k_X2_checkArgument, k_X2_checkOutcome, f_X2_isYear, f_X2_keepDate, s_X2_keepDate_d, k_X2_keepDate, f_X2_with, s_X2_with_d, k_X2_with, f_X3_isYear, f_X3_fails, s_X3_fails_co, f_X3_becomes_j1, f_X3_becomes, s_X3_becomes_co, s_X3_becomes_d, s_X3_becomes_yr, s_X3_becomes_mo, s_X3_becomes_dy, pre_X3_becomes, f_X3_with_j1, f_X3_with_j2, f_X3_with_j3, f_X3_with_j4, f_X3_with_j5, f_X3_with_j6, f_X3_with_j7, f_X3_with, s_X3_with_co, s_X3_with_d, s_X3_with_yr, s_X3_with_mo, s_X3_with_dy, pre_X3_with, f_L_with, s_L_with_d, s_L_with_ou, pre_L_with, pre_Lc5, reduceIte, updL_at, upd_at, ite_self, m_in_eq, m_unit_eq, false_implies, true_implies, implies_true, true_and, and_true, not_true_eq_false, not_false_eq_true, *]
set_option maxHeartbeats 4000000 in
set_option maxRecDepth 100000 in
theorem i_c6 (d : Nat → Int64) (sy : Nat → Int32) (sm : Nat → Int32) (sd : Nat → Int32) (mi : Nat → Int32) (ti : Nat → Int64) (sL : Nat → Int64) (bL : Nat → Int64) (mD : Nat → Int64) (mT : Nat → Int64) (ou : Nat → Int64) (q1 q2 q3 q4 q5 : Int32) (I : iInv d sy sm sd mi ti sL bL mD mT) : pre_Lc6 d ou q1 q2 q3 ∧ (s_X3_adjust_d d q1 ((q2.toUInt32 % 65536).toInt32) q3) = (s_L_adjust_d d q1 ((q2.toUInt32 % 65536).toInt32) q3) ∧ iInv (s_L_adjust_d d q1 ((q2.toUInt32 % 65536).toInt32) q3) sy sm sd mi ti sL bL mD mT := by
  unfold pre_Lc6
  generalize (q2.toUInt32 % 65536).toInt32 = u
  rcases v_s6 q1 with ⟨a1, a2, a3, a4, a5⟩ | ⟨a4, a5⟩
  rotate_left
  · simp +decide only [k_X2_checkArgument, k_X2_checkOutcome, f_X2_isYear, f_X2_keepDate, s_X2_keepDate_d, k_X2_keepDate, f_X2_adjust, s_X2_adjust_d, k_X2_adjust, f_X3_isYear, f_X3_fails, s_X3_fails_co, f_X3_becomes_j1, f_X3_becomes, s_X3_becomes_co, s_X3_becomes_d, s_X3_becomes_yr, s_X3_becomes_mo, s_X3_becomes_dy, pre_X3_becomes, f_X3_adjust_j1, f_X3_adjust_j2, f_X3_adjust, s_X3_adjust_co, s_X3_adjust_d, s_X3_adjust_yr, s_X3_adjust_mo, s_X3_adjust_dy, pre_X3_adjust, f_L_adjust, s_L_adjust_d, s_L_adjust_ou, pre_Lc6, reduceIte, updL_at, upd_at, ite_self, m_in_eq, m_unit_eq, false_implies, true_implies, implies_true, true_and, and_true, not_true_eq_false, not_false_eq_true, *]
  rcases v_s6 q3 with ⟨b1, b2, b3, b4, b5⟩ | ⟨b4, b5⟩
  rotate_left
  · simp +decide only [k_X2_checkArgument, k_X2_checkOutcome, f_X2_isYear, f_X2_keepDate, s_X2_keepDate_d, k_X2_keepDate, f_X2_adjust, s_X2_adjust_d, k_X2_adjust, f_X3_isYear, f_X3_fails, s_X3_fails_co, f_X3_becomes_j1, f_X3_becomes, s_X3_becomes_co, s_X3_becomes_d, s_X3_becomes_yr, s_X3_becomes_mo, s_X3_becomes_dy, pre_X3_becomes, f_X3_adjust_j1, f_X3_adjust_j2, f_X3_adjust, s_X3_adjust_co, s_X3_adjust_d, s_X3_adjust_yr, s_X3_adjust_mo, s_X3_adjust_dy, pre_X3_adjust, f_L_adjust, s_L_adjust_d, s_L_adjust_ou, pre_Lc6, reduceIte, updL_at, upd_at, ite_self, m_in_eq, m_unit_eq, false_implies, true_implies, implies_true, true_and, and_true, not_true_eq_false, not_false_eq_true, *]
  have A := iD_at I.1 a1
  obtain ⟨i, hi, i1, i2, pp, hy, hm, hd, hmo, hyo, f1, f2, d1, d2⟩ := dt A.1 A.2
  have c12 : s_X3_parts_mo (d q1.toNatClampNeg) ≤ 12 := (p_le32 hm p_w12).mpr (by omega)
  have ml := iM_ML i
  have F := v_fom hmo (by omega) (by omega)
  have N := m_number hy hm p_w1 (by omega) (by omega) (by omega) (by omega)
  rw [show iFY (i / 12) + iC (i / 12) (i % 12 + 1) + 1 - 1 = iFM i by rw [iFM_div i]; omega] at N
  have e1 := p_ext N F
  have F1 := v_fom (p_add hmo p_k1 (by omega) (by omega)) (by omega) (by omega)
  have F2 := p_add F (p_w (m_many hy hm (by omega))) (by omega) (by omega)
  rw [← iFM_succ] at F2
  have e2 := p_ext F2 F1
  have sc := iFM_succ i
  have fr := iFY_r (y := i / 12) (B := 10001) (by omega) (by omega) (by omega)
  have fr1 := iFY_r (y := i / 12 + 1) (B := 10001) (by omega) (by omega) (by omega)
  by_cases h70 : u = 70
  · subst h70
    have G := v_foy (v_yom hmo) (by omega) (by omega)
    have e3 := p_ext (m_first hy (by omega) (by omega)) G
    obtain ⟨k1, ⟨k2, k3, k4, k5⟩ | ⟨k4, k5⟩⟩ := v_day G (by omega) (by omega)
    · have J : iInv (vp_updL d q3.toNatClampNeg (f_X1_firstOfYear (f_X1_yearOfMonth (f_X1_monthOfDay (d q1.toNatClampNeg))))) sy sm sd mi ti sL bL mD mT := ⟨iD_upd I.1 (by rw [G]; exact k2) (by rw [G]; exact k3), I.2⟩
      clear G N F F1 F2 fr fr1 hi hmo hyo hy hm hd
      simp +decide only [k_X2_checkArgument, k_X2_checkOutcome, f_X2_isYear, f_X2_keepDate, s_X2_keepDate_d, k_X2_keepDate, f_X2_adjust, s_X2_adjust_d, k_X2_adjust, f_X3_isYear, f_X3_fails, s_X3_fails_co, f_X3_becomes_j1, f_X3_becomes, s_X3_becomes_co, s_X3_becomes_d, s_X3_becomes_yr, s_X3_becomes_mo, s_X3_becomes_dy, pre_X3_becomes, f_X3_adjust_j1, f_X3_adjust_j2, f_X3_adjust, s_X3_adjust_co, s_X3_adjust_d, s_X3_adjust_yr, s_X3_adjust_mo, s_X3_adjust_dy, pre_X3_adjust, f_L_adjust, s_L_adjust_d, s_L_adjust_ou, pre_Lc6, reduceIte, updL_at, upd_at, ite_self, m_in_eq, m_unit_eq, false_implies, true_implies, implies_true, true_and, and_true, not_true_eq_false, not_false_eq_true, *]
    · clear G N F F1 F2 fr fr1 hi hmo hyo hy hm hd
      simp +decide only [k_X2_checkArgument, k_X2_checkOutcome, f_X2_isYear, f_X2_keepDate, s_X2_keepDate_d, k_X2_keepDate, f_X2_adjust, s_X2_adjust_d, k_X2_adjust, f_X3_isYear, f_X3_fails, s_X3_fails_co, f_X3_becomes_j1, f_X3_becomes, s_X3_becomes_co, s_X3_becomes_d, s_X3_becomes_yr, s_X3_becomes_mo, s_X3_becomes_dy, pre_X3_becomes, f_X3_adjust_j1, f_X3_adjust_j2, f_X3_adjust, s_X3_adjust_co, s_X3_adjust_d, s_X3_adjust_yr, s_X3_adjust_mo, s_X3_adjust_dy, pre_X3_adjust, f_L_adjust, s_L_adjust_d, s_L_adjust_ou, pre_Lc6, reduceIte, updL_at, upd_at, ite_self, m_in_eq, m_unit_eq, false_implies, true_implies, implies_true, true_and, and_true, not_true_eq_false, not_false_eq_true, *]
  by_cases h76 : u = 76
  · subst h76
    have G0 := v_foy (p_add (v_yom hmo) p_k1 (by omega) (by omega)) (by omega) (by omega)
    have e3 := p_ext (m_first (p_add hy p_k1 (by omega) (by omega)) (by omega) (by omega)) G0
    have G := p_sub G0 p_k1 (by omega) (by omega)
    clear G0
    obtain ⟨k1, ⟨k2, k3, k4, k5⟩ | ⟨k4, k5⟩⟩ := v_day G (by omega) (by omega)
    · have J : iInv (vp_updL d q3.toNatClampNeg (f_X1_firstOfYear ((f_X1_yearOfMonth (f_X1_monthOfDay (d q1.toNatClampNeg))) + 1) - 1)) sy sm sd mi ti sL bL mD mT := ⟨iD_upd I.1 (by rw [G]; exact k2) (by rw [G]; exact k3), I.2⟩
      clear G N F F1 F2 fr fr1 hi hmo hyo hy hm hd
      simp +decide only [k_X2_checkArgument, k_X2_checkOutcome, f_X2_isYear, f_X2_keepDate, s_X2_keepDate_d, k_X2_keepDate, f_X2_adjust, s_X2_adjust_d, k_X2_adjust, f_X3_isYear, f_X3_fails, s_X3_fails_co, f_X3_becomes_j1, f_X3_becomes, s_X3_becomes_co, s_X3_becomes_d, s_X3_becomes_yr, s_X3_becomes_mo, s_X3_becomes_dy, pre_X3_becomes, f_X3_adjust_j1, f_X3_adjust_j2, f_X3_adjust, s_X3_adjust_co, s_X3_adjust_d, s_X3_adjust_yr, s_X3_adjust_mo, s_X3_adjust_dy, pre_X3_adjust, f_L_adjust, s_L_adjust_d, s_L_adjust_ou, pre_Lc6, reduceIte, updL_at, upd_at, ite_self, m_in_eq, m_unit_eq, false_implies, true_implies, implies_true, true_and, and_true, not_true_eq_false, not_false_eq_true, *]
    · clear G N F F1 F2 fr fr1 hi hmo hyo hy hm hd
      simp +decide only [k_X2_checkArgument, k_X2_checkOutcome, f_X2_isYear, f_X2_keepDate, s_X2_keepDate_d, k_X2_keepDate, f_X2_adjust, s_X2_adjust_d, k_X2_adjust, f_X3_isYear, f_X3_fails, s_X3_fails_co, f_X3_becomes_j1, f_X3_becomes, s_X3_becomes_co, s_X3_becomes_d, s_X3_becomes_yr, s_X3_becomes_mo, s_X3_becomes_dy, pre_X3_becomes, f_X3_adjust_j1, f_X3_adjust_j2, f_X3_adjust, s_X3_adjust_co, s_X3_adjust_d, s_X3_adjust_yr, s_X3_adjust_mo, s_X3_adjust_dy, pre_X3_adjust, f_L_adjust, s_L_adjust_d, s_L_adjust_ou, pre_Lc6, reduceIte, updL_at, upd_at, ite_self, m_in_eq, m_unit_eq, false_implies, true_implies, implies_true, true_and, and_true, not_true_eq_false, not_false_eq_true, *]
  by_cases h78 : u = 78
  · subst h78
    have G := v_foy (p_add (v_yom hmo) p_k1 (by omega) (by omega)) (by omega) (by omega)
    have e3 := p_ext (m_first (p_add hy p_k1 (by omega) (by omega)) (by omega) (by omega)) G
    obtain ⟨k1, ⟨k2, k3, k4, k5⟩ | ⟨k4, k5⟩⟩ := v_day G (by omega) (by omega)
    · have J : iInv (vp_updL d q3.toNatClampNeg (f_X1_firstOfYear ((f_X1_yearOfMonth (f_X1_monthOfDay (d q1.toNatClampNeg))) + 1))) sy sm sd mi ti sL bL mD mT := ⟨iD_upd I.1 (by rw [G]; exact k2) (by rw [G]; exact k3), I.2⟩
      clear G N F F1 F2 fr fr1 hi hmo hyo hy hm hd
      simp +decide only [k_X2_checkArgument, k_X2_checkOutcome, f_X2_isYear, f_X2_keepDate, s_X2_keepDate_d, k_X2_keepDate, f_X2_adjust, s_X2_adjust_d, k_X2_adjust, f_X3_isYear, f_X3_fails, s_X3_fails_co, f_X3_becomes_j1, f_X3_becomes, s_X3_becomes_co, s_X3_becomes_d, s_X3_becomes_yr, s_X3_becomes_mo, s_X3_becomes_dy, pre_X3_becomes, f_X3_adjust_j1, f_X3_adjust_j2, f_X3_adjust, s_X3_adjust_co, s_X3_adjust_d, s_X3_adjust_yr, s_X3_adjust_mo, s_X3_adjust_dy, pre_X3_adjust, f_L_adjust, s_L_adjust_d, s_L_adjust_ou, pre_Lc6, reduceIte, updL_at, upd_at, ite_self, m_in_eq, m_unit_eq, false_implies, true_implies, implies_true, true_and, and_true, not_true_eq_false, not_false_eq_true, *]
    · clear G N F F1 F2 fr fr1 hi hmo hyo hy hm hd
      simp +decide only [k_X2_checkArgument, k_X2_checkOutcome, f_X2_isYear, f_X2_keepDate, s_X2_keepDate_d, k_X2_keepDate, f_X2_adjust, s_X2_adjust_d, k_X2_adjust, f_X3_isYear, f_X3_fails, s_X3_fails_co, f_X3_becomes_j1, f_X3_becomes, s_X3_becomes_co, s_X3_becomes_d, s_X3_becomes_yr, s_X3_becomes_mo, s_X3_becomes_dy, pre_X3_becomes, f_X3_adjust_j1, f_X3_adjust_j2, f_X3_adjust, s_X3_adjust_co, s_X3_adjust_d, s_X3_adjust_yr, s_X3_adjust_mo, s_X3_adjust_dy, pre_X3_adjust, f_L_adjust, s_L_adjust_d, s_L_adjust_ou, pre_Lc6, reduceIte, updL_at, upd_at, ite_self, m_in_eq, m_unit_eq, false_implies, true_implies, implies_true, true_and, and_true, not_true_eq_false, not_false_eq_true, *]
  by_cases h102 : u = 102
  · subst h102
    have G := F
    obtain ⟨k1, ⟨k2, k3, k4, k5⟩ | ⟨k4, k5⟩⟩ := v_day G (by omega) (by omega)
    · have J : iInv (vp_updL d q3.toNatClampNeg (f_X1_firstOfMonth (f_X1_monthOfDay (d q1.toNatClampNeg)))) sy sm sd mi ti sL bL mD mT := ⟨iD_upd I.1 (by rw [G]; exact k2) (by rw [G]; exact k3), I.2⟩
      clear G N F F1 F2 fr fr1 hi hmo hyo hy hm hd
      simp +decide only [k_X2_checkArgument, k_X2_checkOutcome, f_X2_isYear, f_X2_keepDate, s_X2_keepDate_d, k_X2_keepDate, f_X2_adjust, s_X2_adjust_d, k_X2_adjust, f_X3_isYear, f_X3_fails, s_X3_fails_co, f_X3_becomes_j1, f_X3_becomes, s_X3_becomes_co, s_X3_becomes_d, s_X3_becomes_yr, s_X3_becomes_mo, s_X3_becomes_dy, pre_X3_becomes, f_X3_adjust_j1, f_X3_adjust_j2, f_X3_adjust, s_X3_adjust_co, s_X3_adjust_d, s_X3_adjust_yr, s_X3_adjust_mo, s_X3_adjust_dy, pre_X3_adjust, f_L_adjust, s_L_adjust_d, s_L_adjust_ou, pre_Lc6, reduceIte, updL_at, upd_at, ite_self, m_in_eq, m_unit_eq, false_implies, true_implies, implies_true, true_and, and_true, not_true_eq_false, not_false_eq_true, *]
    · clear G N F F1 F2 fr fr1 hi hmo hyo hy hm hd
      simp +decide only [k_X2_checkArgument, k_X2_checkOutcome, f_X2_isYear, f_X2_keepDate, s_X2_keepDate_d, k_X2_keepDate, f_X2_adjust, s_X2_adjust_d, k_X2_adjust, f_X3_isYear, f_X3_fails, s_X3_fails_co, f_X3_becomes_j1, f_X3_becomes, s_X3_becomes_co, s_X3_becomes_d, s_X3_becomes_yr, s_X3_becomes_mo, s_X3_becomes_dy, pre_X3_becomes, f_X3_adjust_j1, f_X3_adjust_j2, f_X3_adjust, s_X3_adjust_co, s_X3_adjust_d, s_X3_adjust_yr, s_X3_adjust_mo, s_X3_adjust_dy, pre_X3_adjust, f_L_adjust, s_L_adjust_d, s_L_adjust_ou, pre_Lc6, reduceIte, updL_at, upd_at, ite_self, m_in_eq, m_unit_eq, false_implies, true_implies, implies_true, true_and, and_true, not_true_eq_false, not_false_eq_true, *]
  by_cases h108 : u = 108
  · subst h108
    have G := p_sub F1 p_k1 (by omega) (by omega)
    obtain ⟨k1, ⟨k2, k3, k4, k5⟩ | ⟨k4, k5⟩⟩ := v_day G (by omega) (by omega)
    · have J : iInv (vp_updL d q3.toNatClampNeg (f_X1_firstOfMonth ((f_X1_monthOfDay (d q1.toNatClampNeg)) + 1) - 1)) sy sm sd mi ti sL bL mD mT := ⟨iD_upd I.1 (by rw [G]; exact k2) (by rw [G]; exact k3), I.2⟩
      clear G N F F1 F2 fr fr1 hi hmo hyo hy hm hd
      simp +decide only [k_X2_checkArgument, k_X2_checkOutcome, f_X2_isYear, f_X2_keepDate, s_X2_keepDate_d, k_X2_keepDate, f_X2_adjust, s_X2_adjust_d, k_X2_adjust, f_X3_isYear, f_X3_fails, s_X3_fails_co, f_X3_becomes_j1, f_X3_becomes, s_X3_becomes_co, s_X3_becomes_d, s_X3_becomes_yr, s_X3_becomes_mo, s_X3_becomes_dy, pre_X3_becomes, f_X3_adjust_j1, f_X3_adjust_j2, f_X3_adjust, s_X3_adjust_co, s_X3_adjust_d, s_X3_adjust_yr, s_X3_adjust_mo, s_X3_adjust_dy, pre_X3_adjust, f_L_adjust, s_L_adjust_d, s_L_adjust_ou, pre_Lc6, reduceIte, updL_at, upd_at, ite_self, m_in_eq, m_unit_eq, false_implies, true_implies, implies_true, true_and, and_true, not_true_eq_false, not_false_eq_true, *]
    · clear G N F F1 F2 fr fr1 hi hmo hyo hy hm hd
      simp +decide only [k_X2_checkArgument, k_X2_checkOutcome, f_X2_isYear, f_X2_keepDate, s_X2_keepDate_d, k_X2_keepDate, f_X2_adjust, s_X2_adjust_d, k_X2_adjust, f_X3_isYear, f_X3_fails, s_X3_fails_co, f_X3_becomes_j1, f_X3_becomes, s_X3_becomes_co, s_X3_becomes_d, s_X3_becomes_yr, s_X3_becomes_mo, s_X3_becomes_dy, pre_X3_becomes, f_X3_adjust_j1, f_X3_adjust_j2, f_X3_adjust, s_X3_adjust_co, s_X3_adjust_d, s_X3_adjust_yr, s_X3_adjust_mo, s_X3_adjust_dy, pre_X3_adjust, f_L_adjust, s_L_adjust_d, s_L_adjust_ou, pre_Lc6, reduceIte, updL_at, upd_at, ite_self, m_in_eq, m_unit_eq, false_implies, true_implies, implies_true, true_and, and_true, not_true_eq_false, not_false_eq_true, *]
  by_cases h110 : u = 110
  · subst h110
    have G := F1
    obtain ⟨k1, ⟨k2, k3, k4, k5⟩ | ⟨k4, k5⟩⟩ := v_day G (by omega) (by omega)
    · have J : iInv (vp_updL d q3.toNatClampNeg (f_X1_firstOfMonth ((f_X1_monthOfDay (d q1.toNatClampNeg)) + 1))) sy sm sd mi ti sL bL mD mT := ⟨iD_upd I.1 (by rw [G]; exact k2) (by rw [G]; exact k3), I.2⟩
      clear G N F F1 F2 fr fr1 hi hmo hyo hy hm hd
      simp +decide only [k_X2_checkArgument, k_X2_checkOutcome, f_X2_isYear, f_X2_keepDate, s_X2_keepDate_d, k_X2_keepDate, f_X2_adjust, s_X2_adjust_d, k_X2_adjust, f_X3_isYear, f_X3_fails, s_X3_fails_co, f_X3_becomes_j1, f_X3_becomes, s_X3_becomes_co, s_X3_becomes_d, s_X3_becomes_yr, s_X3_becomes_mo, s_X3_becomes_dy, pre_X3_becomes, f_X3_adjust_j1, f_X3_adjust_j2, f_X3_adjust, s_X3_adjust_co, s_X3_adjust_d, s_X3_adjust_yr, s_X3_adjust_mo, s_X3_adjust_dy, pre_X3_adjust, f_L_adjust, s_L_adjust_d, s_L_adjust_ou, pre_Lc6, reduceIte, updL_at, upd_at, ite_self, m_in_eq, m_unit_eq, false_implies, true_implies, implies_true, true_and, and_true, not_true_eq_false, not_false_eq_true, *]
    · clear G N F F1 F2 fr fr1 hi hmo hyo hy hm hd
      simp +decide only [k_X2_checkArgument, k_X2_checkOutcome, f_X2_isYear, f_X2_keepDate, s_X2_keepDate_d, k_X2_keepDate, f_X2_adjust, s_X2_adjust_d, k_X2_adjust, f_X3_isYear, f_X3_fails, s_X3_fails_co, f_X3_becomes_j1, f_X3_becomes, s_X3_becomes_co, s_X3_becomes_d, s_X3_becomes_yr, s_X3_becomes_mo, s_X3_becomes_dy, pre_X3_becomes, f_X3_adjust_j1, f_X3_adjust_j2, f_X3_adjust, s_X3_adjust_co, s_X3_adjust_d, s_X3_adjust_yr, s_X3_adjust_mo, s_X3_adjust_dy, pre_X3_adjust, f_L_adjust, s_L_adjust_d, s_L_adjust_ou, pre_Lc6, reduceIte, updL_at, upd_at, ite_self, m_in_eq, m_unit_eq, false_implies, true_implies, implies_true, true_and, and_true, not_true_eq_false, not_false_eq_true, *]
  clear N F F1 F2 fr fr1 hi hmo hyo hy hm hd
  simp +decide only [k_X2_checkArgument, k_X2_checkOutcome, f_X2_isYear, f_X2_keepDate, s_X2_keepDate_d, k_X2_keepDate, f_X2_adjust, s_X2_adjust_d, k_X2_adjust, f_X3_isYear, f_X3_fails, s_X3_fails_co, f_X3_becomes_j1, f_X3_becomes, s_X3_becomes_co, s_X3_becomes_d, s_X3_becomes_yr, s_X3_becomes_mo, s_X3_becomes_dy, pre_X3_becomes, f_X3_adjust_j1, f_X3_adjust_j2, f_X3_adjust, s_X3_adjust_co, s_X3_adjust_d, s_X3_adjust_yr, s_X3_adjust_mo, s_X3_adjust_dy, pre_X3_adjust, f_L_adjust, s_L_adjust_d, s_L_adjust_ou, pre_Lc6, reduceIte, updL_at, upd_at, ite_self, m_in_eq, m_unit_eq, false_implies, true_implies, implies_true, true_and, and_true, not_true_eq_false, not_false_eq_true, *]
end ZPK
