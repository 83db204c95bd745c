section ZPK
set_option maxHeartbeats 4000000 in
set_option maxRecDepth 100000 in
theorem i_c7 (d : Nat → Int64) (sy : Nat → Int32) (sm : Nat → Int32) (sd : Nat → Int32) (mi : Nat → Int32) (ti : Nat → Int64) (sL : Nat → Int64) (bL : Nat → Int64) (mD : Nat → Int64) (mT : Nat → Int64) (ou : Nat → Int64) (q1 q2 q3 q4 q5 : Int32) (I : iInv d sy sm sd mi ti sL bL mD mT) : pre_Lc7 d ou q1 q2 q3 q4 ∧ (s_X3_weekday_d d q1 ((q2.toUInt32 % 65536).toInt32) q3 q4) = (s_L_weekday_d d q1 ((q2.toUInt32 % 65536).toInt32) q3 q4) ∧ iInv (s_L_weekday_d d q1 ((q2.toUInt32 % 65536).toInt32) q3 q4) sy sm sd mi ti sL bL mD mT := by
  unfold pre_Lc7
  generalize (q2.toUInt32 % 65536).toInt32 = u
  rcases v_s6 q1 with ⟨a1, a2, a3, a4, a5⟩ | ⟨a4, a5⟩
  rotate_left
  · simp +decide only [k_X2_checkArgument, k_X2_checkOutcome, f_X2_isYear, f_X2_keepDate, s_X2_keepDate_d, k_X2_keepDate, f_X2_weekday, s_X2_weekday_d, k_X2_weekday, f_X3_isYear, f_X3_fails, s_X3_fails_co, f_X3_becomes_j1, f_X3_becomes, s_X3_becomes_co, s_X3_becomes_d, s_X3_becomes_yr, s_X3_becomes_mo, s_X3_becomes_dy, pre_X3_becomes, f_X3_weekday_j1, f_X3_weekday_j2, f_X3_weekday_j3, f_X3_weekday, s_X3_weekday_co, s_X3_weekday_d, s_X3_weekday_yr, s_X3_weekday_mo, s_X3_weekday_dy, pre_X3_weekday, f_L_weekday, s_L_weekday_d, s_L_weekday_ou, pre_Lc7, reduceIte, updL_at, upd_at, ite_self, m_in_eq, m_unit_eq, false_implies, true_implies, implies_true, true_and, and_true, not_true_eq_false, not_false_eq_true, *]
  rcases v_s6 q4 with ⟨b1, b2, b3, b4, b5⟩ | ⟨b4, b5⟩
  rotate_left
  · simp +decide only [k_X2_checkArgument, k_X2_checkOutcome, f_X2_isYear, f_X2_keepDate, s_X2_keepDate_d, k_X2_keepDate, f_X2_weekday, s_X2_weekday_d, k_X2_weekday, f_X3_isYear, f_X3_fails, s_X3_fails_co, f_X3_becomes_j1, f_X3_becomes, s_X3_becomes_co, s_X3_becomes_d, s_X3_becomes_yr, s_X3_becomes_mo, s_X3_becomes_dy, pre_X3_becomes, f_X3_weekday_j1, f_X3_weekday_j2, f_X3_weekday_j3, f_X3_weekday, s_X3_weekday_co, s_X3_weekday_d, s_X3_weekday_yr, s_X3_weekday_mo, s_X3_weekday_dy, pre_X3_weekday, f_L_weekday, s_L_weekday_d, s_L_weekday_ou, pre_Lc7, reduceIte, updL_at, upd_at, ite_self, m_in_eq, m_unit_eq, false_implies, true_implies, implies_true, true_and, and_true, not_true_eq_false, not_false_eq_true, *]
  rcases v_in32 (a := q3) (b := 1) (c := 7) (x := q3.toInt) (y := 1) (z := 7) rfl rfl rfl with ⟨z1, z2, z3⟩ | ⟨z9, z3⟩
  rotate_left
  · simp +decide only [k_X2_checkArgument, k_X2_checkOutcome, f_X2_isYear, f_X2_keepDate, s_X2_keepDate_d, k_X2_keepDate, f_X2_weekday, s_X2_weekday_d, k_X2_weekday, f_X3_isYear, f_X3_fails, s_X3_fails_co, f_X3_becomes_j1, f_X3_becomes, s_X3_becomes_co, s_X3_becomes_d, s_X3_becomes_yr, s_X3_becomes_mo, s_X3_becomes_dy, pre_X3_becomes, f_X3_weekday_j1, f_X3_weekday_j2, f_X3_weekday_j3, f_X3_weekday, s_X3_weekday_co, s_X3_weekday_d, s_X3_weekday_yr, s_X3_weekday_mo, s_X3_weekday_dy, pre_X3_weekday, f_L_weekday, s_L_weekday_d, s_L_weekday_ou, pre_Lc7, reduceIte, updL_at, upd_at, ite_self, m_in_eq, m_unit_eq, false_implies, true_implies, implies_true, true_and, and_true, not_true_eq_false, not_false_eq_true, *]
  have A := iD_at I.1 a1
  obtain ⟨i, hi, i1, i2, pp, hy, hm, hd, hmo, hyo, f1, f2, d1, d2⟩ := dt A.1 A.2
  have c12 : s_X3_parts_mo (d q1.toNatClampNeg) ≤ 12 := (p_le32 hm p_w12).mpr (by omega)
  have ml := iM_ML i
  have F := v_fom hmo (by omega) (by omega)
  have N := m_number hy hm p_w1 (by omega) (by omega) (by omega) (by omega)
  rw [show iFY (i / 12) + iC (i / 12) (i % 12 + 1) + 1 - 1 = iFM i by rw [iFM_div i]; omega] at N
  have e1 := p_ext N F
  have F1 := v_fom (p_add hmo p_k1 (by omega) (by omega)) (by omega) (by omega)
  have F2 := p_add F (p_w (m_many hy hm (by omega))) (by omega) (by omega)
  rw [← iFM_succ] at F2
  have e2 := p_ext F2 F1
  have sc := iFM_succ i
  by_cases h78 : u = 78
  · subst h78
    have B := (rfl : (d q1.toNatClampNeg).toInt = (d q1.toNatClampNeg).toInt)
    obtain ⟨p0, p1, p2, p3⟩ := sw_up (x := (d q1.toNatClampNeg)) (q := q3) (by omega) (by omega) z1 z2
    have G : (f_X1_weekdayFrom (d q1.toNatClampNeg) q3).toInt = (f_X1_weekdayFrom (d q1.toNatClampNeg) q3).toInt := rfl
    obtain ⟨k1, ⟨k2, k3, k4, k5⟩ | ⟨k4, k5⟩⟩ := v_day G (by omega) (by omega)
    · have J : iInv (vp_updL d q4.toNatClampNeg (f_X1_weekdayFrom (d q1.toNatClampNeg) q3)) sy sm sd mi ti sL bL mD mT := ⟨iD_upd I.1 k2 k3, I.2⟩
      clear B G N F F1 F2 hi hmo hyo hy hm hd
      simp +decide only [k_X2_checkArgument, k_X2_checkOutcome, f_X2_isYear, f_X2_keepDate, s_X2_keepDate_d, k_X2_keepDate, f_X2_weekday, s_X2_weekday_d, k_X2_weekday, f_X3_isYear, f_X3_fails, s_X3_fails_co, f_X3_becomes_j1, f_X3_becomes, s_X3_becomes_co, s_X3_becomes_d, s_X3_becomes_yr, s_X3_becomes_mo, s_X3_becomes_dy, pre_X3_becomes, f_X3_weekday_j1, f_X3_weekday_j2, f_X3_weekday_j3, f_X3_weekday, s_X3_weekday_co, s_X3_weekday_d, s_X3_weekday_yr, s_X3_weekday_mo, s_X3_weekday_dy, pre_X3_weekday, f_L_weekday, s_L_weekday_d, s_L_weekday_ou, pre_Lc7, reduceIte, updL_at, upd_at, ite_self, m_in_eq, m_unit_eq, false_implies, true_implies, implies_true, true_and, and_true, not_true_eq_false, not_false_eq_true, *]
    · clear B G N F F1 F2 hi hmo hyo hy hm hd
      simp +decide only [k_X2_checkArgument, k_X2_checkOutcome, f_X2_isYear, f_X2_keepDate, s_X2_keepDate_d, k_X2_keepDate, f_X2_weekday, s_X2_weekday_d, k_X2_weekday, f_X3_isYear, f_X3_fails, s_X3_fails_co, f_X3_becomes_j1, f_X3_becomes, s_X3_becomes_co, s_X3_becomes_d, s_X3_becomes_yr, s_X3_becomes_mo, s_X3_becomes_dy, pre_X3_becomes, f_X3_weekday_j1, f_X3_weekday_j2, f_X3_weekday_j3, f_X3_weekday, s_X3_weekday_co, s_X3_weekday_d, s_X3_weekday_yr, s_X3_weekday_mo, s_X3_weekday_dy, pre_X3_weekday, f_L_weekday, s_L_weekday_d, s_L_weekday_ou, pre_Lc7, reduceIte, updL_at, upd_at, ite_self, m_in_eq, m_unit_eq, false_implies, true_implies, implies_true, true_and, and_true, not_true_eq_false, not_false_eq_true, *]
  by_cases h80 : u = 80
  · subst h80
    have B := (rfl : (d q1.toNatClampNeg).toInt = (d q1.toNatClampNeg).toInt)
    obtain ⟨p0, p1, p2, p3⟩ := sw_down (x := (d q1.toNatClampNeg)) (q := q3) (by omega) (by omega) z1 z2
    have G : (f_X1_weekdayUpTo (d q1.toNatClampNeg) q3).toInt = (f_X1_weekdayUpTo (d q1.toNatClampNeg) q3).toInt := rfl
    obtain ⟨k1, ⟨k2, k3, k4, k5⟩ | ⟨k4, k5⟩⟩ := v_day G (by omega) (by omega)
    · have J : iInv (vp_updL d q4.toNatClampNeg (f_X1_weekdayUpTo (d q1.toNatClampNeg) q3)) sy sm sd mi ti sL bL mD mT := ⟨iD_upd I.1 k2 k3, I.2⟩
      clear B G N F F1 F2 hi hmo hyo hy hm hd
      simp +decide only [k_X2_checkArgument, k_X2_checkOutcome, f_X2_isYear, f_X2_keepDate, s_X2_keepDate_d, k_X2_keepDate, f_X2_weekday, s_X2_weekday_d, k_X2_weekday, f_X3_isYear, f_X3_fails, s_X3_fails_co, f_X3_becomes_j1, f_X3_becomes, s_X3_becomes_co, s_X3_becomes_d, s_X3_becomes_yr, s_X3_becomes_mo, s_X3_becomes_dy, pre_X3_becomes, f_X3_weekday_j1, f_X3_weekday_j2, f_X3_weekday_j3, f_X3_weekday, s_X3_weekday_co, s_X3_weekday_d, s_X3_weekday_yr, s_X3_weekday_mo, s_X3_weekday_dy, pre_X3_weekday, f_L_weekday, s_L_weekday_d, s_L_weekday_ou, pre_Lc7, reduceIte, updL_at, upd_at, ite_self, m_in_eq, m_unit_eq, false_implies, true_implies, implies_true, true_and, and_true, not_true_eq_false, not_false_eq_true, *]
    · clear B G N F F1 F2 hi hmo hyo hy hm hd
      simp +decide only [k_X2_checkArgument, k_X2_checkOutcome, f_X2_isYear, f_X2_keepDate, s_X2_keepDate_d, k_X2_keepDate, f_X2_weekday, s_X2_weekday_d, k_X2_weekday, f_X3_isYear, f_X3_fails, s_X3_fails_co, f_X3_becomes_j1, f_X3_becomes, s_X3_becomes_co, s_X3_becomes_d, s_X3_becomes_yr, s_X3_becomes_mo, s_X3_becomes_dy, pre_X3_becomes, f_X3_weekday_j1, f_X3_weekday_j2, f_X3_weekday_j3, f_X3_weekday, s_X3_weekday_co, s_X3_weekday_d, s_X3_weekday_yr, s_X3_weekday_mo, s_X3_weekday_dy, pre_X3_weekday, f_L_weekday, s_L_weekday_d, s_L_weekday_ou, pre_Lc7, reduceIte, updL_at, upd_at, ite_self, m_in_eq, m_unit_eq, false_implies, true_implies, implies_true, true_and, and_true, not_true_eq_false, not_false_eq_true, *]
  by_cases h102 : u = 102
  · subst h102
    have B := F
    obtain ⟨p0, p1, p2, p3⟩ := sw_up (x := (f_X1_firstOfMonth (f_X1_monthOfDay (d q1.toNatClampNeg)))) (q := q3) (by rw [B]; omega) (by rw [B]; omega) z1 z2
    have G : (f_X1_weekdayFrom (f_X1_firstOfMonth (f_X1_monthOfDay (d q1.toNatClampNeg))) q3).toInt = (f_X1_weekdayFrom (f_X1_firstOfMonth (f_X1_monthOfDay (d q1.toNatClampNeg))) q3).toInt := rfl
    obtain ⟨k1, ⟨k2, k3, k4, k5⟩ | ⟨k4, k5⟩⟩ := v_day G (by omega) (by omega)
    · have J : iInv (vp_updL d q4.toNatClampNeg (f_X1_weekdayFrom (f_X1_firstOfMonth (f_X1_monthOfDay (d q1.toNatClampNeg))) q3)) sy sm sd mi ti sL bL mD mT := ⟨iD_upd I.1 k2 k3, I.2⟩
      clear B G N F F1 F2 hi hmo hyo hy hm hd
      simp +decide only [k_X2_checkArgument, k_X2_checkOutcome, f_X2_isYear, f_X2_keepDate, s_X2_keepDate_d, k_X2_keepDate, f_X2_weekday, s_X2_weekday_d, k_X2_weekday, f_X3_isYear, f_X3_fails, s_X3_fails_co, f_X3_becomes_j1, f_X3_becomes, s_X3_becomes_co, s_X3_becomes_d, s_X3_becomes_yr, s_X3_becomes_mo, s_X3_becomes_dy, pre_X3_becomes, f_X3_weekday_j1, f_X3_weekday_j2, f_X3_weekday_j3, f_X3_weekday, s_X3_weekday_co, s_X3_weekday_d, s_X3_weekday_yr, s_X3_weekday_mo, s_X3_weekday_dy, pre_X3_weekday, f_L_weekday, s_L_weekday_d, s_L_weekday_ou, pre_Lc7, reduceIte, updL_at, upd_at, ite_self, m_in_eq, m_unit_eq, false_implies, true_implies, implies_true, true_and, and_true, not_true_eq_false, not_false_eq_true, *]
    · clear B G N F F1 F2 hi hmo hyo hy hm hd
      simp +decide only [k_X2_checkArgument, k_X2_checkOutcome, f_X2_isYear, f_X2_keepDate, s_X2_keepDate_d, k_X2_keepDate, f_X2_weekday, s_X2_weekday_d, k_X2_weekday, f_X3_isYear, f_X3_fails, s_X3_fails_co, f_X3_becomes_j1, f_X3_becomes, s_X3_becomes_co, s_X3_becomes_d, s_X3_becomes_yr, s_X3_becomes_mo, s_X3_becomes_dy, pre_X3_becomes, f_X3_weekday_j1, f_X3_weekday_j2, f_X3_weekday_j3, f_X3_weekday, s_X3_weekday_co, s_X3_weekday_d, s_X3_weekday_yr, s_X3_weekday_mo, s_X3_weekday_dy, pre_X3_weekday, f_L_weekday, s_L_weekday_d, s_L_weekday_ou, pre_Lc7, reduceIte, updL_at, upd_at, ite_self, m_in_eq, m_unit_eq, false_implies, true_implies, implies_true, true_and, and_true, not_true_eq_false, not_false_eq_true, *]
  by_cases h108 : u = 108
  · subst h108
    have B := p_sub F1 p_k1 (by omega) (by omega)
    obtain ⟨p0, p1, p2, p3⟩ := sw_down (x := (f_X1_firstOfMonth ((f_X1_monthOfDay (d q1.toNatClampNeg)) + 1) - 1)) (q := q3) (by rw [B]; omega) (by rw [B]; omega) z1 z2
    have G : (f_X1_weekdayUpTo (f_X1_firstOfMonth ((f_X1_monthOfDay (d q1.toNatClampNeg)) + 1) - 1) q3).toInt = (f_X1_weekdayUpTo (f_X1_firstOfMonth ((f_X1_monthOfDay (d q1.toNatClampNeg)) + 1) - 1) q3).toInt := rfl
    obtain ⟨k1, ⟨k2, k3, k4, k5⟩ | ⟨k4, k5⟩⟩ := v_day G (by omega) (by omega)
    · have J : iInv (vp_updL d q4.toNatClampNeg (f_X1_weekdayUpTo (f_X1_firstOfMonth ((f_X1_monthOfDay (d q1.toNatClampNeg)) + 1) - 1) q3)) sy sm sd mi ti sL bL mD mT := ⟨iD_upd I.1 k2 k3, I.2⟩
      clear B G N F F1 F2 hi hmo hyo hy hm hd
      simp +decide only [k_X2_checkArgument, k_X2_checkOutcome, f_X2_isYear, f_X2_keepDate, s_X2_keepDate_d, k_X2_keepDate, f_X2_weekday, s_X2_weekday_d, k_X2_weekday, f_X3_isYear, f_X3_fails, s_X3_fails_co, f_X3_becomes_j1, f_X3_becomes, s_X3_becomes_co, s_X3_becomes_d, s_X3_becomes_yr, s_X3_becomes_mo, s_X3_becomes_dy, pre_X3_becomes, f_X3_weekday_j1, f_X3_weekday_j2, f_X3_weekday_j3, f_X3_weekday, s_X3_weekday_co, s_X3_weekday_d, s_X3_weekday_yr, s_X3_weekday_mo, s_X3_weekday_dy, pre_X3_weekday, f_L_weekday, s_L_weekday_d, s_L_weekday_ou, pre_Lc7, reduceIte, updL_at, upd_at, ite_self, m_in_eq, m_unit_eq, false_implies, true_implies, implies_true, true_and, and_true, not_true_eq_false, not_false_eq_true, *]
    · clear B G N F F1 F2 hi hmo hyo hy hm hd
      simp +decide only [k_X2_checkArgument, k_X2_checkOutcome, f_X2_isYear, f_X2_keepDate, s_X2_keepDate_d, k_X2_keepDate, f_X2_weekday, s_X2_weekday_d, k_X2_weekday, f_X3_isYear, f_X3_fails, s_X3_fails_co, f_X3_becomes_j1, f_X3_becomes, s_X3_becomes_co, s_X3_becomes_d, s_X3_becomes_yr, s_X3_becomes_mo, s_X3_becomes_dy, pre_X3_becomes, f_X3_weekday_j1, f_X3_weekday_j2, f_X3_weekday_j3, f_X3_weekday, s_X3_weekday_co, s_X3_weekday_d, s_X3_weekday_yr, s_X3_weekday_mo, s_X3_weekday_dy, pre_X3_weekday, f_L_weekday, s_L_weekday_d, s_L_weekday_ou, pre_Lc7, reduceIte, updL_at, upd_at, ite_self, m_in_eq, m_unit_eq, false_implies, true_implies, implies_true, true_and, and_true, not_true_eq_false, not_false_eq_true, *]
  by_cases h110 : u = 110
  · subst h110
    have B := p_add (rfl : (d q1.toNatClampNeg).toInt = _) p_k1 (by omega) (by omega)
    obtain ⟨p0, p1, p2, p3⟩ := sw_up (x := ((d q1.toNatClampNeg) + 1)) (q := q3) (by rw [B]; omega) (by rw [B]; omega) z1 z2
    have G : (f_X1_weekdayFrom ((d q1.toNatClampNeg) + 1) q3).toInt = (f_X1_weekdayFrom ((d q1.toNatClampNeg) + 1) q3).toInt := rfl
    obtain ⟨k1, ⟨k2, k3, k4, k5⟩ | ⟨k4, k5⟩⟩ := v_day G (by omega) (by omega)
    · have J : iInv (vp_updL d q4.toNatClampNeg (f_X1_weekdayFrom ((d q1.toNatClampNeg) + 1) q3)) sy sm sd mi ti sL bL mD mT := ⟨iD_upd I.1 k2 k3, I.2⟩
      clear B G N F F1 F2 hi hmo hyo hy hm hd
      simp +decide only [k_X2_checkArgument, k_X2_checkOutcome, f_X2_isYear, f_X2_keepDate, s_X2_keepDate_d, k_X2_keepDate, f_X2_weekday, s_X2_weekday_d, k_X2_weekday, f_X3_isYear, f_X3_fails, s_X3_fails_co, f_X3_becomes_j1, f_X3_becomes, s_X3_becomes_co, s_X3_becomes_d, s_X3_becomes_yr, s_X3_becomes_mo, s_X3_becomes_dy, pre_X3_becomes, f_X3_weekday_j1, f_X3_weekday_j2, f_X3_weekday_j3, f_X3_weekday, s_X3_weekday_co, s_X3_weekday_d, s_X3_weekday_yr, s_X3_weekday_mo, s_X3_weekday_dy, pre_X3_weekday, f_L_weekday, s_L_weekday_d, s_L_weekday_ou, pre_Lc7, reduceIte, updL_at, upd_at, ite_self, m_in_eq, m_unit_eq, false_implies, true_implies, implies_true, true_and, and_true, not_true_eq_false, not_false_eq_true, *]
    · clear B G N F F1 F2 hi hmo hyo hy hm hd
      simp +decide only [k_X2_checkArgument, k_X2_checkOutcome, f_X2_isYear, f_X2_keepDate, s_X2_keepDate_d, k_X2_keepDate, f_X2_weekday, s_X2_weekday_d, k_X2_weekday, f_X3_isYear, f_X3_fails, s_X3_fails_co, f_X3_becomes_j1, f_X3_becomes, s_X3_becomes_co, s_X3_becomes_d, s_X3_becomes_yr, s_X3_becomes_mo, s_X3_becomes_dy, pre_X3_becomes, f_X3_weekday_j1, f_X3_weekday_j2, f_X3_weekday_j3, f_X3_weekday, s_X3_weekday_co, s_X3_weekday_d, s_X3_weekday_yr, s_X3_weekday_mo, s_X3_weekday_dy, pre_X3_weekday, f_L_weekday, s_L_weekday_d, s_L_weekday_ou, pre_Lc7, reduceIte, updL_at, upd_at, ite_self, m_in_eq, m_unit_eq, false_implies, true_implies, implies_true, true_and, and_true, not_true_eq_false, not_false_eq_true, *]
  by_cases h112 : u = 112
  · subst h112
    have B := p_sub (rfl : (d q1.toNatClampNeg).toInt = _) p_k1 (by omega) (by omega)
    obtain ⟨p0, p1, p2, p3⟩ := sw_down (x := ((d q1.toNatClampNeg) - 1)) (q := q3) (by rw [B]; omega) (by rw [B]; omega) z1 z2
    have G : (f_X1_weekdayUpTo ((d q1.toNatClampNeg) - 1) q3).toInt = (f_X1_weekdayUpTo ((d q1.toNatClampNeg) - 1) q3).toInt := rfl
    obtain ⟨k1, ⟨k2, k3, k4, k5⟩ | ⟨k4, k5⟩⟩ := v_day G (by omega) (by omega)
    · have J : iInv (vp_updL d q4.toNatClampNeg (f_X1_weekdayUpTo ((d q1.toNatClampNeg) - 1) q3)) sy sm sd mi ti sL bL mD mT := ⟨iD_upd I.1 k2 k3, I.2⟩
      clear B G N F F1 F2 hi hmo hyo hy hm hd
      simp +decide only [k_X2_checkArgument, k_X2_checkOutcome, f_X2_isYear, f_X2_keepDate, s_X2_keepDate_d, k_X2_keepDate, f_X2_weekday, s_X2_weekday_d, k_X2_weekday, f_X3_isYear, f_X3_fails, s_X3_fails_co, f_X3_becomes_j1, f_X3_becomes, s_X3_becomes_co, s_X3_becomes_d, s_X3_becomes_yr, s_X3_becomes_mo, s_X3_becomes_dy, pre_X3_becomes, f_X3_weekday_j1, f_X3_weekday_j2, f_X3_weekday_j3, f_X3_weekday, s_X3_weekday_co, s_X3_weekday_d, s_X3_weekday_yr, s_X3_weekday_mo, s_X3_weekday_dy, pre_X3_weekday, f_L_weekday, s_L_weekday_d, s_L_weekday_ou, pre_Lc7, reduceIte, updL_at, upd_at, ite_self, m_in_eq, m_unit_eq, false_implies, true_implies, implies_true, true_and, and_true, not_true_eq_false, not_false_eq_true, *]
    · clear B G N F F1 F2 hi hmo hyo hy hm hd
      simp +decide only [k_X2_checkArgument, k_X2_checkOutcome, f_X2_isYear, f_X2_keepDate, s_X2_keepDate_d, k_X2_keepDate, f_X2_weekday, s_X2_weekday_d, k_X2_weekday, f_X3_isYear, f_X3_fails, s_X3_fails_co, f_X3_becomes_j1, f_X3_becomes, s_X3_becomes_co, s_X3_becomes_d, s_X3_becomes_yr, s_X3_becomes_mo, s_X3_becomes_dy, pre_X3_becomes, f_X3_weekday_j1, f_X3_weekday_j2, f_X3_weekday_j3, f_X3_weekday, s_X3_weekday_co, s_X3_weekday_d, s_X3_weekday_yr, s_X3_weekday_mo, s_X3_weekday_dy, pre_X3_weekday, f_L_weekday, s_L_weekday_d, s_L_weekday_ou, pre_Lc7, reduceIte, updL_at, upd_at, ite_self, m_in_eq, m_unit_eq, false_implies, true_implies, implies_true, true_and, and_true, not_true_eq_false, not_false_eq_true, *]
  clear N F F1 F2 hi hmo hyo hy hm hd
  simp +decide only [k_X2_checkArgument, k_X2_checkOutcome, f_X2_isYear, f_X2_keepDate, s_X2_keepDate_d, k_X2_keepDate, f_X2_weekday, s_X2_weekday_d, k_X2_weekday, f_X3_isYear, f_X3_fails, s_X3_fails_co, f_X3_becomes_j1, f_X3_becomes, s_X3_becomes_co, s_X3_becomes_d, s_X3_becomes_yr, s_X3_becomes_mo, s_X3_becomes_dy, pre_X3_becomes, f_X3_weekday_j1, f_X3_weekday_j2, f_X3_weekday_j3, f_X3_weekday, s_X3_weekday_co, s_X3_weekday_d, s_X3_weekday_yr, s_X3_weekday_mo, s_X3_weekday_dy, pre_X3_weekday, f_L_weekday, s_L_weekday_d, s_L_weekday_ou, pre_Lc7, reduceIte, updL_at, upd_at, ite_self, m_in_eq, m_unit_eq, false_implies, true_implies, implies_true, true_and, and_true, not_true_eq_false, not_false_eq_true, *]
set_option maxHeartbeats 4000000 in
set_option maxRecDepth 100000 in
theorem i_c8 (d : Nat → Int64) (sy : Nat → Int32) (sm : Nat → Int32) (sd : Nat → Int32) (mi : Nat → Int32) (ti : Nat → Int64) (sL : Nat → Int64) (bL : Nat → Int64) (mD : Nat → Int64) (mT : Nat → Int64) (ou : Nat → Int64) (q1 q2 q3 q4 q5 : Int32) (I : iInv d sy sm sd mi ti sL bL mD mT) : pre_Lc8 d ou q1 q2 q3 q4 ∧ (s_X3_inMonth_d d q1 q2 q3 q4) = (s_L_inMonth_d d q1 q2 q3 q4) ∧ iInv (s_L_inMonth_d d q1 q2 q3 q4) sy sm sd mi ti sL bL mD mT := by
  unfold pre_Lc8
  rcases v_s6 q1 with ⟨a1, a2, a3, a4, a5⟩ | ⟨a4, a5⟩
  rotate_left
  · simp +decide only [k_X2_checkArgument, k_X2_checkOutcome, f_X2_isYear, f_X2_keepDate, s_X2_keepDate_d, k_X2_keepDate, f_X2_inMonth, s_X2_inMonth_d, k_X2_inMonth, f_X3_isYear, f_X3_fails, s_X3_fails_co, f_X3_becomes_j1, f_X3_becomes, s_X3_becomes_co, s_X3_becomes_d, s_X3_becomes_yr, s_X3_becomes_mo, s_X3_becomes_dy, pre_X3_becomes, f_X3_inMonth_j1, f_X3_inMonth_j2, f_X3_inMonth, s_X3_inMonth_co, s_X3_inMonth_d, s_X3_inMonth_yr, s_X3_inMonth_mo, s_X3_inMonth_dy, pre_X3_inMonth, f_L_inMonth, s_L_inMonth_d, s_L_inMonth_ou, pre_Lc8, reduceIte, updL_at, upd_at, ite_self, m_in_eq, m_unit_eq, false_implies, true_implies, implies_true, true_and, and_true, not_true_eq_false, not_false_eq_true, *]
  rcases v_s6 q4 with ⟨b1, b2, b3, b4, b5⟩ | ⟨b4, b5⟩
  rotate_left
  · simp +decide only [k_X2_checkArgument, k_X2_checkOutcome, f_X2_isYear, f_X2_keepDate, s_X2_keepDate_d, k_X2_keepDate, f_X2_inMonth, s_X2_inMonth_d, k_X2_inMonth, f_X3_isYear, f_X3_fails, s_X3_fails_co, f_X3_becomes_j1, f_X3_becomes, s_X3_becomes_co, s_X3_becomes_d, s_X3_becomes_yr, s_X3_becomes_mo, s_X3_becomes_dy, pre_X3_becomes, f_X3_inMonth_j1, f_X3_inMonth_j2, f_X3_inMonth, s_X3_inMonth_co, s_X3_inMonth_d, s_X3_inMonth_yr, s_X3_inMonth_mo, s_X3_inMonth_dy, pre_X3_inMonth, f_L_inMonth, s_L_inMonth_d, s_L_inMonth_ou, pre_Lc8, reduceIte, updL_at, upd_at, ite_self, m_in_eq, m_unit_eq, false_implies, true_implies, implies_true, true_and, and_true, not_true_eq_false, not_false_eq_true, *]
  rcases v_in32 (a := q2) (b := -6) (c := 6) (x := q2.toInt) (y := -6) (z := 6) rfl rfl rfl with ⟨y1, y2, y3⟩ | ⟨y9, y3⟩
  rotate_left
  · skip
    simp +decide only [k_X2_checkArgument, k_X2_checkOutcome, f_X2_isYear, f_X2_keepDate, s_X2_keepDate_d, k_X2_keepDate, f_X2_inMonth, s_X2_inMonth_d, k_X2_inMonth, f_X3_isYear, f_X3_fails, s_X3_fails_co, f_X3_becomes_j1, f_X3_becomes, s_X3_becomes_co, s_X3_becomes_d, s_X3_becomes_yr, s_X3_becomes_mo, s_X3_becomes_dy, pre_X3_becomes, f_X3_inMonth_j1, f_X3_inMonth_j2, f_X3_inMonth, s_X3_inMonth_co, s_X3_inMonth_d, s_X3_inMonth_yr, s_X3_inMonth_mo, s_X3_inMonth_dy, pre_X3_inMonth, f_L_inMonth, s_L_inMonth_d, s_L_inMonth_ou, pre_Lc8, reduceIte, updL_at, upd_at, ite_self, m_in_eq, m_unit_eq, false_implies, true_implies, implies_true, true_and, and_true, not_true_eq_false, not_false_eq_true, *]
  rcases v_in32 (a := q3) (b := 1) (c := 7) (x := q3.toInt) (y := 1) (z := 7) rfl rfl rfl with ⟨z1, z2, z3⟩ | ⟨z9, z3⟩
  rotate_left
  · skip
    simp +decide only [k_X2_checkArgument, k_X2_checkOutcome, f_X2_isYear, f_X2_keepDate, s_X2_keepDate_d, k_X2_keepDate, f_X2_inMonth, s_X2_inMonth_d, k_X2_inMonth, f_X3_isYear, f_X3_fails, s_X3_fails_co, f_X3_becomes_j1, f_X3_becomes, s_X3_becomes_co, s_X3_becomes_d, s_X3_becomes_yr, s_X3_becomes_mo, s_X3_becomes_dy, pre_X3_becomes, f_X3_inMonth_j1, f_X3_inMonth_j2, f_X3_inMonth, s_X3_inMonth_co, s_X3_inMonth_d, s_X3_inMonth_yr, s_X3_inMonth_mo, s_X3_inMonth_dy, pre_X3_inMonth, f_L_inMonth, s_L_inMonth_d, s_L_inMonth_ou, pre_Lc8, reduceIte, updL_at, upd_at, ite_self, m_in_eq, m_unit_eq, false_implies, true_implies, implies_true, true_and, and_true, not_true_eq_false, not_false_eq_true, *]
  have A := iD_at I.1 a1
  obtain ⟨i, hi, i1, i2, pp, hy, hm, hd, hmo, hyo, f1, f2, d1, d2⟩ := dt A.1 A.2
  have c12 : s_X3_parts_mo (d q1.toNatClampNeg) ≤ 12 := (p_le32 hm p_w12).mpr (by omega)
  have ml := iM_ML i
  have F := v_fom hmo (by omega) (by omega)
  have N := m_number hy hm p_w1 (by omega) (by omega) (by omega) (by omega)
  rw [show iFY (i / 12) + iC (i / 12) (i % 12 + 1) + 1 - 1 = iFM i by rw [iFM_div i]; omega] at N
  have e1 := p_ext N F
  have F1 := v_fom (p_add hmo p_k1 (by omega) (by omega)) (by omega) (by omega)
  have F2 := p_add F (p_w (m_many hy hm (by omega))) (by omega) (by omega)
  rw [← iFM_succ] at F2
  have e2 := p_ext F2 F1
  have sc := iFM_succ i
  have F3 := p_sub F1 p_k1 (by omega) (by omega)
  have sg1 := p_le32 p_w0 (rfl : q2.toInt = _)
  have sg2 := p_lt32 (rfl : q2.toInt = _) p_w0
  by_cases g : 0 ≤ q2.toInt
  · obtain ⟨p0, p1, p2, p3⟩ := sw_up (x := (f_X1_firstOfMonth (f_X1_monthOfDay (d q1.toNatClampNeg)))) (q := q3) (by rw [F]; omega) (by rw [F]; omega) z1 z2
    have s1 : 0 ≤ q2 := sg1.mpr g
    have s2 : ¬ q2 < 0 := fun t => by have := sg2.mp t; omega
    clear sg1 sg2
    have E1 := p_mul p_k7 (p_sub (p_w (rfl : q2.toInt = _)) p_k1 (by omega) (by omega)) (by omega) (by omega)
    have E2 := p_w (p_mul32 p_w7 (p_sub32 (rfl : q2.toInt = _) p_w1 (by omega) (by omega)) (by omega) (by omega))
    have e3 := p_ext E1 E2
    have G := p_add (rfl : (f_X1_weekdayFrom (f_X1_firstOfMonth (f_X1_monthOfDay (d q1.toNatClampNeg))) q3).toInt = _) E2 (by omega) (by omega)
    obtain ⟨k1, ⟨k2, k3, k4, k5⟩ | ⟨k4, k5⟩⟩ := v_day G (by omega) (by omega)
    · have J : iInv (vp_updL d q4.toNatClampNeg (f_X1_weekdayFrom (f_X1_firstOfMonth (f_X1_monthOfDay (d q1.toNatClampNeg))) q3 + (7 * (q2 - 1)).toInt64)) sy sm sd mi ti sL bL mD mT := ⟨iD_upd I.1 (by rw [G]; exact k2) (by rw [G]; exact k3), I.2⟩
      clear E1 E2 G F3 N F F1 F2 hi hmo hyo hy hm hd
      simp +decide only [k_X2_checkArgument, k_X2_checkOutcome, f_X2_isYear, f_X2_keepDate, s_X2_keepDate_d, k_X2_keepDate, f_X2_inMonth, s_X2_inMonth_d, k_X2_inMonth, f_X3_isYear, f_X3_fails, s_X3_fails_co, f_X3_becomes_j1, f_X3_becomes, s_X3_becomes_co, s_X3_becomes_d, s_X3_becomes_yr, s_X3_becomes_mo, s_X3_becomes_dy, pre_X3_becomes, f_X3_inMonth_j1, f_X3_inMonth_j2, f_X3_inMonth, s_X3_inMonth_co, s_X3_inMonth_d, s_X3_inMonth_yr, s_X3_inMonth_mo, s_X3_inMonth_dy, pre_X3_inMonth, f_L_inMonth, s_L_inMonth_d, s_L_inMonth_ou, pre_Lc8, reduceIte, updL_at, upd_at, ite_self, m_in_eq, m_unit_eq, false_implies, true_implies, implies_true, true_and, and_true, not_true_eq_false, not_false_eq_true, *]
    · clear E1 E2 G F3 N F F1 F2 hi hmo hyo hy hm hd
      simp +decide only [k_X2_checkArgument, k_X2_checkOutcome, f_X2_isYear, f_X2_keepDate, s_X2_keepDate_d, k_X2_keepDate, f_X2_inMonth, s_X2_inMonth_d, k_X2_inMonth, f_X3_isYear, f_X3_fails, s_X3_fails_co, f_X3_becomes_j1, f_X3_becomes, s_X3_becomes_co, s_X3_becomes_d, s_X3_becomes_yr, s_X3_becomes_mo, s_X3_becomes_dy, pre_X3_becomes, f_X3_inMonth_j1, f_X3_inMonth_j2, f_X3_inMonth, s_X3_inMonth_co, s_X3_inMonth_d, s_X3_inMonth_yr, s_X3_inMonth_mo, s_X3_inMonth_dy, pre_X3_inMonth, f_L_inMonth, s_L_inMonth_d, s_L_inMonth_ou, pre_Lc8, reduceIte, updL_at, upd_at, ite_self, m_in_eq, m_unit_eq, false_implies, true_implies, implies_true, true_and, and_true, not_true_eq_false, not_false_eq_true, *]
  · obtain ⟨p0, p1, p2, p3⟩ := sw_down (x := (f_X1_firstOfMonth ((f_X1_monthOfDay (d q1.toNatClampNeg)) + 1) - 1)) (q := q3) (by rw [F3]; omega) (by rw [F3]; omega) z1 z2
    have s1 : ¬ 0 ≤ q2 := fun t => g (sg1.mp t)
    have s2 : q2 < 0 := sg2.mpr (by omega)
    clear sg1 sg2
    have E1 := p_mul p_k7 (p_add (p_w (rfl : q2.toInt = _)) p_k1 (by omega) (by omega)) (by omega) (by omega)
    have E2 := p_w (p_mul32 p_w7 (p_add32 (rfl : q2.toInt = _) p_w1 (by omega) (by omega)) (by omega) (by omega))
    have e3 := p_ext E1 E2
    have G := p_add (rfl : (f_X1_weekdayUpTo (f_X1_firstOfMonth ((f_X1_monthOfDay (d q1.toNatClampNeg)) + 1) - 1) q3).toInt = _) E2 (by omega) (by omega)
    obtain ⟨k1, ⟨k2, k3, k4, k5⟩ | ⟨k4, k5⟩⟩ := v_day G (by omega) (by omega)
    · have J : iInv (vp_updL d q4.toNatClampNeg (f_X1_weekdayUpTo (f_X1_firstOfMonth ((f_X1_monthOfDay (d q1.toNatClampNeg)) + 1) - 1) q3 + (7 * (q2 + 1)).toInt64)) sy sm sd mi ti sL bL mD mT := ⟨iD_upd I.1 (by rw [G]; exact k2) (by rw [G]; exact k3), I.2⟩
      clear E1 E2 G F3 N F F1 F2 hi hmo hyo hy hm hd
      simp +decide only [k_X2_checkArgument, k_X2_checkOutcome, f_X2_isYear, f_X2_keepDate, s_X2_keepDate_d, k_X2_keepDate, f_X2_inMonth, s_X2_inMonth_d, k_X2_inMonth, f_X3_isYear, f_X3_fails, s_X3_fails_co, f_X3_becomes_j1, f_X3_becomes, s_X3_becomes_co, s_X3_becomes_d, s_X3_becomes_yr, s_X3_becomes_mo, s_X3_becomes_dy, pre_X3_becomes, f_X3_inMonth_j1, f_X3_inMonth_j2, f_X3_inMonth, s_X3_inMonth_co, s_X3_inMonth_d, s_X3_inMonth_yr, s_X3_inMonth_mo, s_X3_inMonth_dy, pre_X3_inMonth, f_L_inMonth, s_L_inMonth_d, s_L_inMonth_ou, pre_Lc8, reduceIte, updL_at, upd_at, ite_self, m_in_eq, m_unit_eq, false_implies, true_implies, implies_true, true_and, and_true, not_true_eq_false, not_false_eq_true, *]
    · clear E1 E2 G F3 N F F1 F2 hi hmo hyo hy hm hd
      simp +decide only [k_X2_checkArgument, k_X2_checkOutcome, f_X2_isYear, f_X2_keepDate, s_X2_keepDate_d, k_X2_keepDate, f_X2_inMonth, s_X2_inMonth_d, k_X2_inMonth, f_X3_isYear, f_X3_fails, s_X3_fails_co, f_X3_becomes_j1, f_X3_becomes, s_X3_becomes_co, s_X3_becomes_d, s_X3_becomes_yr, s_X3_becomes_mo, s_X3_becomes_dy, pre_X3_becomes, f_X3_inMonth_j1, f_X3_inMonth_j2, f_X3_inMonth, s_X3_inMonth_co, s_X3_inMonth_d, s_X3_inMonth_yr, s_X3_inMonth_mo, s_X3_inMonth_dy, pre_X3_inMonth, f_L_inMonth, s_L_inMonth_d, s_L_inMonth_ou, pre_Lc8, reduceIte, updL_at, upd_at, ite_self, m_in_eq, m_unit_eq, false_implies, true_implies, implies_true, true_and, and_true, not_true_eq_false, not_false_eq_true, *]
set_option maxHeartbeats 4000000 in
set_option maxRecDepth 100000 in
theorem i_c9 (d : Nat → Int64) (sy : Nat → Int32) (sm : Nat → Int32) (sd : Nat → Int32) (mi : Nat → Int32) (ti : Nat → Int64) (sL : Nat → Int64) (bL : Nat → Int64) (mD : Nat → Int64) (mT : Nat → Int64) (ou : Nat → Int64) (q1 q2 q3 q4 q5 : Int32) (I : iInv d sy sm sd mi ti sL bL mD mT) : pre_Lc9 ou q1 q2 q3 q4 ∧ (s_X3_atYear_d d q1 q2 q3 q4) = (s_L_atYear_d d q1 q2 q3 q4) ∧ iInv (s_L_atYear_d d q1 q2 q3 q4) sy sm sd mi ti sL bL mD mT := by
  unfold pre_Lc9
  rcases v_s6 q4 with ⟨b1, b2, b3, b4, b5⟩ | ⟨b4, b5⟩
  rotate_left
  · simp +decide only [k_X2_checkArgument, k_X2_checkOutcome, f_X2_isYear, f_X2_keepDate, s_X2_keepDate_d, k_X2_keepDate, f_X2_atYear, s_X2_atYear_d, k_X2_atYear, f_X3_isYear, f_X3_fails, s_X3_fails_co, f_X3_becomes_j1, f_X3_becomes, s_X3_becomes_co, s_X3_becomes_d, s_X3_becomes_yr, s_X3_becomes_mo, s_X3_becomes_dy, pre_X3_becomes, f_X3_atYear_j1, f_X3_atYear_j2, f_X3_atYear, s_X3_atYear_co, s_X3_atYear_d, s_X3_atYear_yr, s_X3_atYear_mo, s_X3_atYear_dy, pre_X3_atYear, f_L_atYear, s_L_atYear_d, s_L_atYear_ou, pre_L_atYear, pre_Lc9, reduceIte, updL_at, upd_at, ite_self, m_in_eq, m_unit_eq, false_implies, true_implies, implies_true, true_and, and_true, not_true_eq_false, not_false_eq_true, *]
  rcases v_in32 (a := q1) (b := 1) (c := 12) (x := q1.toInt) (y := 1) (z := 12) rfl rfl rfl with ⟨m1, m2, m3⟩ | ⟨m9, m3⟩
  rotate_left
  · simp +decide only [k_X2_checkArgument, k_X2_checkOutcome, f_X2_isYear, f_X2_keepDate, s_X2_keepDate_d, k_X2_keepDate, f_X2_atYear, s_X2_atYear_d, k_X2_atYear, f_X3_isYear, f_X3_fails, s_X3_fails_co, f_X3_becomes_j1, f_X3_becomes, s_X3_becomes_co, s_X3_becomes_d, s_X3_becomes_yr, s_X3_becomes_mo, s_X3_becomes_dy, pre_X3_becomes, f_X3_atYear_j1, f_X3_atYear_j2, f_X3_atYear, s_X3_atYear_co, s_X3_atYear_d, s_X3_atYear_yr, s_X3_atYear_mo, s_X3_atYear_dy, pre_X3_atYear, f_L_atYear, s_L_atYear_d, s_L_atYear_ou, pre_L_atYear, pre_Lc9, reduceIte, updL_at, upd_at, ite_self, m_in_eq, m_unit_eq, false_implies, true_implies, implies_true, true_and, and_true, not_true_eq_false, not_false_eq_true, *]
  have i0 := v_idx p_k0 (p_w (rfl : q1.toInt = _)) (by omega) (by omega) (by omega) (by omega)
  have L := v_lom i0
  rw [show (12 * 0 + q1.toInt - 1) / 12 = 0 by omega, show (12 * 0 + q1.toInt - 1) % 12 + 1 = q1.toInt by omega] at L
  have M := m_many p_k0 (rfl : q1.toInt = _) (by omega)
  have e1 := p_ext32 M L
  have lr := iML_r 0 q1.toInt
  have P12 : q1 ≤ 12 := (p_le32 (rfl : q1.toInt = _) p_w12).mpr m2
  rcases v_in32 (a := q2) (b := 1) (c := (f_X1_lengthOfMonth (f_X1_monthIndex 0 q1.toInt64)).toInt64) (x := q2.toInt) (y := 1) rfl rfl (p_w L) with ⟨z1, z2, z3⟩ | ⟨z9, z3⟩
  rotate_left
  · clear i0 L M
    simp +decide only [k_X2_checkArgument, k_X2_checkOutcome, f_X2_isYear, f_X2_keepDate, s_X2_keepDate_d, k_X2_keepDate, f_X2_atYear, s_X2_atYear_d, k_X2_atYear, f_X3_isYear, f_X3_fails, s_X3_fails_co, f_X3_becomes_j1, f_X3_becomes, s_X3_becomes_co, s_X3_becomes_d, s_X3_becomes_yr, s_X3_becomes_mo, s_X3_becomes_dy, pre_X3_becomes, f_X3_atYear_j1, f_X3_atYear_j2, f_X3_atYear, s_X3_atYear_co, s_X3_atYear_d, s_X3_atYear_yr, s_X3_atYear_mo, s_X3_atYear_dy, pre_X3_atYear, f_L_atYear, s_L_atYear_d, s_L_atYear_ou, pre_L_atYear, pre_Lc9, reduceIte, updL_at, upd_at, ite_self, m_in_eq, m_unit_eq, false_implies, true_implies, implies_true, true_and, and_true, not_true_eq_false, not_false_eq_true, *]
  rcases v_in32 (a := q3) (b := -9999) (c := 9999) (x := q3.toInt) (y := -9999) (z := 9999) rfl rfl rfl with ⟨y1, y2, y3⟩ | ⟨y9, y3⟩
  rotate_left
  · skip
    clear i0 L M
    simp +decide only [k_X2_checkArgument, k_X2_checkOutcome, f_X2_isYear, f_X2_keepDate, s_X2_keepDate_d, k_X2_keepDate, f_X2_atYear, s_X2_atYear_d, k_X2_atYear, f_X3_isYear, f_X3_fails, s_X3_fails_co, f_X3_becomes_j1, f_X3_becomes, s_X3_becomes_co, s_X3_becomes_d, s_X3_becomes_yr, s_X3_becomes_mo, s_X3_becomes_dy, pre_X3_becomes, f_X3_atYear_j1, f_X3_atYear_j2, f_X3_atYear, s_X3_atYear_co, s_X3_atYear_d, s_X3_atYear_yr, s_X3_atYear_mo, s_X3_atYear_dy, pre_X3_atYear, f_L_atYear, s_L_atYear_d, s_L_atYear_ou, pre_L_atYear, pre_Lc9, reduceIte, updL_at, upd_at, ite_self, m_in_eq, m_unit_eq, false_implies, true_implies, implies_true, true_and, and_true, not_true_eq_false, not_false_eq_true, *]
  have i1 := v_idx (p_w (rfl : q3.toInt = _)) (p_w (rfl : q1.toInt = _)) (by omega) (by omega) (by omega) (by omega)
  have N := m_nl (p_w (rfl : q3.toInt = _)) (rfl : q1.toInt = _) (rfl : q2.toInt = _) (by omega) (by omega) m1 m2
  have G := v_dol i1 (p_w (rfl : q2.toInt = _)) (by omega) (by omega) (by omega) (by omega)
  have e2 := p_ext N G
  have dl := iDL_r2 (i := 12 * q3.toInt + q1.toInt - 1) (q := q2.toInt) (by omega) (by omega) z1
  have R : -4371587 ≤ (f_X1_dayOrLast (f_X1_monthIndex q3.toInt64 q1.toInt64) q2.toInt64).toInt ∧ (f_X1_dayOrLast (f_X1_monthIndex q3.toInt64 q1.toInt64) q2.toInt64).toInt ≤ 2932896 := by rw [G]; exact (iM_y (iDL_in z1)).mp (by omega)
  obtain ⟨k1, k4, k5⟩ := v_dayR (rfl : (f_X1_dayOrLast (f_X1_monthIndex q3.toInt64 q1.toInt64) q2.toInt64).toInt = _) R.1 R.2
  have J : iInv (vp_updL d q4.toNatClampNeg (f_X1_dayOrLast (f_X1_monthIndex q3.toInt64 q1.toInt64) q2.toInt64)) sy sm sd mi ti sL bL mD mT := ⟨iD_upd I.1 R.1 R.2, I.2⟩
  clear R N G i0 i1 L M dl
  simp +decide only [k_X2_checkArgument, k_X2_checkOutcome, f_X2_isYear, f_X2_keepDate, s_X2_keepDate_d, k_X2_keepDate, f_X2_atYear, s_X2_atYear_d, k_X2_atYear, f_X3_isYear, f_X3_fails, s_X3_fails_co, f_X3_becomes_j1, f_X3_becomes, s_X3_becomes_co, s_X3_becomes_d, s_X3_becomes_yr, s_X3_becomes_mo, s_X3_becomes_dy, pre_X3_becomes, f_X3_atYear_j1, f_X3_atYear_j2, f_X3_atYear, s_X3_atYear_co, s_X3_atYear_d, s_X3_atYear_yr, s_X3_atYear_mo, s_X3_atYear_dy, pre_X3_atYear, f_L_atYear, s_L_atYear_d, s_L_atYear_ou, pre_L_atYear, pre_Lc9, reduceIte, updL_at, upd_at, ite_self, m_in_eq, m_unit_eq, false_implies, true_implies, implies_true, true_and, and_true, not_true_eq_false, not_false_eq_true, *]
set_option maxHeartbeats 4000000 in
set_option maxRecDepth 100000 in
theorem i_c11 (d : Nat → Int64) (sy : Nat → Int32) (sm : Nat → Int32) (sd : Nat → Int32) (mi : Nat → Int32) (ti : Nat → Int64) (sL : Nat → Int64) (bL : Nat → Int64) (mD : Nat → Int64) (mT : Nat → Int64) (ou : Nat → Int64) (q1 q2 q3 q4 q5 : Int32) (I : iInv d sy sm sd mi ti sL bL mD mT) : pre_Lc11 d ou q1 q2 q3 := by
  unfold pre_Lc11
  generalize (q3.toUInt32 % 65536).toInt32 = u
  rcases v_s6 q1 with ⟨a1, a2, a3, a4, a5⟩ | ⟨a4, a5⟩
  rotate_left
  · simp +decide only [k_X2_checkArgument, k_X2_checkOutcome, f_X2_isYear, f_X2_between, k_X2_between, f_X3_isYear, f_X3_fails, s_X3_fails_co, f_X3_between_j1, f_X3_between, s_X3_between_co, s_X3_between_yr, s_X3_between_mo, s_X3_between_dy, pre_X3_between, f_L_between, s_L_between_ou, pre_L_between, pre_Lc11, reduceIte, updL_at, upd_at, ite_self, m_in_eq, m_unit_eq, false_implies, true_implies, implies_true, true_and, and_true, not_true_eq_false, not_false_eq_true, *]
  rcases v_s6 q2 with ⟨b1, b2, b3, b4, b5⟩ | ⟨b4, b5⟩
  rotate_left
  · simp +decide only [k_X2_checkArgument, k_X2_checkOutcome, f_X2_isYear, f_X2_between, k_X2_between, f_X3_isYear, f_X3_fails, s_X3_fails_co, f_X3_between_j1, f_X3_between, s_X3_between_co, s_X3_between_yr, s_X3_between_mo, s_X3_between_dy, pre_X3_between, f_L_between, s_L_between_ou, pre_L_between, pre_Lc11, reduceIte, updL_at, upd_at, ite_self, m_in_eq, m_unit_eq, false_implies, true_implies, implies_true, true_and, and_true, not_true_eq_false, not_false_eq_true, *]
  rcases v_u2 u with ⟨u1, u2⟩ | ⟨u2, u3, u4, u5, u6⟩
  rotate_left
  · simp +decide only [k_X2_checkArgument, k_X2_checkOutcome, f_X2_isYear, f_X2_between, k_X2_between, f_X3_isYear, f_X3_fails, s_X3_fails_co, f_X3_between_j1, f_X3_between, s_X3_between_co, s_X3_between_yr, s_X3_between_mo, s_X3_between_dy, pre_X3_between, f_L_between, s_L_between_ou, pre_L_between, pre_Lc11, reduceIte, updL_at, upd_at, ite_self, m_in_eq, m_unit_eq, false_implies, true_implies, implies_true, true_and, and_true, not_true_eq_false, not_false_eq_true, *]
  have A := iD_at I.1 a1
  have B := iD_at I.1 b1
  obtain ⟨i, hi, _, _⟩ := dt_m A.1 A.2
  obtain ⟨j, hj, _, _⟩ := dt_m B.1 B.2
  have e1 := p_ext (m_mf (rfl : (d q1.toNatClampNeg).toInt = _) (rfl : (d q2.toNatClampNeg).toInt = _) (by omega) (by omega) (by omega) (by omega) hi hj) (v_wm (rfl : (d q1.toNatClampNeg).toInt = _) (rfl : (d q2.toNatClampNeg).toInt = _) (by omega) (by omega) (by omega) (by omega) hi hj)
  have e2 := m_pmf (rfl : (d q1.toNatClampNeg).toInt = _) (rfl : (d q2.toNatClampNeg).toInt = _) (by omega) (by omega) (by omega) (by omega)
  clear hi hj
  rcases u1 with h | h | h | h
  all_goals (subst h; simp +decide only [k_X2_checkArgument, k_X2_checkOutcome, f_X2_isYear, f_X2_between, k_X2_between, f_X3_isYear, f_X3_fails, s_X3_fails_co, f_X3_between_j1, f_X3_between, s_X3_between_co, s_X3_between_yr, s_X3_between_mo, s_X3_between_dy, pre_X3_between, f_L_between, s_L_between_ou, pre_L_between, pre_Lc11, reduceIte, updL_at, upd_at, ite_self, m_in_eq, m_unit_eq, false_implies, true_implies, implies_true, true_and, and_true, not_true_eq_false, not_false_eq_true, *])
end ZPK
