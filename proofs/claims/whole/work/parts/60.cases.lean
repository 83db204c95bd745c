section ZPK
set_option maxHeartbeats 4000000 in
set_option maxRecDepth 100000 in
theorem i_c2 (d : Nat → Int64) (sy : Nat → Int32) (sm : Nat → Int32) (sd : Nat → Int32) (mi : Nat → Int32) (ti : Nat → Int64) (sL : Nat → Int64) (bL : Nat → Int64) (mD : Nat → Int64) (mT : Nat → Int64) (ou : Nat → Int64) (q1 q2 q3 q4 q5 : Int32) (I : iInv d sy sm sd mi ti sL bL mD mT) : pre_Lc2 d ou q1 := by
  rcases v_s6 q1 with ⟨a1, a2, a3, a4, a5⟩ | ⟨a4, a5⟩
  rotate_left
  · simp +decide only [k_X2_checkArgument, k_X2_checkOutcome, f_X2_isYear, f_X2_day, k_X2_day, f_X3_isYear, f_X3_fails, s_X3_fails_co, f_X3_day_j1, f_X3_day, s_X3_day_co, f_L_day, s_L_day_ou, pre_L_day, pre_Lc2, updL_at, upd_at, ite_self, m_in_eq, m_unit_eq, false_implies, true_implies, implies_true, true_and, and_true, not_true_eq_false, not_false_eq_true, *]
  simp +decide only [k_X2_checkArgument, k_X2_checkOutcome, f_X2_isYear, f_X2_day, k_X2_day, f_X3_isYear, f_X3_fails, s_X3_fails_co, f_X3_day_j1, f_X3_day, s_X3_day_co, f_L_day, s_L_day_ou, pre_L_day, pre_Lc2, updL_at, upd_at, ite_self, m_in_eq, m_unit_eq, false_implies, true_implies, implies_true, true_and, and_true, not_true_eq_false, not_false_eq_true, *]
set_option maxHeartbeats 4000000 in
set_option maxRecDepth 100000 in
theorem i_c4 (d : Nat → Int64) (sy : Nat → Int32) (sm : Nat → Int32) (sd : Nat → Int32) (mi : Nat → Int32) (ti : Nat → Int64) (sL : Nat → Int64) (bL : Nat → Int64) (mD : Nat → Int64) (mT : Nat → Int64) (ou : Nat → Int64) (q1 q2 q3 q4 q5 : Int32) (I : iInv d sy sm sd mi ti sL bL mD mT) : pre_Lc4 d ou q1 q2 q3 q4 ∧ (s_X3_move_d d q1 ((q2.toUInt32 % 65536).toInt32) q3 q4) = (s_L_move_d d q1 ((q2.toUInt32 % 65536).toInt32) q3 q4) ∧ iInv (s_L_move_d d q1 ((q2.toUInt32 % 65536).toInt32) q3 q4) sy sm sd mi ti sL bL mD mT := by
  unfold pre_Lc4
  generalize (q2.toUInt32 % 65536).toInt32 = u
  rcases v_s6 q1 with ⟨a1, a2, a3, a4, a5⟩ | ⟨a4, a5⟩
  rotate_left
  · simp +decide only [k_X2_checkArgument, k_X2_checkOutcome, f_X2_isYear, f_X2_keepDate, s_X2_keepDate_d, k_X2_keepDate, f_X2_move, s_X2_move_d, k_X2_move, f_X3_isYear, f_X3_fails, s_X3_fails_co, f_X3_becomes_j1, f_X3_becomes, s_X3_becomes_co, s_X3_becomes_d, s_X3_becomes_yr, s_X3_becomes_mo, s_X3_becomes_dy, pre_X3_becomes, f_X3_move_j1, f_X3_move, s_X3_move_co, s_X3_move_d, s_X3_move_yr, s_X3_move_mo, s_X3_move_dy, pre_X3_move, f_L_move, s_L_move_d, s_L_move_ou, pre_Lc4, updL_at, upd_at, ite_self, m_in_eq, m_unit_eq, false_implies, true_implies, implies_true, true_and, and_true, not_true_eq_false, not_false_eq_true, *]
  rcases v_s6 q4 with ⟨b1, b2, b3, b4, b5⟩ | ⟨b4, b5⟩
  rotate_left
  · simp +decide only [k_X2_checkArgument, k_X2_checkOutcome, f_X2_isYear, f_X2_keepDate, s_X2_keepDate_d, k_X2_keepDate, f_X2_move, s_X2_move_d, k_X2_move, f_X3_isYear, f_X3_fails, s_X3_fails_co, f_X3_becomes_j1, f_X3_becomes, s_X3_becomes_co, s_X3_becomes_d, s_X3_becomes_yr, s_X3_becomes_mo, s_X3_becomes_dy, pre_X3_becomes, f_X3_move_j1, f_X3_move, s_X3_move_co, s_X3_move_d, s_X3_move_yr, s_X3_move_mo, s_X3_move_dy, pre_X3_move, f_L_move, s_L_move_d, s_L_move_ou, pre_Lc4, updL_at, upd_at, ite_self, m_in_eq, m_unit_eq, false_implies, true_implies, implies_true, true_and, and_true, not_true_eq_false, not_false_eq_true, *]
  rcases v_u u with ⟨u1, u2⟩ | u2
  rotate_left
  · simp +decide only [k_X2_checkArgument, k_X2_checkOutcome, f_X2_isYear, f_X2_keepDate, s_X2_keepDate_d, k_X2_keepDate, f_X2_move, s_X2_move_d, k_X2_move, f_X3_isYear, f_X3_fails, s_X3_fails_co, f_X3_becomes_j1, f_X3_becomes, s_X3_becomes_co, s_X3_becomes_d, s_X3_becomes_yr, s_X3_becomes_mo, s_X3_becomes_dy, pre_X3_becomes, f_X3_move_j1, f_X3_move, s_X3_move_co, s_X3_move_d, s_X3_move_yr, s_X3_move_mo, s_X3_move_dy, pre_X3_move, f_L_move, s_L_move_d, s_L_move_ou, pre_Lc4, updL_at, upd_at, ite_self, m_in_eq, m_unit_eq, false_implies, true_implies, implies_true, true_and, and_true, not_true_eq_false, not_false_eq_true, *]
  rcases v_in32 (a := q3) (b := -1000000) (c := 1000000) (x := q3.toInt) (y := -1000000) (z := 1000000) rfl rfl rfl with ⟨c1, c2, c3⟩ | ⟨c9, c3⟩
  rotate_left
  · simp +decide only [k_X2_checkArgument, k_X2_checkOutcome, f_X2_isYear, f_X2_keepDate, s_X2_keepDate_d, k_X2_keepDate, f_X2_move, s_X2_move_d, k_X2_move, f_X3_isYear, f_X3_fails, s_X3_fails_co, f_X3_becomes_j1, f_X3_becomes, s_X3_becomes_co, s_X3_becomes_d, s_X3_becomes_yr, s_X3_becomes_mo, s_X3_becomes_dy, pre_X3_becomes, f_X3_move_j1, f_X3_move, s_X3_move_co, s_X3_move_d, s_X3_move_yr, s_X3_move_mo, s_X3_move_dy, pre_X3_move, f_L_move, s_L_move_d, s_L_move_ou, pre_Lc4, updL_at, upd_at, ite_self, m_in_eq, m_unit_eq, false_implies, true_implies, implies_true, true_and, and_true, not_true_eq_false, not_false_eq_true, *]
  have r := iD_at I.1 a1
  obtain ⟨m1, m2, m3, m4⟩ := mv_eq u r.1 r.2 (p_w (rfl : q3.toInt = _)) c1 c2 u1
  obtain ⟨k1, ⟨k2, k3, k4, k5⟩ | ⟨k4, k5⟩⟩ := v_day (rfl : (f_X1_moved (d q1.toNatClampNeg) u q3.toInt64).toInt = _) m3 m4
  · have J : iInv (vp_updL d q4.toNatClampNeg (f_X1_moved (d q1.toNatClampNeg) u q3.toInt64)) sy sm sd mi ti sL bL mD mT := ⟨iD_upd I.1 k2 k3, I.2⟩
    simp +decide only [k_X2_checkArgument, k_X2_checkOutcome, f_X2_isYear, f_X2_keepDate, s_X2_keepDate_d, k_X2_keepDate, f_X2_move, s_X2_move_d, k_X2_move, f_X3_isYear, f_X3_fails, s_X3_fails_co, f_X3_becomes_j1, f_X3_becomes, s_X3_becomes_co, s_X3_becomes_d, s_X3_becomes_yr, s_X3_becomes_mo, s_X3_becomes_dy, pre_X3_becomes, f_X3_move_j1, f_X3_move, s_X3_move_co, s_X3_move_d, s_X3_move_yr, s_X3_move_mo, s_X3_move_dy, pre_X3_move, f_L_move, s_L_move_d, s_L_move_ou, pre_Lc4, updL_at, upd_at, ite_self, m_in_eq, m_unit_eq, false_implies, true_implies, implies_true, true_and, and_true, not_true_eq_false, not_false_eq_true, *]
  · simp +decide only [k_X2_checkArgument, k_X2_checkOutcome, f_X2_isYear, f_X2_keepDate, s_X2_keepDate_d, k_X2_keepDate, f_X2_move, s_X2_move_d, k_X2_move, f_X3_isYear, f_X3_fails, s_X3_fails_co, f_X3_becomes_j1, f_X3_becomes, s_X3_becomes_co, s_X3_becomes_d, s_X3_becomes_yr, s_X3_becomes_mo, s_X3_becomes_dy, pre_X3_becomes, f_X3_move_j1, f_X3_move, s_X3_move_co, s_X3_move_d, s_X3_move_yr, s_X3_move_mo, s_X3_move_dy, pre_X3_move, f_L_move, s_L_move_d, s_L_move_ou, pre_Lc4, updL_at, upd_at, ite_self, m_in_eq, m_unit_eq, false_implies, true_implies, implies_true, true_and, and_true, not_true_eq_false, not_false_eq_true, *]
set_option maxHeartbeats 4000000 in
set_option maxRecDepth 100000 in
theorem i_c10 (d : Nat → Int64) (sy : Nat → Int32) (sm : Nat → Int32) (sd : Nat → Int32) (mi : Nat → Int32) (ti : Nat → Int64) (sL : Nat → Int64) (bL : Nat → Int64) (mD : Nat → Int64) (mT : Nat → Int64) (ou : Nat → Int64) (q1 q2 q3 q4 q5 : Int32) (I : iInv d sy sm sd mi ti sL bL mD mT) : pre_Lc10 d ou q1 q2 := by
  rcases v_s6 q1 with ⟨a1, a2, a3, a4, a5⟩ | ⟨a4, a5⟩
  rotate_left
  · simp +decide only [k_X2_checkArgument, k_X2_checkOutcome, f_X2_isYear, f_X2_order, k_X2_order, f_X3_isYear, f_X3_fails, s_X3_fails_co, f_X3_order_j1, f_X3_order, s_X3_order_co, f_L_order, s_L_order_ou, pre_L_order, pre_Lc10, updL_at, upd_at, ite_self, m_in_eq, m_unit_eq, false_implies, true_implies, implies_true, true_and, and_true, not_true_eq_false, not_false_eq_true, *]
  rcases v_s6 q2 with ⟨b1, b2, b3, b4, b5⟩ | ⟨b4, b5⟩
  rotate_left
  · simp +decide only [k_X2_checkArgument, k_X2_checkOutcome, f_X2_isYear, f_X2_order, k_X2_order, f_X3_isYear, f_X3_fails, s_X3_fails_co, f_X3_order_j1, f_X3_order, s_X3_order_co, f_L_order, s_L_order_ou, pre_L_order, pre_Lc10, updL_at, upd_at, ite_self, m_in_eq, m_unit_eq, false_implies, true_implies, implies_true, true_and, and_true, not_true_eq_false, not_false_eq_true, *]
  have e := v_sgn (d q1.toNatClampNeg) (d q2.toNatClampNeg)
  simp +decide only [k_X2_checkArgument, k_X2_checkOutcome, f_X2_isYear, f_X2_order, k_X2_order, f_X3_isYear, f_X3_fails, s_X3_fails_co, f_X3_order_j1, f_X3_order, s_X3_order_co, f_L_order, s_L_order_ou, pre_L_order, pre_Lc10, updL_at, upd_at, ite_self, m_in_eq, m_unit_eq, false_implies, true_implies, implies_true, true_and, and_true, not_true_eq_false, not_false_eq_true, *]
end ZPK
