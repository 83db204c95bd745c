section ZPK
set_option maxHeartbeats 4000000 in
set_option maxRecDepth 100000 in
theorem i_c0 (d : Nat → Int64) (sy : Nat → Int32) (sm : Nat → Int32) (sd : Nat → Int32) (mi : Nat → Int32) (ti : Nat → Int64) (sL : Nat → Int64) (bL : Nat → Int64) (mD : Nat → Int64) (mT : Nat → Int64) (ou : Nat → Int64) (q1 q2 q3 q4 q5 : Int32) (I : iInv d sy sm sd mi ti sL bL mD mT) : pre_Lc0 d ou q1 q2 q3 q4 ∧ (s_X3_date_d d q1 q2 q3 q4) = (s_L_date_d d q1 q2 q3 q4) ∧ iInv (s_L_date_d d q1 q2 q3 q4) sy sm sd mi ti sL bL mD mT := by
  rcases v_s6 q1 with ⟨a1, a2, a3, a4, a5⟩ | ⟨a4, a5⟩
  rotate_left
  · simp +decide only [k_X2_checkArgument, k_X2_checkOutcome, f_X2_isYear, f_X2_keepDate, s_X2_keepDate_d, k_X2_keepDate, f_X2_date, s_X2_date_d, k_X2_date, f_X3_isYear, f_X3_fails, s_X3_fails_co, f_X3_date_j1, f_X3_date, s_X3_date_co, s_X3_date_d, pre_X3_date, f_L_date, s_L_date_d, s_L_date_ou, pre_L_date, pre_Lc0, reduceIte, updL_at, upd_at, ite_self, m_in_eq, m_unit_eq, false_implies, true_implies, implies_true, true_and, and_true, not_true_eq_false, not_false_eq_true, *]
  rcases v_in32 (a := q2) (b := -9999) (c := 9999) (x := q2.toInt) (y := -9999) (z := 9999) rfl rfl rfl with ⟨y1, y2, y3⟩ | ⟨y9, y3⟩
  rotate_left
  · simp +decide only [k_X2_checkArgument, k_X2_checkOutcome, f_X2_isYear, f_X2_keepDate, s_X2_keepDate_d, k_X2_keepDate, f_X2_date, s_X2_date_d, k_X2_date, f_X3_isYear, f_X3_fails, s_X3_fails_co, f_X3_date_j1, f_X3_date, s_X3_date_co, s_X3_date_d, pre_X3_date, f_L_date, s_L_date_d, s_L_date_ou, pre_L_date, pre_Lc0, reduceIte, updL_at, upd_at, ite_self, m_in_eq, m_unit_eq, false_implies, true_implies, implies_true, true_and, and_true, not_true_eq_false, not_false_eq_true, *]
  rcases v_in32 (a := q3) (b := 1) (c := 12) (x := q3.toInt) (y := 1) (z := 12) rfl rfl rfl with ⟨m1, m2, m3⟩ | ⟨m9, m3⟩
  rotate_left
  · simp +decide only [k_X2_checkArgument, k_X2_checkOutcome, f_X2_isYear, f_X2_keepDate, s_X2_keepDate_d, k_X2_keepDate, f_X2_date, s_X2_date_d, k_X2_date, f_X3_isYear, f_X3_fails, s_X3_fails_co, f_X3_date_j1, f_X3_date, s_X3_date_co, s_X3_date_d, pre_X3_date, f_L_date, s_L_date_d, s_L_date_ou, pre_L_date, pre_Lc0, reduceIte, updL_at, upd_at, ite_self, m_in_eq, m_unit_eq, false_implies, true_implies, implies_true, true_and, and_true, not_true_eq_false, not_false_eq_true, *]
  have i0 := v_idx (p_w (rfl : q2.toInt = _)) (p_w (rfl : q3.toInt = _)) (by omega) (by omega) (by omega) (by omega)
  have L := v_lom i0
  rw [show (12 * q2.toInt + q3.toInt - 1) / 12 = q2.toInt by omega, show (12 * q2.toInt + q3.toInt - 1) % 12 + 1 = q3.toInt by omega] at L
  have M := m_many (p_w (rfl : q2.toInt = _)) (rfl : q3.toInt = _) (by omega)
  have e1 := p_ext32 M L
  have lr := iML_r q2.toInt q3.toInt
  rcases v_in32 (a := q4) (b := 1) (c := (f_X1_lengthOfMonth (f_X1_monthIndex q2.toInt64 q3.toInt64)).toInt64) (x := q4.toInt) (y := 1) rfl rfl (p_w L) with ⟨z1, z2, z3⟩ | ⟨z9, z3⟩
  rotate_left
  · simp +decide only [k_X2_checkArgument, k_X2_checkOutcome, f_X2_isYear, f_X2_keepDate, s_X2_keepDate_d, k_X2_keepDate, f_X2_date, s_X2_date_d, k_X2_date, f_X3_isYear, f_X3_fails, s_X3_fails_co, f_X3_date_j1, f_X3_date, s_X3_date_co, s_X3_date_d, pre_X3_date, f_L_date, s_L_date_d, s_L_date_ou, pre_L_date, pre_Lc0, reduceIte, updL_at, upd_at, ite_self, m_in_eq, m_unit_eq, false_implies, true_implies, implies_true, true_and, and_true, not_true_eq_false, not_false_eq_true, *]
  have N := m_number (p_w (rfl : q2.toInt = _)) (rfl : q3.toInt = _) (rfl : q4.toInt = _) (by omega) (by omega) m1 m2
  have F := v_fom i0 (by omega) (by omega)
  rw [iFM_ym m1 m2] at F
  have yr := iFY_r (y := q2.toInt) (B := 9999) (by omega) (by omega) (by omega)
  have cr := iC_r (y := q2.toInt) m1 m2
  have G := p_sub (p_add F (p_w (rfl : q4.toInt = _)) (by omega) (by omega)) p_k1 (by omega) (by omega)
  have e2 := p_ext N G
  have hM := iM_ym (n := iFY q2.toInt + iC q2.toInt q3.toInt + q4.toInt - 1) (y := q2.toInt) (m := q3.toInt) m1 m2 (by omega) (by omega)
  have R := (iM_y hM).mp (by omega)
  have P : q3 ≤ 12 := (p_le32 (rfl : q3.toInt = _) p_w12).mpr m2
  obtain ⟨k1, ⟨k2, k3, k4, k5⟩ | ⟨k4, k5⟩⟩ := v_day G (by omega) (by omega)
  · have J : iInv (vp_updL d q1.toNatClampNeg (f_X1_firstOfMonth (f_X1_monthIndex q2.toInt64 q3.toInt64) + q4.toInt64 - 1)) sy sm sd mi ti sL bL mD mT := ⟨iD_upd I.1 (by rw [G]; exact k2) (by rw [G]; exact k3), I.2⟩
    clear hM R G F N L M i0 yr cr lr
    simp +decide only [k_X2_checkArgument, k_X2_checkOutcome, f_X2_isYear, f_X2_keepDate, s_X2_keepDate_d, k_X2_keepDate, f_X2_date, s_X2_date_d, k_X2_date, f_X3_isYear, f_X3_fails, s_X3_fails_co, f_X3_date_j1, f_X3_date, s_X3_date_co, s_X3_date_d, pre_X3_date, f_L_date, s_L_date_d, s_L_date_ou, pre_L_date, pre_Lc0, reduceIte, updL_at, upd_at, ite_self, m_in_eq, m_unit_eq, false_implies, true_implies, implies_true, true_and, and_true, not_true_eq_false, not_false_eq_true, *]
  · exfalso
    have := v_in G (show (-4371587 : Int64).toInt = -4371587 from rfl) (show (2932896 : Int64).toInt = 2932896 from rfl)
    have w : f_X1_isDay (f_X1_firstOfMonth (f_X1_monthIndex q2.toInt64 q3.toInt64) + q4.toInt64 - 1) = f_X2_isIn (f_X1_firstOfMonth (f_X1_monthIndex q2.toInt64 q3.toInt64) + q4.toInt64 - 1) (-4371587) 2932896 := rfl
    rw [← w, k4] at this
    rcases this with ⟨_, _, h⟩ | ⟨h, _⟩
    · exact absurd h (by decide)
    · exact h R
set_option maxHeartbeats 4000000 in
set_option maxRecDepth 100000 in
theorem i_c2 (d : Nat → Int64) (sy : Nat → Int32) (sm : Nat → Int32) (sd : Nat → Int32) (mi : Nat → Int32) (ti : Nat → Int64) (sL : Nat → Int64) (bL : Nat → Int64) (mD : Nat → Int64) (mT : Nat → Int64) (ou : Nat → Int64) (q1 q2 q3 q4 q5 : Int32) (I : iInv d sy sm sd mi ti sL bL mD mT) : pre_Lc2 d ou q1 := by
  rcases v_s6 q1 with ⟨a1, a2, a3, a4, a5⟩ | ⟨a4, a5⟩
  rotate_left
  · simp +decide only [k_X2_checkArgument, k_X2_checkOutcome, f_X2_isYear, f_X2_day, k_X2_day, f_X3_isYear, f_X3_fails, s_X3_fails_co, f_X3_day_j1, f_X3_day, s_X3_day_co, f_L_day, s_L_day_ou, pre_L_day, pre_Lc2, reduceIte, updL_at, upd_at, ite_self, m_in_eq, m_unit_eq, false_implies, true_implies, implies_true, true_and, and_true, not_true_eq_false, not_false_eq_true, *]
  simp +decide only [k_X2_checkArgument, k_X2_checkOutcome, f_X2_isYear, f_X2_day, k_X2_day, f_X3_isYear, f_X3_fails, s_X3_fails_co, f_X3_day_j1, f_X3_day, s_X3_day_co, f_L_day, s_L_day_ou, pre_L_day, pre_Lc2, reduceIte, updL_at, upd_at, ite_self, m_in_eq, m_unit_eq, false_implies, true_implies, implies_true, true_and, and_true, not_true_eq_false, not_false_eq_true, *]
set_option maxHeartbeats 4000000 in
set_option maxRecDepth 100000 in
theorem i_c4 (d : Nat → Int64) (sy : Nat → Int32) (sm : Nat → Int32) (sd : Nat → Int32) (mi : Nat → Int32) (ti : Nat → Int64) (sL : Nat → Int64) (bL : Nat → Int64) (mD : Nat → Int64) (mT : Nat → Int64) (ou : Nat → Int64) (q1 q2 q3 q4 q5 : Int32) (I : iInv d sy sm sd mi ti sL bL mD mT) : pre_Lc4 d ou q1 q2 q3 q4 ∧ (s_X3_move_d d q1 ((q2.toUInt32 % 65536).toInt32) q3 q4) = (s_L_move_d d q1 ((q2.toUInt32 % 65536).toInt32) q3 q4) ∧ iInv (s_L_move_d d q1 ((q2.toUInt32 % 65536).toInt32) q3 q4) sy sm sd mi ti sL bL mD mT := by
  unfold pre_Lc4
  generalize (q2.toUInt32 % 65536).toInt32 = u
  rcases v_s6 q1 with ⟨a1, a2, a3, a4, a5⟩ | ⟨a4, a5⟩
  rotate_left
  · simp +decide only [k_X2_checkArgument, k_X2_checkOutcome, f_X2_isYear, f_X2_keepDate, s_X2_keepDate_d, k_X2_keepDate, f_X2_move, s_X2_move_d, k_X2_move, f_X3_isYear, f_X3_fails, s_X3_fails_co, f_X3_becomes_j1, f_X3_becomes, s_X3_becomes_co, s_X3_becomes_d, s_X3_becomes_yr, s_X3_becomes_mo, s_X3_becomes_dy, pre_X3_becomes, f_X3_move_j1, f_X3_move, s_X3_move_co, s_X3_move_d, s_X3_move_yr, s_X3_move_mo, s_X3_move_dy, pre_X3_move, f_L_move, s_L_move_d, s_L_move_ou, pre_Lc4, reduceIte, updL_at, upd_at, ite_self, m_in_eq, m_unit_eq, false_implies, true_implies, implies_true, true_and, and_true, not_true_eq_false, not_false_eq_true, *]
  rcases v_s6 q4 with ⟨b1, b2, b3, b4, b5⟩ | ⟨b4, b5⟩
  rotate_left
  · simp +decide only [k_X2_checkArgument, k_X2_checkOutcome, f_X2_isYear, f_X2_keepDate, s_X2_keepDate_d, k_X2_keepDate, f_X2_move, s_X2_move_d, k_X2_move, f_X3_isYear, f_X3_fails, s_X3_fails_co, f_X3_becomes_j1, f_X3_becomes, s_X3_becomes_co, s_X3_becomes_d, s_X3_becomes_yr, s_X3_becomes_mo, s_X3_becomes_dy, pre_X3_becomes, f_X3_move_j1, f_X3_move, s_X3_move_co, s_X3_move_d, s_X3_move_yr, s_X3_move_mo, s_X3_move_dy, pre_X3_move, f_L_move, s_L_move_d, s_L_move_ou, pre_Lc4, reduceIte, updL_at, upd_at, ite_self, m_in_eq, m_unit_eq, false_implies, true_implies, implies_true, true_and, and_true, not_true_eq_false, not_false_eq_true, *]
  rcases v_u u with ⟨u1, u2⟩ | u2
  rotate_left
  · simp +decide only [k_X2_checkArgument, k_X2_checkOutcome, f_X2_isYear, f_X2_keepDate, s_X2_keepDate_d, k_X2_keepDate, f_X2_move, s_X2_move_d, k_X2_move, f_X3_isYear, f_X3_fails, s_X3_fails_co, f_X3_becomes_j1, f_X3_becomes, s_X3_becomes_co, s_X3_becomes_d, s_X3_becomes_yr, s_X3_becomes_mo, s_X3_becomes_dy, pre_X3_becomes, f_X3_move_j1, f_X3_move, s_X3_move_co, s_X3_move_d, s_X3_move_yr, s_X3_move_mo, s_X3_move_dy, pre_X3_move, f_L_move, s_L_move_d, s_L_move_ou, pre_Lc4, reduceIte, updL_at, upd_at, ite_self, m_in_eq, m_unit_eq, false_implies, true_implies, implies_true, true_and, and_true, not_true_eq_false, not_false_eq_true, *]
  rcases v_in32 (a := q3) (b := -1000000) (c := 1000000) (x := q3.toInt) (y := -1000000) (z := 1000000) rfl rfl rfl with ⟨c1, c2, c3⟩ | ⟨c9, c3⟩
  rotate_left
  · simp +decide only [k_X2_checkArgument, k_X2_checkOutcome, f_X2_isYear, f_X2_keepDate, s_X2_keepDate_d, k_X2_keepDate, f_X2_move, s_X2_move_d, k_X2_move, f_X3_isYear, f_X3_fails, s_X3_fails_co, f_X3_becomes_j1, f_X3_becomes, s_X3_becomes_co, s_X3_becomes_d, s_X3_becomes_yr, s_X3_becomes_mo, s_X3_becomes_dy, pre_X3_becomes, f_X3_move_j1, f_X3_move, s_X3_move_co, s_X3_move_d, s_X3_move_yr, s_X3_move_mo, s_X3_move_dy, pre_X3_move, f_L_move, s_L_move_d, s_L_move_ou, pre_Lc4, reduceIte, updL_at, upd_at, ite_self, m_in_eq, m_unit_eq, false_implies, true_implies, implies_true, true_and, and_true, not_true_eq_false, not_false_eq_true, *]
  have r := iD_at I.1 a1
  obtain ⟨m1, m2, m3, m4⟩ := mv_eq u r.1 r.2 (p_w (rfl : q3.toInt = _)) c1 c2 u1
  obtain ⟨k1, ⟨k2, k3, k4, k5⟩ | ⟨k4, k5⟩⟩ := v_day (rfl : (f_X1_moved (d q1.toNatClampNeg) u q3.toInt64).toInt = _) m3 m4
  · have J : iInv (vp_updL d q4.toNatClampNeg (f_X1_moved (d q1.toNatClampNeg) u q3.toInt64)) sy sm sd mi ti sL bL mD mT := ⟨iD_upd I.1 k2 k3, I.2⟩
    simp +decide only [k_X2_checkArgument, k_X2_checkOutcome, f_X2_isYear, f_X2_keepDate, s_X2_keepDate_d, k_X2_keepDate, f_X2_move, s_X2_move_d, k_X2_move, f_X3_isYear, f_X3_fails, s_X3_fails_co, f_X3_becomes_j1, f_X3_becomes, s_X3_becomes_co, s_X3_becomes_d, s_X3_becomes_yr, s_X3_becomes_mo, s_X3_becomes_dy, pre_X3_becomes, f_X3_move_j1, f_X3_move, s_X3_move_co, s_X3_move_d, s_X3_move_yr, s_X3_move_mo, s_X3_move_dy, pre_X3_move, f_L_move, s_L_move_d, s_L_move_ou, pre_Lc4, reduceIte, updL_at, upd_at, ite_self, m_in_eq, m_unit_eq, false_implies, true_implies, implies_true, true_and, and_true, not_true_eq_false, not_false_eq_true, *]
  · simp +decide only [k_X2_checkArgument, k_X2_checkOutcome, f_X2_isYear, f_X2_keepDate, s_X2_keepDate_d, k_X2_keepDate, f_X2_move, s_X2_move_d, k_X2_move, f_X3_isYear, f_X3_fails, s_X3_fails_co, f_X3_becomes_j1, f_X3_becomes, s_X3_becomes_co, s_X3_becomes_d, s_X3_becomes_yr, s_X3_becomes_mo, s_X3_becomes_dy, pre_X3_becomes, f_X3_move_j1, f_X3_move, s_X3_move_co, s_X3_move_d, s_X3_move_yr, s_X3_move_mo, s_X3_move_dy, pre_X3_move, f_L_move, s_L_move_d, s_L_move_ou, pre_Lc4, reduceIte, updL_at, upd_at, ite_self, m_in_eq, m_unit_eq, false_implies, true_implies, implies_true, true_and, and_true, not_true_eq_false, not_false_eq_true, *]
set_option maxHeartbeats 4000000 in
set_option maxRecDepth 100000 in
theorem i_c10 (d : Nat → Int64) (sy : Nat → Int32) (sm : Nat → Int32) (sd : Nat → Int32) (mi : Nat → Int32) (ti : Nat → Int64) (sL : Nat → Int64) (bL : Nat → Int64) (mD : Nat → Int64) (mT : Nat → Int64) (ou : Nat → Int64) (q1 q2 q3 q4 q5 : Int32) (I : iInv d sy sm sd mi ti sL bL mD mT) : pre_Lc10 d ou q1 q2 := by
  rcases v_s6 q1 with ⟨a1, a2, a3, a4, a5⟩ | ⟨a4, a5⟩
  rotate_left
  · simp +decide only [k_X2_checkArgument, k_X2_checkOutcome, f_X2_isYear, f_X2_order, k_X2_order, f_X3_isYear, f_X3_fails, s_X3_fails_co, f_X3_order_j1, f_X3_order, s_X3_order_co, f_L_order, s_L_order_ou, pre_L_order, pre_Lc10, reduceIte, updL_at, upd_at, ite_self, m_in_eq, m_unit_eq, false_implies, true_implies, implies_true, true_and, and_true, not_true_eq_false, not_false_eq_true, *]
  rcases v_s6 q2 with ⟨b1, b2, b3, b4, b5⟩ | ⟨b4, b5⟩
  rotate_left
  · simp +decide only [k_X2_checkArgument, k_X2_checkOutcome, f_X2_isYear, f_X2_order, k_X2_order, f_X3_isYear, f_X3_fails, s_X3_fails_co, f_X3_order_j1, f_X3_order, s_X3_order_co, f_L_order, s_L_order_ou, pre_L_order, pre_Lc10, reduceIte, updL_at, upd_at, ite_self, m_in_eq, m_unit_eq, false_implies, true_implies, implies_true, true_and, and_true, not_true_eq_false, not_false_eq_true, *]
  have e := v_sgn (d q1.toNatClampNeg) (d q2.toNatClampNeg)
  simp +decide only [k_X2_checkArgument, k_X2_checkOutcome, f_X2_isYear, f_X2_order, k_X2_order, f_X3_isYear, f_X3_fails, s_X3_fails_co, f_X3_order_j1, f_X3_order, s_X3_order_co, f_L_order, s_L_order_ou, pre_L_order, pre_Lc10, reduceIte, updL_at, upd_at, ite_self, m_in_eq, m_unit_eq, false_implies, true_implies, implies_true, true_and, and_true, not_true_eq_false, not_false_eq_true, *]
end ZPK
