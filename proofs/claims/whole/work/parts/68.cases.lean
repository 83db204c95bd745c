section ZPK
set_option maxHeartbeats 4000000 in
set_option maxRecDepth 100000 in
theorem i_c29 (d : Nat → Int64) (sy : Nat → Int32) (sm : Nat → Int32) (sd : Nat → Int32) (mi : Nat → Int32) (ti : Nat → Int64) (sL : Nat → Int64) (bL : Nat → Int64) (mD : Nat → Int64) (mT : Nat → Int64) (ou : Nat → Int64) (q1 q2 q3 q4 q5 : Int32) (I : iInv d sy sm sd mi ti sL bL mD mT) : pre_Lc29 ti sL bL ou q1 q2 q3 q4 ∧ (s_X3_goTime_ti ti sL bL q1 q2 (f_Lc29_j1 q3) q4) = (s_L_goTime_ti ti sL bL q1 q2 (f_Lc29_j1 q3) q4) ∧ iInv d sy sm sd mi (s_L_goTime_ti ti sL bL q1 q2 (f_Lc29_j1 q3) q4) sL bL mD mT := by
  unfold pre_Lc29
  rcases v_s4 q1 with ⟨a1, a2, a3, a4, a5⟩ | ⟨a4, a5⟩
  rotate_left
  · simp +decide only [k_X2_checkArgument, k_X2_checkOutcome, f_X2_isYear, f_X2_goTime_j1, f_X2_goTime, s_X2_goTime_ti, k_X2_goTime, f_X3_isYear, f_X3_fails, s_X3_fails_co, f_X3_goTime_j1, f_X3_goTime_j2, f_X3_goTime, s_X3_goTime_co, s_X3_goTime_ti, pre_X3_goTime, f_L_goTime, s_L_goTime_ti, s_L_goTime_ou, pre_L_goTime, f_Lc29_j1, pre_Lc29, reduceIte, updL_at, upd_at, ite_self, m_in_eq, m_unit_eq, false_implies, true_implies, implies_true, true_and, and_true, not_true_eq_false, not_false_eq_true, *]
  rcases v_s4 q2 with ⟨b1, b2, b3, b4, b5⟩ | ⟨b4, b5⟩
  rotate_left
  · simp +decide only [k_X2_checkArgument, k_X2_checkOutcome, f_X2_isYear, f_X2_goTime_j1, f_X2_goTime, s_X2_goTime_ti, k_X2_goTime, f_X3_isYear, f_X3_fails, s_X3_fails_co, f_X3_goTime_j1, f_X3_goTime_j2, f_X3_goTime, s_X3_goTime_co, s_X3_goTime_ti, pre_X3_goTime, f_L_goTime, s_L_goTime_ti, s_L_goTime_ou, pre_L_goTime, f_Lc29_j1, pre_Lc29, reduceIte, updL_at, upd_at, ite_self, m_in_eq, m_unit_eq, false_implies, true_implies, implies_true, true_and, and_true, not_true_eq_false, not_false_eq_true, *]
  rcases v_s4 q4 with ⟨c1, c2, c3, c4, c5⟩ | ⟨c4, c5⟩
  rotate_left
  · simp +decide only [k_X2_checkArgument, k_X2_checkOutcome, f_X2_isYear, f_X2_goTime_j1, f_X2_goTime, s_X2_goTime_ti, k_X2_goTime, f_X3_isYear, f_X3_fails, s_X3_fails_co, f_X3_goTime_j1, f_X3_goTime_j2, f_X3_goTime, s_X3_goTime_co, s_X3_goTime_ti, pre_X3_goTime, f_L_goTime, s_L_goTime_ti, s_L_goTime_ou, pre_L_goTime, f_Lc29_j1, pre_Lc29, reduceIte, updL_at, upd_at, ite_self, m_in_eq, m_unit_eq, false_implies, true_implies, implies_true, true_and, and_true, not_true_eq_false, not_false_eq_true, *]
  have T := iT_at I.2.2.2.2.2.1 a1
  obtain ⟨G1, G2, _⟩ := iG_at I.2.2.2.2.2.2.1 b1
  obtain ⟨p, e1, e2, e3⟩ := gt_p (x := sL q2.toNatClampNeg) (w := bL q2.toNatClampNeg) (t := ti q1.toNatClampNeg) G1.1 G1.2 G2.1 G2.2 T.1 T.2
  by_cases h : q3 = 0
  · skip
    have t0 := tm_rd (ti q1.toNatClampNeg + (f_X0_restOfDay (sL q2.toNatClampNeg) 86400 + bL q2.toNatClampNeg))
    have J := J_ti I q4.toNatClampNeg t0.1 t0.2
    clear t0
    simp +decide only [k_X2_checkArgument, k_X2_checkOutcome, f_X2_isYear, f_X2_goTime_j1, f_X2_goTime, s_X2_goTime_ti, k_X2_goTime, f_X3_isYear, f_X3_fails, s_X3_fails_co, f_X3_goTime_j1, f_X3_goTime_j2, f_X3_goTime, s_X3_goTime_co, s_X3_goTime_ti, pre_X3_goTime, f_L_goTime, s_L_goTime_ti, s_L_goTime_ou, pre_L_goTime, f_Lc29_j1, pre_Lc29, reduceIte, updL_at, upd_at, ite_self, m_in_eq, m_unit_eq, false_implies, true_implies, implies_true, true_and, and_true, not_true_eq_false, not_false_eq_true, *]
  · skip
    have t0 := tm_rd (ti q1.toNatClampNeg + -(f_X0_restOfDay (sL q2.toNatClampNeg) 86400 + bL q2.toNatClampNeg))
    have J := J_ti I q4.toNatClampNeg t0.1 t0.2
    clear t0
    simp +decide only [k_X2_checkArgument, k_X2_checkOutcome, f_X2_isYear, f_X2_goTime_j1, f_X2_goTime, s_X2_goTime_ti, k_X2_goTime, f_X3_isYear, f_X3_fails, s_X3_fails_co, f_X3_goTime_j1, f_X3_goTime_j2, f_X3_goTime, s_X3_goTime_co, s_X3_goTime_ti, pre_X3_goTime, f_L_goTime, s_L_goTime_ti, s_L_goTime_ou, pre_L_goTime, f_Lc29_j1, pre_Lc29, reduceIte, updL_at, upd_at, ite_self, m_in_eq, m_unit_eq, false_implies, true_implies, implies_true, true_and, and_true, not_true_eq_false, not_false_eq_true, *]
set_option maxHeartbeats 4000000 in
set_option maxRecDepth 100000 in
theorem i_c37 (d : Nat → Int64) (sy : Nat → Int32) (sm : Nat → Int32) (sd : Nat → Int32) (mi : Nat → Int32) (ti : Nat → Int64) (sL : Nat → Int64) (bL : Nat → Int64) (mD : Nat → Int64) (mT : Nat → Int64) (ou : Nat → Int64) (q1 q2 q3 q4 q5 : Int32) (I : iInv d sy sm sd mi ti sL bL mD mT) : pre_Lc37 d ti mD ou q1 q2 q3 ∧ (s_X3_moment_mD d mD q1 q2 q3) = (s_L_moment_mD d ti mD q1 q2 q3) ∧ (s_X3_moment_mT ti mT q1 q2 q3) = (s_L_moment_mT d ti mT q1 q2 q3) ∧ iInv d sy sm sd mi ti sL bL (s_L_moment_mD d ti mD q1 q2 q3) (s_L_moment_mT d ti mT q1 q2 q3) := by
  unfold pre_Lc37
  rcases v_s4 q1 with ⟨a1, a2, a3, a4, a5⟩ | ⟨a4, a5⟩
  rotate_left
  · simp +decide only [k_X2_checkArgument, k_X2_checkOutcome, f_X2_isYear, f_X2_keepMoment, s_X2_keepMoment_mD, s_X2_keepMoment_mT, k_X2_keepMoment, f_X2_moment, s_X2_moment_mD, s_X2_moment_mT, k_X2_moment, f_X3_isYear, f_X3_fails, s_X3_fails_co, f_X3_comes, s_X3_comes_co, s_X3_comes_mD, s_X3_comes_mT, f_X3_moment_j1, f_X3_moment, s_X3_moment_co, s_X3_moment_mD, s_X3_moment_mT, f_L_moment, s_L_moment_mD, s_L_moment_mT, s_L_moment_ou, pre_L_moment, pre_Lc37, reduceIte, updL_at, upd_at, ite_self, m_in_eq, m_unit_eq, false_implies, true_implies, implies_true, true_and, and_true, not_true_eq_false, not_false_eq_true, *]
  rcases v_s6 q2 with ⟨b1, b2, b3, b4, b5⟩ | ⟨b4, b5⟩
  rotate_left
  · simp +decide only [k_X2_checkArgument, k_X2_checkOutcome, f_X2_isYear, f_X2_keepMoment, s_X2_keepMoment_mD, s_X2_keepMoment_mT, k_X2_keepMoment, f_X2_moment, s_X2_moment_mD, s_X2_moment_mT, k_X2_moment, f_X3_isYear, f_X3_fails, s_X3_fails_co, f_X3_comes, s_X3_comes_co, s_X3_comes_mD, s_X3_comes_mT, f_X3_moment_j1, f_X3_moment, s_X3_moment_co, s_X3_moment_mD, s_X3_moment_mT, f_L_moment, s_L_moment_mD, s_L_moment_mT, s_L_moment_ou, pre_L_moment, pre_Lc37, reduceIte, updL_at, upd_at, ite_self, m_in_eq, m_unit_eq, false_implies, true_implies, implies_true, true_and, and_true, not_true_eq_false, not_false_eq_true, *]
  rcases v_s4 q3 with ⟨c1, c2, c3, c4, c5⟩ | ⟨c4, c5⟩
  rotate_left
  · simp +decide only [k_X2_checkArgument, k_X2_checkOutcome, f_X2_isYear, f_X2_keepMoment, s_X2_keepMoment_mD, s_X2_keepMoment_mT, k_X2_keepMoment, f_X2_moment, s_X2_moment_mD, s_X2_moment_mT, k_X2_moment, f_X3_isYear, f_X3_fails, s_X3_fails_co, f_X3_comes, s_X3_comes_co, s_X3_comes_mD, s_X3_comes_mT, f_X3_moment_j1, f_X3_moment, s_X3_moment_co, s_X3_moment_mD, s_X3_moment_mT, f_L_moment, s_L_moment_mD, s_L_moment_mT, s_L_moment_ou, pre_L_moment, pre_Lc37, reduceIte, updL_at, upd_at, ite_self, m_in_eq, m_unit_eq, false_implies, true_implies, implies_true, true_and, and_true, not_true_eq_false, not_false_eq_true, *]
  have D := iD_at I.1 b1
  have T := iT_at I.2.2.2.2.2.1 c1
  obtain ⟨e1, e2⟩ := t_in T.1 T.2 (d q2.toNatClampNeg)
  rcases v_dm (d q2.toNatClampNeg) with ⟨m1, m2, m3, m4⟩ | ⟨m1, m2⟩
  · have J := J_mo I q1.toNatClampNeg m3 m4 T.1 T.2
    simp +decide only [k_X2_checkArgument, k_X2_checkOutcome, f_X2_isYear, f_X2_keepMoment, s_X2_keepMoment_mD, s_X2_keepMoment_mT, k_X2_keepMoment, f_X2_moment, s_X2_moment_mD, s_X2_moment_mT, k_X2_moment, f_X3_isYear, f_X3_fails, s_X3_fails_co, f_X3_comes, s_X3_comes_co, s_X3_comes_mD, s_X3_comes_mT, f_X3_moment_j1, f_X3_moment, s_X3_moment_co, s_X3_moment_mD, s_X3_moment_mT, f_L_moment, s_L_moment_mD, s_L_moment_mT, s_L_moment_ou, pre_L_moment, pre_Lc37, reduceIte, updL_at, upd_at, ite_self, m_in_eq, m_unit_eq, false_implies, true_implies, implies_true, true_and, and_true, not_true_eq_false, not_false_eq_true, *]
  · exfalso
    have := (v_dayR (rfl : (d q2.toNatClampNeg).toInt = _) D.1 D.2).2.1
    rw [m1] at this
    exact absurd this (by decide)
set_option maxHeartbeats 4000000 in
set_option maxRecDepth 100000 in
theorem i_c38 (d : Nat → Int64) (sy : Nat → Int32) (sm : Nat → Int32) (sd : Nat → Int32) (mi : Nat → Int32) (ti : Nat → Int64) (sL : Nat → Int64) (bL : Nat → Int64) (mD : Nat → Int64) (mT : Nat → Int64) (ou : Nat → Int64) (q1 q2 q3 q4 q5 : Int32) (I : iInv d sy sm sd mi ti sL bL mD mT) : pre_Lc38 d mD ou q1 q2 ∧ (s_X3_dateOf_d d mD q1 q2) = (s_L_dateOf_d d mD q1 q2) ∧ iInv (s_L_dateOf_d d mD q1 q2) sy sm sd mi ti sL bL mD mT := by
  unfold pre_Lc38
  rcases v_s4 q1 with ⟨a1, a2, a3, a4, a5⟩ | ⟨a4, a5⟩
  rotate_left
  · simp +decide only [k_X2_checkArgument, k_X2_checkOutcome, f_X2_isYear, f_X2_keepDate, s_X2_keepDate_d, k_X2_keepDate, f_X2_dateOf, s_X2_dateOf_d, k_X2_dateOf, f_X3_isYear, f_X3_fails, s_X3_fails_co, f_X3_dateOf_j1, f_X3_dateOf, s_X3_dateOf_co, s_X3_dateOf_d, f_L_dateOf, s_L_dateOf_d, s_L_dateOf_ou, pre_L_dateOf, pre_Lc38, reduceIte, updL_at, upd_at, ite_self, m_in_eq, m_unit_eq, false_implies, true_implies, implies_true, true_and, and_true, not_true_eq_false, not_false_eq_true, *]
  rcases v_s6 q2 with ⟨b1, b2, b3, b4, b5⟩ | ⟨b4, b5⟩
  rotate_left
  · simp +decide only [k_X2_checkArgument, k_X2_checkOutcome, f_X2_isYear, f_X2_keepDate, s_X2_keepDate_d, k_X2_keepDate, f_X2_dateOf, s_X2_dateOf_d, k_X2_dateOf, f_X3_isYear, f_X3_fails, s_X3_fails_co, f_X3_dateOf_j1, f_X3_dateOf, s_X3_dateOf_co, s_X3_dateOf_d, f_L_dateOf, s_L_dateOf_d, s_L_dateOf_ou, pre_L_dateOf, pre_Lc38, reduceIte, updL_at, upd_at, ite_self, m_in_eq, m_unit_eq, false_implies, true_implies, implies_true, true_and, and_true, not_true_eq_false, not_false_eq_true, *]
  obtain ⟨D, T⟩ := iN_at I.2.2.2.2.2.2.2 a1
  have m1 := (v_dayR (rfl : (mD q1.toNatClampNeg).toInt = _) D.1 D.2).2.1
  have J : iInv (vp_updL d q2.toNatClampNeg (mD q1.toNatClampNeg)) sy sm sd mi ti sL bL mD mT := ⟨iD_upd I.1 D.1 D.2, I.2⟩
  simp +decide only [k_X2_checkArgument, k_X2_checkOutcome, f_X2_isYear, f_X2_keepDate, s_X2_keepDate_d, k_X2_keepDate, f_X2_dateOf, s_X2_dateOf_d, k_X2_dateOf, f_X3_isYear, f_X3_fails, s_X3_fails_co, f_X3_dateOf_j1, f_X3_dateOf, s_X3_dateOf_co, s_X3_dateOf_d, f_L_dateOf, s_L_dateOf_d, s_L_dateOf_ou, pre_L_dateOf, pre_Lc38, reduceIte, updL_at, upd_at, ite_self, m_in_eq, m_unit_eq, false_implies, true_implies, implies_true, true_and, and_true, not_true_eq_false, not_false_eq_true, *]
set_option maxHeartbeats 4000000 in
set_option maxRecDepth 100000 in
theorem i_c39 (d : Nat → Int64) (sy : Nat → Int32) (sm : Nat → Int32) (sd : Nat → Int32) (mi : Nat → Int32) (ti : Nat → Int64) (sL : Nat → Int64) (bL : Nat → Int64) (mD : Nat → Int64) (mT : Nat → Int64) (ou : Nat → Int64) (q1 q2 q3 q4 q5 : Int32) (I : iInv d sy sm sd mi ti sL bL mD mT) : pre_Lc39 ti mT ou q1 q2 ∧ (s_X3_timeOf_ti ti mT q1 q2) = (s_L_timeOf_ti ti mT q1 q2) ∧ iInv d sy sm sd mi (s_L_timeOf_ti ti mT q1 q2) sL bL mD mT := by
  unfold pre_Lc39
  rcases v_s4 q1 with ⟨a1, a2, a3, a4, a5⟩ | ⟨a4, a5⟩
  rotate_left
  · simp +decide only [k_X2_checkArgument, k_X2_checkOutcome, f_X2_isYear, f_X2_timeOf, s_X2_timeOf_ti, k_X2_timeOf, f_X3_isYear, f_X3_fails, s_X3_fails_co, f_X3_timeOf_j1, f_X3_timeOf, s_X3_timeOf_co, s_X3_timeOf_ti, f_L_timeOf, s_L_timeOf_ti, s_L_timeOf_ou, pre_L_timeOf, pre_Lc39, reduceIte, updL_at, upd_at, ite_self, m_in_eq, m_unit_eq, false_implies, true_implies, implies_true, true_and, and_true, not_true_eq_false, not_false_eq_true, *]
  rcases v_s4 q2 with ⟨b1, b2, b3, b4, b5⟩ | ⟨b4, b5⟩
  rotate_left
  · simp +decide only [k_X2_checkArgument, k_X2_checkOutcome, f_X2_isYear, f_X2_timeOf, s_X2_timeOf_ti, k_X2_timeOf, f_X3_isYear, f_X3_fails, s_X3_fails_co, f_X3_timeOf_j1, f_X3_timeOf, s_X3_timeOf_co, s_X3_timeOf_ti, f_L_timeOf, s_L_timeOf_ti, s_L_timeOf_ou, pre_L_timeOf, pre_Lc39, reduceIte, updL_at, upd_at, ite_self, m_in_eq, m_unit_eq, false_implies, true_implies, implies_true, true_and, and_true, not_true_eq_false, not_false_eq_true, *]
  obtain ⟨D, T⟩ := iN_at I.2.2.2.2.2.2.2 a1
  have J := J_ti I q2.toNatClampNeg T.1 T.2
  simp +decide only [k_X2_checkArgument, k_X2_checkOutcome, f_X2_isYear, f_X2_timeOf, s_X2_timeOf_ti, k_X2_timeOf, f_X3_isYear, f_X3_fails, s_X3_fails_co, f_X3_timeOf_j1, f_X3_timeOf, s_X3_timeOf_co, s_X3_timeOf_ti, f_L_timeOf, s_L_timeOf_ti, s_L_timeOf_ou, pre_L_timeOf, pre_Lc39, reduceIte, updL_at, upd_at, ite_self, m_in_eq, m_unit_eq, false_implies, true_implies, implies_true, true_and, and_true, not_true_eq_false, not_false_eq_true, *]
set_option maxHeartbeats 4000000 in
set_option maxRecDepth 100000 in
theorem i_c40 (d : Nat → Int64) (sy : Nat → Int32) (sm : Nat → Int32) (sd : Nat → Int32) (mi : Nat → Int32) (ti : Nat → Int64) (sL : Nat → Int64) (bL : Nat → Int64) (mD : Nat → Int64) (mT : Nat → Int64) (ou : Nat → Int64) (q1 q2 q3 q4 q5 : Int32) (I : iInv d sy sm sd mi ti sL bL mD mT) : pre_Lc40 mD mT ou q1 q2 q3 q4 q5 ∧ (s_X3_moveMoment_mD mD mT q1 ((q2.toUInt32 % 65536).toInt32) (((q3).toInt64 <<< ((32 : Int32).toInt64 &&& 63)) ||| ((q4).toInt64 &&& 4294967295)) q5) = (s_L_moveMoment_mD mD mT q1 ((q2.toUInt32 % 65536).toInt32) (((q3).toInt64 <<< ((32 : Int32).toInt64 &&& 63)) ||| ((q4).toInt64 &&& 4294967295)) q5) ∧ (s_X3_moveMoment_mT mD mT q1 ((q2.toUInt32 % 65536).toInt32) (((q3).toInt64 <<< ((32 : Int32).toInt64 &&& 63)) ||| ((q4).toInt64 &&& 4294967295)) q5) = (s_L_moveMoment_mT mD mT q1 ((q2.toUInt32 % 65536).toInt32) (((q3).toInt64 <<< ((32 : Int32).toInt64 &&& 63)) ||| ((q4).toInt64 &&& 4294967295)) q5) ∧ iInv d sy sm sd mi ti sL bL (s_L_moveMoment_mD mD mT q1 ((q2.toUInt32 % 65536).toInt32) (((q3).toInt64 <<< ((32 : Int32).toInt64 &&& 63)) ||| ((q4).toInt64 &&& 4294967295)) q5) (s_L_moveMoment_mT mD mT q1 ((q2.toUInt32 % 65536).toInt32) (((q3).toInt64 <<< ((32 : Int32).toInt64 &&& 63)) ||| ((q4).toInt64 &&& 4294967295)) q5) := by
  unfold pre_Lc40
  generalize (q2.toUInt32 % 65536).toInt32 = u
  generalize (((q3).toInt64 <<< ((32 : Int32).toInt64 &&& 63)) ||| ((q4).toInt64 &&& 4294967295)) = x
  rcases v_s4 q1 with ⟨a1, a2, a3, a4, a5⟩ | ⟨a4, a5⟩
  rotate_left
  · simp +decide only [f_X0_countInDay, k_X2_checkArgument, k_X2_checkOutcome, f_X2_isYear, f_X2_keepMoment, s_X2_keepMoment_mD, s_X2_keepMoment_mT, k_X2_keepMoment, f_X2_moveMoment_j1, f_X2_moveMoment, s_X2_moveMoment_mD, s_X2_moveMoment_mT, k_X2_moveMoment, f_X3_isYear, f_X3_fails, s_X3_fails_co, f_X3_comes, s_X3_comes_co, s_X3_comes_mD, s_X3_comes_mT, f_X3_moveMoment_j1, f_X3_moveMoment_j2, f_X3_moveMoment_j3, f_X3_moveMoment_j4, f_X3_moveMoment, s_X3_moveMoment_co, s_X3_moveMoment_mD, s_X3_moveMoment_mT, s_X3_moveMoment_yr, s_X3_moveMoment_mo, s_X3_moveMoment_dy, pre_X3_moveMoment, f_L_moveMoment, s_L_moveMoment_mD, s_L_moveMoment_mT, s_L_moveMoment_ou, pre_Lc40, reduceIte, updL_at, upd_at, ite_self, m_in_eq, m_unit_eq, false_implies, true_implies, implies_true, true_and, and_true, not_true_eq_false, not_false_eq_true, *]
  rcases v_s4 q5 with ⟨b1, b2, b3, b4, b5⟩ | ⟨b4, b5⟩
  rotate_left
  · simp +decide only [f_X0_countInDay, k_X2_checkArgument, k_X2_checkOutcome, f_X2_isYear, f_X2_keepMoment, s_X2_keepMoment_mD, s_X2_keepMoment_mT, k_X2_keepMoment, f_X2_moveMoment_j1, f_X2_moveMoment, s_X2_moveMoment_mD, s_X2_moveMoment_mT, k_X2_moveMoment, f_X3_isYear, f_X3_fails, s_X3_fails_co, f_X3_comes, s_X3_comes_co, s_X3_comes_mD, s_X3_comes_mT, f_X3_moveMoment_j1, f_X3_moveMoment_j2, f_X3_moveMoment_j3, f_X3_moveMoment_j4, f_X3_moveMoment, s_X3_moveMoment_co, s_X3_moveMoment_mD, s_X3_moveMoment_mT, s_X3_moveMoment_yr, s_X3_moveMoment_mo, s_X3_moveMoment_dy, pre_X3_moveMoment, f_L_moveMoment, s_L_moveMoment_mD, s_L_moveMoment_mT, s_L_moveMoment_ou, pre_Lc40, reduceIte, updL_at, upd_at, ite_self, m_in_eq, m_unit_eq, false_implies, true_implies, implies_true, true_and, and_true, not_true_eq_false, not_false_eq_true, *]
  obtain ⟨D, T⟩ := iN_at I.2.2.2.2.2.2.2 a1
  rcases v_u2 u with ⟨u1, u2⟩ | ⟨u2, u3, u4, u5, u6⟩
  · rcases v_in (rfl : x.toInt = _) (show (-1000000 : Int64).toInt = -1000000 from rfl) (show (1000000 : Int64).toInt = 1000000 from rfl) with ⟨r1, r2, r3⟩ | ⟨r9, r3⟩
    rotate_left
    · rcases u1 with h | h | h | h
      all_goals (subst h; simp +decide only [f_X0_countInDay, k_X2_checkArgument, k_X2_checkOutcome, f_X2_isYear, f_X2_keepMoment, s_X2_keepMoment_mD, s_X2_keepMoment_mT, k_X2_keepMoment, f_X2_moveMoment_j1, f_X2_moveMoment, s_X2_moveMoment_mD, s_X2_moveMoment_mT, k_X2_moveMoment, f_X3_isYear, f_X3_fails, s_X3_fails_co, f_X3_comes, s_X3_comes_co, s_X3_comes_mD, s_X3_comes_mT, f_X3_moveMoment_j1, f_X3_moveMoment_j2, f_X3_moveMoment_j3, f_X3_moveMoment_j4, f_X3_moveMoment, s_X3_moveMoment_co, s_X3_moveMoment_mD, s_X3_moveMoment_mT, s_X3_moveMoment_yr, s_X3_moveMoment_mo, s_X3_moveMoment_dy, pre_X3_moveMoment, f_L_moveMoment, s_L_moveMoment_mD, s_L_moveMoment_mT, s_L_moveMoment_ou, pre_Lc40, reduceIte, updL_at, upd_at, ite_self, m_in_eq, m_unit_eq, false_implies, true_implies, implies_true, true_and, and_true, not_true_eq_false, not_false_eq_true, *])
    obtain ⟨p, e, _, _⟩ := mv_eq u D.1 D.2 (rfl : x.toInt = _) r1 r2 u1
    obtain ⟨e1, e2⟩ := t_in T.1 T.2 (f_X1_moved (mD q1.toNatClampNeg) u x)
    rcases v_dm (f_X1_moved (mD q1.toNatClampNeg) u x) with ⟨m1, m2, m3, m4⟩ | ⟨m1, m2⟩
    · have J := J_mo I q5.toNatClampNeg m3 m4 T.1 T.2
      rcases u1 with h | h | h | h
      all_goals (subst h; simp +decide only [f_X0_countInDay, k_X2_checkArgument, k_X2_checkOutcome, f_X2_isYear, f_X2_keepMoment, s_X2_keepMoment_mD, s_X2_keepMoment_mT, k_X2_keepMoment, f_X2_moveMoment_j1, f_X2_moveMoment, s_X2_moveMoment_mD, s_X2_moveMoment_mT, k_X2_moveMoment, f_X3_isYear, f_X3_fails, s_X3_fails_co, f_X3_comes, s_X3_comes_co, s_X3_comes_mD, s_X3_comes_mT, f_X3_moveMoment_j1, f_X3_moveMoment_j2, f_X3_moveMoment_j3, f_X3_moveMoment_j4, f_X3_moveMoment, s_X3_moveMoment_co, s_X3_moveMoment_mD, s_X3_moveMoment_mT, s_X3_moveMoment_yr, s_X3_moveMoment_mo, s_X3_moveMoment_dy, pre_X3_moveMoment, f_L_moveMoment, s_L_moveMoment_mD, s_L_moveMoment_mT, s_L_moveMoment_ou, pre_Lc40, reduceIte, updL_at, upd_at, ite_self, m_in_eq, m_unit_eq, false_implies, true_implies, implies_true, true_and, and_true, not_true_eq_false, not_false_eq_true, *])
    · rcases u1 with h | h | h | h
      all_goals (subst h; simp +decide only [f_X0_countInDay, k_X2_checkArgument, k_X2_checkOutcome, f_X2_isYear, f_X2_keepMoment, s_X2_keepMoment_mD, s_X2_keepMoment_mT, k_X2_keepMoment, f_X2_moveMoment_j1, f_X2_moveMoment, s_X2_moveMoment_mD, s_X2_moveMoment_mT, k_X2_moveMoment, f_X3_isYear, f_X3_fails, s_X3_fails_co, f_X3_comes, s_X3_comes_co, s_X3_comes_mD, s_X3_comes_mT, f_X3_moveMoment_j1, f_X3_moveMoment_j2, f_X3_moveMoment_j3, f_X3_moveMoment_j4, f_X3_moveMoment, s_X3_moveMoment_co, s_X3_moveMoment_mD, s_X3_moveMoment_mT, s_X3_moveMoment_yr, s_X3_moveMoment_mo, s_X3_moveMoment_dy, pre_X3_moveMoment, f_L_moveMoment, s_L_moveMoment_mD, s_L_moveMoment_mT, s_L_moveMoment_ou, pre_Lc40, reduceIte, updL_at, upd_at, ite_self, m_in_eq, m_unit_eq, false_implies, true_implies, implies_true, true_and, and_true, not_true_eq_false, not_false_eq_true, *])
  by_cases h104 : u = 104
  · subst h104
    rcases v_in (rfl : x.toInt = _) (show (-1000000000000000 : Int64).toInt = -1000000000000000 from rfl) (show (1000000000000000 : Int64).toInt = 1000000000000000 from rfl) with ⟨r1, r2, r3⟩ | ⟨r9, r3⟩
    rotate_left
    · simp +decide only [f_X0_countInDay, k_X2_checkArgument, k_X2_checkOutcome, f_X2_isYear, f_X2_keepMoment, s_X2_keepMoment_mD, s_X2_keepMoment_mT, k_X2_keepMoment, f_X2_moveMoment_j1, f_X2_moveMoment, s_X2_moveMoment_mD, s_X2_moveMoment_mT, k_X2_moveMoment, f_X3_isYear, f_X3_fails, s_X3_fails_co, f_X3_comes, s_X3_comes_co, s_X3_comes_mD, s_X3_comes_mT, f_X3_moveMoment_j1, f_X3_moveMoment_j2, f_X3_moveMoment_j3, f_X3_moveMoment_j4, f_X3_moveMoment, s_X3_moveMoment_co, s_X3_moveMoment_mD, s_X3_moveMoment_mT, s_X3_moveMoment_yr, s_X3_moveMoment_mo, s_X3_moveMoment_dy, pre_X3_moveMoment, f_L_moveMoment, s_L_moveMoment_mD, s_L_moveMoment_mT, s_L_moveMoment_ou, pre_Lc40, reduceIte, updL_at, upd_at, ite_self, m_in_eq, m_unit_eq, false_implies, true_implies, implies_true, true_and, and_true, not_true_eq_false, not_false_eq_true, *]
    obtain ⟨e1, e2⟩ := mm_h (x := x) (t := (mT q1.toNatClampNeg)) (a := (mD q1.toNatClampNeg)) r1 r2 T.1 T.2 D.1 D.2
    have t0 := tm_rd ((mT q1.toNatClampNeg) + f_X0_restOfDay x 24)
    rcases v_dm ((mD q1.toNatClampNeg) + f_X0_daysOf x 24 + f_J9_floorDiv_f86c9 ((mT q1.toNatClampNeg) + f_X0_restOfDay x 24) 86400000000000) with ⟨m1, m2, m3, m4⟩ | ⟨m1, m2⟩
    · have J := J_mo I q5.toNatClampNeg m3 m4 t0.1 t0.2
      simp +decide only [f_X0_countInDay, k_X2_checkArgument, k_X2_checkOutcome, f_X2_isYear, f_X2_keepMoment, s_X2_keepMoment_mD, s_X2_keepMoment_mT, k_X2_keepMoment, f_X2_moveMoment_j1, f_X2_moveMoment, s_X2_moveMoment_mD, s_X2_moveMoment_mT, k_X2_moveMoment, f_X3_isYear, f_X3_fails, s_X3_fails_co, f_X3_comes, s_X3_comes_co, s_X3_comes_mD, s_X3_comes_mT, f_X3_moveMoment_j1, f_X3_moveMoment_j2, f_X3_moveMoment_j3, f_X3_moveMoment_j4, f_X3_moveMoment, s_X3_moveMoment_co, s_X3_moveMoment_mD, s_X3_moveMoment_mT, s_X3_moveMoment_yr, s_X3_moveMoment_mo, s_X3_moveMoment_dy, pre_X3_moveMoment, f_L_moveMoment, s_L_moveMoment_mD, s_L_moveMoment_mT, s_L_moveMoment_ou, pre_Lc40, reduceIte, updL_at, upd_at, ite_self, m_in_eq, m_unit_eq, false_implies, true_implies, implies_true, true_and, and_true, not_true_eq_false, not_false_eq_true, *]
    · skip
      simp +decide only [f_X0_countInDay, k_X2_checkArgument, k_X2_checkOutcome, f_X2_isYear, f_X2_keepMoment, s_X2_keepMoment_mD, s_X2_keepMoment_mT, k_X2_keepMoment, f_X2_moveMoment_j1, f_X2_moveMoment, s_X2_moveMoment_mD, s_X2_moveMoment_mT, k_X2_moveMoment, f_X3_isYear, f_X3_fails, s_X3_fails_co, f_X3_comes, s_X3_comes_co, s_X3_comes_mD, s_X3_comes_mT, f_X3_moveMoment_j1, f_X3_moveMoment_j2, f_X3_moveMoment_j3, f_X3_moveMoment_j4, f_X3_moveMoment, s_X3_moveMoment_co, s_X3_moveMoment_mD, s_X3_moveMoment_mT, s_X3_moveMoment_yr, s_X3_moveMoment_mo, s_X3_moveMoment_dy, pre_X3_moveMoment, f_L_moveMoment, s_L_moveMoment_mD, s_L_moveMoment_mT, s_L_moveMoment_ou, pre_Lc40, reduceIte, updL_at, upd_at, ite_self, m_in_eq, m_unit_eq, false_implies, true_implies, implies_true, true_and, and_true, not_true_eq_false, not_false_eq_true, *]
  by_cases h105 : u = 105
  · subst h105
    rcases v_in (rfl : x.toInt = _) (show (-1000000000000000 : Int64).toInt = -1000000000000000 from rfl) (show (1000000000000000 : Int64).toInt = 1000000000000000 from rfl) with ⟨r1, r2, r3⟩ | ⟨r9, r3⟩
    rotate_left
    · simp +decide only [f_X0_countInDay, k_X2_checkArgument, k_X2_checkOutcome, f_X2_isYear, f_X2_keepMoment, s_X2_keepMoment_mD, s_X2_keepMoment_mT, k_X2_keepMoment, f_X2_moveMoment_j1, f_X2_moveMoment, s_X2_moveMoment_mD, s_X2_moveMoment_mT, k_X2_moveMoment, f_X3_isYear, f_X3_fails, s_X3_fails_co, f_X3_comes, s_X3_comes_co, s_X3_comes_mD, s_X3_comes_mT, f_X3_moveMoment_j1, f_X3_moveMoment_j2, f_X3_moveMoment_j3, f_X3_moveMoment_j4, f_X3_moveMoment, s_X3_moveMoment_co, s_X3_moveMoment_mD, s_X3_moveMoment_mT, s_X3_moveMoment_yr, s_X3_moveMoment_mo, s_X3_moveMoment_dy, pre_X3_moveMoment, f_L_moveMoment, s_L_moveMoment_mD, s_L_moveMoment_mT, s_L_moveMoment_ou, pre_Lc40, reduceIte, updL_at, upd_at, ite_self, m_in_eq, m_unit_eq, false_implies, true_implies, implies_true, true_and, and_true, not_true_eq_false, not_false_eq_true, *]
    obtain ⟨e1, e2⟩ := mm_m (x := x) (t := (mT q1.toNatClampNeg)) (a := (mD q1.toNatClampNeg)) r1 r2 T.1 T.2 D.1 D.2
    have t0 := tm_rd ((mT q1.toNatClampNeg) + f_X0_restOfDay x 1440)
    rcases v_dm ((mD q1.toNatClampNeg) + f_X0_daysOf x 1440 + f_J9_floorDiv_f86c9 ((mT q1.toNatClampNeg) + f_X0_restOfDay x 1440) 86400000000000) with ⟨m1, m2, m3, m4⟩ | ⟨m1, m2⟩
    · have J := J_mo I q5.toNatClampNeg m3 m4 t0.1 t0.2
      simp +decide only [f_X0_countInDay, k_X2_checkArgument, k_X2_checkOutcome, f_X2_isYear, f_X2_keepMoment, s_X2_keepMoment_mD, s_X2_keepMoment_mT, k_X2_keepMoment, f_X2_moveMoment_j1, f_X2_moveMoment, s_X2_moveMoment_mD, s_X2_moveMoment_mT, k_X2_moveMoment, f_X3_isYear, f_X3_fails, s_X3_fails_co, f_X3_comes, s_X3_comes_co, s_X3_comes_mD, s_X3_comes_mT, f_X3_moveMoment_j1, f_X3_moveMoment_j2, f_X3_moveMoment_j3, f_X3_moveMoment_j4, f_X3_moveMoment, s_X3_moveMoment_co, s_X3_moveMoment_mD, s_X3_moveMoment_mT, s_X3_moveMoment_yr, s_X3_moveMoment_mo, s_X3_moveMoment_dy, pre_X3_moveMoment, f_L_moveMoment, s_L_moveMoment_mD, s_L_moveMoment_mT, s_L_moveMoment_ou, pre_Lc40, reduceIte, updL_at, upd_at, ite_self, m_in_eq, m_unit_eq, false_implies, true_implies, implies_true, true_and, and_true, not_true_eq_false, not_false_eq_true, *]
    · skip
      simp +decide only [f_X0_countInDay, k_X2_checkArgument, k_X2_checkOutcome, f_X2_isYear, f_X2_keepMoment, s_X2_keepMoment_mD, s_X2_keepMoment_mT, k_X2_keepMoment, f_X2_moveMoment_j1, f_X2_moveMoment, s_X2_moveMoment_mD, s_X2_moveMoment_mT, k_X2_moveMoment, f_X3_isYear, f_X3_fails, s_X3_fails_co, f_X3_comes, s_X3_comes_co, s_X3_comes_mD, s_X3_comes_mT, f_X3_moveMoment_j1, f_X3_moveMoment_j2, f_X3_moveMoment_j3, f_X3_moveMoment_j4, f_X3_moveMoment, s_X3_moveMoment_co, s_X3_moveMoment_mD, s_X3_moveMoment_mT, s_X3_moveMoment_yr, s_X3_moveMoment_mo, s_X3_moveMoment_dy, pre_X3_moveMoment, f_L_moveMoment, s_L_moveMoment_mD, s_L_moveMoment_mT, s_L_moveMoment_ou, pre_Lc40, reduceIte, updL_at, upd_at, ite_self, m_in_eq, m_unit_eq, false_implies, true_implies, implies_true, true_and, and_true, not_true_eq_false, not_false_eq_true, *]
  by_cases h110 : u = 110
  · subst h110
    rcases v_in (rfl : x.toInt = _) (show (-1000000000000000 : Int64).toInt = -1000000000000000 from rfl) (show (1000000000000000 : Int64).toInt = 1000000000000000 from rfl) with ⟨r1, r2, r3⟩ | ⟨r9, r3⟩
    rotate_left
    · simp +decide only [f_X0_countInDay, k_X2_checkArgument, k_X2_checkOutcome, f_X2_isYear, f_X2_keepMoment, s_X2_keepMoment_mD, s_X2_keepMoment_mT, k_X2_keepMoment, f_X2_moveMoment_j1, f_X2_moveMoment, s_X2_moveMoment_mD, s_X2_moveMoment_mT, k_X2_moveMoment, f_X3_isYear, f_X3_fails, s_X3_fails_co, f_X3_comes, s_X3_comes_co, s_X3_comes_mD, s_X3_comes_mT, f_X3_moveMoment_j1, f_X3_moveMoment_j2, f_X3_moveMoment_j3, f_X3_moveMoment_j4, f_X3_moveMoment, s_X3_moveMoment_co, s_X3_moveMoment_mD, s_X3_moveMoment_mT, s_X3_moveMoment_yr, s_X3_moveMoment_mo, s_X3_moveMoment_dy, pre_X3_moveMoment, f_L_moveMoment, s_L_moveMoment_mD, s_L_moveMoment_mT, s_L_moveMoment_ou, pre_Lc40, reduceIte, updL_at, upd_at, ite_self, m_in_eq, m_unit_eq, false_implies, true_implies, implies_true, true_and, and_true, not_true_eq_false, not_false_eq_true, *]
    obtain ⟨e1, e2⟩ := mm_n (x := x) (t := (mT q1.toNatClampNeg)) (a := (mD q1.toNatClampNeg)) r1 r2 T.1 T.2 D.1 D.2
    have t0 := tm_rd ((mT q1.toNatClampNeg) + f_X0_restOfDay x 86400000000000)
    rcases v_dm ((mD q1.toNatClampNeg) + f_X0_daysOf x 86400000000000 + f_J9_floorDiv_f86c9 ((mT q1.toNatClampNeg) + f_X0_restOfDay x 86400000000000) 86400000000000) with ⟨m1, m2, m3, m4⟩ | ⟨m1, m2⟩
    · have J := J_mo I q5.toNatClampNeg m3 m4 t0.1 t0.2
      simp +decide only [f_X0_countInDay, k_X2_checkArgument, k_X2_checkOutcome, f_X2_isYear, f_X2_keepMoment, s_X2_keepMoment_mD, s_X2_keepMoment_mT, k_X2_keepMoment, f_X2_moveMoment_j1, f_X2_moveMoment, s_X2_moveMoment_mD, s_X2_moveMoment_mT, k_X2_moveMoment, f_X3_isYear, f_X3_fails, s_X3_fails_co, f_X3_comes, s_X3_comes_co, s_X3_comes_mD, s_X3_comes_mT, f_X3_moveMoment_j1, f_X3_moveMoment_j2, f_X3_moveMoment_j3, f_X3_moveMoment_j4, f_X3_moveMoment, s_X3_moveMoment_co, s_X3_moveMoment_mD, s_X3_moveMoment_mT, s_X3_moveMoment_yr, s_X3_moveMoment_mo, s_X3_moveMoment_dy, pre_X3_moveMoment, f_L_moveMoment, s_L_moveMoment_mD, s_L_moveMoment_mT, s_L_moveMoment_ou, pre_Lc40, reduceIte, updL_at, upd_at, ite_self, m_in_eq, m_unit_eq, false_implies, true_implies, implies_true, true_and, and_true, not_true_eq_false, not_false_eq_true, *]
    · skip
      simp +decide only [f_X0_countInDay, k_X2_checkArgument, k_X2_checkOutcome, f_X2_isYear, f_X2_keepMoment, s_X2_keepMoment_mD, s_X2_keepMoment_mT, k_X2_keepMoment, f_X2_moveMoment_j1, f_X2_moveMoment, s_X2_moveMoment_mD, s_X2_moveMoment_mT, k_X2_moveMoment, f_X3_isYear, f_X3_fails, s_X3_fails_co, f_X3_comes, s_X3_comes_co, s_X3_comes_mD, s_X3_comes_mT, f_X3_moveMoment_j1, f_X3_moveMoment_j2, f_X3_moveMoment_j3, f_X3_moveMoment_j4, f_X3_moveMoment, s_X3_moveMoment_co, s_X3_moveMoment_mD, s_X3_moveMoment_mT, s_X3_moveMoment_yr, s_X3_moveMoment_mo, s_X3_moveMoment_dy, pre_X3_moveMoment, f_L_moveMoment, s_L_moveMoment_mD, s_L_moveMoment_mT, s_L_moveMoment_ou, pre_Lc40, reduceIte, updL_at, upd_at, ite_self, m_in_eq, m_unit_eq, false_implies, true_implies, implies_true, true_and, and_true, not_true_eq_false, not_false_eq_true, *]
  by_cases h115 : u = 115
  · subst h115
    rcases v_in (rfl : x.toInt = _) (show (-1000000000000000 : Int64).toInt = -1000000000000000 from rfl) (show (1000000000000000 : Int64).toInt = 1000000000000000 from rfl) with ⟨r1, r2, r3⟩ | ⟨r9, r3⟩
    rotate_left
    · simp +decide only [f_X0_countInDay, k_X2_checkArgument, k_X2_checkOutcome, f_X2_isYear, f_X2_keepMoment, s_X2_keepMoment_mD, s_X2_keepMoment_mT, k_X2_keepMoment, f_X2_moveMoment_j1, f_X2_moveMoment, s_X2_moveMoment_mD, s_X2_moveMoment_mT, k_X2_moveMoment, f_X3_isYear, f_X3_fails, s_X3_fails_co, f_X3_comes, s_X3_comes_co, s_X3_comes_mD, s_X3_comes_mT, f_X3_moveMoment_j1, f_X3_moveMoment_j2, f_X3_moveMoment_j3, f_X3_moveMoment_j4, f_X3_moveMoment, s_X3_moveMoment_co, s_X3_moveMoment_mD, s_X3_moveMoment_mT, s_X3_moveMoment_yr, s_X3_moveMoment_mo, s_X3_moveMoment_dy, pre_X3_moveMoment, f_L_moveMoment, s_L_moveMoment_mD, s_L_moveMoment_mT, s_L_moveMoment_ou, pre_Lc40, reduceIte, updL_at, upd_at, ite_self, m_in_eq, m_unit_eq, false_implies, true_implies, implies_true, true_and, and_true, not_true_eq_false, not_false_eq_true, *]
    obtain ⟨e1, e2⟩ := mm_s (x := x) (t := (mT q1.toNatClampNeg)) (a := (mD q1.toNatClampNeg)) r1 r2 T.1 T.2 D.1 D.2
    have t0 := tm_rd ((mT q1.toNatClampNeg) + f_X0_restOfDay x 86400)
    rcases v_dm ((mD q1.toNatClampNeg) + f_X0_daysOf x 86400 + f_J9_floorDiv_f86c9 ((mT q1.toNatClampNeg) + f_X0_restOfDay x 86400) 86400000000000) with ⟨m1, m2, m3, m4⟩ | ⟨m1, m2⟩
    · have J := J_mo I q5.toNatClampNeg m3 m4 t0.1 t0.2
      simp +decide only [f_X0_countInDay, k_X2_checkArgument, k_X2_checkOutcome, f_X2_isYear, f_X2_keepMoment, s_X2_keepMoment_mD, s_X2_keepMoment_mT, k_X2_keepMoment, f_X2_moveMoment_j1, f_X2_moveMoment, s_X2_moveMoment_mD, s_X2_moveMoment_mT, k_X2_moveMoment, f_X3_isYear, f_X3_fails, s_X3_fails_co, f_X3_comes, s_X3_comes_co, s_X3_comes_mD, s_X3_comes_mT, f_X3_moveMoment_j1, f_X3_moveMoment_j2, f_X3_moveMoment_j3, f_X3_moveMoment_j4, f_X3_moveMoment, s_X3_moveMoment_co, s_X3_moveMoment_mD, s_X3_moveMoment_mT, s_X3_moveMoment_yr, s_X3_moveMoment_mo, s_X3_moveMoment_dy, pre_X3_moveMoment, f_L_moveMoment, s_L_moveMoment_mD, s_L_moveMoment_mT, s_L_moveMoment_ou, pre_Lc40, reduceIte, updL_at, upd_at, ite_self, m_in_eq, m_unit_eq, false_implies, true_implies, implies_true, true_and, and_true, not_true_eq_false, not_false_eq_true, *]
    · skip
      simp +decide only [f_X0_countInDay, k_X2_checkArgument, k_X2_checkOutcome, f_X2_isYear, f_X2_keepMoment, s_X2_keepMoment_mD, s_X2_keepMoment_mT, k_X2_keepMoment, f_X2_moveMoment_j1, f_X2_moveMoment, s_X2_moveMoment_mD, s_X2_moveMoment_mT, k_X2_moveMoment, f_X3_isYear, f_X3_fails, s_X3_fails_co, f_X3_comes, s_X3_comes_co, s_X3_comes_mD, s_X3_comes_mT, f_X3_moveMoment_j1, f_X3_moveMoment_j2, f_X3_moveMoment_j3, f_X3_moveMoment_j4, f_X3_moveMoment, s_X3_moveMoment_co, s_X3_moveMoment_mD, s_X3_moveMoment_mT, s_X3_moveMoment_yr, s_X3_moveMoment_mo, s_X3_moveMoment_dy, pre_X3_moveMoment, f_L_moveMoment, s_L_moveMoment_mD, s_L_moveMoment_mT, s_L_moveMoment_ou, pre_Lc40, reduceIte, updL_at, upd_at, ite_self, m_in_eq, m_unit_eq, false_implies, true_implies, implies_true, true_and, and_true, not_true_eq_false, not_false_eq_true, *]
  simp +decide only [f_X0_countInDay, k_X2_checkArgument, k_X2_checkOutcome, f_X2_isYear, f_X2_keepMoment, s_X2_keepMoment_mD, s_X2_keepMoment_mT, k_X2_keepMoment, f_X2_moveMoment_j1, f_X2_moveMoment, s_X2_moveMoment_mD, s_X2_moveMoment_mT, k_X2_moveMoment, f_X3_isYear, f_X3_fails, s_X3_fails_co, f_X3_comes, s_X3_comes_co, s_X3_comes_mD, s_X3_comes_mT, f_X3_moveMoment_j1, f_X3_moveMoment_j2, f_X3_moveMoment_j3, f_X3_moveMoment_j4, f_X3_moveMoment, s_X3_moveMoment_co, s_X3_moveMoment_mD, s_X3_moveMoment_mT, s_X3_moveMoment_yr, s_X3_moveMoment_mo, s_X3_moveMoment_dy, pre_X3_moveMoment, f_L_moveMoment, s_L_moveMoment_mD, s_L_moveMoment_mT, s_L_moveMoment_ou, pre_Lc40, reduceIte, updL_at, upd_at, ite_self, m_in_eq, m_unit_eq, false_implies, true_implies, implies_true, true_and, and_true, not_true_eq_false, not_false_eq_true, *]
set_option maxHeartbeats 4000000 in
set_option maxRecDepth 100000 in
theorem i_c41 (d : Nat → Int64) (sy : Nat → Int32) (sm : Nat → Int32) (sd : Nat → Int32) (mi : Nat → Int32) (ti : Nat → Int64) (sL : Nat → Int64) (bL : Nat → Int64) (mD : Nat → Int64) (mT : Nat → Int64) (ou : Nat → Int64) (q1 q2 q3 q4 q5 : Int32) (I : iInv d sy sm sd mi ti sL bL mD mT) : pre_Lc41 sL bL mD mT ou q1 q2 q3 q4 ∧ (s_X3_goMoment_mD sL bL mD mT q1 q2 (f_Lc41_j1 q3) q4) = (s_L_goMoment_mD sL bL mD mT q1 q2 (f_Lc41_j1 q3) q4) ∧ (s_X3_goMoment_mT sL bL mD mT q1 q2 (f_Lc41_j1 q3) q4) = (s_L_goMoment_mT sL bL mD mT q1 q2 (f_Lc41_j1 q3) q4) ∧ iInv d sy sm sd mi ti sL bL (s_L_goMoment_mD sL bL mD mT q1 q2 (f_Lc41_j1 q3) q4) (s_L_goMoment_mT sL bL mD mT q1 q2 (f_Lc41_j1 q3) q4) := by
  unfold pre_Lc41
  rcases v_s4 q1 with ⟨a1, a2, a3, a4, a5⟩ | ⟨a4, a5⟩
  rotate_left
  · simp +decide only [k_X2_checkArgument, k_X2_checkOutcome, f_X2_isYear, f_X2_keepMoment, s_X2_keepMoment_mD, s_X2_keepMoment_mT, k_X2_keepMoment, f_X2_goMoment_j1, f_X2_goMoment, s_X2_goMoment_mD, s_X2_goMoment_mT, k_X2_goMoment, f_X3_isYear, f_X3_fails, s_X3_fails_co, f_X3_comes, s_X3_comes_co, s_X3_comes_mD, s_X3_comes_mT, f_X3_goMoment_j1, f_X3_goMoment_j2, f_X3_goMoment_j3, f_X3_goMoment, s_X3_goMoment_co, s_X3_goMoment_mD, s_X3_goMoment_mT, f_L_goMoment, s_L_goMoment_mD, s_L_goMoment_mT, s_L_goMoment_ou, pre_L_goMoment, f_Lc41_j1, pre_Lc41, reduceIte, updL_at, upd_at, ite_self, m_in_eq, m_unit_eq, false_implies, true_implies, implies_true, true_and, and_true, not_true_eq_false, not_false_eq_true, *]
  rcases v_s4 q2 with ⟨b1, b2, b3, b4, b5⟩ | ⟨b4, b5⟩
  rotate_left
  · simp +decide only [k_X2_checkArgument, k_X2_checkOutcome, f_X2_isYear, f_X2_keepMoment, s_X2_keepMoment_mD, s_X2_keepMoment_mT, k_X2_keepMoment, f_X2_goMoment_j1, f_X2_goMoment, s_X2_goMoment_mD, s_X2_goMoment_mT, k_X2_goMoment, f_X3_isYear, f_X3_fails, s_X3_fails_co, f_X3_comes, s_X3_comes_co, s_X3_comes_mD, s_X3_comes_mT, f_X3_goMoment_j1, f_X3_goMoment_j2, f_X3_goMoment_j3, f_X3_goMoment, s_X3_goMoment_co, s_X3_goMoment_mD, s_X3_goMoment_mT, f_L_goMoment, s_L_goMoment_mD, s_L_goMoment_mT, s_L_goMoment_ou, pre_L_goMoment, f_Lc41_j1, pre_Lc41, reduceIte, updL_at, upd_at, ite_self, m_in_eq, m_unit_eq, false_implies, true_implies, implies_true, true_and, and_true, not_true_eq_false, not_false_eq_true, *]
  rcases v_s4 q4 with ⟨c1, c2, c3, c4, c5⟩ | ⟨c4, c5⟩
  rotate_left
  · simp +decide only [k_X2_checkArgument, k_X2_checkOutcome, f_X2_isYear, f_X2_keepMoment, s_X2_keepMoment_mD, s_X2_keepMoment_mT, k_X2_keepMoment, f_X2_goMoment_j1, f_X2_goMoment, s_X2_goMoment_mD, s_X2_goMoment_mT, k_X2_goMoment, f_X3_isYear, f_X3_fails, s_X3_fails_co, f_X3_comes, s_X3_comes_co, s_X3_comes_mD, s_X3_comes_mT, f_X3_goMoment_j1, f_X3_goMoment_j2, f_X3_goMoment_j3, f_X3_goMoment, s_X3_goMoment_co, s_X3_goMoment_mD, s_X3_goMoment_mT, f_L_goMoment, s_L_goMoment_mD, s_L_goMoment_mT, s_L_goMoment_ou, pre_L_goMoment, f_Lc41_j1, pre_Lc41, reduceIte, updL_at, upd_at, ite_self, m_in_eq, m_unit_eq, false_implies, true_implies, implies_true, true_and, and_true, not_true_eq_false, not_false_eq_true, *]
  obtain ⟨D, T⟩ := iN_at I.2.2.2.2.2.2.2 a1
  obtain ⟨G1, G2, _⟩ := iG_at I.2.2.2.2.2.2.1 b1
  by_cases h : q3 = 0
  · skip
    obtain ⟨e1, e2⟩ := gm1 (x := sL q2.toNatClampNeg) (w := bL q2.toNatClampNeg) (t := (mT q1.toNatClampNeg)) (a := (mD q1.toNatClampNeg)) G1.1 G1.2 G2.1 G2.2 T.1 T.2 D.1 D.2
    have t0 := tm_rd ((mT q1.toNatClampNeg) + 1 * (f_X0_restOfDay (sL q2.toNatClampNeg) 86400 + bL q2.toNatClampNeg))
    rcases v_dm ((mD q1.toNatClampNeg) + 1 * f_X0_daysOf (sL q2.toNatClampNeg) 86400 + f_J9_floorDiv_f86c9 ((mT q1.toNatClampNeg) + 1 * (f_X0_restOfDay (sL q2.toNatClampNeg) 86400 + bL q2.toNatClampNeg)) 86400000000000) with ⟨m1, m2, m3, m4⟩ | ⟨m1, m2⟩
    · have J := J_mo I q4.toNatClampNeg m3 m4 t0.1 t0.2
      simp +decide only [k_X2_checkArgument, k_X2_checkOutcome, f_X2_isYear, f_X2_keepMoment, s_X2_keepMoment_mD, s_X2_keepMoment_mT, k_X2_keepMoment, f_X2_goMoment_j1, f_X2_goMoment, s_X2_goMoment_mD, s_X2_goMoment_mT, k_X2_goMoment, f_X3_isYear, f_X3_fails, s_X3_fails_co, f_X3_comes, s_X3_comes_co, s_X3_comes_mD, s_X3_comes_mT, f_X3_goMoment_j1, f_X3_goMoment_j2, f_X3_goMoment_j3, f_X3_goMoment, s_X3_goMoment_co, s_X3_goMoment_mD, s_X3_goMoment_mT, f_L_goMoment, s_L_goMoment_mD, s_L_goMoment_mT, s_L_goMoment_ou, pre_L_goMoment, f_Lc41_j1, pre_Lc41, reduceIte, updL_at, upd_at, ite_self, m_in_eq, m_unit_eq, false_implies, true_implies, implies_true, true_and, and_true, not_true_eq_false, not_false_eq_true, *]
    · skip
      simp +decide only [k_X2_checkArgument, k_X2_checkOutcome, f_X2_isYear, f_X2_keepMoment, s_X2_keepMoment_mD, s_X2_keepMoment_mT, k_X2_keepMoment, f_X2_goMoment_j1, f_X2_goMoment, s_X2_goMoment_mD, s_X2_goMoment_mT, k_X2_goMoment, f_X3_isYear, f_X3_fails, s_X3_fails_co, f_X3_comes, s_X3_comes_co, s_X3_comes_mD, s_X3_comes_mT, f_X3_goMoment_j1, f_X3_goMoment_j2, f_X3_goMoment_j3, f_X3_goMoment, s_X3_goMoment_co, s_X3_goMoment_mD, s_X3_goMoment_mT, f_L_goMoment, s_L_goMoment_mD, s_L_goMoment_mT, s_L_goMoment_ou, pre_L_goMoment, f_Lc41_j1, pre_Lc41, reduceIte, updL_at, upd_at, ite_self, m_in_eq, m_unit_eq, false_implies, true_implies, implies_true, true_and, and_true, not_true_eq_false, not_false_eq_true, *]
  · skip
    obtain ⟨e1, e2⟩ := gm2 (x := sL q2.toNatClampNeg) (w := bL q2.toNatClampNeg) (t := (mT q1.toNatClampNeg)) (a := (mD q1.toNatClampNeg)) G1.1 G1.2 G2.1 G2.2 T.1 T.2 D.1 D.2
    have t0 := tm_rd ((mT q1.toNatClampNeg) + (-1) * (f_X0_restOfDay (sL q2.toNatClampNeg) 86400 + bL q2.toNatClampNeg))
    rcases v_dm ((mD q1.toNatClampNeg) + (-1) * f_X0_daysOf (sL q2.toNatClampNeg) 86400 + f_J9_floorDiv_f86c9 ((mT q1.toNatClampNeg) + (-1) * (f_X0_restOfDay (sL q2.toNatClampNeg) 86400 + bL q2.toNatClampNeg)) 86400000000000) with ⟨m1, m2, m3, m4⟩ | ⟨m1, m2⟩
    · have J := J_mo I q4.toNatClampNeg m3 m4 t0.1 t0.2
      simp +decide only [k_X2_checkArgument, k_X2_checkOutcome, f_X2_isYear, f_X2_keepMoment, s_X2_keepMoment_mD, s_X2_keepMoment_mT, k_X2_keepMoment, f_X2_goMoment_j1, f_X2_goMoment, s_X2_goMoment_mD, s_X2_goMoment_mT, k_X2_goMoment, f_X3_isYear, f_X3_fails, s_X3_fails_co, f_X3_comes, s_X3_comes_co, s_X3_comes_mD, s_X3_comes_mT, f_X3_goMoment_j1, f_X3_goMoment_j2, f_X3_goMoment_j3, f_X3_goMoment, s_X3_goMoment_co, s_X3_goMoment_mD, s_X3_goMoment_mT, f_L_goMoment, s_L_goMoment_mD, s_L_goMoment_mT, s_L_goMoment_ou, pre_L_goMoment, f_Lc41_j1, pre_Lc41, reduceIte, updL_at, upd_at, ite_self, m_in_eq, m_unit_eq, false_implies, true_implies, implies_true, true_and, and_true, not_true_eq_false, not_false_eq_true, *]
    · skip
      simp +decide only [k_X2_checkArgument, k_X2_checkOutcome, f_X2_isYear, f_X2_keepMoment, s_X2_keepMoment_mD, s_X2_keepMoment_mT, k_X2_keepMoment, f_X2_goMoment_j1, f_X2_goMoment, s_X2_goMoment_mD, s_X2_goMoment_mT, k_X2_goMoment, f_X3_isYear, f_X3_fails, s_X3_fails_co, f_X3_comes, s_X3_comes_co, s_X3_comes_mD, s_X3_comes_mT, f_X3_goMoment_j1, f_X3_goMoment_j2, f_X3_goMoment_j3, f_X3_goMoment, s_X3_goMoment_co, s_X3_goMoment_mD, s_X3_goMoment_mT, f_L_goMoment, s_L_goMoment_mD, s_L_goMoment_mT, s_L_goMoment_ou, pre_L_goMoment, f_Lc41_j1, pre_Lc41, reduceIte, updL_at, upd_at, ite_self, m_in_eq, m_unit_eq, false_implies, true_implies, implies_true, true_and, and_true, not_true_eq_false, not_false_eq_true, *]
set_option maxHeartbeats 4000000 in
set_option maxRecDepth 100000 in
theorem i_c42 (d : Nat → Int64) (sy : Nat → Int32) (sm : Nat → Int32) (sd : Nat → Int32) (mi : Nat → Int32) (ti : Nat → Int64) (sL : Nat → Int64) (bL : Nat → Int64) (mD : Nat → Int64) (mT : Nat → Int64) (ou : Nat → Int64) (q1 q2 q3 q4 q5 : Int32) (I : iInv d sy sm sd mi ti sL bL mD mT) : pre_Lc42 mD mT ou q1 q2 q3 ∧ (s_X3_lengthOfMoments_sL sL mD mT q1 q2 q3) = (s_L_lengthOfMoments_sL sL mD mT q1 q2 q3) ∧ (s_X3_lengthOfMoments_bL bL mD mT q1 q2 q3) = (s_L_lengthOfMoments_bL bL mD mT q1 q2 q3) ∧ iInv d sy sm sd mi ti (s_L_lengthOfMoments_sL sL mD mT q1 q2 q3) (s_L_lengthOfMoments_bL bL mD mT q1 q2 q3) mD mT := by
  unfold pre_Lc42
  rcases v_s4 q1 with ⟨a1, a2, a3, a4, a5⟩ | ⟨a4, a5⟩
  rotate_left
  · simp +decide only [k_X2_checkArgument, k_X2_checkOutcome, f_X2_isYear, f_X2_keepLength, s_X2_keepLength_sL, s_X2_keepLength_bL, k_X2_keepLength, f_X2_lengthOfMoments, s_X2_lengthOfMoments_sL, s_X2_lengthOfMoments_bL, k_X2_lengthOfMoments, f_X3_isYear, f_X3_fails, s_X3_fails_co, f_X3_lasts, s_X3_lasts_co, s_X3_lasts_sL, s_X3_lasts_bL, f_X3_lengthOfMoments_j1, f_X3_lengthOfMoments, s_X3_lengthOfMoments_co, s_X3_lengthOfMoments_sL, s_X3_lengthOfMoments_bL, f_L_lengthOfMoments, s_L_lengthOfMoments_sL, s_L_lengthOfMoments_bL, s_L_lengthOfMoments_ou, pre_L_lengthOfMoments, pre_Lc42, reduceIte, updL_at, upd_at, ite_self, m_in_eq, m_unit_eq, false_implies, true_implies, implies_true, true_and, and_true, not_true_eq_false, not_false_eq_true, *]
  rcases v_s4 q2 with ⟨b1, b2, b3, b4, b5⟩ | ⟨b4, b5⟩
  rotate_left
  · simp +decide only [k_X2_checkArgument, k_X2_checkOutcome, f_X2_isYear, f_X2_keepLength, s_X2_keepLength_sL, s_X2_keepLength_bL, k_X2_keepLength, f_X2_lengthOfMoments, s_X2_lengthOfMoments_sL, s_X2_lengthOfMoments_bL, k_X2_lengthOfMoments, f_X3_isYear, f_X3_fails, s_X3_fails_co, f_X3_lasts, s_X3_lasts_co, s_X3_lasts_sL, s_X3_lasts_bL, f_X3_lengthOfMoments_j1, f_X3_lengthOfMoments, s_X3_lengthOfMoments_co, s_X3_lengthOfMoments_sL, s_X3_lengthOfMoments_bL, f_L_lengthOfMoments, s_L_lengthOfMoments_sL, s_L_lengthOfMoments_bL, s_L_lengthOfMoments_ou, pre_L_lengthOfMoments, pre_Lc42, reduceIte, updL_at, upd_at, ite_self, m_in_eq, m_unit_eq, false_implies, true_implies, implies_true, true_and, and_true, not_true_eq_false, not_false_eq_true, *]
  rcases v_s4 q3 with ⟨c1, c2, c3, c4, c5⟩ | ⟨c4, c5⟩
  rotate_left
  · simp +decide only [k_X2_checkArgument, k_X2_checkOutcome, f_X2_isYear, f_X2_keepLength, s_X2_keepLength_sL, s_X2_keepLength_bL, k_X2_keepLength, f_X2_lengthOfMoments, s_X2_lengthOfMoments_sL, s_X2_lengthOfMoments_bL, k_X2_lengthOfMoments, f_X3_isYear, f_X3_fails, s_X3_fails_co, f_X3_lasts, s_X3_lasts_co, s_X3_lasts_sL, s_X3_lasts_bL, f_X3_lengthOfMoments_j1, f_X3_lengthOfMoments, s_X3_lengthOfMoments_co, s_X3_lengthOfMoments_sL, s_X3_lengthOfMoments_bL, f_L_lengthOfMoments, s_L_lengthOfMoments_sL, s_L_lengthOfMoments_bL, s_L_lengthOfMoments_ou, pre_L_lengthOfMoments, pre_Lc42, reduceIte, updL_at, upd_at, ite_self, m_in_eq, m_unit_eq, false_implies, true_implies, implies_true, true_and, and_true, not_true_eq_false, not_false_eq_true, *]
  obtain ⟨D, T⟩ := iN_at I.2.2.2.2.2.2.2 a1
  obtain ⟨D2, T2⟩ := iN_at I.2.2.2.2.2.2.2 b1
  have mc : 86400 * (mD q2.toNatClampNeg - (mD q1.toNatClampNeg)) = (mD q2.toNatClampNeg - (mD q1.toNatClampNeg)) * 86400 := Int64.mul_comm _ _
  have A := p_mul (p_sub (rfl : (mD q2.toNatClampNeg).toInt = _) (rfl : (mD q1.toNatClampNeg).toInt = _) (by omega) (by omega)) (show (86400 : Int64).toInt = 86400 from rfl) (by omega) (by omega)
  have B := p_sub (rfl : (mT q2.toNatClampNeg).toInt = _) (rfl : (mT q1.toNatClampNeg).toInt = _) (by omega) (by omega)
  obtain ⟨l1, l2, ⟨l3, l4, l5⟩ | ⟨l3, l4⟩⟩ := v_kl (a := (mD q2.toNatClampNeg - (mD q1.toNatClampNeg)) * 86400) (b := mT q2.toNatClampNeg - (mT q1.toNatClampNeg)) (by rw [A]; omega) (by rw [A]; omega) (by rw [B]; omega) (by rw [B]; omega)
  · have J := J_ln I q3.toNatClampNeg l5
    clear l5 A B
    simp +decide only [k_X2_checkArgument, k_X2_checkOutcome, f_X2_isYear, f_X2_keepLength, s_X2_keepLength_sL, s_X2_keepLength_bL, k_X2_keepLength, f_X2_lengthOfMoments, s_X2_lengthOfMoments_sL, s_X2_lengthOfMoments_bL, k_X2_lengthOfMoments, f_X3_isYear, f_X3_fails, s_X3_fails_co, f_X3_lasts, s_X3_lasts_co, s_X3_lasts_sL, s_X3_lasts_bL, f_X3_lengthOfMoments_j1, f_X3_lengthOfMoments, s_X3_lengthOfMoments_co, s_X3_lengthOfMoments_sL, s_X3_lengthOfMoments_bL, f_L_lengthOfMoments, s_L_lengthOfMoments_sL, s_L_lengthOfMoments_bL, s_L_lengthOfMoments_ou, pre_L_lengthOfMoments, pre_Lc42, reduceIte, updL_at, upd_at, ite_self, m_in_eq, m_unit_eq, false_implies, true_implies, implies_true, true_and, and_true, not_true_eq_false, not_false_eq_true, *]
  · rw [kl2 (by rw [A]; omega) (by rw [A]; omega) (by rw [B]; omega) (by rw [B]; omega)] at l3
    exact absurd l3 (by decide)
set_option maxHeartbeats 4000000 in
set_option maxRecDepth 100000 in
theorem i_c43 (d : Nat → Int64) (sy : Nat → Int32) (sm : Nat → Int32) (sd : Nat → Int32) (mi : Nat → Int32) (ti : Nat → Int64) (sL : Nat → Int64) (bL : Nat → Int64) (mD : Nat → Int64) (mT : Nat → Int64) (ou : Nat → Int64) (q1 q2 q3 q4 q5 : Int32) (I : iInv d sy sm sd mi ti sL bL mD mT) : pre_Lc43 mD mT ou q1 q2 q3 := by
  unfold pre_Lc43
  generalize (q3.toUInt32 % 65536).toInt32 = u
  rcases v_s4 q1 with ⟨a1, a2, a3, a4, a5⟩ | ⟨a4, a5⟩
  rotate_left
  · simp +decide only [k_X2_checkArgument, k_X2_checkOutcome, f_X2_isYear, f_X2_whole, k_X2_whole, f_X3_isYear, f_X3_fails, s_X3_fails_co, f_X3_isAhead, f_X3_whole_j1, f_X3_whole_j2, f_X3_whole_j3, f_X3_whole_j4, f_X3_whole_j5, f_X3_whole_j6, f_X3_whole_j8, f_X3_whole, s_X3_whole_co, pre_X3_whole, f_L_whole, s_L_whole_ou, pre_L_whole, pre_Lc43, reduceIte, updL_at, upd_at, ite_self, m_in_eq, m_unit_eq, false_implies, true_implies, implies_true, true_and, and_true, not_true_eq_false, not_false_eq_true, *]
  rcases v_s4 q2 with ⟨b1, b2, b3, b4, b5⟩ | ⟨b4, b5⟩
  rotate_left
  · simp +decide only [k_X2_checkArgument, k_X2_checkOutcome, f_X2_isYear, f_X2_whole, k_X2_whole, f_X3_isYear, f_X3_fails, s_X3_fails_co, f_X3_isAhead, f_X3_whole_j1, f_X3_whole_j2, f_X3_whole_j3, f_X3_whole_j4, f_X3_whole_j5, f_X3_whole_j6, f_X3_whole_j8, f_X3_whole, s_X3_whole_co, pre_X3_whole, f_L_whole, s_L_whole_ou, pre_L_whole, pre_Lc43, reduceIte, updL_at, upd_at, ite_self, m_in_eq, m_unit_eq, false_implies, true_implies, implies_true, true_and, and_true, not_true_eq_false, not_false_eq_true, *]
  obtain ⟨D, T⟩ := iN_at I.2.2.2.2.2.2.2 a1
  obtain ⟨D2, T2⟩ := iN_at I.2.2.2.2.2.2.2 b1
  have c1 := p_lt (rfl : (mD q2.toNatClampNeg).toInt = _) (rfl : (mD q1.toNatClampNeg).toInt = _)
  have c2 := p_eq (rfl : (mD q2.toNatClampNeg).toInt = _) (rfl : (mD q1.toNatClampNeg).toInt = _)
  have d1 := p_le (rfl : (mT q1.toNatClampNeg).toInt = _) (rfl : (mT q2.toNatClampNeg).toInt = _)
  have d2 := p_le (rfl : (mT q2.toNatClampNeg).toInt = _) (rfl : (mT q1.toNatClampNeg).toInt = _)
  have cD1 : (mD q2.toNatClampNeg).toInt < (mD q1.toNatClampNeg).toInt → ((mD q2.toNatClampNeg) < (mD q1.toNatClampNeg)) = True := fun z => eq_true (c1.mpr z)
  have cD2 : ¬ (mD q2.toNatClampNeg).toInt < (mD q1.toNatClampNeg).toInt → ((mD q2.toNatClampNeg) < (mD q1.toNatClampNeg)) = False := fun z => eq_false (fun w => z (c1.mp w))
  have cE1 : (mD q2.toNatClampNeg).toInt = (mD q1.toNatClampNeg).toInt → ((mD q2.toNatClampNeg) = (mD q1.toNatClampNeg)) = True := fun z => eq_true (c2.mpr z)
  have cE2 : ¬ (mD q2.toNatClampNeg).toInt = (mD q1.toNatClampNeg).toInt → ((mD q2.toNatClampNeg) = (mD q1.toNatClampNeg)) = False := fun z => eq_false (fun w => z (c2.mp w))
  have cF1 : (mT q1.toNatClampNeg).toInt ≤ (mT q2.toNatClampNeg).toInt → ((mT q1.toNatClampNeg) ≤ (mT q2.toNatClampNeg)) = True := fun z => eq_true (d1.mpr z)
  have cF2 : ¬ (mT q1.toNatClampNeg).toInt ≤ (mT q2.toNatClampNeg).toInt → ((mT q1.toNatClampNeg) ≤ (mT q2.toNatClampNeg)) = False := fun z => eq_false (fun w => z (d1.mp w))
  have cG1 : (mT q2.toNatClampNeg).toInt ≤ (mT q1.toNatClampNeg).toInt → ((mT q2.toNatClampNeg) ≤ (mT q1.toNatClampNeg)) = True := fun z => eq_true (d2.mpr z)
  have cG2 : ¬ (mT q2.toNatClampNeg).toInt ≤ (mT q1.toNatClampNeg).toInt → ((mT q2.toNatClampNeg) ≤ (mT q1.toNatClampNeg)) = False := fun z => eq_false (fun w => z (d2.mp w))
  clear c1 c2 d1 d2
  rcases Int.lt_trichotomy (mD q1.toNatClampNeg).toInt (mD q2.toNatClampNeg).toInt with h | h | h
  · have g1 := cD2 (by omega)
    have g2 := cE2 (by omega)
    by_cases k : (mT q1.toNatClampNeg).toInt ≤ (mT q2.toNatClampNeg).toInt
    · have g3 := cF1 k
      clear cD1 cD2 cE1 cE2 cF1 cF2 cG1 cG2
      obtain ⟨w1, w2, w3, w4⟩ := wh_A (x := mD q1.toNatClampNeg) (y := mD q2.toNatClampNeg) (t := mT q1.toNatClampNeg) (u := mT q2.toNatClampNeg) D D2 T T2 (by omega) (by omega)
      clear D D2 T T2 h k I
      by_cases h100 : u = 100
      · subst h100
        clear w2 w3 w4
        simp +decide only [k_X2_checkArgument, k_X2_checkOutcome, f_X2_isYear, f_X2_whole, k_X2_whole, f_X3_isYear, f_X3_fails, s_X3_fails_co, f_X3_isAhead, f_X3_whole_j1, f_X3_whole_j2, f_X3_whole_j3, f_X3_whole_j4, f_X3_whole_j5, f_X3_whole_j6, f_X3_whole_j8, f_X3_whole, s_X3_whole_co, pre_X3_whole, f_L_whole, s_L_whole_ou, pre_L_whole, pre_Lc43, reduceIte, updL_at, upd_at, ite_self, m_in_eq, m_unit_eq, false_implies, true_implies, implies_true, true_and, and_true, not_true_eq_false, not_false_eq_true, *]
      by_cases h104 : u = 104
      · subst h104
        clear w1 w2 w3
        simp +decide only [k_X2_checkArgument, k_X2_checkOutcome, f_X2_isYear, f_X2_whole, k_X2_whole, f_X3_isYear, f_X3_fails, s_X3_fails_co, f_X3_isAhead, f_X3_whole_j1, f_X3_whole_j2, f_X3_whole_j3, f_X3_whole_j4, f_X3_whole_j5, f_X3_whole_j6, f_X3_whole_j8, f_X3_whole, s_X3_whole_co, pre_X3_whole, f_L_whole, s_L_whole_ou, pre_L_whole, pre_Lc43, reduceIte, updL_at, upd_at, ite_self, m_in_eq, m_unit_eq, false_implies, true_implies, implies_true, true_and, and_true, not_true_eq_false, not_false_eq_true, *]
      by_cases h105 : u = 105
      · subst h105
        clear w1 w2 w4
        simp +decide only [k_X2_checkArgument, k_X2_checkOutcome, f_X2_isYear, f_X2_whole, k_X2_whole, f_X3_isYear, f_X3_fails, s_X3_fails_co, f_X3_isAhead, f_X3_whole_j1, f_X3_whole_j2, f_X3_whole_j3, f_X3_whole_j4, f_X3_whole_j5, f_X3_whole_j6, f_X3_whole_j8, f_X3_whole, s_X3_whole_co, pre_X3_whole, f_L_whole, s_L_whole_ou, pre_L_whole, pre_Lc43, reduceIte, updL_at, upd_at, ite_self, m_in_eq, m_unit_eq, false_implies, true_implies, implies_true, true_and, and_true, not_true_eq_false, not_false_eq_true, *]
      by_cases h115 : u = 115
      · subst h115
        clear w1 w3 w4
        simp +decide only [k_X2_checkArgument, k_X2_checkOutcome, f_X2_isYear, f_X2_whole, k_X2_whole, f_X3_isYear, f_X3_fails, s_X3_fails_co, f_X3_isAhead, f_X3_whole_j1, f_X3_whole_j2, f_X3_whole_j3, f_X3_whole_j4, f_X3_whole_j5, f_X3_whole_j6, f_X3_whole_j8, f_X3_whole, s_X3_whole_co, pre_X3_whole, f_L_whole, s_L_whole_ou, pre_L_whole, pre_Lc43, reduceIte, updL_at, upd_at, ite_self, m_in_eq, m_unit_eq, false_implies, true_implies, implies_true, true_and, and_true, not_true_eq_false, not_false_eq_true, *]
      clear w1 w2 w3 w4
      simp +decide only [k_X2_checkArgument, k_X2_checkOutcome, f_X2_isYear, f_X2_whole, k_X2_whole, f_X3_isYear, f_X3_fails, s_X3_fails_co, f_X3_isAhead, f_X3_whole_j1, f_X3_whole_j2, f_X3_whole_j3, f_X3_whole_j4, f_X3_whole_j5, f_X3_whole_j6, f_X3_whole_j8, f_X3_whole, s_X3_whole_co, pre_X3_whole, f_L_whole, s_L_whole_ou, pre_L_whole, pre_Lc43, reduceIte, updL_at, upd_at, ite_self, m_in_eq, m_unit_eq, false_implies, true_implies, implies_true, true_and, and_true, not_true_eq_false, not_false_eq_true, *]
    · have g3 := cF2 k
      clear cD1 cD2 cE1 cE2 cF1 cF2 cG1 cG2
      obtain ⟨w1, w2, w3, w4⟩ := wh_B (x := mD q1.toNatClampNeg) (y := mD q2.toNatClampNeg) (t := mT q1.toNatClampNeg) (u := mT q2.toNatClampNeg) D D2 T T2 (by omega) (by omega)
      clear D D2 T T2 h k I
      by_cases h100 : u = 100
      · subst h100
        clear w2 w3 w4
        simp +decide only [k_X2_checkArgument, k_X2_checkOutcome, f_X2_isYear, f_X2_whole, k_X2_whole, f_X3_isYear, f_X3_fails, s_X3_fails_co, f_X3_isAhead, f_X3_whole_j1, f_X3_whole_j2, f_X3_whole_j3, f_X3_whole_j4, f_X3_whole_j5, f_X3_whole_j6, f_X3_whole_j8, f_X3_whole, s_X3_whole_co, pre_X3_whole, f_L_whole, s_L_whole_ou, pre_L_whole, pre_Lc43, reduceIte, updL_at, upd_at, ite_self, m_in_eq, m_unit_eq, false_implies, true_implies, implies_true, true_and, and_true, not_true_eq_false, not_false_eq_true, *]
      by_cases h104 : u = 104
      · subst h104
        clear w1 w2 w3
        simp +decide only [k_X2_checkArgument, k_X2_checkOutcome, f_X2_isYear, f_X2_whole, k_X2_whole, f_X3_isYear, f_X3_fails, s_X3_fails_co, f_X3_isAhead, f_X3_whole_j1, f_X3_whole_j2, f_X3_whole_j3, f_X3_whole_j4, f_X3_whole_j5, f_X3_whole_j6, f_X3_whole_j8, f_X3_whole, s_X3_whole_co, pre_X3_whole, f_L_whole, s_L_whole_ou, pre_L_whole, pre_Lc43, reduceIte, updL_at, upd_at, ite_self, m_in_eq, m_unit_eq, false_implies, true_implies, implies_true, true_and, and_true, not_true_eq_false, not_false_eq_true, *]
      by_cases h105 : u = 105
      · subst h105
        clear w1 w2 w4
        simp +decide only [k_X2_checkArgument, k_X2_checkOutcome, f_X2_isYear, f_X2_whole, k_X2_whole, f_X3_isYear, f_X3_fails, s_X3_fails_co, f_X3_isAhead, f_X3_whole_j1, f_X3_whole_j2, f_X3_whole_j3, f_X3_whole_j4, f_X3_whole_j5, f_X3_whole_j6, f_X3_whole_j8, f_X3_whole, s_X3_whole_co, pre_X3_whole, f_L_whole, s_L_whole_ou, pre_L_whole, pre_Lc43, reduceIte, updL_at, upd_at, ite_self, m_in_eq, m_unit_eq, false_implies, true_implies, implies_true, true_and, and_true, not_true_eq_false, not_false_eq_true, *]
      by_cases h115 : u = 115
      · subst h115
        clear w1 w3 w4
        simp +decide only [k_X2_checkArgument, k_X2_checkOutcome, f_X2_isYear, f_X2_whole, k_X2_whole, f_X3_isYear, f_X3_fails, s_X3_fails_co, f_X3_isAhead, f_X3_whole_j1, f_X3_whole_j2, f_X3_whole_j3, f_X3_whole_j4, f_X3_whole_j5, f_X3_whole_j6, f_X3_whole_j8, f_X3_whole, s_X3_whole_co, pre_X3_whole, f_L_whole, s_L_whole_ou, pre_L_whole, pre_Lc43, reduceIte, updL_at, upd_at, ite_self, m_in_eq, m_unit_eq, false_implies, true_implies, implies_true, true_and, and_true, not_true_eq_false, not_false_eq_true, *]
      clear w1 w2 w3 w4
      simp +decide only [k_X2_checkArgument, k_X2_checkOutcome, f_X2_isYear, f_X2_whole, k_X2_whole, f_X3_isYear, f_X3_fails, s_X3_fails_co, f_X3_isAhead, f_X3_whole_j1, f_X3_whole_j2, f_X3_whole_j3, f_X3_whole_j4, f_X3_whole_j5, f_X3_whole_j6, f_X3_whole_j8, f_X3_whole, s_X3_whole_co, pre_X3_whole, f_L_whole, s_L_whole_ou, pre_L_whole, pre_Lc43, reduceIte, updL_at, upd_at, ite_self, m_in_eq, m_unit_eq, false_implies, true_implies, implies_true, true_and, and_true, not_true_eq_false, not_false_eq_true, *]
  · have g1 := cD2 (by omega)
    have g2 := cE1 h.symm
    by_cases k : (mT q1.toNatClampNeg).toInt ≤ (mT q2.toNatClampNeg).toInt
    · have g3 := cF1 k
      clear cD1 cD2 cE1 cE2 cF1 cF2 cG1 cG2
      obtain ⟨w1, w2, w3, w4⟩ := wh_A (x := mD q1.toNatClampNeg) (y := mD q2.toNatClampNeg) (t := mT q1.toNatClampNeg) (u := mT q2.toNatClampNeg) D D2 T T2 (by omega) (by omega)
      clear D D2 T T2 h k I
      by_cases h100 : u = 100
      · subst h100
        clear w2 w3 w4
        simp +decide only [k_X2_checkArgument, k_X2_checkOutcome, f_X2_isYear, f_X2_whole, k_X2_whole, f_X3_isYear, f_X3_fails, s_X3_fails_co, f_X3_isAhead, f_X3_whole_j1, f_X3_whole_j2, f_X3_whole_j3, f_X3_whole_j4, f_X3_whole_j5, f_X3_whole_j6, f_X3_whole_j8, f_X3_whole, s_X3_whole_co, pre_X3_whole, f_L_whole, s_L_whole_ou, pre_L_whole, pre_Lc43, reduceIte, updL_at, upd_at, ite_self, m_in_eq, m_unit_eq, false_implies, true_implies, implies_true, true_and, and_true, not_true_eq_false, not_false_eq_true, *]
      by_cases h104 : u = 104
      · subst h104
        clear w1 w2 w3
        simp +decide only [k_X2_checkArgument, k_X2_checkOutcome, f_X2_isYear, f_X2_whole, k_X2_whole, f_X3_isYear, f_X3_fails, s_X3_fails_co, f_X3_isAhead, f_X3_whole_j1, f_X3_whole_j2, f_X3_whole_j3, f_X3_whole_j4, f_X3_whole_j5, f_X3_whole_j6, f_X3_whole_j8, f_X3_whole, s_X3_whole_co, pre_X3_whole, f_L_whole, s_L_whole_ou, pre_L_whole, pre_Lc43, reduceIte, updL_at, upd_at, ite_self, m_in_eq, m_unit_eq, false_implies, true_implies, implies_true, true_and, and_true, not_true_eq_false, not_false_eq_true, *]
      by_cases h105 : u = 105
      · subst h105
        clear w1 w2 w4
        simp +decide only [k_X2_checkArgument, k_X2_checkOutcome, f_X2_isYear, f_X2_whole, k_X2_whole, f_X3_isYear, f_X3_fails, s_X3_fails_co, f_X3_isAhead, f_X3_whole_j1, f_X3_whole_j2, f_X3_whole_j3, f_X3_whole_j4, f_X3_whole_j5, f_X3_whole_j6, f_X3_whole_j8, f_X3_whole, s_X3_whole_co, pre_X3_whole, f_L_whole, s_L_whole_ou, pre_L_whole, pre_Lc43, reduceIte, updL_at, upd_at, ite_self, m_in_eq, m_unit_eq, false_implies, true_implies, implies_true, true_and, and_true, not_true_eq_false, not_false_eq_true, *]
      by_cases h115 : u = 115
      · subst h115
        clear w1 w3 w4
        simp +decide only [k_X2_checkArgument, k_X2_checkOutcome, f_X2_isYear, f_X2_whole, k_X2_whole, f_X3_isYear, f_X3_fails, s_X3_fails_co, f_X3_isAhead, f_X3_whole_j1, f_X3_whole_j2, f_X3_whole_j3, f_X3_whole_j4, f_X3_whole_j5, f_X3_whole_j6, f_X3_whole_j8, f_X3_whole, s_X3_whole_co, pre_X3_whole, f_L_whole, s_L_whole_ou, pre_L_whole, pre_Lc43, reduceIte, updL_at, upd_at, ite_self, m_in_eq, m_unit_eq, false_implies, true_implies, implies_true, true_and, and_true, not_true_eq_false, not_false_eq_true, *]
      clear w1 w2 w3 w4
      simp +decide only [k_X2_checkArgument, k_X2_checkOutcome, f_X2_isYear, f_X2_whole, k_X2_whole, f_X3_isYear, f_X3_fails, s_X3_fails_co, f_X3_isAhead, f_X3_whole_j1, f_X3_whole_j2, f_X3_whole_j3, f_X3_whole_j4, f_X3_whole_j5, f_X3_whole_j6, f_X3_whole_j8, f_X3_whole, s_X3_whole_co, pre_X3_whole, f_L_whole, s_L_whole_ou, pre_L_whole, pre_Lc43, reduceIte, updL_at, upd_at, ite_self, m_in_eq, m_unit_eq, false_implies, true_implies, implies_true, true_and, and_true, not_true_eq_false, not_false_eq_true, *]
    · have g3 := cF2 k
      have g4 := cG1 (by omega)
      clear cD1 cD2 cE1 cE2 cF1 cF2 cG1 cG2
      obtain ⟨w1, w2, w3, w4⟩ := wh_C (x := mD q1.toNatClampNeg) (y := mD q2.toNatClampNeg) (t := mT q1.toNatClampNeg) (u := mT q2.toNatClampNeg) D D2 T T2 (by omega) (by omega)
      clear D D2 T T2 h k I
      by_cases h100 : u = 100
      · subst h100
        clear w2 w3 w4
        simp +decide only [k_X2_checkArgument, k_X2_checkOutcome, f_X2_isYear, f_X2_whole, k_X2_whole, f_X3_isYear, f_X3_fails, s_X3_fails_co, f_X3_isAhead, f_X3_whole_j1, f_X3_whole_j2, f_X3_whole_j3, f_X3_whole_j4, f_X3_whole_j5, f_X3_whole_j6, f_X3_whole_j8, f_X3_whole, s_X3_whole_co, pre_X3_whole, f_L_whole, s_L_whole_ou, pre_L_whole, pre_Lc43, reduceIte, updL_at, upd_at, ite_self, m_in_eq, m_unit_eq, false_implies, true_implies, implies_true, true_and, and_true, not_true_eq_false, not_false_eq_true, *]
      by_cases h104 : u = 104
      · subst h104
        clear w1 w2 w3
        simp +decide only [k_X2_checkArgument, k_X2_checkOutcome, f_X2_isYear, f_X2_whole, k_X2_whole, f_X3_isYear, f_X3_fails, s_X3_fails_co, f_X3_isAhead, f_X3_whole_j1, f_X3_whole_j2, f_X3_whole_j3, f_X3_whole_j4, f_X3_whole_j5, f_X3_whole_j6, f_X3_whole_j8, f_X3_whole, s_X3_whole_co, pre_X3_whole, f_L_whole, s_L_whole_ou, pre_L_whole, pre_Lc43, reduceIte, updL_at, upd_at, ite_self, m_in_eq, m_unit_eq, false_implies, true_implies, implies_true, true_and, and_true, not_true_eq_false, not_false_eq_true, *]
      by_cases h105 : u = 105
      · subst h105
        clear w1 w2 w4
        simp +decide only [k_X2_checkArgument, k_X2_checkOutcome, f_X2_isYear, f_X2_whole, k_X2_whole, f_X3_isYear, f_X3_fails, s_X3_fails_co, f_X3_isAhead, f_X3_whole_j1, f_X3_whole_j2, f_X3_whole_j3, f_X3_whole_j4, f_X3_whole_j5, f_X3_whole_j6, f_X3_whole_j8, f_X3_whole, s_X3_whole_co, pre_X3_whole, f_L_whole, s_L_whole_ou, pre_L_whole, pre_Lc43, reduceIte, updL_at, upd_at, ite_self, m_in_eq, m_unit_eq, false_implies, true_implies, implies_true, true_and, and_true, not_true_eq_false, not_false_eq_true, *]
      by_cases h115 : u = 115
      · subst h115
        clear w1 w3 w4
        simp +decide only [k_X2_checkArgument, k_X2_checkOutcome, f_X2_isYear, f_X2_whole, k_X2_whole, f_X3_isYear, f_X3_fails, s_X3_fails_co, f_X3_isAhead, f_X3_whole_j1, f_X3_whole_j2, f_X3_whole_j3, f_X3_whole_j4, f_X3_whole_j5, f_X3_whole_j6, f_X3_whole_j8, f_X3_whole, s_X3_whole_co, pre_X3_whole, f_L_whole, s_L_whole_ou, pre_L_whole, pre_Lc43, reduceIte, updL_at, upd_at, ite_self, m_in_eq, m_unit_eq, false_implies, true_implies, implies_true, true_and, and_true, not_true_eq_false, not_false_eq_true, *]
      clear w1 w2 w3 w4
      simp +decide only [k_X2_checkArgument, k_X2_checkOutcome, f_X2_isYear, f_X2_whole, k_X2_whole, f_X3_isYear, f_X3_fails, s_X3_fails_co, f_X3_isAhead, f_X3_whole_j1, f_X3_whole_j2, f_X3_whole_j3, f_X3_whole_j4, f_X3_whole_j5, f_X3_whole_j6, f_X3_whole_j8, f_X3_whole, s_X3_whole_co, pre_X3_whole, f_L_whole, s_L_whole_ou, pre_L_whole, pre_Lc43, reduceIte, updL_at, upd_at, ite_self, m_in_eq, m_unit_eq, false_implies, true_implies, implies_true, true_and, and_true, not_true_eq_false, not_false_eq_true, *]
  · have g1 := cD1 h
    by_cases k : (mT q2.toNatClampNeg).toInt ≤ (mT q1.toNatClampNeg).toInt
    · have g3 := cG1 k
      clear cD1 cD2 cE1 cE2 cF1 cF2 cG1 cG2
      obtain ⟨w1, w2, w3, w4⟩ := wh_C (x := mD q1.toNatClampNeg) (y := mD q2.toNatClampNeg) (t := mT q1.toNatClampNeg) (u := mT q2.toNatClampNeg) D D2 T T2 (by omega) (by omega)
      clear D D2 T T2 h k I
      by_cases h100 : u = 100
      · subst h100
        clear w2 w3 w4
        simp +decide only [k_X2_checkArgument, k_X2_checkOutcome, f_X2_isYear, f_X2_whole, k_X2_whole, f_X3_isYear, f_X3_fails, s_X3_fails_co, f_X3_isAhead, f_X3_whole_j1, f_X3_whole_j2, f_X3_whole_j3, f_X3_whole_j4, f_X3_whole_j5, f_X3_whole_j6, f_X3_whole_j8, f_X3_whole, s_X3_whole_co, pre_X3_whole, f_L_whole, s_L_whole_ou, pre_L_whole, pre_Lc43, reduceIte, updL_at, upd_at, ite_self, m_in_eq, m_unit_eq, false_implies, true_implies, implies_true, true_and, and_true, not_true_eq_false, not_false_eq_true, *]
      by_cases h104 : u = 104
      · subst h104
        clear w1 w2 w3
        simp +decide only [k_X2_checkArgument, k_X2_checkOutcome, f_X2_isYear, f_X2_whole, k_X2_whole, f_X3_isYear, f_X3_fails, s_X3_fails_co, f_X3_isAhead, f_X3_whole_j1, f_X3_whole_j2, f_X3_whole_j3, f_X3_whole_j4, f_X3_whole_j5, f_X3_whole_j6, f_X3_whole_j8, f_X3_whole, s_X3_whole_co, pre_X3_whole, f_L_whole, s_L_whole_ou, pre_L_whole, pre_Lc43, reduceIte, updL_at, upd_at, ite_self, m_in_eq, m_unit_eq, false_implies, true_implies, implies_true, true_and, and_true, not_true_eq_false, not_false_eq_true, *]
      by_cases h105 : u = 105
      · subst h105
        clear w1 w2 w4
        simp +decide only [k_X2_checkArgument, k_X2_checkOutcome, f_X2_isYear, f_X2_whole, k_X2_whole, f_X3_isYear, f_X3_fails, s_X3_fails_co, f_X3_isAhead, f_X3_whole_j1, f_X3_whole_j2, f_X3_whole_j3, f_X3_whole_j4, f_X3_whole_j5, f_X3_whole_j6, f_X3_whole_j8, f_X3_whole, s_X3_whole_co, pre_X3_whole, f_L_whole, s_L_whole_ou, pre_L_whole, pre_Lc43, reduceIte, updL_at, upd_at, ite_self, m_in_eq, m_unit_eq, false_implies, true_implies, implies_true, true_and, and_true, not_true_eq_false, not_false_eq_true, *]
      by_cases h115 : u = 115
      · subst h115
        clear w1 w3 w4
        simp +decide only [k_X2_checkArgument, k_X2_checkOutcome, f_X2_isYear, f_X2_whole, k_X2_whole, f_X3_isYear, f_X3_fails, s_X3_fails_co, f_X3_isAhead, f_X3_whole_j1, f_X3_whole_j2, f_X3_whole_j3, f_X3_whole_j4, f_X3_whole_j5, f_X3_whole_j6, f_X3_whole_j8, f_X3_whole, s_X3_whole_co, pre_X3_whole, f_L_whole, s_L_whole_ou, pre_L_whole, pre_Lc43, reduceIte, updL_at, upd_at, ite_self, m_in_eq, m_unit_eq, false_implies, true_implies, implies_true, true_and, and_true, not_true_eq_false, not_false_eq_true, *]
      clear w1 w2 w3 w4
      simp +decide only [k_X2_checkArgument, k_X2_checkOutcome, f_X2_isYear, f_X2_whole, k_X2_whole, f_X3_isYear, f_X3_fails, s_X3_fails_co, f_X3_isAhead, f_X3_whole_j1, f_X3_whole_j2, f_X3_whole_j3, f_X3_whole_j4, f_X3_whole_j5, f_X3_whole_j6, f_X3_whole_j8, f_X3_whole, s_X3_whole_co, pre_X3_whole, f_L_whole, s_L_whole_ou, pre_L_whole, pre_Lc43, reduceIte, updL_at, upd_at, ite_self, m_in_eq, m_unit_eq, false_implies, true_implies, implies_true, true_and, and_true, not_true_eq_false, not_false_eq_true, *]
    · have g3 := cG2 k
      clear cD1 cD2 cE1 cE2 cF1 cF2 cG1 cG2
      obtain ⟨w1, w2, w3, w4⟩ := wh_D (x := mD q1.toNatClampNeg) (y := mD q2.toNatClampNeg) (t := mT q1.toNatClampNeg) (u := mT q2.toNatClampNeg) D D2 T T2 (by omega) (by omega)
      clear D D2 T T2 h k I
      by_cases h100 : u = 100
      · subst h100
        clear w2 w3 w4
        simp +decide only [k_X2_checkArgument, k_X2_checkOutcome, f_X2_isYear, f_X2_whole, k_X2_whole, f_X3_isYear, f_X3_fails, s_X3_fails_co, f_X3_isAhead, f_X3_whole_j1, f_X3_whole_j2, f_X3_whole_j3, f_X3_whole_j4, f_X3_whole_j5, f_X3_whole_j6, f_X3_whole_j8, f_X3_whole, s_X3_whole_co, pre_X3_whole, f_L_whole, s_L_whole_ou, pre_L_whole, pre_Lc43, reduceIte, updL_at, upd_at, ite_self, m_in_eq, m_unit_eq, false_implies, true_implies, implies_true, true_and, and_true, not_true_eq_false, not_false_eq_true, *]
      by_cases h104 : u = 104
      · subst h104
        clear w1 w2 w3
        simp +decide only [k_X2_checkArgument, k_X2_checkOutcome, f_X2_isYear, f_X2_whole, k_X2_whole, f_X3_isYear, f_X3_fails, s_X3_fails_co, f_X3_isAhead, f_X3_whole_j1, f_X3_whole_j2, f_X3_whole_j3, f_X3_whole_j4, f_X3_whole_j5, f_X3_whole_j6, f_X3_whole_j8, f_X3_whole, s_X3_whole_co, pre_X3_whole, f_L_whole, s_L_whole_ou, pre_L_whole, pre_Lc43, reduceIte, updL_at, upd_at, ite_self, m_in_eq, m_unit_eq, false_implies, true_implies, implies_true, true_and, and_true, not_true_eq_false, not_false_eq_true, *]
      by_cases h105 : u = 105
      · subst h105
        clear w1 w2 w4
        simp +decide only [k_X2_checkArgument, k_X2_checkOutcome, f_X2_isYear, f_X2_whole, k_X2_whole, f_X3_isYear, f_X3_fails, s_X3_fails_co, f_X3_isAhead, f_X3_whole_j1, f_X3_whole_j2, f_X3_whole_j3, f_X3_whole_j4, f_X3_whole_j5, f_X3_whole_j6, f_X3_whole_j8, f_X3_whole, s_X3_whole_co, pre_X3_whole, f_L_whole, s_L_whole_ou, pre_L_whole, pre_Lc43, reduceIte, updL_at, upd_at, ite_self, m_in_eq, m_unit_eq, false_implies, true_implies, implies_true, true_and, and_true, not_true_eq_false, not_false_eq_true, *]
      by_cases h115 : u = 115
      · subst h115
        clear w1 w3 w4
        simp +decide only [k_X2_checkArgument, k_X2_checkOutcome, f_X2_isYear, f_X2_whole, k_X2_whole, f_X3_isYear, f_X3_fails, s_X3_fails_co, f_X3_isAhead, f_X3_whole_j1, f_X3_whole_j2, f_X3_whole_j3, f_X3_whole_j4, f_X3_whole_j5, f_X3_whole_j6, f_X3_whole_j8, f_X3_whole, s_X3_whole_co, pre_X3_whole, f_L_whole, s_L_whole_ou, pre_L_whole, pre_Lc43, reduceIte, updL_at, upd_at, ite_self, m_in_eq, m_unit_eq, false_implies, true_implies, implies_true, true_and, and_true, not_true_eq_false, not_false_eq_true, *]
      clear w1 w2 w3 w4
      simp +decide only [k_X2_checkArgument, k_X2_checkOutcome, f_X2_isYear, f_X2_whole, k_X2_whole, f_X3_isYear, f_X3_fails, s_X3_fails_co, f_X3_isAhead, f_X3_whole_j1, f_X3_whole_j2, f_X3_whole_j3, f_X3_whole_j4, f_X3_whole_j5, f_X3_whole_j6, f_X3_whole_j8, f_X3_whole, s_X3_whole_co, pre_X3_whole, f_L_whole, s_L_whole_ou, pre_L_whole, pre_Lc43, reduceIte, updL_at, upd_at, ite_self, m_in_eq, m_unit_eq, false_implies, true_implies, implies_true, true_and, and_true, not_true_eq_false, not_false_eq_true, *]
set_option maxHeartbeats 4000000 in
set_option maxRecDepth 100000 in
theorem i_c44 (d : Nat → Int64) (sy : Nat → Int32) (sm : Nat → Int32) (sd : Nat → Int32) (mi : Nat → Int32) (ti : Nat → Int64) (sL : Nat → Int64) (bL : Nat → Int64) (mD : Nat → Int64) (mT : Nat → Int64) (ou : Nat → Int64) (q1 q2 q3 q4 q5 : Int32) (I : iInv d sy sm sd mi ti sL bL mD mT) : pre_Lc44 mD mT ou q1 q2 := by
  rcases v_s4 q1 with ⟨a1, a2, a3, a4, a5⟩ | ⟨a4, a5⟩
  rotate_left
  · simp +decide only [k_X2_checkArgument, k_X2_checkOutcome, f_X2_isYear, f_X2_sign, f_X2_orderMoments, k_X2_orderMoments, f_X3_isYear, f_X3_fails, s_X3_fails_co, f_X3_isAhead, f_X3_orderMoments_j1, f_X3_orderMoments, s_X3_orderMoments_co, f_L_orderMoments, s_L_orderMoments_ou, pre_L_orderMoments, pre_Lc44, reduceIte, updL_at, upd_at, ite_self, m_in_eq, m_unit_eq, false_implies, true_implies, implies_true, true_and, and_true, not_true_eq_false, not_false_eq_true, *]
  rcases v_s4 q2 with ⟨b1, b2, b3, b4, b5⟩ | ⟨b4, b5⟩
  rotate_left
  · simp +decide only [k_X2_checkArgument, k_X2_checkOutcome, f_X2_isYear, f_X2_sign, f_X2_orderMoments, k_X2_orderMoments, f_X3_isYear, f_X3_fails, s_X3_fails_co, f_X3_isAhead, f_X3_orderMoments_j1, f_X3_orderMoments, s_X3_orderMoments_co, f_L_orderMoments, s_L_orderMoments_ou, pre_L_orderMoments, pre_Lc44, reduceIte, updL_at, upd_at, ite_self, m_in_eq, m_unit_eq, false_implies, true_implies, implies_true, true_and, and_true, not_true_eq_false, not_false_eq_true, *]
  have c1 := p_lt (rfl : (mD q1.toNatClampNeg).toInt = _) (rfl : (mD q2.toNatClampNeg).toInt = _)
  have c2 := p_lt (rfl : (mD q2.toNatClampNeg).toInt = _) (rfl : (mD q1.toNatClampNeg).toInt = _)
  have c3 := p_eq (rfl : (mD q1.toNatClampNeg).toInt = _) (rfl : (mD q2.toNatClampNeg).toInt = _)
  have c4 := p_eq (rfl : (mD q2.toNatClampNeg).toInt = _) (rfl : (mD q1.toNatClampNeg).toInt = _)
  have c5 := p_le (rfl : (mD q2.toNatClampNeg).toInt = _) (rfl : (mD q1.toNatClampNeg).toInt = _)
  have d1 := p_le (rfl : (mT q1.toNatClampNeg).toInt = _) (rfl : (mT q2.toNatClampNeg).toInt = _)
  have d2 := p_le (rfl : (mT q2.toNatClampNeg).toInt = _) (rfl : (mT q1.toNatClampNeg).toInt = _)
  have d3 := p_eq (rfl : (mT q1.toNatClampNeg).toInt = _) (rfl : (mT q2.toNatClampNeg).toInt = _)
  rcases Int.lt_trichotomy (mD q1.toNatClampNeg).toInt (mD q2.toNatClampNeg).toInt with h | h | h
  · have g1 : ((mD q1.toNatClampNeg) < mD q2.toNatClampNeg) = True := eq_true (c1.mpr h)
    have g2 : (mD q2.toNatClampNeg ≤ (mD q1.toNatClampNeg)) = False := eq_false (fun z => by have := c5.mp z; omega)
    clear c1 c2 c3 c4 c5 d1 d2 d3
    simp +decide only [k_X2_checkArgument, k_X2_checkOutcome, f_X2_isYear, f_X2_sign, f_X2_orderMoments, k_X2_orderMoments, f_X3_isYear, f_X3_fails, s_X3_fails_co, f_X3_isAhead, f_X3_orderMoments_j1, f_X3_orderMoments, s_X3_orderMoments_co, f_L_orderMoments, s_L_orderMoments_ou, pre_L_orderMoments, pre_Lc44, reduceIte, updL_at, upd_at, ite_self, m_in_eq, m_unit_eq, false_implies, true_implies, implies_true, true_and, and_true, not_true_eq_false, not_false_eq_true, *]
  · have g0 : ((mD q1.toNatClampNeg) < mD q2.toNatClampNeg) = False := eq_false (fun z => by have := c1.mp z; omega)
    have g1 : (mD q2.toNatClampNeg < (mD q1.toNatClampNeg)) = False := eq_false (fun z => by have := c2.mp z; omega)
    have g2 : (mD q2.toNatClampNeg ≤ (mD q1.toNatClampNeg)) = True := eq_true (c5.mpr (by omega))
    have g3 : ((mD q1.toNatClampNeg) = mD q2.toNatClampNeg) = True := eq_true (c3.mpr h)
    have g4 : (mD q2.toNatClampNeg = (mD q1.toNatClampNeg)) = True := eq_true (c4.mpr h.symm)
    clear c1 c2 c3 c4 c5
    rcases Int.lt_trichotomy (mT q1.toNatClampNeg).toInt (mT q2.toNatClampNeg).toInt with k | k | k
    · have k1 : ((mT q1.toNatClampNeg) ≤ mT q2.toNatClampNeg) = True := eq_true (d1.mpr (by omega))
      have k2 : (mT q2.toNatClampNeg ≤ (mT q1.toNatClampNeg)) = False := eq_false (fun z => by have := d2.mp z; omega)
      clear d1 d2 d3 h k
      simp +decide only [k_X2_checkArgument, k_X2_checkOutcome, f_X2_isYear, f_X2_sign, f_X2_orderMoments, k_X2_orderMoments, f_X3_isYear, f_X3_fails, s_X3_fails_co, f_X3_isAhead, f_X3_orderMoments_j1, f_X3_orderMoments, s_X3_orderMoments_co, f_L_orderMoments, s_L_orderMoments_ou, pre_L_orderMoments, pre_Lc44, reduceIte, updL_at, upd_at, ite_self, m_in_eq, m_unit_eq, false_implies, true_implies, implies_true, true_and, and_true, not_true_eq_false, not_false_eq_true, *]
    · have k1 : ((mT q1.toNatClampNeg) ≤ mT q2.toNatClampNeg) = True := eq_true (d1.mpr (by omega))
      have k2 : (mT q2.toNatClampNeg ≤ (mT q1.toNatClampNeg)) = True := eq_true (d2.mpr (by omega))
      have k3 : ((mT q1.toNatClampNeg) = mT q2.toNatClampNeg) = True := eq_true (d3.mpr k)
      clear d1 d2 d3 h k
      simp +decide only [k_X2_checkArgument, k_X2_checkOutcome, f_X2_isYear, f_X2_sign, f_X2_orderMoments, k_X2_orderMoments, f_X3_isYear, f_X3_fails, s_X3_fails_co, f_X3_isAhead, f_X3_orderMoments_j1, f_X3_orderMoments, s_X3_orderMoments_co, f_L_orderMoments, s_L_orderMoments_ou, pre_L_orderMoments, pre_Lc44, reduceIte, updL_at, upd_at, ite_self, m_in_eq, m_unit_eq, false_implies, true_implies, implies_true, true_and, and_true, not_true_eq_false, not_false_eq_true, *]
    · have k1 : ((mT q1.toNatClampNeg) ≤ mT q2.toNatClampNeg) = False := eq_false (fun z => by have := d1.mp z; omega)
      have k2 : (mT q2.toNatClampNeg ≤ (mT q1.toNatClampNeg)) = True := eq_true (d2.mpr (by omega))
      have k3 : ((mT q1.toNatClampNeg) = mT q2.toNatClampNeg) = False := eq_false (fun z => by have := d3.mp z; omega)
      clear d1 d2 d3 h k
      simp +decide only [k_X2_checkArgument, k_X2_checkOutcome, f_X2_isYear, f_X2_sign, f_X2_orderMoments, k_X2_orderMoments, f_X3_isYear, f_X3_fails, s_X3_fails_co, f_X3_isAhead, f_X3_orderMoments_j1, f_X3_orderMoments, s_X3_orderMoments_co, f_L_orderMoments, s_L_orderMoments_ou, pre_L_orderMoments, pre_Lc44, reduceIte, updL_at, upd_at, ite_self, m_in_eq, m_unit_eq, false_implies, true_implies, implies_true, true_and, and_true, not_true_eq_false, not_false_eq_true, *]
  · have g0 : ((mD q1.toNatClampNeg) < mD q2.toNatClampNeg) = False := eq_false (fun z => by have := c1.mp z; omega)
    have g1 : (mD q2.toNatClampNeg < (mD q1.toNatClampNeg)) = True := eq_true (c2.mpr h)
    have g2 : (mD q2.toNatClampNeg ≤ (mD q1.toNatClampNeg)) = True := eq_true (c5.mpr (by omega))
    have g3 : ((mD q1.toNatClampNeg) = mD q2.toNatClampNeg) = False := eq_false (fun z => by have := c3.mp z; omega)
    clear c1 c2 c3 c4 c5 d1 d2 d3 h
    simp +decide only [k_X2_checkArgument, k_X2_checkOutcome, f_X2_isYear, f_X2_sign, f_X2_orderMoments, k_X2_orderMoments, f_X3_isYear, f_X3_fails, s_X3_fails_co, f_X3_isAhead, f_X3_orderMoments_j1, f_X3_orderMoments, s_X3_orderMoments_co, f_L_orderMoments, s_L_orderMoments_ou, pre_L_orderMoments, pre_Lc44, reduceIte, updL_at, upd_at, ite_self, m_in_eq, m_unit_eq, false_implies, true_implies, implies_true, true_and, and_true, not_true_eq_false, not_false_eq_true, *]
end ZPK
