section ZPK
set_option maxHeartbeats 4000000 in
set_option maxRecDepth 100000 in
theorem i_c24 (d : Nat → Int64) (sy : Nat → Int32) (sm : Nat → Int32) (sd : Nat → Int32) (mi : Nat → Int32) (ti : Nat → Int64) (sL : Nat → Int64) (bL : Nat → Int64) (mD : Nat → Int64) (mT : Nat → Int64) (ou : Nat → Int64) (q1 q2 q3 q4 q5 : Int32) (I : iInv d sy sm sd mi ti sL bL mD mT) : pre_Lc24 ti ou q1 q2 q3 q4 q5 ∧ (s_X3_time_ti ti q1 q2 q3 q4 q5) = (s_L_time_ti ti q1 q2 q3 q4 q5) ∧ iInv d sy sm sd mi (s_L_time_ti ti q1 q2 q3 q4 q5) sL bL mD mT := by
  unfold pre_Lc24
  rcases v_s4 q1 with ⟨a1, a2, a3, a4, a5⟩ | ⟨a4, a5⟩
  rotate_left
  · simp +decide only [k_X2_checkArgument, k_X2_checkOutcome, f_X2_isYear, f_X2_time, s_X2_time_ti, k_X2_time, f_X3_isYear, f_X3_fails, s_X3_fails_co, f_X3_time_j1, f_X3_time, s_X3_time_co, s_X3_time_ti, f_L_time, s_L_time_ti, s_L_time_ou, pre_L_time, pre_Lc24, reduceIte, updL_at, upd_at, ite_self, m_in_eq, m_unit_eq, false_implies, true_implies, implies_true, true_and, and_true, not_true_eq_false, not_false_eq_true, *]
  rcases v_in32 (a := q2) (b := 0) (c := 23) (x := q2.toInt) (y := 0) (z := 23) rfl rfl rfl with ⟨h1, h2, h3⟩ | ⟨h9, h3⟩
  rotate_left
  · skip
    simp +decide only [k_X2_checkArgument, k_X2_checkOutcome, f_X2_isYear, f_X2_time, s_X2_time_ti, k_X2_time, f_X3_isYear, f_X3_fails, s_X3_fails_co, f_X3_time_j1, f_X3_time, s_X3_time_co, s_X3_time_ti, f_L_time, s_L_time_ti, s_L_time_ou, pre_L_time, pre_Lc24, reduceIte, updL_at, upd_at, ite_self, m_in_eq, m_unit_eq, false_implies, true_implies, implies_true, true_and, and_true, not_true_eq_false, not_false_eq_true, *]
  rcases v_in32 (a := q3) (b := 0) (c := 59) (x := q3.toInt) (y := 0) (z := 59) rfl rfl rfl with ⟨m1, m2, m3⟩ | ⟨m9, m3⟩
  rotate_left
  · skip
    simp +decide only [k_X2_checkArgument, k_X2_checkOutcome, f_X2_isYear, f_X2_time, s_X2_time_ti, k_X2_time, f_X3_isYear, f_X3_fails, s_X3_fails_co, f_X3_time_j1, f_X3_time, s_X3_time_co, s_X3_time_ti, f_L_time, s_L_time_ti, s_L_time_ou, pre_L_time, pre_Lc24, reduceIte, updL_at, upd_at, ite_self, m_in_eq, m_unit_eq, false_implies, true_implies, implies_true, true_and, and_true, not_true_eq_false, not_false_eq_true, *]
  rcases v_in32 (a := q4) (b := 0) (c := 59) (x := q4.toInt) (y := 0) (z := 59) rfl rfl rfl with ⟨s1, s2, s3⟩ | ⟨s9, s3⟩
  rotate_left
  · skip
    simp +decide only [k_X2_checkArgument, k_X2_checkOutcome, f_X2_isYear, f_X2_time, s_X2_time_ti, k_X2_time, f_X3_isYear, f_X3_fails, s_X3_fails_co, f_X3_time_j1, f_X3_time, s_X3_time_co, s_X3_time_ti, f_L_time, s_L_time_ti, s_L_time_ou, pre_L_time, pre_Lc24, reduceIte, updL_at, upd_at, ite_self, m_in_eq, m_unit_eq, false_implies, true_implies, implies_true, true_and, and_true, not_true_eq_false, not_false_eq_true, *]
  rcases v_in32 (a := q5) (b := 0) (c := 999999999) (x := q5.toInt) (y := 0) (z := 999999999) rfl rfl rfl with ⟨n1, n2, n3⟩ | ⟨n9, n3⟩
  rotate_left
  · skip
    simp +decide only [k_X2_checkArgument, k_X2_checkOutcome, f_X2_isYear, f_X2_time, s_X2_time_ti, k_X2_time, f_X3_isYear, f_X3_fails, s_X3_fails_co, f_X3_time_j1, f_X3_time, s_X3_time_co, s_X3_time_ti, f_L_time, s_L_time_ti, s_L_time_ou, pre_L_time, pre_Lc24, reduceIte, updL_at, upd_at, ite_self, m_in_eq, m_unit_eq, false_implies, true_implies, implies_true, true_and, and_true, not_true_eq_false, not_false_eq_true, *]
  have G1 := p_add (p_add (p_mul (p_w (rfl : q2.toInt = _)) (show (3600000000000 : Int64).toInt = 3600000000000 from rfl) (by omega) (by omega)) (p_mul (p_w (rfl : q3.toInt = _)) (show (60000000000 : Int64).toInt = 60000000000 from rfl) (by omega) (by omega)) (by omega) (by omega)) (p_mul (p_w (rfl : q4.toInt = _)) (show (1000000000 : Int64).toInt = 1000000000 from rfl) (by omega) (by omega)) (by omega) (by omega)
  have G := p_add G1 (p_w (rfl : q5.toInt = _)) (by omega) (by omega)
  have N1 := p_add (p_add (p_mul (show (3600 : Int64).toInt = 3600 from rfl) (p_w (rfl : q2.toInt = _)) (by omega) (by omega)) (p_mul (show (60 : Int64).toInt = 60 from rfl) (p_w (rfl : q3.toInt = _)) (by omega) (by omega)) (by omega) (by omega)) (p_w (rfl : q4.toInt = _)) (by omega) (by omega)
  have N := p_add (p_mul N1 (show (1000000000 : Int64).toInt = 1000000000 from rfl) (by omega) (by omega)) (p_w (rfl : q5.toInt = _)) (by omega) (by omega)
  have e := p_of (N.trans (Eq.trans (by omega) G.symm))
  have J := J_ti I q1.toNatClampNeg (x := q2.toInt64 * 3600000000000 + q3.toInt64 * 60000000000 + q4.toInt64 * 1000000000 + q5.toInt64) (by omega) (by omega)
  clear G1 G N1 N
  simp +decide only [k_X2_checkArgument, k_X2_checkOutcome, f_X2_isYear, f_X2_time, s_X2_time_ti, k_X2_time, f_X3_isYear, f_X3_fails, s_X3_fails_co, f_X3_time_j1, f_X3_time, s_X3_time_co, s_X3_time_ti, f_L_time, s_L_time_ti, s_L_time_ou, pre_L_time, pre_Lc24, reduceIte, updL_at, upd_at, ite_self, m_in_eq, m_unit_eq, false_implies, true_implies, implies_true, true_and, and_true, not_true_eq_false, not_false_eq_true, *]
set_option maxHeartbeats 4000000 in
set_option maxRecDepth 100000 in
theorem i_c25 (d : Nat → Int64) (sy : Nat → Int32) (sm : Nat → Int32) (sd : Nat → Int32) (mi : Nat → Int32) (ti : Nat → Int64) (sL : Nat → Int64) (bL : Nat → Int64) (mD : Nat → Int64) (mT : Nat → Int64) (ou : Nat → Int64) (q1 q2 q3 q4 q5 : Int32) (I : iInv d sy sm sd mi ti sL bL mD mT) : pre_Lc25 ou q1 q2 q3 ∧ (s_X3_ofBillionths_ti ti q1 (((q2).toInt64 <<< ((32 : Int32).toInt64 &&& 63)) ||| ((q3).toInt64 &&& 4294967295))) = (s_L_ofBillionths_ti ti q1 (((q2).toInt64 <<< ((32 : Int32).toInt64 &&& 63)) ||| ((q3).toInt64 &&& 4294967295))) ∧ iInv d sy sm sd mi (s_L_ofBillionths_ti ti q1 (((q2).toInt64 <<< ((32 : Int32).toInt64 &&& 63)) ||| ((q3).toInt64 &&& 4294967295))) sL bL mD mT := by
  unfold pre_Lc25
  generalize (((q2).toInt64 <<< ((32 : Int32).toInt64 &&& 63)) ||| ((q3).toInt64 &&& 4294967295)) = x
  rcases v_s4 q1 with ⟨a1, a2, a3, a4, a5⟩ | ⟨a4, a5⟩
  rotate_left
  · simp +decide only [k_X2_checkArgument, k_X2_checkOutcome, f_X2_isYear, f_X2_ofBillionths, s_X2_ofBillionths_ti, k_X2_ofBillionths, f_X3_isYear, f_X3_fails, s_X3_fails_co, f_X3_ofBillionths_j1, f_X3_ofBillionths, s_X3_ofBillionths_co, s_X3_ofBillionths_ti, f_L_ofBillionths, s_L_ofBillionths_ti, s_L_ofBillionths_ou, pre_L_ofBillionths, pre_Lc25, reduceIte, updL_at, upd_at, ite_self, m_in_eq, m_unit_eq, false_implies, true_implies, implies_true, true_and, and_true, not_true_eq_false, not_false_eq_true, *]
  rcases v_in (rfl : x.toInt = _) (show (0 : Int64).toInt = 0 from rfl) (show (86399999999999 : Int64).toInt = 86399999999999 from rfl) with ⟨r1, r2, r3⟩ | ⟨r9, r3⟩
  rotate_left
  · simp +decide only [k_X2_checkArgument, k_X2_checkOutcome, f_X2_isYear, f_X2_ofBillionths, s_X2_ofBillionths_ti, k_X2_ofBillionths, f_X3_isYear, f_X3_fails, s_X3_fails_co, f_X3_ofBillionths_j1, f_X3_ofBillionths, s_X3_ofBillionths_co, s_X3_ofBillionths_ti, f_L_ofBillionths, s_L_ofBillionths_ti, s_L_ofBillionths_ou, pre_L_ofBillionths, pre_Lc25, reduceIte, updL_at, upd_at, ite_self, m_in_eq, m_unit_eq, false_implies, true_implies, implies_true, true_and, and_true, not_true_eq_false, not_false_eq_true, *]
  have J := J_ti I q1.toNatClampNeg r1 r2
  simp +decide only [k_X2_checkArgument, k_X2_checkOutcome, f_X2_isYear, f_X2_ofBillionths, s_X2_ofBillionths_ti, k_X2_ofBillionths, f_X3_isYear, f_X3_fails, s_X3_fails_co, f_X3_ofBillionths_j1, f_X3_ofBillionths, s_X3_ofBillionths_co, s_X3_ofBillionths_ti, f_L_ofBillionths, s_L_ofBillionths_ti, s_L_ofBillionths_ou, pre_L_ofBillionths, pre_Lc25, reduceIte, updL_at, upd_at, ite_self, m_in_eq, m_unit_eq, false_implies, true_implies, implies_true, true_and, and_true, not_true_eq_false, not_false_eq_true, *]
set_option maxHeartbeats 4000000 in
set_option maxRecDepth 100000 in
theorem i_c26 (d : Nat → Int64) (sy : Nat → Int32) (sm : Nat → Int32) (sd : Nat → Int32) (mi : Nat → Int32) (ti : Nat → Int64) (sL : Nat → Int64) (bL : Nat → Int64) (mD : Nat → Int64) (mT : Nat → Int64) (ou : Nat → Int64) (q1 q2 q3 q4 q5 : Int32) (I : iInv d sy sm sd mi ti sL bL mD mT) : pre_Lc26 ti ou q1 q2 := by
  unfold pre_Lc26
  generalize (q2.toUInt32 % 65536).toInt32 = u
  rcases v_s4 q1 with ⟨a1, a2, a3, a4, a5⟩ | ⟨a4, a5⟩
  rotate_left
  · simp +decide only [k_X2_checkArgument, k_X2_checkOutcome, f_X2_isYear, f_X2_timePart, k_X2_timePart, f_X3_isYear, f_X3_fails, s_X3_fails_co, f_X3_timePart_j1, f_X3_timePart, s_X3_timePart_co, f_L_timePart, s_L_timePart_ou, pre_L_timePart, pre_Lc26, reduceIte, updL_at, upd_at, ite_self, m_in_eq, m_unit_eq, false_implies, true_implies, implies_true, true_and, and_true, not_true_eq_false, not_false_eq_true, *]
  have T := iT_at I.2.2.2.2.2.1 a1
  have s0 := p_divn (rfl : (ti q1.toNatClampNeg).toInt = _) (show (1000000000 : Int64).toInt = 1000000000 from rfl) (by omega) (by omega)
  have s1 := p_divn s0 (show (3600 : Int64).toInt = 3600 from rfl) (by omega) (by omega)
  have s2 := p_divn s0 (show (60 : Int64).toInt = 60 from rfl) (by omega) (by omega)
  have s3 := p_divn (rfl : (ti q1.toNatClampNeg).toInt = _) (show (3600000000000 : Int64).toInt = 3600000000000 from rfl) (by omega) (by omega)
  have s4 := p_divn (rfl : (ti q1.toNatClampNeg).toInt = _) (show (60000000000 : Int64).toInt = 60000000000 from rfl) (by omega) (by omega)
  have e1 := p_of (s1.trans (Eq.trans (by omega) s3.symm))
  have e2 := p_of (s2.trans (Eq.trans (by omega) s4.symm))
  clear s0 s1 s2 s3 s4
  by_cases h104 : u = 104
  · subst h104
    simp +decide only [k_X2_checkArgument, k_X2_checkOutcome, f_X2_isYear, f_X2_timePart, k_X2_timePart, f_X3_isYear, f_X3_fails, s_X3_fails_co, f_X3_timePart_j1, f_X3_timePart, s_X3_timePart_co, f_L_timePart, s_L_timePart_ou, pre_L_timePart, pre_Lc26, reduceIte, updL_at, upd_at, ite_self, m_in_eq, m_unit_eq, false_implies, true_implies, implies_true, true_and, and_true, not_true_eq_false, not_false_eq_true, *]
  by_cases h109 : u = 109
  · subst h109
    simp +decide only [k_X2_checkArgument, k_X2_checkOutcome, f_X2_isYear, f_X2_timePart, k_X2_timePart, f_X3_isYear, f_X3_fails, s_X3_fails_co, f_X3_timePart_j1, f_X3_timePart, s_X3_timePart_co, f_L_timePart, s_L_timePart_ou, pre_L_timePart, pre_Lc26, reduceIte, updL_at, upd_at, ite_self, m_in_eq, m_unit_eq, false_implies, true_implies, implies_true, true_and, and_true, not_true_eq_false, not_false_eq_true, *]
  by_cases h110 : u = 110
  · subst h110
    simp +decide only [k_X2_checkArgument, k_X2_checkOutcome, f_X2_isYear, f_X2_timePart, k_X2_timePart, f_X3_isYear, f_X3_fails, s_X3_fails_co, f_X3_timePart_j1, f_X3_timePart, s_X3_timePart_co, f_L_timePart, s_L_timePart_ou, pre_L_timePart, pre_Lc26, reduceIte, updL_at, upd_at, ite_self, m_in_eq, m_unit_eq, false_implies, true_implies, implies_true, true_and, and_true, not_true_eq_false, not_false_eq_true, *]
  by_cases h115 : u = 115
  · subst h115
    simp +decide only [k_X2_checkArgument, k_X2_checkOutcome, f_X2_isYear, f_X2_timePart, k_X2_timePart, f_X3_isYear, f_X3_fails, s_X3_fails_co, f_X3_timePart_j1, f_X3_timePart, s_X3_timePart_co, f_L_timePart, s_L_timePart_ou, pre_L_timePart, pre_Lc26, reduceIte, updL_at, upd_at, ite_self, m_in_eq, m_unit_eq, false_implies, true_implies, implies_true, true_and, and_true, not_true_eq_false, not_false_eq_true, *]
  simp +decide only [k_X2_checkArgument, k_X2_checkOutcome, f_X2_isYear, f_X2_timePart, k_X2_timePart, f_X3_isYear, f_X3_fails, s_X3_fails_co, f_X3_timePart_j1, f_X3_timePart, s_X3_timePart_co, f_L_timePart, s_L_timePart_ou, pre_L_timePart, pre_Lc26, reduceIte, updL_at, upd_at, ite_self, m_in_eq, m_unit_eq, false_implies, true_implies, implies_true, true_and, and_true, not_true_eq_false, not_false_eq_true, *]
set_option maxHeartbeats 4000000 in
set_option maxRecDepth 100000 in
theorem i_c27 (d : Nat → Int64) (sy : Nat → Int32) (sm : Nat → Int32) (sd : Nat → Int32) (mi : Nat → Int32) (ti : Nat → Int64) (sL : Nat → Int64) (bL : Nat → Int64) (mD : Nat → Int64) (mT : Nat → Int64) (ou : Nat → Int64) (q1 q2 q3 q4 q5 : Int32) (I : iInv d sy sm sd mi ti sL bL mD mT) : pre_Lc27 ti ou q1 q2 q3 q4 q5 ∧ (s_X3_moveTime_ti ti q1 ((q2.toUInt32 % 65536).toInt32) (((q3).toInt64 <<< ((32 : Int32).toInt64 &&& 63)) ||| ((q4).toInt64 &&& 4294967295)) q5) = (s_L_moveTime_ti ti q1 ((q2.toUInt32 % 65536).toInt32) (((q3).toInt64 <<< ((32 : Int32).toInt64 &&& 63)) ||| ((q4).toInt64 &&& 4294967295)) q5) ∧ iInv d sy sm sd mi (s_L_moveTime_ti ti q1 ((q2.toUInt32 % 65536).toInt32) (((q3).toInt64 <<< ((32 : Int32).toInt64 &&& 63)) ||| ((q4).toInt64 &&& 4294967295)) q5) sL bL mD mT := by
  unfold pre_Lc27
  generalize (q2.toUInt32 % 65536).toInt32 = u
  generalize (((q3).toInt64 <<< ((32 : Int32).toInt64 &&& 63)) ||| ((q4).toInt64 &&& 4294967295)) = x
  rcases v_s4 q1 with ⟨a1, a2, a3, a4, a5⟩ | ⟨a4, a5⟩
  rotate_left
  · simp +decide only [f_X0_countInDay, k_X2_checkArgument, k_X2_checkOutcome, f_X2_isYear, f_X2_moveTime_j1, f_X2_moveTime_j2, f_X2_moveTime_j3, f_X2_moveTime, s_X2_moveTime_ti, k_X2_moveTime, f_X3_isYear, f_X3_fails, s_X3_fails_co, f_X3_moveTime_j1, f_X3_moveTime_j2, f_X3_moveTime, s_X3_moveTime_co, s_X3_moveTime_ti, pre_X3_moveTime, f_L_moveTime, s_L_moveTime_ti, s_L_moveTime_ou, pre_L_moveTime, pre_Lc27, reduceIte, updL_at, upd_at, ite_self, m_in_eq, m_unit_eq, false_implies, true_implies, implies_true, true_and, and_true, not_true_eq_false, not_false_eq_true, *]
  rcases v_s4 q5 with ⟨b1, b2, b3, b4, b5⟩ | ⟨b4, b5⟩
  rotate_left
  · simp +decide only [f_X0_countInDay, k_X2_checkArgument, k_X2_checkOutcome, f_X2_isYear, f_X2_moveTime_j1, f_X2_moveTime_j2, f_X2_moveTime_j3, f_X2_moveTime, s_X2_moveTime_ti, k_X2_moveTime, f_X3_isYear, f_X3_fails, s_X3_fails_co, f_X3_moveTime_j1, f_X3_moveTime_j2, f_X3_moveTime, s_X3_moveTime_co, s_X3_moveTime_ti, pre_X3_moveTime, f_L_moveTime, s_L_moveTime_ti, s_L_moveTime_ou, pre_L_moveTime, pre_Lc27, reduceIte, updL_at, upd_at, ite_self, m_in_eq, m_unit_eq, false_implies, true_implies, implies_true, true_and, and_true, not_true_eq_false, not_false_eq_true, *]
  have T := iT_at I.2.2.2.2.2.1 a1
  by_cases h104 : u = 104
  · subst h104
    rcases v_in (rfl : x.toInt = _) (show (-1000000000000000 : Int64).toInt = -1000000000000000 from rfl) (show (1000000000000000 : Int64).toInt = 1000000000000000 from rfl) with ⟨r1, r2, r3⟩ | ⟨r9, r3⟩
    rotate_left
    · simp +decide only [f_X0_countInDay, k_X2_checkArgument, k_X2_checkOutcome, f_X2_isYear, f_X2_moveTime_j1, f_X2_moveTime_j2, f_X2_moveTime_j3, f_X2_moveTime, s_X2_moveTime_ti, k_X2_moveTime, f_X3_isYear, f_X3_fails, s_X3_fails_co, f_X3_moveTime_j1, f_X3_moveTime_j2, f_X3_moveTime, s_X3_moveTime_co, s_X3_moveTime_ti, pre_X3_moveTime, f_L_moveTime, s_L_moveTime_ti, s_L_moveTime_ou, pre_L_moveTime, pre_Lc27, reduceIte, updL_at, upd_at, ite_self, m_in_eq, m_unit_eq, false_implies, true_implies, implies_true, true_and, and_true, not_true_eq_false, not_false_eq_true, *]
    obtain ⟨p, e, g1, g2⟩ := rd_h (x := x) (t := ti q1.toNatClampNeg) (by omega) T.1 T.2
    have J := J_ti I q5.toNatClampNeg g1 g2
    simp +decide only [f_X0_countInDay, k_X2_checkArgument, k_X2_checkOutcome, f_X2_isYear, f_X2_moveTime_j1, f_X2_moveTime_j2, f_X2_moveTime_j3, f_X2_moveTime, s_X2_moveTime_ti, k_X2_moveTime, f_X3_isYear, f_X3_fails, s_X3_fails_co, f_X3_moveTime_j1, f_X3_moveTime_j2, f_X3_moveTime, s_X3_moveTime_co, s_X3_moveTime_ti, pre_X3_moveTime, f_L_moveTime, s_L_moveTime_ti, s_L_moveTime_ou, pre_L_moveTime, pre_Lc27, reduceIte, updL_at, upd_at, ite_self, m_in_eq, m_unit_eq, false_implies, true_implies, implies_true, true_and, and_true, not_true_eq_false, not_false_eq_true, *]
  by_cases h109 : u = 109
  · subst h109
    rcases v_in (rfl : x.toInt = _) (show (-1000000000000000 : Int64).toInt = -1000000000000000 from rfl) (show (1000000000000000 : Int64).toInt = 1000000000000000 from rfl) with ⟨r1, r2, r3⟩ | ⟨r9, r3⟩
    rotate_left
    · simp +decide only [f_X0_countInDay, k_X2_checkArgument, k_X2_checkOutcome, f_X2_isYear, f_X2_moveTime_j1, f_X2_moveTime_j2, f_X2_moveTime_j3, f_X2_moveTime, s_X2_moveTime_ti, k_X2_moveTime, f_X3_isYear, f_X3_fails, s_X3_fails_co, f_X3_moveTime_j1, f_X3_moveTime_j2, f_X3_moveTime, s_X3_moveTime_co, s_X3_moveTime_ti, pre_X3_moveTime, f_L_moveTime, s_L_moveTime_ti, s_L_moveTime_ou, pre_L_moveTime, pre_Lc27, reduceIte, updL_at, upd_at, ite_self, m_in_eq, m_unit_eq, false_implies, true_implies, implies_true, true_and, and_true, not_true_eq_false, not_false_eq_true, *]
    obtain ⟨p, e, g1, g2⟩ := rd_m (x := x) (t := ti q1.toNatClampNeg) (by omega) T.1 T.2
    have J := J_ti I q5.toNatClampNeg g1 g2
    simp +decide only [f_X0_countInDay, k_X2_checkArgument, k_X2_checkOutcome, f_X2_isYear, f_X2_moveTime_j1, f_X2_moveTime_j2, f_X2_moveTime_j3, f_X2_moveTime, s_X2_moveTime_ti, k_X2_moveTime, f_X3_isYear, f_X3_fails, s_X3_fails_co, f_X3_moveTime_j1, f_X3_moveTime_j2, f_X3_moveTime, s_X3_moveTime_co, s_X3_moveTime_ti, pre_X3_moveTime, f_L_moveTime, s_L_moveTime_ti, s_L_moveTime_ou, pre_L_moveTime, pre_Lc27, reduceIte, updL_at, upd_at, ite_self, m_in_eq, m_unit_eq, false_implies, true_implies, implies_true, true_and, and_true, not_true_eq_false, not_false_eq_true, *]
  by_cases h110 : u = 110
  · subst h110
    rcases v_in (rfl : x.toInt = _) (show (-1000000000000000 : Int64).toInt = -1000000000000000 from rfl) (show (1000000000000000 : Int64).toInt = 1000000000000000 from rfl) with ⟨r1, r2, r3⟩ | ⟨r9, r3⟩
    rotate_left
    · simp +decide only [f_X0_countInDay, k_X2_checkArgument, k_X2_checkOutcome, f_X2_isYear, f_X2_moveTime_j1, f_X2_moveTime_j2, f_X2_moveTime_j3, f_X2_moveTime, s_X2_moveTime_ti, k_X2_moveTime, f_X3_isYear, f_X3_fails, s_X3_fails_co, f_X3_moveTime_j1, f_X3_moveTime_j2, f_X3_moveTime, s_X3_moveTime_co, s_X3_moveTime_ti, pre_X3_moveTime, f_L_moveTime, s_L_moveTime_ti, s_L_moveTime_ou, pre_L_moveTime, pre_Lc27, reduceIte, updL_at, upd_at, ite_self, m_in_eq, m_unit_eq, false_implies, true_implies, implies_true, true_and, and_true, not_true_eq_false, not_false_eq_true, *]
    obtain ⟨p, e, g1, g2⟩ := rd_n (x := x) (t := ti q1.toNatClampNeg) (by omega) T.1 T.2
    have J := J_ti I q5.toNatClampNeg g1 g2
    simp +decide only [f_X0_countInDay, k_X2_checkArgument, k_X2_checkOutcome, f_X2_isYear, f_X2_moveTime_j1, f_X2_moveTime_j2, f_X2_moveTime_j3, f_X2_moveTime, s_X2_moveTime_ti, k_X2_moveTime, f_X3_isYear, f_X3_fails, s_X3_fails_co, f_X3_moveTime_j1, f_X3_moveTime_j2, f_X3_moveTime, s_X3_moveTime_co, s_X3_moveTime_ti, pre_X3_moveTime, f_L_moveTime, s_L_moveTime_ti, s_L_moveTime_ou, pre_L_moveTime, pre_Lc27, reduceIte, updL_at, upd_at, ite_self, m_in_eq, m_unit_eq, false_implies, true_implies, implies_true, true_and, and_true, not_true_eq_false, not_false_eq_true, *]
  by_cases h115 : u = 115
  · subst h115
    rcases v_in (rfl : x.toInt = _) (show (-1000000000000000 : Int64).toInt = -1000000000000000 from rfl) (show (1000000000000000 : Int64).toInt = 1000000000000000 from rfl) with ⟨r1, r2, r3⟩ | ⟨r9, r3⟩
    rotate_left
    · simp +decide only [f_X0_countInDay, k_X2_checkArgument, k_X2_checkOutcome, f_X2_isYear, f_X2_moveTime_j1, f_X2_moveTime_j2, f_X2_moveTime_j3, f_X2_moveTime, s_X2_moveTime_ti, k_X2_moveTime, f_X3_isYear, f_X3_fails, s_X3_fails_co, f_X3_moveTime_j1, f_X3_moveTime_j2, f_X3_moveTime, s_X3_moveTime_co, s_X3_moveTime_ti, pre_X3_moveTime, f_L_moveTime, s_L_moveTime_ti, s_L_moveTime_ou, pre_L_moveTime, pre_Lc27, reduceIte, updL_at, upd_at, ite_self, m_in_eq, m_unit_eq, false_implies, true_implies, implies_true, true_and, and_true, not_true_eq_false, not_false_eq_true, *]
    obtain ⟨p, e, g1, g2⟩ := rd_s (x := x) (t := ti q1.toNatClampNeg) (by omega) T.1 T.2
    have J := J_ti I q5.toNatClampNeg g1 g2
    simp +decide only [f_X0_countInDay, k_X2_checkArgument, k_X2_checkOutcome, f_X2_isYear, f_X2_moveTime_j1, f_X2_moveTime_j2, f_X2_moveTime_j3, f_X2_moveTime, s_X2_moveTime_ti, k_X2_moveTime, f_X3_isYear, f_X3_fails, s_X3_fails_co, f_X3_moveTime_j1, f_X3_moveTime_j2, f_X3_moveTime, s_X3_moveTime_co, s_X3_moveTime_ti, pre_X3_moveTime, f_L_moveTime, s_L_moveTime_ti, s_L_moveTime_ou, pre_L_moveTime, pre_Lc27, reduceIte, updL_at, upd_at, ite_self, m_in_eq, m_unit_eq, false_implies, true_implies, implies_true, true_and, and_true, not_true_eq_false, not_false_eq_true, *]
  by_cases h105 : u = 105
  · subst h105
    simp +decide only [f_X0_countInDay, k_X2_checkArgument, k_X2_checkOutcome, f_X2_isYear, f_X2_moveTime_j1, f_X2_moveTime_j2, f_X2_moveTime_j3, f_X2_moveTime, s_X2_moveTime_ti, k_X2_moveTime, f_X3_isYear, f_X3_fails, s_X3_fails_co, f_X3_moveTime_j1, f_X3_moveTime_j2, f_X3_moveTime, s_X3_moveTime_co, s_X3_moveTime_ti, pre_X3_moveTime, f_L_moveTime, s_L_moveTime_ti, s_L_moveTime_ou, pre_L_moveTime, pre_Lc27, reduceIte, updL_at, upd_at, ite_self, m_in_eq, m_unit_eq, false_implies, true_implies, implies_true, true_and, and_true, not_true_eq_false, not_false_eq_true, *]
  simp +decide only [f_X0_countInDay, k_X2_checkArgument, k_X2_checkOutcome, f_X2_isYear, f_X2_moveTime_j1, f_X2_moveTime_j2, f_X2_moveTime_j3, f_X2_moveTime, s_X2_moveTime_ti, k_X2_moveTime, f_X3_isYear, f_X3_fails, s_X3_fails_co, f_X3_moveTime_j1, f_X3_moveTime_j2, f_X3_moveTime, s_X3_moveTime_co, s_X3_moveTime_ti, pre_X3_moveTime, f_L_moveTime, s_L_moveTime_ti, s_L_moveTime_ou, pre_L_moveTime, pre_Lc27, reduceIte, updL_at, upd_at, ite_self, m_in_eq, m_unit_eq, false_implies, true_implies, implies_true, true_and, and_true, not_true_eq_false, not_false_eq_true, *]
set_option maxHeartbeats 4000000 in
set_option maxRecDepth 100000 in
theorem i_c28 (d : Nat → Int64) (sy : Nat → Int32) (sm : Nat → Int32) (sd : Nat → Int32) (mi : Nat → Int32) (ti : Nat → Int64) (sL : Nat → Int64) (bL : Nat → Int64) (mD : Nat → Int64) (mT : Nat → Int64) (ou : Nat → Int64) (q1 q2 q3 q4 q5 : Int32) (I : iInv d sy sm sd mi ti sL bL mD mT) : pre_Lc28 ti ou q1 q2 q3 ∧ (s_X3_cutTime_ti ti q1 ((q2.toUInt32 % 65536).toInt32) q3) = (s_L_cutTime_ti ti q1 ((q2.toUInt32 % 65536).toInt32) q3) ∧ iInv d sy sm sd mi (s_L_cutTime_ti ti q1 ((q2.toUInt32 % 65536).toInt32) q3) sL bL mD mT := by
  unfold pre_Lc28
  generalize (q2.toUInt32 % 65536).toInt32 = u
  rcases v_s4 q1 with ⟨a1, a2, a3, a4, a5⟩ | ⟨a4, a5⟩
  rotate_left
  · simp +decide only [k_X2_checkArgument, k_X2_checkOutcome, f_X2_isYear, f_X2_cutTime, s_X2_cutTime_ti, k_X2_cutTime, f_X3_isYear, f_X3_fails, s_X3_fails_co, f_X3_cutTime_j1, f_X3_cutTime_j2, f_X3_cutTime, s_X3_cutTime_co, s_X3_cutTime_ti, f_L_cutTime, s_L_cutTime_ti, s_L_cutTime_ou, pre_L_cutTime, pre_Lc28, reduceIte, updL_at, upd_at, ite_self, m_in_eq, m_unit_eq, false_implies, true_implies, implies_true, true_and, and_true, not_true_eq_false, not_false_eq_true, *]
  rcases v_s4 q3 with ⟨b1, b2, b3, b4, b5⟩ | ⟨b4, b5⟩
  rotate_left
  · simp +decide only [k_X2_checkArgument, k_X2_checkOutcome, f_X2_isYear, f_X2_cutTime, s_X2_cutTime_ti, k_X2_cutTime, f_X3_isYear, f_X3_fails, s_X3_fails_co, f_X3_cutTime_j1, f_X3_cutTime_j2, f_X3_cutTime, s_X3_cutTime_co, s_X3_cutTime_ti, f_L_cutTime, s_L_cutTime_ti, s_L_cutTime_ou, pre_L_cutTime, pre_Lc28, reduceIte, updL_at, upd_at, ite_self, m_in_eq, m_unit_eq, false_implies, true_implies, implies_true, true_and, and_true, not_true_eq_false, not_false_eq_true, *]
  have T := iT_at I.2.2.2.2.2.1 a1
  by_cases h100 : u = 100
  · subst h100
    have G := p_sub (rfl : (ti q1.toNatClampNeg).toInt = _) (p_remn (rfl : (ti q1.toNatClampNeg).toInt = _) (show (86400000000000 : Int64).toInt = 86400000000000 from rfl) (by omega) (by omega)) (by omega) (by omega)
    have e : ti q1.toNatClampNeg - (ti q1.toNatClampNeg - ti q1.toNatClampNeg / 86400000000000 * 86400000000000) = 0 := p_of (G.trans (Eq.trans (by omega) p_k0.symm))
    have J := J_ti I q3.toNatClampNeg (x := 0) (by decide) (by decide)
    clear G
    simp +decide only [k_X2_checkArgument, k_X2_checkOutcome, f_X2_isYear, f_X2_cutTime, s_X2_cutTime_ti, k_X2_cutTime, f_X3_isYear, f_X3_fails, s_X3_fails_co, f_X3_cutTime_j1, f_X3_cutTime_j2, f_X3_cutTime, s_X3_cutTime_co, s_X3_cutTime_ti, f_L_cutTime, s_L_cutTime_ti, s_L_cutTime_ou, pre_L_cutTime, pre_Lc28, reduceIte, updL_at, upd_at, ite_self, m_in_eq, m_unit_eq, false_implies, true_implies, implies_true, true_and, and_true, not_true_eq_false, not_false_eq_true, *]
  by_cases h104 : u = 104
  · subst h104
    have G := p_sub (rfl : (ti q1.toNatClampNeg).toInt = _) (p_remn (rfl : (ti q1.toNatClampNeg).toInt = _) (show (3600000000000 : Int64).toInt = 3600000000000 from rfl) (by omega) (by omega)) (by omega) (by omega)
    have J := J_ti I q3.toNatClampNeg (x := ti q1.toNatClampNeg - (ti q1.toNatClampNeg - ti q1.toNatClampNeg / 3600000000000 * 3600000000000)) (by omega) (by omega)
    clear G
    simp +decide only [k_X2_checkArgument, k_X2_checkOutcome, f_X2_isYear, f_X2_cutTime, s_X2_cutTime_ti, k_X2_cutTime, f_X3_isYear, f_X3_fails, s_X3_fails_co, f_X3_cutTime_j1, f_X3_cutTime_j2, f_X3_cutTime, s_X3_cutTime_co, s_X3_cutTime_ti, f_L_cutTime, s_L_cutTime_ti, s_L_cutTime_ou, pre_L_cutTime, pre_Lc28, reduceIte, updL_at, upd_at, ite_self, m_in_eq, m_unit_eq, false_implies, true_implies, implies_true, true_and, and_true, not_true_eq_false, not_false_eq_true, *]
  by_cases h109 : u = 109
  · subst h109
    have G := p_sub (rfl : (ti q1.toNatClampNeg).toInt = _) (p_remn (rfl : (ti q1.toNatClampNeg).toInt = _) (show (60000000000 : Int64).toInt = 60000000000 from rfl) (by omega) (by omega)) (by omega) (by omega)
    have J := J_ti I q3.toNatClampNeg (x := ti q1.toNatClampNeg - (ti q1.toNatClampNeg - ti q1.toNatClampNeg / 60000000000 * 60000000000)) (by omega) (by omega)
    clear G
    simp +decide only [k_X2_checkArgument, k_X2_checkOutcome, f_X2_isYear, f_X2_cutTime, s_X2_cutTime_ti, k_X2_cutTime, f_X3_isYear, f_X3_fails, s_X3_fails_co, f_X3_cutTime_j1, f_X3_cutTime_j2, f_X3_cutTime, s_X3_cutTime_co, s_X3_cutTime_ti, f_L_cutTime, s_L_cutTime_ti, s_L_cutTime_ou, pre_L_cutTime, pre_Lc28, reduceIte, updL_at, upd_at, ite_self, m_in_eq, m_unit_eq, false_implies, true_implies, implies_true, true_and, and_true, not_true_eq_false, not_false_eq_true, *]
  by_cases h115 : u = 115
  · subst h115
    have G := p_sub (rfl : (ti q1.toNatClampNeg).toInt = _) (p_remn (rfl : (ti q1.toNatClampNeg).toInt = _) (show (1000000000 : Int64).toInt = 1000000000 from rfl) (by omega) (by omega)) (by omega) (by omega)
    have J := J_ti I q3.toNatClampNeg (x := ti q1.toNatClampNeg - (ti q1.toNatClampNeg - ti q1.toNatClampNeg / 1000000000 * 1000000000)) (by omega) (by omega)
    clear G
    simp +decide only [k_X2_checkArgument, k_X2_checkOutcome, f_X2_isYear, f_X2_cutTime, s_X2_cutTime_ti, k_X2_cutTime, f_X3_isYear, f_X3_fails, s_X3_fails_co, f_X3_cutTime_j1, f_X3_cutTime_j2, f_X3_cutTime, s_X3_cutTime_co, s_X3_cutTime_ti, f_L_cutTime, s_L_cutTime_ti, s_L_cutTime_ou, pre_L_cutTime, pre_Lc28, reduceIte, updL_at, upd_at, ite_self, m_in_eq, m_unit_eq, false_implies, true_implies, implies_true, true_and, and_true, not_true_eq_false, not_false_eq_true, *]
  simp +decide only [k_X2_checkArgument, k_X2_checkOutcome, f_X2_isYear, f_X2_cutTime, s_X2_cutTime_ti, k_X2_cutTime, f_X3_isYear, f_X3_fails, s_X3_fails_co, f_X3_cutTime_j1, f_X3_cutTime_j2, f_X3_cutTime, s_X3_cutTime_co, s_X3_cutTime_ti, f_L_cutTime, s_L_cutTime_ti, s_L_cutTime_ou, pre_L_cutTime, pre_Lc28, reduceIte, updL_at, upd_at, ite_self, m_in_eq, m_unit_eq, false_implies, true_implies, implies_true, true_and, and_true, not_true_eq_false, not_false_eq_true, *]
set_option maxHeartbeats 4000000 in
set_option maxRecDepth 100000 in
theorem i_c30 (d : Nat → Int64) (sy : Nat → Int32) (sm : Nat → Int32) (sd : Nat → Int32) (mi : Nat → Int32) (ti : Nat → Int64) (sL : Nat → Int64) (bL : Nat → Int64) (mD : Nat → Int64) (mT : Nat → Int64) (ou : Nat → Int64) (q1 q2 q3 q4 q5 : Int32) (I : iInv d sy sm sd mi ti sL bL mD mT) : pre_Lc30 ti ou q1 q2 := by
  rcases v_s4 q1 with ⟨a1, a2, a3, a4, a5⟩ | ⟨a4, a5⟩
  rotate_left
  · simp +decide only [k_X2_checkArgument, k_X2_checkOutcome, f_X2_isYear, f_X2_orderTimes, k_X2_orderTimes, f_X3_isYear, f_X3_fails, s_X3_fails_co, f_X3_orderTimes_j1, f_X3_orderTimes, s_X3_orderTimes_co, f_L_orderTimes, s_L_orderTimes_ou, pre_L_orderTimes, pre_Lc30, reduceIte, updL_at, upd_at, ite_self, m_in_eq, m_unit_eq, false_implies, true_implies, implies_true, true_and, and_true, not_true_eq_false, not_false_eq_true, *]
  rcases v_s4 q2 with ⟨b1, b2, b3, b4, b5⟩ | ⟨b4, b5⟩
  rotate_left
  · simp +decide only [k_X2_checkArgument, k_X2_checkOutcome, f_X2_isYear, f_X2_orderTimes, k_X2_orderTimes, f_X3_isYear, f_X3_fails, s_X3_fails_co, f_X3_orderTimes_j1, f_X3_orderTimes, s_X3_orderTimes_co, f_L_orderTimes, s_L_orderTimes_ou, pre_L_orderTimes, pre_Lc30, reduceIte, updL_at, upd_at, ite_self, m_in_eq, m_unit_eq, false_implies, true_implies, implies_true, true_and, and_true, not_true_eq_false, not_false_eq_true, *]
  have e := v_sgn (ti q1.toNatClampNeg) (ti q2.toNatClampNeg)
  simp +decide only [k_X2_checkArgument, k_X2_checkOutcome, f_X2_isYear, f_X2_orderTimes, k_X2_orderTimes, f_X3_isYear, f_X3_fails, s_X3_fails_co, f_X3_orderTimes_j1, f_X3_orderTimes, s_X3_orderTimes_co, f_L_orderTimes, s_L_orderTimes_ou, pre_L_orderTimes, pre_Lc30, reduceIte, updL_at, upd_at, ite_self, m_in_eq, m_unit_eq, false_implies, true_implies, implies_true, true_and, and_true, not_true_eq_false, not_false_eq_true, *]
end ZPK
