section ZPK
set_option maxHeartbeats 4000000 in
set_option maxRecDepth 100000 in
theorem i_c31 (d : Nat → Int64) (sy : Nat → Int32) (sm : Nat → Int32) (sd : Nat → Int32) (mi : Nat → Int32) (ti : Nat → Int64) (sL : Nat → Int64) (bL : Nat → Int64) (mD : Nat → Int64) (mT : Nat → Int64) (ou : Nat → Int64) (q1 q2 q3 q4 q5 : Int32) (I : iInv d sy sm sd mi ti sL bL mD mT) : pre_Lc31 ou q1 q2 q3 q4 q5 ∧ (s_X3_length_sL sL q1 (((q2).toInt64 <<< ((32 : Int32).toInt64 &&& 63)) ||| ((q3).toInt64 &&& 4294967295)) (((q4).toInt64 <<< ((32 : Int32).toInt64 &&& 63)) ||| ((q5).toInt64 &&& 4294967295))) = (s_L_length_sL sL q1 (((q2).toInt64 <<< ((32 : Int32).toInt64 &&& 63)) ||| ((q3).toInt64 &&& 4294967295)) (((q4).toInt64 <<< ((32 : Int32).toInt64 &&& 63)) ||| ((q5).toInt64 &&& 4294967295))) ∧ (s_X3_length_bL bL q1 (((q2).toInt64 <<< ((32 : Int32).toInt64 &&& 63)) ||| ((q3).toInt64 &&& 4294967295)) (((q4).toInt64 <<< ((32 : Int32).toInt64 &&& 63)) ||| ((q5).toInt64 &&& 4294967295))) = (s_L_length_bL bL q1 (((q2).toInt64 <<< ((32 : Int32).toInt64 &&& 63)) ||| ((q3).toInt64 &&& 4294967295)) (((q4).toInt64 <<< ((32 : Int32).toInt64 &&& 63)) ||| ((q5).toInt64 &&& 4294967295))) ∧ iInv d sy sm sd mi ti (s_L_length_sL sL q1 (((q2).toInt64 <<< ((32 : Int32).toInt64 &&& 63)) ||| ((q3).toInt64 &&& 4294967295)) (((q4).toInt64 <<< ((32 : Int32).toInt64 &&& 63)) ||| ((q5).toInt64 &&& 4294967295))) (s_L_length_bL bL q1 (((q2).toInt64 <<< ((32 : Int32).toInt64 &&& 63)) ||| ((q3).toInt64 &&& 4294967295)) (((q4).toInt64 <<< ((32 : Int32).toInt64 &&& 63)) ||| ((q5).toInt64 &&& 4294967295))) mD mT := by
  unfold pre_Lc31
  generalize (((q2).toInt64 <<< ((32 : Int32).toInt64 &&& 63)) ||| ((q3).toInt64 &&& 4294967295)) = x
  generalize (((q4).toInt64 <<< ((32 : Int32).toInt64 &&& 63)) ||| ((q5).toInt64 &&& 4294967295)) = y
  rcases v_s4 q1 with ⟨a1, a2, a3, a4, a5⟩ | ⟨a4, a5⟩
  rotate_left
  · simp +decide only [k_X2_checkArgument, k_X2_checkOutcome, f_X2_isYear, f_X2_keepLength, s_X2_keepLength_sL, s_X2_keepLength_bL, k_X2_keepLength, f_X2_length, s_X2_length_sL, s_X2_length_bL, k_X2_length, f_X3_isYear, f_X3_fails, s_X3_fails_co, f_X3_lasts, s_X3_lasts_co, s_X3_lasts_sL, s_X3_lasts_bL, f_X3_length_j1, f_X3_length, s_X3_length_co, s_X3_length_sL, s_X3_length_bL, f_L_length, s_L_length_sL, s_L_length_bL, s_L_length_ou, pre_Lc31, reduceIte, updL_at, upd_at, ite_self, m_in_eq, m_unit_eq, false_implies, true_implies, implies_true, true_and, and_true, not_true_eq_false, not_false_eq_true, *]
  rcases v_in (rfl : x.toInt = _) (show (-1000000000000 : Int64).toInt = -1000000000000 from rfl) (show (1000000000000 : Int64).toInt = 1000000000000 from rfl) with ⟨r1, r2, r3⟩ | ⟨r9, r3⟩
  rotate_left
  · simp +decide only [k_X2_checkArgument, k_X2_checkOutcome, f_X2_isYear, f_X2_keepLength, s_X2_keepLength_sL, s_X2_keepLength_bL, k_X2_keepLength, f_X2_length, s_X2_length_sL, s_X2_length_bL, k_X2_length, f_X3_isYear, f_X3_fails, s_X3_fails_co, f_X3_lasts, s_X3_lasts_co, s_X3_lasts_sL, s_X3_lasts_bL, f_X3_length_j1, f_X3_length, s_X3_length_co, s_X3_length_sL, s_X3_length_bL, f_L_length, s_L_length_sL, s_L_length_bL, s_L_length_ou, pre_Lc31, reduceIte, updL_at, upd_at, ite_self, m_in_eq, m_unit_eq, false_implies, true_implies, implies_true, true_and, and_true, not_true_eq_false, not_false_eq_true, *]
  rcases v_in (rfl : y.toInt = _) (show (-1000000000000000 : Int64).toInt = -1000000000000000 from rfl) (show (1000000000000000 : Int64).toInt = 1000000000000000 from rfl) with ⟨t1, t2, t3⟩ | ⟨t9, t3⟩
  rotate_left
  · simp +decide only [k_X2_checkArgument, k_X2_checkOutcome, f_X2_isYear, f_X2_keepLength, s_X2_keepLength_sL, s_X2_keepLength_bL, k_X2_keepLength, f_X2_length, s_X2_length_sL, s_X2_length_bL, k_X2_length, f_X3_isYear, f_X3_fails, s_X3_fails_co, f_X3_lasts, s_X3_lasts_co, s_X3_lasts_sL, s_X3_lasts_bL, f_X3_length_j1, f_X3_length, s_X3_length_co, s_X3_length_sL, s_X3_length_bL, f_L_length, s_L_length_sL, s_L_length_bL, s_L_length_ou, pre_Lc31, reduceIte, updL_at, upd_at, ite_self, m_in_eq, m_unit_eq, false_implies, true_implies, implies_true, true_and, and_true, not_true_eq_false, not_false_eq_true, *]
  obtain ⟨l1, l2, ⟨l3, l4, l5⟩ | ⟨l3, l4⟩⟩ := v_kl (a := x) (b := y) (by omega) (by omega) (by omega) (by omega)
  · have J := J_ln I q1.toNatClampNeg l5
    clear l5
    simp +decide only [k_X2_checkArgument, k_X2_checkOutcome, f_X2_isYear, f_X2_keepLength, s_X2_keepLength_sL, s_X2_keepLength_bL, k_X2_keepLength, f_X2_length, s_X2_length_sL, s_X2_length_bL, k_X2_length, f_X3_isYear, f_X3_fails, s_X3_fails_co, f_X3_lasts, s_X3_lasts_co, s_X3_lasts_sL, s_X3_lasts_bL, f_X3_length_j1, f_X3_length, s_X3_length_co, s_X3_length_sL, s_X3_length_bL, f_L_length, s_L_length_sL, s_L_length_bL, s_L_length_ou, pre_Lc31, reduceIte, updL_at, upd_at, ite_self, m_in_eq, m_unit_eq, false_implies, true_implies, implies_true, true_and, and_true, not_true_eq_false, not_false_eq_true, *]
  · skip
    simp +decide only [k_X2_checkArgument, k_X2_checkOutcome, f_X2_isYear, f_X2_keepLength, s_X2_keepLength_sL, s_X2_keepLength_bL, k_X2_keepLength, f_X2_length, s_X2_length_sL, s_X2_length_bL, k_X2_length, f_X3_isYear, f_X3_fails, s_X3_fails_co, f_X3_lasts, s_X3_lasts_co, s_X3_lasts_sL, s_X3_lasts_bL, f_X3_length_j1, f_X3_length, s_X3_length_co, s_X3_length_sL, s_X3_length_bL, f_L_length, s_L_length_sL, s_L_length_bL, s_L_length_ou, pre_Lc31, reduceIte, updL_at, upd_at, ite_self, m_in_eq, m_unit_eq, false_implies, true_implies, implies_true, true_and, and_true, not_true_eq_false, not_false_eq_true, *]
set_option maxHeartbeats 4000000 in
set_option maxRecDepth 100000 in
theorem i_c32 (d : Nat → Int64) (sy : Nat → Int32) (sm : Nat → Int32) (sd : Nat → Int32) (mi : Nat → Int32) (ti : Nat → Int64) (sL : Nat → Int64) (bL : Nat → Int64) (mD : Nat → Int64) (mT : Nat → Int64) (ou : Nat → Int64) (q1 q2 q3 q4 q5 : Int32) (I : iInv d sy sm sd mi ti sL bL mD mT) : pre_Lc32 sL bL ou q1 q2 := by
  unfold pre_Lc32
  generalize (q2.toUInt32 % 65536).toInt32 = u
  rcases v_s4 q1 with ⟨a1, a2, a3, a4, a5⟩ | ⟨a4, a5⟩
  rotate_left
  · simp +decide only [k_X2_checkArgument, k_X2_checkOutcome, f_X2_isYear, f_X2_lengthPart, k_X2_lengthPart, f_X3_isYear, f_X3_fails, s_X3_fails_co, f_X3_lengthPart_j1, f_X3_lengthPart, s_X3_lengthPart_co, f_L_lengthPart, s_L_lengthPart_ou, pre_L_lengthPart, pre_Lc32, reduceIte, updL_at, upd_at, ite_self, m_in_eq, m_unit_eq, false_implies, true_implies, implies_true, true_and, and_true, not_true_eq_false, not_false_eq_true, *]
  by_cases h110 : u = 110
  · subst h110
    simp +decide only [k_X2_checkArgument, k_X2_checkOutcome, f_X2_isYear, f_X2_lengthPart, k_X2_lengthPart, f_X3_isYear, f_X3_fails, s_X3_fails_co, f_X3_lengthPart_j1, f_X3_lengthPart, s_X3_lengthPart_co, f_L_lengthPart, s_L_lengthPart_ou, pre_L_lengthPart, pre_Lc32, reduceIte, updL_at, upd_at, ite_self, m_in_eq, m_unit_eq, false_implies, true_implies, implies_true, true_and, and_true, not_true_eq_false, not_false_eq_true, *]
  by_cases h115 : u = 115
  · subst h115
    simp +decide only [k_X2_checkArgument, k_X2_checkOutcome, f_X2_isYear, f_X2_lengthPart, k_X2_lengthPart, f_X3_isYear, f_X3_fails, s_X3_fails_co, f_X3_lengthPart_j1, f_X3_lengthPart, s_X3_lengthPart_co, f_L_lengthPart, s_L_lengthPart_ou, pre_L_lengthPart, pre_Lc32, reduceIte, updL_at, upd_at, ite_self, m_in_eq, m_unit_eq, false_implies, true_implies, implies_true, true_and, and_true, not_true_eq_false, not_false_eq_true, *]
  simp +decide only [k_X2_checkArgument, k_X2_checkOutcome, f_X2_isYear, f_X2_lengthPart, k_X2_lengthPart, f_X3_isYear, f_X3_fails, s_X3_fails_co, f_X3_lengthPart_j1, f_X3_lengthPart, s_X3_lengthPart_co, f_L_lengthPart, s_L_lengthPart_ou, pre_L_lengthPart, pre_Lc32, reduceIte, updL_at, upd_at, ite_self, m_in_eq, m_unit_eq, false_implies, true_implies, implies_true, true_and, and_true, not_true_eq_false, not_false_eq_true, *]
set_option maxHeartbeats 4000000 in
set_option maxRecDepth 100000 in
theorem i_c33 (d : Nat → Int64) (sy : Nat → Int32) (sm : Nat → Int32) (sd : Nat → Int32) (mi : Nat → Int32) (ti : Nat → Int64) (sL : Nat → Int64) (bL : Nat → Int64) (mD : Nat → Int64) (mT : Nat → Int64) (ou : Nat → Int64) (q1 q2 q3 q4 q5 : Int32) (I : iInv d sy sm sd mi ti sL bL mD mT) : pre_Lc33 sL bL ou q1 q2 q3 q4 ∧ (s_X3_addLength_sL sL bL q1 q2 (f_Lc33_j1 q3) q4) = (s_L_addLength_sL sL bL q1 q2 (f_Lc33_j1 q3) q4) ∧ (s_X3_addLength_bL sL bL q1 q2 (f_Lc33_j1 q3) q4) = (s_L_addLength_bL sL bL q1 q2 (f_Lc33_j1 q3) q4) ∧ iInv d sy sm sd mi ti (s_L_addLength_sL sL bL q1 q2 (f_Lc33_j1 q3) q4) (s_L_addLength_bL sL bL q1 q2 (f_Lc33_j1 q3) q4) mD mT := by
  unfold pre_Lc33
  rcases v_s4 q1 with ⟨a1, a2, a3, a4, a5⟩ | ⟨a4, a5⟩
  rotate_left
  · simp +decide only [k_X2_checkArgument, k_X2_checkOutcome, f_X2_isYear, f_X2_keepLength, s_X2_keepLength_sL, s_X2_keepLength_bL, k_X2_keepLength, f_X2_addLength_j1, f_X2_addLength, s_X2_addLength_sL, s_X2_addLength_bL, k_X2_addLength, f_X3_isYear, f_X3_fails, s_X3_fails_co, f_X3_lasts, s_X3_lasts_co, s_X3_lasts_sL, s_X3_lasts_bL, f_X3_addLength_j1, f_X3_addLength_j2, f_X3_addLength, s_X3_addLength_co, s_X3_addLength_sL, s_X3_addLength_bL, f_L_addLength, s_L_addLength_sL, s_L_addLength_bL, s_L_addLength_ou, pre_L_addLength, f_Lc33_j1, pre_Lc33, reduceIte, updL_at, upd_at, ite_self, m_in_eq, m_unit_eq, false_implies, true_implies, implies_true, true_and, and_true, not_true_eq_false, not_false_eq_true, *]
  rcases v_s4 q2 with ⟨b1, b2, b3, b4, b5⟩ | ⟨b4, b5⟩
  rotate_left
  · simp +decide only [k_X2_checkArgument, k_X2_checkOutcome, f_X2_isYear, f_X2_keepLength, s_X2_keepLength_sL, s_X2_keepLength_bL, k_X2_keepLength, f_X2_addLength_j1, f_X2_addLength, s_X2_addLength_sL, s_X2_addLength_bL, k_X2_addLength, f_X3_isYear, f_X3_fails, s_X3_fails_co, f_X3_lasts, s_X3_lasts_co, s_X3_lasts_sL, s_X3_lasts_bL, f_X3_addLength_j1, f_X3_addLength_j2, f_X3_addLength, s_X3_addLength_co, s_X3_addLength_sL, s_X3_addLength_bL, f_L_addLength, s_L_addLength_sL, s_L_addLength_bL, s_L_addLength_ou, pre_L_addLength, f_Lc33_j1, pre_Lc33, reduceIte, updL_at, upd_at, ite_self, m_in_eq, m_unit_eq, false_implies, true_implies, implies_true, true_and, and_true, not_true_eq_false, not_false_eq_true, *]
  rcases v_s4 q4 with ⟨c1, c2, c3, c4, c5⟩ | ⟨c4, c5⟩
  rotate_left
  · simp +decide only [k_X2_checkArgument, k_X2_checkOutcome, f_X2_isYear, f_X2_keepLength, s_X2_keepLength_sL, s_X2_keepLength_bL, k_X2_keepLength, f_X2_addLength_j1, f_X2_addLength, s_X2_addLength_sL, s_X2_addLength_bL, k_X2_addLength, f_X3_isYear, f_X3_fails, s_X3_fails_co, f_X3_lasts, s_X3_lasts_co, s_X3_lasts_sL, s_X3_lasts_bL, f_X3_addLength_j1, f_X3_addLength_j2, f_X3_addLength, s_X3_addLength_co, s_X3_addLength_sL, s_X3_addLength_bL, f_L_addLength, s_L_addLength_sL, s_L_addLength_bL, s_L_addLength_ou, pre_L_addLength, f_Lc33_j1, pre_Lc33, reduceIte, updL_at, upd_at, ite_self, m_in_eq, m_unit_eq, false_implies, true_implies, implies_true, true_and, and_true, not_true_eq_false, not_false_eq_true, *]
  obtain ⟨G1, G2, _⟩ := iG_at I.2.2.2.2.2.2.1 a1
  obtain ⟨G3, G4, _⟩ := iG_at I.2.2.2.2.2.2.1 b1
  by_cases h : q3 = 0
  · have A := p_add (rfl : (sL q1.toNatClampNeg).toInt = _) (p_mul p_k1 (rfl : (sL q2.toNatClampNeg).toInt = _) (by omega) (by omega)) (by omega) (by omega)
    have B := p_add (rfl : (bL q1.toNatClampNeg).toInt = _) (p_mul p_k1 (rfl : (bL q2.toNatClampNeg).toInt = _) (by omega) (by omega)) (by omega) (by omega)
    obtain ⟨l1, l2, ⟨l3, l4, l5⟩ | ⟨l3, l4⟩⟩ := v_kl (a := sL q1.toNatClampNeg + 1 * sL q2.toNatClampNeg) (b := bL q1.toNatClampNeg + 1 * bL q2.toNatClampNeg) (by rw [A]; omega) (by rw [A]; omega) (by rw [B]; omega) (by rw [B]; omega)
    · have J := J_ln I q4.toNatClampNeg l5
      clear l5
      clear A B
      simp +decide only [k_X2_checkArgument, k_X2_checkOutcome, f_X2_isYear, f_X2_keepLength, s_X2_keepLength_sL, s_X2_keepLength_bL, k_X2_keepLength, f_X2_addLength_j1, f_X2_addLength, s_X2_addLength_sL, s_X2_addLength_bL, k_X2_addLength, f_X3_isYear, f_X3_fails, s_X3_fails_co, f_X3_lasts, s_X3_lasts_co, s_X3_lasts_sL, s_X3_lasts_bL, f_X3_addLength_j1, f_X3_addLength_j2, f_X3_addLength, s_X3_addLength_co, s_X3_addLength_sL, s_X3_addLength_bL, f_L_addLength, s_L_addLength_sL, s_L_addLength_bL, s_L_addLength_ou, pre_L_addLength, f_Lc33_j1, pre_Lc33, reduceIte, updL_at, upd_at, ite_self, m_in_eq, m_unit_eq, false_implies, true_implies, implies_true, true_and, and_true, not_true_eq_false, not_false_eq_true, *]
    · skip
      clear A B
      simp +decide only [k_X2_checkArgument, k_X2_checkOutcome, f_X2_isYear, f_X2_keepLength, s_X2_keepLength_sL, s_X2_keepLength_bL, k_X2_keepLength, f_X2_addLength_j1, f_X2_addLength, s_X2_addLength_sL, s_X2_addLength_bL, k_X2_addLength, f_X3_isYear, f_X3_fails, s_X3_fails_co, f_X3_lasts, s_X3_lasts_co, s_X3_lasts_sL, s_X3_lasts_bL, f_X3_addLength_j1, f_X3_addLength_j2, f_X3_addLength, s_X3_addLength_co, s_X3_addLength_sL, s_X3_addLength_bL, f_L_addLength, s_L_addLength_sL, s_L_addLength_bL, s_L_addLength_ou, pre_L_addLength, f_Lc33_j1, pre_Lc33, reduceIte, updL_at, upd_at, ite_self, m_in_eq, m_unit_eq, false_implies, true_implies, implies_true, true_and, and_true, not_true_eq_false, not_false_eq_true, *]
  · have A := p_add (rfl : (sL q1.toNatClampNeg).toInt = _) (p_mul p_neg1 (rfl : (sL q2.toNatClampNeg).toInt = _) (by omega) (by omega)) (by omega) (by omega)
    have B := p_add (rfl : (bL q1.toNatClampNeg).toInt = _) (p_mul p_neg1 (rfl : (bL q2.toNatClampNeg).toInt = _) (by omega) (by omega)) (by omega) (by omega)
    obtain ⟨l1, l2, ⟨l3, l4, l5⟩ | ⟨l3, l4⟩⟩ := v_kl (a := sL q1.toNatClampNeg + (-1) * sL q2.toNatClampNeg) (b := bL q1.toNatClampNeg + (-1) * bL q2.toNatClampNeg) (by rw [A]; omega) (by rw [A]; omega) (by rw [B]; omega) (by rw [B]; omega)
    · have J := J_ln I q4.toNatClampNeg l5
      clear l5
      clear A B
      simp +decide only [k_X2_checkArgument, k_X2_checkOutcome, f_X2_isYear, f_X2_keepLength, s_X2_keepLength_sL, s_X2_keepLength_bL, k_X2_keepLength, f_X2_addLength_j1, f_X2_addLength, s_X2_addLength_sL, s_X2_addLength_bL, k_X2_addLength, f_X3_isYear, f_X3_fails, s_X3_fails_co, f_X3_lasts, s_X3_lasts_co, s_X3_lasts_sL, s_X3_lasts_bL, f_X3_addLength_j1, f_X3_addLength_j2, f_X3_addLength, s_X3_addLength_co, s_X3_addLength_sL, s_X3_addLength_bL, f_L_addLength, s_L_addLength_sL, s_L_addLength_bL, s_L_addLength_ou, pre_L_addLength, f_Lc33_j1, pre_Lc33, reduceIte, updL_at, upd_at, ite_self, m_in_eq, m_unit_eq, false_implies, true_implies, implies_true, true_and, and_true, not_true_eq_false, not_false_eq_true, *]
    · skip
      clear A B
      simp +decide only [k_X2_checkArgument, k_X2_checkOutcome, f_X2_isYear, f_X2_keepLength, s_X2_keepLength_sL, s_X2_keepLength_bL, k_X2_keepLength, f_X2_addLength_j1, f_X2_addLength, s_X2_addLength_sL, s_X2_addLength_bL, k_X2_addLength, f_X3_isYear, f_X3_fails, s_X3_fails_co, f_X3_lasts, s_X3_lasts_co, s_X3_lasts_sL, s_X3_lasts_bL, f_X3_addLength_j1, f_X3_addLength_j2, f_X3_addLength, s_X3_addLength_co, s_X3_addLength_sL, s_X3_addLength_bL, f_L_addLength, s_L_addLength_sL, s_L_addLength_bL, s_L_addLength_ou, pre_L_addLength, f_Lc33_j1, pre_Lc33, reduceIte, updL_at, upd_at, ite_self, m_in_eq, m_unit_eq, false_implies, true_implies, implies_true, true_and, and_true, not_true_eq_false, not_false_eq_true, *]
set_option maxHeartbeats 4000000 in
set_option maxRecDepth 100000 in
theorem i_c34 (d : Nat → Int64) (sy : Nat → Int32) (sm : Nat → Int32) (sd : Nat → Int32) (mi : Nat → Int32) (ti : Nat → Int64) (sL : Nat → Int64) (bL : Nat → Int64) (mD : Nat → Int64) (mT : Nat → Int64) (ou : Nat → Int64) (q1 q2 q3 q4 q5 : Int32) (I : iInv d sy sm sd mi ti sL bL mD mT) : pre_Lc34 sL bL ou q1 q2 q3 ∧ (s_X3_timesLength_sL sL bL q1 q2 q3) = (s_L_timesLength_sL sL bL q1 q2 q3) ∧ (s_X3_timesLength_bL sL bL q1 q2 q3) = (s_L_timesLength_bL sL bL q1 q2 q3) ∧ iInv d sy sm sd mi ti (s_L_timesLength_sL sL bL q1 q2 q3) (s_L_timesLength_bL sL bL q1 q2 q3) mD mT := by
  unfold pre_Lc34
  rcases v_s4 q1 with ⟨a1, a2, a3, a4, a5⟩ | ⟨a4, a5⟩
  rotate_left
  · simp +decide only [k_X2_checkArgument, k_X2_checkOutcome, f_X2_isYear, f_X2_keepLength, s_X2_keepLength_sL, s_X2_keepLength_bL, k_X2_keepLength, f_X2_timesLength, s_X2_timesLength_sL, s_X2_timesLength_bL, k_X2_timesLength, f_X3_isYear, f_X3_fails, s_X3_fails_co, f_X3_lasts, s_X3_lasts_co, s_X3_lasts_sL, s_X3_lasts_bL, f_X3_timesLength_j1, f_X3_timesLength, s_X3_timesLength_co, s_X3_timesLength_sL, s_X3_timesLength_bL, f_L_timesLength, s_L_timesLength_sL, s_L_timesLength_bL, s_L_timesLength_ou, pre_Lc34, reduceIte, updL_at, upd_at, ite_self, m_in_eq, m_unit_eq, false_implies, true_implies, implies_true, true_and, and_true, not_true_eq_false, not_false_eq_true, *]
  rcases v_s4 q3 with ⟨b1, b2, b3, b4, b5⟩ | ⟨b4, b5⟩
  rotate_left
  · simp +decide only [k_X2_checkArgument, k_X2_checkOutcome, f_X2_isYear, f_X2_keepLength, s_X2_keepLength_sL, s_X2_keepLength_bL, k_X2_keepLength, f_X2_timesLength, s_X2_timesLength_sL, s_X2_timesLength_bL, k_X2_timesLength, f_X3_isYear, f_X3_fails, s_X3_fails_co, f_X3_lasts, s_X3_lasts_co, s_X3_lasts_sL, s_X3_lasts_bL, f_X3_timesLength_j1, f_X3_timesLength, s_X3_timesLength_co, s_X3_timesLength_sL, s_X3_timesLength_bL, f_L_timesLength, s_L_timesLength_sL, s_L_timesLength_bL, s_L_timesLength_ou, pre_Lc34, reduceIte, updL_at, upd_at, ite_self, m_in_eq, m_unit_eq, false_implies, true_implies, implies_true, true_and, and_true, not_true_eq_false, not_false_eq_true, *]
  rcases v_in32 (a := q2) (b := -1000) (c := 1000) (x := q2.toInt) (y := -1000) (z := 1000) rfl rfl rfl with ⟨z1, z2, z3⟩ | ⟨z9, z3⟩
  rotate_left
  · skip
    simp +decide only [k_X2_checkArgument, k_X2_checkOutcome, f_X2_isYear, f_X2_keepLength, s_X2_keepLength_sL, s_X2_keepLength_bL, k_X2_keepLength, f_X2_timesLength, s_X2_timesLength_sL, s_X2_timesLength_bL, k_X2_timesLength, f_X3_isYear, f_X3_fails, s_X3_fails_co, f_X3_lasts, s_X3_lasts_co, s_X3_lasts_sL, s_X3_lasts_bL, f_X3_timesLength_j1, f_X3_timesLength, s_X3_timesLength_co, s_X3_timesLength_sL, s_X3_timesLength_bL, f_L_timesLength, s_L_timesLength_sL, s_L_timesLength_bL, s_L_timesLength_ou, pre_Lc34, reduceIte, updL_at, upd_at, ite_self, m_in_eq, m_unit_eq, false_implies, true_implies, implies_true, true_and, and_true, not_true_eq_false, not_false_eq_true, *]
  obtain ⟨G1, G2, _⟩ := iG_at I.2.2.2.2.2.2.1 a1
  have A := m_t64 q2 (sL q1.toNatClampNeg) z1 z2 G1.1 G1.2
  have B := m_t64 q2 (bL q1.toNatClampNeg) z1 z2 (by omega) (by omega)
  obtain ⟨l1, l2, ⟨l3, l4, l5⟩ | ⟨l3, l4⟩⟩ := v_kl (a := q2.toInt64 * sL q1.toNatClampNeg) (b := q2.toInt64 * bL q1.toNatClampNeg) (by omega) (by omega) (by omega) (by omega)
  · have J := J_ln I q3.toNatClampNeg l5
    clear l5
    clear A B
    simp +decide only [k_X2_checkArgument, k_X2_checkOutcome, f_X2_isYear, f_X2_keepLength, s_X2_keepLength_sL, s_X2_keepLength_bL, k_X2_keepLength, f_X2_timesLength, s_X2_timesLength_sL, s_X2_timesLength_bL, k_X2_timesLength, f_X3_isYear, f_X3_fails, s_X3_fails_co, f_X3_lasts, s_X3_lasts_co, s_X3_lasts_sL, s_X3_lasts_bL, f_X3_timesLength_j1, f_X3_timesLength, s_X3_timesLength_co, s_X3_timesLength_sL, s_X3_timesLength_bL, f_L_timesLength, s_L_timesLength_sL, s_L_timesLength_bL, s_L_timesLength_ou, pre_Lc34, reduceIte, updL_at, upd_at, ite_self, m_in_eq, m_unit_eq, false_implies, true_implies, implies_true, true_and, and_true, not_true_eq_false, not_false_eq_true, *]
  · skip
    clear A B
    simp +decide only [k_X2_checkArgument, k_X2_checkOutcome, f_X2_isYear, f_X2_keepLength, s_X2_keepLength_sL, s_X2_keepLength_bL, k_X2_keepLength, f_X2_timesLength, s_X2_timesLength_sL, s_X2_timesLength_bL, k_X2_timesLength, f_X3_isYear, f_X3_fails, s_X3_fails_co, f_X3_lasts, s_X3_lasts_co, s_X3_lasts_sL, s_X3_lasts_bL, f_X3_timesLength_j1, f_X3_timesLength, s_X3_timesLength_co, s_X3_timesLength_sL, s_X3_timesLength_bL, f_L_timesLength, s_L_timesLength_sL, s_L_timesLength_bL, s_L_timesLength_ou, pre_Lc34, reduceIte, updL_at, upd_at, ite_self, m_in_eq, m_unit_eq, false_implies, true_implies, implies_true, true_and, and_true, not_true_eq_false, not_false_eq_true, *]
set_option maxHeartbeats 4000000 in
set_option maxRecDepth 100000 in
theorem i_c35 (d : Nat → Int64) (sy : Nat → Int32) (sm : Nat → Int32) (sd : Nat → Int32) (mi : Nat → Int32) (ti : Nat → Int64) (sL : Nat → Int64) (bL : Nat → Int64) (mD : Nat → Int64) (mT : Nat → Int64) (ou : Nat → Int64) (q1 q2 q3 q4 q5 : Int32) (I : iInv d sy sm sd mi ti sL bL mD mT) : pre_Lc35 ti ou q1 q2 q3 ∧ (s_X3_lengthOfTimes_sL ti sL q1 q2 q3) = (s_L_lengthOfTimes_sL ti sL q1 q2 q3) ∧ (s_X3_lengthOfTimes_bL ti bL q1 q2 q3) = (s_L_lengthOfTimes_bL ti bL q1 q2 q3) ∧ iInv d sy sm sd mi ti (s_L_lengthOfTimes_sL ti sL q1 q2 q3) (s_L_lengthOfTimes_bL ti bL q1 q2 q3) mD mT := by
  unfold pre_Lc35
  rcases v_s4 q1 with ⟨a1, a2, a3, a4, a5⟩ | ⟨a4, a5⟩
  rotate_left
  · simp +decide only [k_X2_checkArgument, k_X2_checkOutcome, f_X2_isYear, f_X2_keepLength, s_X2_keepLength_sL, s_X2_keepLength_bL, k_X2_keepLength, f_X2_lengthOfTimes, s_X2_lengthOfTimes_sL, s_X2_lengthOfTimes_bL, k_X2_lengthOfTimes, f_X3_isYear, f_X3_fails, s_X3_fails_co, f_X3_lasts, s_X3_lasts_co, s_X3_lasts_sL, s_X3_lasts_bL, f_X3_lengthOfTimes_j1, f_X3_lengthOfTimes, s_X3_lengthOfTimes_co, s_X3_lengthOfTimes_sL, s_X3_lengthOfTimes_bL, f_L_lengthOfTimes, s_L_lengthOfTimes_sL, s_L_lengthOfTimes_bL, s_L_lengthOfTimes_ou, pre_L_lengthOfTimes, pre_Lc35, reduceIte, updL_at, upd_at, ite_self, m_in_eq, m_unit_eq, false_implies, true_implies, implies_true, true_and, and_true, not_true_eq_false, not_false_eq_true, *]
  rcases v_s4 q2 with ⟨b1, b2, b3, b4, b5⟩ | ⟨b4, b5⟩
  rotate_left
  · simp +decide only [k_X2_checkArgument, k_X2_checkOutcome, f_X2_isYear, f_X2_keepLength, s_X2_keepLength_sL, s_X2_keepLength_bL, k_X2_keepLength, f_X2_lengthOfTimes, s_X2_lengthOfTimes_sL, s_X2_lengthOfTimes_bL, k_X2_lengthOfTimes, f_X3_isYear, f_X3_fails, s_X3_fails_co, f_X3_lasts, s_X3_lasts_co, s_X3_lasts_sL, s_X3_lasts_bL, f_X3_lengthOfTimes_j1, f_X3_lengthOfTimes, s_X3_lengthOfTimes_co, s_X3_lengthOfTimes_sL, s_X3_lengthOfTimes_bL, f_L_lengthOfTimes, s_L_lengthOfTimes_sL, s_L_lengthOfTimes_bL, s_L_lengthOfTimes_ou, pre_L_lengthOfTimes, pre_Lc35, reduceIte, updL_at, upd_at, ite_self, m_in_eq, m_unit_eq, false_implies, true_implies, implies_true, true_and, and_true, not_true_eq_false, not_false_eq_true, *]
  rcases v_s4 q3 with ⟨c1, c2, c3, c4, c5⟩ | ⟨c4, c5⟩
  rotate_left
  · simp +decide only [k_X2_checkArgument, k_X2_checkOutcome, f_X2_isYear, f_X2_keepLength, s_X2_keepLength_sL, s_X2_keepLength_bL, k_X2_keepLength, f_X2_lengthOfTimes, s_X2_lengthOfTimes_sL, s_X2_lengthOfTimes_bL, k_X2_lengthOfTimes, f_X3_isYear, f_X3_fails, s_X3_fails_co, f_X3_lasts, s_X3_lasts_co, s_X3_lasts_sL, s_X3_lasts_bL, f_X3_lengthOfTimes_j1, f_X3_lengthOfTimes, s_X3_lengthOfTimes_co, s_X3_lengthOfTimes_sL, s_X3_lengthOfTimes_bL, f_L_lengthOfTimes, s_L_lengthOfTimes_sL, s_L_lengthOfTimes_bL, s_L_lengthOfTimes_ou, pre_L_lengthOfTimes, pre_Lc35, reduceIte, updL_at, upd_at, ite_self, m_in_eq, m_unit_eq, false_implies, true_implies, implies_true, true_and, and_true, not_true_eq_false, not_false_eq_true, *]
  have T1 := iT_at I.2.2.2.2.2.1 a1
  have T2 := iT_at I.2.2.2.2.2.1 b1
  have B := p_sub (rfl : (ti q2.toNatClampNeg).toInt = _) (rfl : (ti q1.toNatClampNeg).toInt = _) (by omega) (by omega)
  obtain ⟨l1, l2, ⟨l3, l4, l5⟩ | ⟨l3, l4⟩⟩ := v_kl (a := 0) (b := ti q2.toNatClampNeg - ti q1.toNatClampNeg) (by decide) (by decide) (by rw [B]; omega) (by rw [B]; omega)
  · have J := J_ln I q3.toNatClampNeg l5
    clear l5 B
    simp +decide only [k_X2_checkArgument, k_X2_checkOutcome, f_X2_isYear, f_X2_keepLength, s_X2_keepLength_sL, s_X2_keepLength_bL, k_X2_keepLength, f_X2_lengthOfTimes, s_X2_lengthOfTimes_sL, s_X2_lengthOfTimes_bL, k_X2_lengthOfTimes, f_X3_isYear, f_X3_fails, s_X3_fails_co, f_X3_lasts, s_X3_lasts_co, s_X3_lasts_sL, s_X3_lasts_bL, f_X3_lengthOfTimes_j1, f_X3_lengthOfTimes, s_X3_lengthOfTimes_co, s_X3_lengthOfTimes_sL, s_X3_lengthOfTimes_bL, f_L_lengthOfTimes, s_L_lengthOfTimes_sL, s_L_lengthOfTimes_bL, s_L_lengthOfTimes_ou, pre_L_lengthOfTimes, pre_Lc35, reduceIte, updL_at, upd_at, ite_self, m_in_eq, m_unit_eq, false_implies, true_implies, implies_true, true_and, and_true, not_true_eq_false, not_false_eq_true, *]
  · rw [kl1 (by rw [B]; omega) (by rw [B]; omega)] at l3
    exact absurd l3 (by decide)
set_option maxHeartbeats 4000000 in
set_option maxRecDepth 100000 in
theorem i_c36 (d : Nat → Int64) (sy : Nat → Int32) (sm : Nat → Int32) (sd : Nat → Int32) (mi : Nat → Int32) (ti : Nat → Int64) (sL : Nat → Int64) (bL : Nat → Int64) (mD : Nat → Int64) (mT : Nat → Int64) (ou : Nat → Int64) (q1 q2 q3 q4 q5 : Int32) (I : iInv d sy sm sd mi ti sL bL mD mT) : pre_Lc36 sL bL ou q1 q2 := by
  rcases v_s4 q1 with ⟨a1, a2, a3, a4, a5⟩ | ⟨a4, a5⟩
  rotate_left
  · simp +decide only [k_X2_checkArgument, k_X2_checkOutcome, f_X2_isYear, f_X2_orderLengths, k_X2_orderLengths, f_X3_isYear, f_X3_fails, s_X3_fails_co, f_X3_orderLengths_j1, f_X3_orderLengths, s_X3_orderLengths_co, f_L_orderLengths, s_L_orderLengths_ou, pre_L_orderLengths, pre_Lc36, reduceIte, updL_at, upd_at, ite_self, m_in_eq, m_unit_eq, false_implies, true_implies, implies_true, true_and, and_true, not_true_eq_false, not_false_eq_true, *]
  rcases v_s4 q2 with ⟨b1, b2, b3, b4, b5⟩ | ⟨b4, b5⟩
  rotate_left
  · simp +decide only [k_X2_checkArgument, k_X2_checkOutcome, f_X2_isYear, f_X2_orderLengths, k_X2_orderLengths, f_X3_isYear, f_X3_fails, s_X3_fails_co, f_X3_orderLengths_j1, f_X3_orderLengths, s_X3_orderLengths_co, f_L_orderLengths, s_L_orderLengths_ou, pre_L_orderLengths, pre_Lc36, reduceIte, updL_at, upd_at, ite_self, m_in_eq, m_unit_eq, false_implies, true_implies, implies_true, true_and, and_true, not_true_eq_false, not_false_eq_true, *]
  have e1 := v_sgn (sL q1.toNatClampNeg) (sL q2.toNatClampNeg)
  have e2 := v_sgn (bL q1.toNatClampNeg) (bL q2.toNatClampNeg)
  have z := sgn0 (sL q1.toNatClampNeg) (sL q2.toNatClampNeg)
  by_cases h : sL q1.toNatClampNeg = sL q2.toNatClampNeg
  · have h1 := z.mpr h
    clear z
    rw [h] at h1 e1
    simp +decide only [k_X2_checkArgument, k_X2_checkOutcome, f_X2_isYear, f_X2_orderLengths, k_X2_orderLengths, f_X3_isYear, f_X3_fails, s_X3_fails_co, f_X3_orderLengths_j1, f_X3_orderLengths, s_X3_orderLengths_co, f_L_orderLengths, s_L_orderLengths_ou, pre_L_orderLengths, pre_Lc36, reduceIte, updL_at, upd_at, ite_self, m_in_eq, m_unit_eq, false_implies, true_implies, implies_true, true_and, and_true, not_true_eq_false, not_false_eq_true, *]
  · have h1 : ¬ f_X2_sign (sL q1.toNatClampNeg) (sL q2.toNatClampNeg) = 0 := fun t => h (z.mp t)
    clear z
    simp +decide only [k_X2_checkArgument, k_X2_checkOutcome, f_X2_isYear, f_X2_orderLengths, k_X2_orderLengths, f_X3_isYear, f_X3_fails, s_X3_fails_co, f_X3_orderLengths_j1, f_X3_orderLengths, s_X3_orderLengths_co, f_L_orderLengths, s_L_orderLengths_ou, pre_L_orderLengths, pre_Lc36, reduceIte, updL_at, upd_at, ite_self, m_in_eq, m_unit_eq, false_implies, true_implies, implies_true, true_and, and_true, not_true_eq_false, not_false_eq_true, *]
end ZPK
