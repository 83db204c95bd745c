section ZPV
theorem v_dm (x : Int64) : (f_X1_isDay x = 1 ∧ (∀ p, f_X3_comes_j1 x p = 0) ∧ -4371587 ≤ x.toInt ∧ x.toInt ≤ 2932896) ∨ (f_X1_isDay x = 0 ∧ ∀ p, f_X3_comes_j1 x p = p) := by
  have b1 := m_first (show (-9999 : Int64).toInt = -9999 from rfl) (by omega) (by omega)
  have b2 := m_first (show (10000 : Int64).toInt = 10000 from rfl) (by omega) (by omega)
  rw [iFY_lo] at b1
  rw [iFY_hi] at b2
  have b3 := p_sub b2 p_k1 (by omega) (by omega)
  have e1 : f_X3_first (-9999) = -4371587 := p_ext b1 rfl
  have e2 : f_X3_first 10000 - 1 = 2932896 := p_ext b3 rfl
  have w : f_X1_isDay x = f_X2_isIn x (-4371587) 2932896 := rfl
  unfold f_X3_comes_j1
  rw [e1, e2, w]
  rcases v_in (rfl : x.toInt = _) (show (-4371587 : Int64).toInt = -4371587 from rfl) (show (2932896 : Int64).toInt = 2932896 from rfl) with ⟨r1, r2, r3⟩ | ⟨r9, r3⟩
  · exact Or.inl ⟨r3, fun p => by simp +decide only [m_in_eq, r3, reduceIte], r1, r2⟩
  · exact Or.inr ⟨r3, fun p => by simp +decide only [m_in_eq, r3, reduceIte]⟩
theorem t_in {t : Int64} (h1 : 0 ≤ t.toInt) (h2 : t.toInt ≤ 86399999999999) (a : Int64) : a + f_J9_floorDiv_f86c9 t 86400000000000 = a ∧ f_X0_roundDay t = t := by
  have e1 := v_fd (rfl : t.toInt = _) p_day (by omega)
  have e2 : (f_X0_roundDay t).toInt = _ := v_fm (rfl : t.toInt = _) p_day (by omega)
  have l1 := p_lo a
  have l2 := p_hi a
  have e3 := p_add (rfl : a.toInt = _) e1 (by omega) (by omega)
  exact ⟨p_of (e3.trans (by omega)), p_of (e2.trans (by omega))⟩
theorem J_mo {d : Nat → Int64} {sy sm sd mi : Nat → Int32} {ti sL bL mD mT : Nat → Int64} (I : iInv d sy sm sd mi ti sL bL mD mT) {x y : Int64} (k : Nat) (h1 : -4371587 ≤ x.toInt) (h2 : x.toInt ≤ 2932896) (h3 : 0 ≤ y.toInt) (h4 : y.toInt ≤ 86399999999999) : iInv d sy sm sd mi ti sL bL (vp_updL mD k x) (vp_updL mT k y) := ⟨I.1, I.2.1, I.2.2.1, I.2.2.2.1, I.2.2.2.2.1, I.2.2.2.2.2.1, I.2.2.2.2.2.2.1, iN_upd I.2.2.2.2.2.2.2 h1 h2 h3 h4⟩
theorem tm_rd (y : Int64) : 0 ≤ (f_X0_roundDay y).toInt ∧ (f_X0_roundDay y).toInt ≤ 86399999999999 := by
  have e2 : (f_X0_roundDay y).toInt = _ := v_fm (rfl : y.toInt = _) p_day (by omega)
  rw [e2]; omega
theorem kl2 {a b : Int64} (a1 : -900000000000 ≤ a.toInt) (a2 : a.toInt ≤ 900000000000) (h1 : -90000000000000 ≤ b.toInt) (h2 : b.toInt ≤ 90000000000000) : f_X2_keepLength_j1 a b = 1 := by
  have kB : (1000000000 : Int64).toInt = 1000000000 := rfl
  have kL : (-1000000000000 : Int64).toInt = -1000000000000 := rfl
  have kH : (1000000000000 : Int64).toInt = 1000000000000 := rfl
  have A := p_add (rfl : a.toInt = _) (v_fd (rfl : b.toInt = _) kB (by omega)) (by omega) (by omega)
  unfold f_X2_keepLength_j1
  rcases v_in A kL kH with ⟨i1, i2, i3⟩ | ⟨i1, i3⟩
  · rw [i3, if_neg (by decide), if_pos ((p_lt A kH).mpr (by omega))]
  · exfalso; omega
theorem mm_h {x t a : Int64} (h1 : -1000000000000000 ≤ x.toInt) (h2 : x.toInt ≤ 1000000000000000) (t1 : 0 ≤ t.toInt) (t2 : t.toInt ≤ 86399999999999) (a1 : -4371587 ≤ a.toInt) (a2 : a.toInt ≤ 2932896) : a + f_X3_floor x (86400000000000 / 3600000000000) + f_X3_floor (t + f_X3_rest x (86400000000000 / 3600000000000) * 3600000000000) 86400000000000 = a + f_X0_daysOf x 24 + f_J9_floorDiv_f86c9 (t + f_X0_restOfDay x 24) 86400000000000 ∧ f_X3_rest (t + f_X3_rest x (86400000000000 / 3600000000000) * 3600000000000) 86400000000000 = f_X0_roundDay (t + f_X0_restOfDay x 24) := by
  have B0 : -4611686018427387904 ≤ x.toInt := by omega
  have B9 : -4000000000000000000 ≤ x.toInt := by omega
  have B1 : -9223372036854775808 ≤ t.toInt + x.toInt % 24 * 3600000000000 ∧ t.toInt + x.toInt % 24 * 3600000000000 < 9223372036854775808 := by omega
  have B2 : -4611686018427387904 ≤ t.toInt + x.toInt % 24 * 3600000000000 := by omega
  have B3 : -9223372036854775808 ≤ a.toInt + x.toInt / 24 ∧ a.toInt + x.toInt / 24 < 9223372036854775808 := by omega
  have B5 : -9223372036854775808 ≤ a.toInt + x.toInt / 24 + (t.toInt + x.toInt % 24 * 3600000000000) / 86400000000000 ∧ a.toInt + x.toInt / 24 + (t.toInt + x.toInt % 24 * 3600000000000) / 86400000000000 < 9223372036854775808 := by omega
  clear h1 h2 t1 t2 a1 a2
  have r0 := (m_roh (rfl : x.toInt = _) B9).2
  have r2 := v_roh (rfl : x.toInt = _)
  unfold f_X3_round at r0
  have e1 := p_divn p_day (show (3600000000000 : Int64).toInt = 3600000000000 from rfl) (by decide) (by decide)
  rw [show (86400000000000 : Int) / 3600000000000 = 24 from rfl] at e1
  have f1 := m_fl (rfl : x.toInt = _) e1 (by decide) B0 (by decide)
  have f2 := v_fd (rfl : x.toInt = _) (show (24 : Int64).toInt = 24 from rfl) (by decide)
  have f3 : (f_X0_daysOf x 24).toInt = x.toInt / 24 := by
    unfold f_X0_daysOf
    rw [if_neg (by decide)]; exact f2
  have s1 := p_add (rfl : t.toInt = _) r0 B1.1 B1.2
  have s2 := p_add (rfl : t.toInt = _) r2 B1.1 B1.2
  have g1 := m_fl s1 p_day (by decide) B2 (by decide)
  have g2 := v_fd s2 p_day (by decide)
  have q1 := m_rs s1 p_day (by decide) B2 (by decide)
  have q2 : (f_X0_roundDay (t + f_X0_restOfDay x 24)).toInt = _ := v_fm s2 p_day (by decide)
  exact ⟨p_ext (p_add (p_add (rfl : a.toInt = _) f1 B3.1 B3.2) g1 B5.1 B5.2) (p_add (p_add (rfl : a.toInt = _) f3 B3.1 B3.2) g2 B5.1 B5.2), p_ext q1 q2⟩
theorem mm_m {x t a : Int64} (h1 : -1000000000000000 ≤ x.toInt) (h2 : x.toInt ≤ 1000000000000000) (t1 : 0 ≤ t.toInt) (t2 : t.toInt ≤ 86399999999999) (a1 : -4371587 ≤ a.toInt) (a2 : a.toInt ≤ 2932896) : a + f_X3_floor x (86400000000000 / 60000000000) + f_X3_floor (t + f_X3_rest x (86400000000000 / 60000000000) * 60000000000) 86400000000000 = a + f_X0_daysOf x 1440 + f_J9_floorDiv_f86c9 (t + f_X0_restOfDay x 1440) 86400000000000 ∧ f_X3_rest (t + f_X3_rest x (86400000000000 / 60000000000) * 60000000000) 86400000000000 = f_X0_roundDay (t + f_X0_restOfDay x 1440) := by
  have B0 : -4611686018427387904 ≤ x.toInt := by omega
  have B9 : -4000000000000000000 ≤ x.toInt := by omega
  have B1 : -9223372036854775808 ≤ t.toInt + x.toInt % 1440 * 60000000000 ∧ t.toInt + x.toInt % 1440 * 60000000000 < 9223372036854775808 := by omega
  have B2 : -4611686018427387904 ≤ t.toInt + x.toInt % 1440 * 60000000000 := by omega
  have B3 : -9223372036854775808 ≤ a.toInt + x.toInt / 1440 ∧ a.toInt + x.toInt / 1440 < 9223372036854775808 := by omega
  have B5 : -9223372036854775808 ≤ a.toInt + x.toInt / 1440 + (t.toInt + x.toInt % 1440 * 60000000000) / 86400000000000 ∧ a.toInt + x.toInt / 1440 + (t.toInt + x.toInt % 1440 * 60000000000) / 86400000000000 < 9223372036854775808 := by omega
  clear h1 h2 t1 t2 a1 a2
  have r0 := (m_rom (rfl : x.toInt = _) B9).2
  have r2 := v_rom (rfl : x.toInt = _)
  unfold f_X3_round at r0
  have e1 := p_divn p_day (show (60000000000 : Int64).toInt = 60000000000 from rfl) (by decide) (by decide)
  rw [show (86400000000000 : Int) / 60000000000 = 1440 from rfl] at e1
  have f1 := m_fl (rfl : x.toInt = _) e1 (by decide) B0 (by decide)
  have f2 := v_fd (rfl : x.toInt = _) (show (1440 : Int64).toInt = 1440 from rfl) (by decide)
  have f3 : (f_X0_daysOf x 1440).toInt = x.toInt / 1440 := by
    unfold f_X0_daysOf
    rw [if_neg (by decide)]; exact f2
  have s1 := p_add (rfl : t.toInt = _) r0 B1.1 B1.2
  have s2 := p_add (rfl : t.toInt = _) r2 B1.1 B1.2
  have g1 := m_fl s1 p_day (by decide) B2 (by decide)
  have g2 := v_fd s2 p_day (by decide)
  have q1 := m_rs s1 p_day (by decide) B2 (by decide)
  have q2 : (f_X0_roundDay (t + f_X0_restOfDay x 1440)).toInt = _ := v_fm s2 p_day (by decide)
  exact ⟨p_ext (p_add (p_add (rfl : a.toInt = _) f1 B3.1 B3.2) g1 B5.1 B5.2) (p_add (p_add (rfl : a.toInt = _) f3 B3.1 B3.2) g2 B5.1 B5.2), p_ext q1 q2⟩
theorem mm_s {x t a : Int64} (h1 : -1000000000000000 ≤ x.toInt) (h2 : x.toInt ≤ 1000000000000000) (t1 : 0 ≤ t.toInt) (t2 : t.toInt ≤ 86399999999999) (a1 : -4371587 ≤ a.toInt) (a2 : a.toInt ≤ 2932896) : a + f_X3_floor x (86400000000000 / 1000000000) + f_X3_floor (t + f_X3_rest x (86400000000000 / 1000000000) * 1000000000) 86400000000000 = a + f_X0_daysOf x 86400 + f_J9_floorDiv_f86c9 (t + f_X0_restOfDay x 86400) 86400000000000 ∧ f_X3_rest (t + f_X3_rest x (86400000000000 / 1000000000) * 1000000000) 86400000000000 = f_X0_roundDay (t + f_X0_restOfDay x 86400) := by
  have B0 : -4611686018427387904 ≤ x.toInt := by omega
  have B9 : -4000000000000000000 ≤ x.toInt := by omega
  have B1 : -9223372036854775808 ≤ t.toInt + x.toInt % 86400 * 1000000000 ∧ t.toInt + x.toInt % 86400 * 1000000000 < 9223372036854775808 := by omega
  have B2 : -4611686018427387904 ≤ t.toInt + x.toInt % 86400 * 1000000000 := by omega
  have B3 : -9223372036854775808 ≤ a.toInt + x.toInt / 86400 ∧ a.toInt + x.toInt / 86400 < 9223372036854775808 := by omega
  have B5 : -9223372036854775808 ≤ a.toInt + x.toInt / 86400 + (t.toInt + x.toInt % 86400 * 1000000000) / 86400000000000 ∧ a.toInt + x.toInt / 86400 + (t.toInt + x.toInt % 86400 * 1000000000) / 86400000000000 < 9223372036854775808 := by omega
  clear h1 h2 t1 t2 a1 a2
  have r0 := (m_ros (rfl : x.toInt = _) B9).2
  have r2 := v_ros (rfl : x.toInt = _)
  unfold f_X3_round at r0
  have e1 := p_divn p_day (show (1000000000 : Int64).toInt = 1000000000 from rfl) (by decide) (by decide)
  rw [show (86400000000000 : Int) / 1000000000 = 86400 from rfl] at e1
  have f1 := m_fl (rfl : x.toInt = _) e1 (by decide) B0 (by decide)
  have f2 := v_fd (rfl : x.toInt = _) (show (86400 : Int64).toInt = 86400 from rfl) (by decide)
  have f3 : (f_X0_daysOf x 86400).toInt = x.toInt / 86400 := by
    unfold f_X0_daysOf
    rw [if_neg (by decide)]; exact f2
  have s1 := p_add (rfl : t.toInt = _) r0 B1.1 B1.2
  have s2 := p_add (rfl : t.toInt = _) r2 B1.1 B1.2
  have g1 := m_fl s1 p_day (by decide) B2 (by decide)
  have g2 := v_fd s2 p_day (by decide)
  have q1 := m_rs s1 p_day (by decide) B2 (by decide)
  have q2 : (f_X0_roundDay (t + f_X0_restOfDay x 86400)).toInt = _ := v_fm s2 p_day (by decide)
  exact ⟨p_ext (p_add (p_add (rfl : a.toInt = _) f1 B3.1 B3.2) g1 B5.1 B5.2) (p_add (p_add (rfl : a.toInt = _) f3 B3.1 B3.2) g2 B5.1 B5.2), p_ext q1 q2⟩
theorem mm_n {x t a : Int64} (h1 : -1000000000000000 ≤ x.toInt) (h2 : x.toInt ≤ 1000000000000000) (t1 : 0 ≤ t.toInt) (t2 : t.toInt ≤ 86399999999999) (a1 : -4371587 ≤ a.toInt) (a2 : a.toInt ≤ 2932896) : a + f_X3_floor x (86400000000000 / 1) + f_X3_floor (t + f_X3_rest x (86400000000000 / 1) * 1) 86400000000000 = a + f_X0_daysOf x 86400000000000 + f_J9_floorDiv_f86c9 (t + f_X0_restOfDay x 86400000000000) 86400000000000 ∧ f_X3_rest (t + f_X3_rest x (86400000000000 / 1) * 1) 86400000000000 = f_X0_roundDay (t + f_X0_restOfDay x 86400000000000) := by
  have B0 : -4611686018427387904 ≤ x.toInt := by omega
  have B9 : -4000000000000000000 ≤ x.toInt := by omega
  have B1 : -9223372036854775808 ≤ t.toInt + x.toInt % 86400000000000 * 1 ∧ t.toInt + x.toInt % 86400000000000 * 1 < 9223372036854775808 := by omega
  have B2 : -4611686018427387904 ≤ t.toInt + x.toInt % 86400000000000 * 1 := by omega
  have B3 : -9223372036854775808 ≤ a.toInt + x.toInt / 86400000000000 ∧ a.toInt + x.toInt / 86400000000000 < 9223372036854775808 := by omega
  have B5 : -9223372036854775808 ≤ a.toInt + x.toInt / 86400000000000 + (t.toInt + x.toInt % 86400000000000 * 1) / 86400000000000 ∧ a.toInt + x.toInt / 86400000000000 + (t.toInt + x.toInt % 86400000000000 * 1) / 86400000000000 < 9223372036854775808 := by omega
  clear h1 h2 t1 t2 a1 a2
  have r0 := (m_ron (rfl : x.toInt = _) B9).2
  have r2 := v_ron (rfl : x.toInt = _)
  unfold f_X3_round at r0
  have e1 := p_divn p_day (show (1 : Int64).toInt = 1 from rfl) (by decide) (by decide)
  rw [show (86400000000000 : Int) / 1 = 86400000000000 from rfl] at e1
  have f1 := m_fl (rfl : x.toInt = _) e1 (by decide) B0 (by decide)
  have f2 := v_fd (rfl : x.toInt = _) (show (86400000000000 : Int64).toInt = 86400000000000 from rfl) (by decide)
  have f3 : (f_X0_daysOf x 86400000000000).toInt = x.toInt / 86400000000000 := by
    unfold f_X0_daysOf
    rw [if_neg (by decide)]; exact f2
  have s1 := p_add (rfl : t.toInt = _) r0 B1.1 B1.2
  have s2 := p_add (rfl : t.toInt = _) r2 B1.1 B1.2
  have g1 := m_fl s1 p_day (by decide) B2 (by decide)
  have g2 := v_fd s2 p_day (by decide)
  have q1 := m_rs s1 p_day (by decide) B2 (by decide)
  have q2 : (f_X0_roundDay (t + f_X0_restOfDay x 86400000000000)).toInt = _ := v_fm s2 p_day (by decide)
  exact ⟨p_ext (p_add (p_add (rfl : a.toInt = _) f1 B3.1 B3.2) g1 B5.1 B5.2) (p_add (p_add (rfl : a.toInt = _) f3 B3.1 B3.2) g2 B5.1 B5.2), p_ext q1 q2⟩
theorem gt_p {x w t : Int64} (h1 : -1000000000000 ≤ x.toInt) (h2 : x.toInt ≤ 1000000000000) (w1 : 0 ≤ w.toInt) (w2 : w.toInt ≤ 999999999) (t1 : 0 ≤ t.toInt) (t2 : t.toInt ≤ 86399999999999) : pre_X3_round 1000000000 ∧ f_X3_round x 1000000000 = f_X0_restOfDay x 86400 ∧ f_X3_rest (t + (f_X0_restOfDay x 86400 + w)) 86400000000000 = f_X0_roundDay (t + (f_X0_restOfDay x 86400 + w)) ∧ f_X3_rest (t + -(f_X0_restOfDay x 86400 + w)) 86400000000000 = f_X0_roundDay (t + -(f_X0_restOfDay x 86400 + w)) := by
  have B9 : -4000000000000000000 ≤ x.toInt := by omega
  have B1 : -9223372036854775808 ≤ x.toInt % 86400 * 1000000000 + w.toInt ∧ x.toInt % 86400 * 1000000000 + w.toInt < 9223372036854775808 := by omega
  have B2 : -9223372036854775808 < x.toInt % 86400 * 1000000000 + w.toInt := by omega
  have B3 : -9223372036854775808 ≤ t.toInt + (x.toInt % 86400 * 1000000000 + w.toInt) ∧ t.toInt + (x.toInt % 86400 * 1000000000 + w.toInt) < 9223372036854775808 := by omega
  have B4 : -4611686018427387904 ≤ t.toInt + (x.toInt % 86400 * 1000000000 + w.toInt) := by omega
  have B5 : -9223372036854775808 ≤ t.toInt + -(x.toInt % 86400 * 1000000000 + w.toInt) ∧ t.toInt + -(x.toInt % 86400 * 1000000000 + w.toInt) < 9223372036854775808 := by omega
  have B6 : -4611686018427387904 ≤ t.toInt + -(x.toInt % 86400 * 1000000000 + w.toInt) := by omega
  clear h1 h2 t1 t2 w1 w2
  obtain ⟨p, r0⟩ := m_ros (rfl : x.toInt = _) B9
  have r2 := v_ros (rfl : x.toInt = _)
  have W := p_add r2 (rfl : w.toInt = _) B1.1 B1.2
  have s1 := p_add (rfl : t.toInt = _) W B3.1 B3.2
  have s2 := p_add (rfl : t.toInt = _) (p_neg W B2) B5.1 B5.2
  have q1 : (f_X0_roundDay (t + (f_X0_restOfDay x 86400 + w))).toInt = _ := v_fm s1 p_day (by decide)
  have q2 : (f_X0_roundDay (t + -(f_X0_restOfDay x 86400 + w))).toInt = _ := v_fm s2 p_day (by decide)
  exact ⟨p, p_ext r0 r2, p_ext (m_rs s1 p_day (by decide) B4 (by decide)) q1, p_ext (m_rs s2 p_day (by decide) B6 (by decide)) q2⟩
theorem gm_i1 (X T W A : Int) : A + X / 86400 + (T + X % 86400 * 1000000000 + W) / 86400000000000 = A + 1 * (X / 86400) + (T + 1 * (X % 86400 * 1000000000 + W)) / 86400000000000 ∧ (T + X % 86400 * 1000000000 + W) % 86400000000000 = (T + 1 * (X % 86400 * 1000000000 + W)) % 86400000000000 := by
  have e : T + 1 * (X % 86400 * 1000000000 + W) = T + X % 86400 * 1000000000 + W := by omega
  rw [e, Int.one_mul]
  exact ⟨rfl, rfl⟩
theorem gm_i2 (X T W A : Int) : A + -X / 86400 + (T + -X % 86400 * 1000000000 + -W) / 86400000000000 = A + -1 * (X / 86400) + (T + -1 * (X % 86400 * 1000000000 + W)) / 86400000000000 ∧ (T + -X % 86400 * 1000000000 + -W) % 86400000000000 = (T + -1 * (X % 86400 * 1000000000 + W)) % 86400000000000 := by
  have k : (X % 86400 = 0 ∧ -X % 86400 = 0 ∧ -X / 86400 = -(X / 86400)) ∨ (-X % 86400 = 86400 - X % 86400 ∧ -X / 86400 = -(X / 86400) - 1) := by omega
  rcases k with ⟨k1, k2, k3⟩ | ⟨k1, k2⟩
  · rw [k1, k2, k3]
    have e : T + -1 * (0 * 1000000000 + W) = T + 0 * 1000000000 + -W := by omega
    rw [e]
    exact ⟨by omega, rfl⟩
  · rw [k1, k2]
    generalize X % 86400 = r
    generalize X / 86400 = q
    have e : T + (86400 - r) * 1000000000 + -W = T + -1 * (r * 1000000000 + W) + 86400000000000 := by omega
    rw [e]
    generalize T + -1 * (r * 1000000000 + W) = u
    constructor <;> omega
theorem gm1 {x w t a : Int64} (h1 : -1000000000000 ≤ x.toInt) (h2 : x.toInt ≤ 1000000000000) (w1 : 0 ≤ w.toInt) (w2 : w.toInt ≤ 999999999) (t1 : 0 ≤ t.toInt) (t2 : t.toInt ≤ 86399999999999) (a1 : -4371587 ≤ a.toInt) (a2 : a.toInt ≤ 2932896) : a + f_X3_floor x 86400 + f_X3_floor (t + f_X3_rest x 86400 * 1000000000 + w) 86400000000000 = a + 1 * f_X0_daysOf x 86400 + f_J9_floorDiv_f86c9 (t + 1 * (f_X0_restOfDay x 86400 + w)) 86400000000000 ∧ f_X3_rest (t + f_X3_rest x 86400 * 1000000000 + w) 86400000000000 = f_X0_roundDay (t + 1 * (f_X0_restOfDay x 86400 + w)) := by
  have N1 : -9223372036854775808 < x.toInt := by omega
  have N2 : -9223372036854775808 < w.toInt := by omega
  have B0 : -4611686018427387904 ≤ x.toInt := by omega
  have M : -9223372036854775808 ≤ x.toInt % 86400 * 1000000000 ∧ x.toInt % 86400 * 1000000000 < 9223372036854775808 := by omega
  have S1 : -9223372036854775808 ≤ t.toInt + x.toInt % 86400 * 1000000000 ∧ t.toInt + x.toInt % 86400 * 1000000000 < 9223372036854775808 := by omega
  have S2 : -9223372036854775808 ≤ t.toInt + x.toInt % 86400 * 1000000000 + w.toInt ∧ t.toInt + x.toInt % 86400 * 1000000000 + w.toInt < 9223372036854775808 := by omega
  have S3 : -4611686018427387904 ≤ t.toInt + x.toInt % 86400 * 1000000000 + w.toInt := by omega
  have D1 : -9223372036854775808 ≤ a.toInt + x.toInt / 86400 ∧ a.toInt + x.toInt / 86400 < 9223372036854775808 := by omega
  have D2 : -9223372036854775808 ≤ a.toInt + x.toInt / 86400 + (t.toInt + x.toInt % 86400 * 1000000000 + w.toInt) / 86400000000000 ∧ a.toInt + x.toInt / 86400 + (t.toInt + x.toInt % 86400 * 1000000000 + w.toInt) / 86400000000000 < 9223372036854775808 := by omega
  have C1 : -9223372036854775808 ≤ 1 * (x.toInt / 86400) ∧ 1 * (x.toInt / 86400) < 9223372036854775808 := by omega
  have C2 : -9223372036854775808 ≤ a.toInt + 1 * (x.toInt / 86400) ∧ a.toInt + 1 * (x.toInt / 86400) < 9223372036854775808 := by omega
  have C3 : -9223372036854775808 ≤ x.toInt % 86400 * 1000000000 + w.toInt ∧ x.toInt % 86400 * 1000000000 + w.toInt < 9223372036854775808 := by omega
  have C4 : -9223372036854775808 ≤ 1 * (x.toInt % 86400 * 1000000000 + w.toInt) ∧ 1 * (x.toInt % 86400 * 1000000000 + w.toInt) < 9223372036854775808 := by omega
  have C5 : -9223372036854775808 ≤ t.toInt + 1 * (x.toInt % 86400 * 1000000000 + w.toInt) ∧ t.toInt + 1 * (x.toInt % 86400 * 1000000000 + w.toInt) < 9223372036854775808 := by omega
  have C6 : -9223372036854775808 ≤ a.toInt + 1 * (x.toInt / 86400) + (t.toInt + 1 * (x.toInt % 86400 * 1000000000 + w.toInt)) / 86400000000000 ∧ a.toInt + 1 * (x.toInt / 86400) + (t.toInt + 1 * (x.toInt % 86400 * 1000000000 + w.toInt)) / 86400000000000 < 9223372036854775808 := by omega
  clear h1 h2 t1 t2 w1 w2 a1 a2
  have K := (show (86400 : Int64).toInt = 86400 from rfl)
  have f1 := m_fl (rfl : x.toInt = _) K (by decide) B0 (by decide)
  have f2 := m_rs (rfl : x.toInt = _) K (by decide) B0 (by decide)
  have f3 := p_add (rfl : t.toInt = _) (p_mul f2 (show (1000000000 : Int64).toInt = 1000000000 from rfl) M.1 M.2) S1.1 S1.2
  have f4 := p_add f3 (rfl : w.toInt = _) S2.1 S2.2
  have f5 := m_fl f4 p_day (by decide) S3 (by decide)
  have f6 := m_rs f4 p_day (by decide) S3 (by decide)
  have f7 := p_add (p_add (rfl : a.toInt = _) f1 D1.1 D1.2) f5 D2.1 D2.2
  have g1 : (f_X0_daysOf x 86400).toInt = x.toInt / 86400 := by
    unfold f_X0_daysOf
    rw [if_neg (by decide)]; exact v_fd rfl K (by decide)
  have g2 := p_add (rfl : a.toInt = _) (p_mul p_k1 g1 C1.1 C1.2) C2.1 C2.2
  have g3 := p_add (v_ros (rfl : x.toInt = _)) (rfl : w.toInt = _) C3.1 C3.2
  have g4 := p_add (rfl : t.toInt = _) (p_mul p_k1 g3 C4.1 C4.2) C5.1 C5.2
  have g5 := v_fd g4 p_day (by decide)
  have g6 : (f_X0_roundDay (t + 1 * (f_X0_restOfDay x 86400 + w))).toInt = _ := v_fm g4 p_day (by decide)
  have g7 := p_add g2 g5 C6.1 C6.2
  have z := gm_i1 x.toInt t.toInt w.toInt a.toInt
  exact ⟨p_ext (f7.trans z.1) g7, p_ext (f6.trans z.2) g6⟩
theorem gm2 {x w t a : Int64} (h1 : -1000000000000 ≤ x.toInt) (h2 : x.toInt ≤ 1000000000000) (w1 : 0 ≤ w.toInt) (w2 : w.toInt ≤ 999999999) (t1 : 0 ≤ t.toInt) (t2 : t.toInt ≤ 86399999999999) (a1 : -4371587 ≤ a.toInt) (a2 : a.toInt ≤ 2932896) : a + f_X3_floor (-x) 86400 + f_X3_floor (t + f_X3_rest (-x) 86400 * 1000000000 + -w) 86400000000000 = a + (-1) * f_X0_daysOf x 86400 + f_J9_floorDiv_f86c9 (t + (-1) * (f_X0_restOfDay x 86400 + w)) 86400000000000 ∧ f_X3_rest (t + f_X3_rest (-x) 86400 * 1000000000 + -w) 86400000000000 = f_X0_roundDay (t + (-1) * (f_X0_restOfDay x 86400 + w)) := by
  have N1 : -9223372036854775808 < x.toInt := by omega
  have N2 : -9223372036854775808 < w.toInt := by omega
  have B0 : -4611686018427387904 ≤ -x.toInt := by omega
  have M : -9223372036854775808 ≤ -x.toInt % 86400 * 1000000000 ∧ -x.toInt % 86400 * 1000000000 < 9223372036854775808 := by omega
  have S1 : -9223372036854775808 ≤ t.toInt + -x.toInt % 86400 * 1000000000 ∧ t.toInt + -x.toInt % 86400 * 1000000000 < 9223372036854775808 := by omega
  have S2 : -9223372036854775808 ≤ t.toInt + -x.toInt % 86400 * 1000000000 + -w.toInt ∧ t.toInt + -x.toInt % 86400 * 1000000000 + -w.toInt < 9223372036854775808 := by omega
  have S3 : -4611686018427387904 ≤ t.toInt + -x.toInt % 86400 * 1000000000 + -w.toInt := by omega
  have D1 : -9223372036854775808 ≤ a.toInt + -x.toInt / 86400 ∧ a.toInt + -x.toInt / 86400 < 9223372036854775808 := by omega
  have D2 : -9223372036854775808 ≤ a.toInt + -x.toInt / 86400 + (t.toInt + -x.toInt % 86400 * 1000000000 + -w.toInt) / 86400000000000 ∧ a.toInt + -x.toInt / 86400 + (t.toInt + -x.toInt % 86400 * 1000000000 + -w.toInt) / 86400000000000 < 9223372036854775808 := by omega
  have C1 : -9223372036854775808 ≤ -1 * (x.toInt / 86400) ∧ -1 * (x.toInt / 86400) < 9223372036854775808 := by omega
  have C2 : -9223372036854775808 ≤ a.toInt + -1 * (x.toInt / 86400) ∧ a.toInt + -1 * (x.toInt / 86400) < 9223372036854775808 := by omega
  have C3 : -9223372036854775808 ≤ x.toInt % 86400 * 1000000000 + w.toInt ∧ x.toInt % 86400 * 1000000000 + w.toInt < 9223372036854775808 := by omega
  have C4 : -9223372036854775808 ≤ -1 * (x.toInt % 86400 * 1000000000 + w.toInt) ∧ -1 * (x.toInt % 86400 * 1000000000 + w.toInt) < 9223372036854775808 := by omega
  have C5 : -9223372036854775808 ≤ t.toInt + -1 * (x.toInt % 86400 * 1000000000 + w.toInt) ∧ t.toInt + -1 * (x.toInt % 86400 * 1000000000 + w.toInt) < 9223372036854775808 := by omega
  have C6 : -9223372036854775808 ≤ a.toInt + -1 * (x.toInt / 86400) + (t.toInt + -1 * (x.toInt % 86400 * 1000000000 + w.toInt)) / 86400000000000 ∧ a.toInt + -1 * (x.toInt / 86400) + (t.toInt + -1 * (x.toInt % 86400 * 1000000000 + w.toInt)) / 86400000000000 < 9223372036854775808 := by omega
  clear h1 h2 t1 t2 w1 w2 a1 a2
  have K := (show (86400 : Int64).toInt = 86400 from rfl)
  have f1 := m_fl (p_neg (rfl : x.toInt = _) N1) K (by decide) B0 (by decide)
  have f2 := m_rs (p_neg (rfl : x.toInt = _) N1) K (by decide) B0 (by decide)
  have f3 := p_add (rfl : t.toInt = _) (p_mul f2 (show (1000000000 : Int64).toInt = 1000000000 from rfl) M.1 M.2) S1.1 S1.2
  have f4 := p_add f3 (p_neg (rfl : w.toInt = _) N2) S2.1 S2.2
  have f5 := m_fl f4 p_day (by decide) S3 (by decide)
  have f6 := m_rs f4 p_day (by decide) S3 (by decide)
  have f7 := p_add (p_add (rfl : a.toInt = _) f1 D1.1 D1.2) f5 D2.1 D2.2
  have g1 : (f_X0_daysOf x 86400).toInt = x.toInt / 86400 := by
    unfold f_X0_daysOf
    rw [if_neg (by decide)]; exact v_fd rfl K (by decide)
  have g2 := p_add (rfl : a.toInt = _) (p_mul p_neg1 g1 C1.1 C1.2) C2.1 C2.2
  have g3 := p_add (v_ros (rfl : x.toInt = _)) (rfl : w.toInt = _) C3.1 C3.2
  have g4 := p_add (rfl : t.toInt = _) (p_mul p_neg1 g3 C4.1 C4.2) C5.1 C5.2
  have g5 := v_fd g4 p_day (by decide)
  have g6 : (f_X0_roundDay (t + (-1) * (f_X0_restOfDay x 86400 + w))).toInt = _ := v_fm g4 p_day (by decide)
  have g7 := p_add g2 g5 C6.1 C6.2
  have z := gm_i2 x.toInt t.toInt w.toInt a.toInt
  exact ⟨p_ext (f7.trans z.1) g7, p_ext (f6.trans z.2) g6⟩
theorem v_cut {a b : Int64} {d r : Int} (ha : a.toInt = d) (hb : b.toInt = r) (d1 : -1000000000000000 ≤ d) (d2 : d ≤ 1000000000000000) : (f_X0_cut a b).toInt = if 0 < d then (if r < 0 then d - 1 else d) else if d < 0 then (if 0 < r then d + 1 else d) else 0 := by
  have B1 : -9223372036854775808 ≤ d + 1 ∧ d + 1 < 9223372036854775808 := by omega
  have B2 : -9223372036854775808 ≤ d - 1 ∧ d - 1 < 9223372036854775808 := by omega
  unfold f_X0_cut
  by_cases h1 : d ≤ 0
  · rw [if_pos ((p_le ha p_k0).mpr h1), if_neg (show ¬ 0 < d by omega)]
    by_cases h2 : 0 ≤ d
    · rw [if_pos ((p_le p_k0 ha).mpr h2), if_neg (show ¬ d < 0 by omega), ha]; omega
    · rw [if_neg (fun z => h2 ((p_le p_k0 ha).mp z)), if_pos (show d < 0 by omega)]
      by_cases h3 : r ≤ 0
      · rw [if_pos ((p_le hb p_k0).mpr h3), if_neg (show ¬ 0 < r by omega), ha]
      · rw [if_neg (fun z => h3 ((p_le hb p_k0).mp z)), if_pos (show 0 < r by omega)]; exact p_add ha p_k1 B1.1 B1.2
  · rw [if_neg (fun z => h1 ((p_le ha p_k0).mp z)), if_pos (show 0 < d by omega)]
    by_cases h4 : 0 ≤ r
    · rw [if_pos ((p_le p_k0 hb).mpr h4), if_neg (show ¬ r < 0 by omega), if_pos ((p_le p_k0 ha).mpr (by omega)), ha]
    · rw [if_neg (fun z => h4 ((p_le p_k0 hb).mp z)), if_pos (show r < 0 by omega)]; exact p_sub ha p_k1 B2.1 B2.2
theorem ws_i (d r : Int) (A R : Int) (hA : A = d * 86400 + (if r < 0 ∧ r % 1000000000 ≠ 0 then r / 1000000000 + 1 else r / 1000000000)) (hR : R = if r < 0 ∧ r % 1000000000 ≠ 0 then r % 1000000000 - 1000000000 else r % 1000000000) (b1 : -86400000000000 < r) (b2 : r < 86400000000000) : (if 0 < A then (if R < 0 then A - 1 else A) else if A < 0 then (if 0 < R then A + 1 else A) else 0) = if 0 ≤ 86400000000000 * d + r then 86400 * d + r / 1000000000 else -(86400 * -d + -r / 1000000000) := by
  by_cases z : r < 0 ∧ r % 1000000000 ≠ 0
  · rw [if_pos z] at hA hR
    obtain ⟨z1, z2⟩ := z
    repeat (first | omega | split)
  · rw [if_neg z] at hA hR
    have z9 : 0 ≤ r ∨ r % 1000000000 = 0 := by omega
    rcases z9 with z9 | z9
    · repeat (first | omega | split)
    · repeat (first | omega | split)
theorem v_ws {a b : Int64} {d r : Int} (ha : a.toInt = d) (hb : b.toInt = r) (d1 : -10000000 ≤ d) (d2 : d ≤ 10000000) (b1 : -86400000000000 < r) (b2 : r < 86400000000000) : (f_X0_wholeSeconds a b).toInt = if 0 ≤ 86400000000000 * d + r then 86400 * d + r / 1000000000 else -(86400 * -d + -r / 1000000000) := by
  have M : -9223372036854775808 ≤ d * 86400 ∧ d * 86400 < 9223372036854775808 := by omega
  have S : ∀ k : Int, -86401 ≤ k → k ≤ 86401 → -9223372036854775808 ≤ d * 86400 + k ∧ d * 86400 + k < 9223372036854775808 := fun k _ _ => by omega
  have S2 : ∀ k : Int, -86401 ≤ k → k ≤ 86401 → -1000000000000000 ≤ d * 86400 + k ∧ d * 86400 + k ≤ 1000000000000000 := fun k _ _ => by omega
  have Q : -86401 ≤ (if r < 0 ∧ r % 1000000000 ≠ 0 then r / 1000000000 + 1 else r / 1000000000) ∧ (if r < 0 ∧ r % 1000000000 ≠ 0 then r / 1000000000 + 1 else r / 1000000000) ≤ 86401 := by
    split <;> omega
  have KB := (show (1000000000 : Int64).toInt = 1000000000 from rfl)
  have q := p_div hb KB (by decide)
  have r1 := p_rem hb KB (by decide)
  have A := p_add (p_mul ha (show (86400 : Int64).toInt = 86400 from rfl) M.1 M.2) q (S _ Q.1 Q.2).1 (S _ Q.1 Q.2).2
  unfold f_X0_wholeSeconds
  rw [v_cut A r1 (S2 _ Q.1 Q.2).1 (S2 _ Q.1 Q.2).2]
  exact ws_i d r _ _ rfl rfl b1 b2
theorem dv1 (a : Int64) : a / 1 = a := p_of ((p_div rfl p_k1 (by decide)).trans (by rw [if_neg (fun z => z.2 (Int.emod_one _))]; exact Int.ediv_one _))
theorem dvn60 {a : Int64} {y : Int} (ha : a.toInt = y) (h : 0 ≤ y) : -a / 60 = -(a / 60) := by
  have l := p_hi a
  rw [ha] at l
  have b0 : -9223372036854775808 < y := by omega
  have b1 : -9223372036854775808 < y / 60 := by omega
  have i1 : (if -y < 0 ∧ -y % 60 ≠ 0 then -y / 60 + 1 else -y / 60) = -(y / 60) := by
    by_cases z : -y % 60 = 0
    · rw [if_neg (fun w => w.2 z)]; omega
    · rw [if_pos ⟨by omega, z⟩]; omega
  clear l
  exact p_ext ((p_div (p_neg ha b0) (show (60 : Int64).toInt = 60 from rfl) (by decide)).trans i1) (p_neg (p_divn ha (show (60 : Int64).toInt = 60 from rfl) (by decide) h) b1)
theorem dvn3600 {a : Int64} {y : Int} (ha : a.toInt = y) (h : 0 ≤ y) : -a / 3600 = -(a / 3600) := by
  have l := p_hi a
  rw [ha] at l
  have b0 : -9223372036854775808 < y := by omega
  have b1 : -9223372036854775808 < y / 3600 := by omega
  have i1 : (if -y < 0 ∧ -y % 3600 ≠ 0 then -y / 3600 + 1 else -y / 3600) = -(y / 3600) := by
    by_cases z : -y % 3600 = 0
    · rw [if_neg (fun w => w.2 z)]; omega
    · rw [if_pos ⟨by omega, z⟩]; omega
  clear l
  exact p_ext ((p_div (p_neg ha b0) (show (3600 : Int64).toInt = 3600 from rfl) (by decide)).trans i1) (p_neg (p_divn ha (show (3600 : Int64).toInt = 3600 from rfl) (by decide) h) b1)
theorem wh_A {x y t u : Int64} (X1 : -4371587 ≤ x.toInt ∧ x.toInt ≤ 2932896) (X2 : -4371587 ≤ y.toInt ∧ y.toInt ≤ 2932896) (T1 : 0 ≤ t.toInt ∧ t.toInt ≤ 86399999999999) (T2 : 0 ≤ u.toInt ∧ u.toInt ≤ 86399999999999) (h : x.toInt ≤ y.toInt) (k : t.toInt ≤ u.toInt) : f_X0_cut (y - x) (u - t) = (y - x - 0) ∧ f_X0_wholeSeconds (y - x) (u - t) = (86400 * (y - x - 0) + (u - t + 0) / 1000000000) / 1 ∧ f_X0_wholeSeconds (y - x) (u - t) / 60 = (86400 * (y - x - 0) + (u - t + 0) / 1000000000) / 60 ∧ f_X0_wholeSeconds (y - x) (u - t) / 3600 = (86400 * (y - x - 0) + (u - t + 0) / 1000000000) / 3600 := by
  have B1 : -9223372036854775808 ≤ y.toInt - x.toInt ∧ y.toInt - x.toInt < 9223372036854775808 := by omega
  have B2 : -9223372036854775808 ≤ u.toInt - t.toInt ∧ u.toInt - t.toInt < 9223372036854775808 := by omega
  have B3 : -9223372036854775808 ≤ y.toInt - x.toInt ∧ y.toInt - x.toInt < 9223372036854775808 := by omega
  have B4 : -9223372036854775808 ≤ (y.toInt - x.toInt - 0) ∧ (y.toInt - x.toInt - 0) < 9223372036854775808 := by omega
  have B5 : -9223372036854775808 ≤ u.toInt - t.toInt ∧ u.toInt - t.toInt < 9223372036854775808 := by omega
  have B6 : -9223372036854775808 ≤ (u.toInt - t.toInt + 0) ∧ (u.toInt - t.toInt + 0) < 9223372036854775808 := by omega
  have B7 : 0 ≤ (u.toInt - t.toInt + 0) := by omega
  have B8 : -9223372036854775808 ≤ 86400 * (y.toInt - x.toInt - 0) ∧ 86400 * (y.toInt - x.toInt - 0) < 9223372036854775808 := by omega
  have B9 : -9223372036854775808 ≤ 86400 * (y.toInt - x.toInt - 0) + (u.toInt - t.toInt + 0) / 1000000000 ∧ 86400 * (y.toInt - x.toInt - 0) + (u.toInt - t.toInt + 0) / 1000000000 < 9223372036854775808 := by omega
  have C1 : -1000000000000000 ≤ y.toInt - x.toInt ∧ y.toInt - x.toInt ≤ 1000000000000000 := by omega
  have C2 : -10000000 ≤ y.toInt - x.toInt ∧ y.toInt - x.toInt ≤ 10000000 := by omega
  have C3 : -86400000000000 < u.toInt - t.toInt ∧ u.toInt - t.toInt < 86400000000000 := by omega
  have C4 : 0 ≤ 86400 * (y.toInt - x.toInt - 0) + (u.toInt - t.toInt + 0) / 1000000000 := by omega
  have C5 : -9223372036854775808 < 86400 * (y.toInt - x.toInt - 0) + (u.toInt - t.toInt + 0) / 1000000000 := by omega
  have C6 : -9223372036854775808 < (y.toInt - x.toInt - 0) := by omega
  have i1 : (if 0 < y.toInt - x.toInt then (if u.toInt - t.toInt < 0 then y.toInt - x.toInt - 1 else y.toInt - x.toInt) else if y.toInt - x.toInt < 0 then (if 0 < u.toInt - t.toInt then y.toInt - x.toInt + 1 else y.toInt - x.toInt) else 0) = (y.toInt - x.toInt - 0) := by
    repeat (first | omega | split)
  have i2 : (if 0 ≤ 86400000000000 * (y.toInt - x.toInt) + (u.toInt - t.toInt) then 86400 * (y.toInt - x.toInt) + (u.toInt - t.toInt) / 1000000000 else -(86400 * -(y.toInt - x.toInt) + -(u.toInt - t.toInt) / 1000000000)) = 86400 * (y.toInt - x.toInt - 0) + (u.toInt - t.toInt + 0) / 1000000000 := by
    split <;> omega
  clear X1 X2 T1 T2 h k
  have e1 := p_sub (rfl : y.toInt = _) (rfl : x.toInt = _) B1.1 B1.2
  have e2 := p_sub (rfl : u.toInt = _) (rfl : t.toInt = _) B2.1 B2.2
  have e3 := e1
  have e4 := e2
  have e5 := p_sub e3 p_k0 B4.1 B4.2
  have e6 := p_add e4 p_k0 B6.1 B6.2
  have e7 := p_add (p_mul (show (86400 : Int64).toInt = 86400 from rfl) e5 B8.1 B8.2) (p_divn e6 (show (1000000000 : Int64).toInt = 1000000000 from rfl) (by decide) B7) B9.1 B9.2
  have w1 := (v_cut e1 e2 C1.1 C1.2).trans i1
  have w2 := (v_ws e1 e2 C2.1 C2.2 C3.1 C3.2).trans i2
  have w3 := p_ext w2 e7
  refine ⟨p_ext w1 e5, ?_, ?_, ?_⟩
  · rw [dv1]; exact w3
  · rw [w3]
  · rw [w3]
theorem wh_B {x y t u : Int64} (X1 : -4371587 ≤ x.toInt ∧ x.toInt ≤ 2932896) (X2 : -4371587 ≤ y.toInt ∧ y.toInt ≤ 2932896) (T1 : 0 ≤ t.toInt ∧ t.toInt ≤ 86399999999999) (T2 : 0 ≤ u.toInt ∧ u.toInt ≤ 86399999999999) (h : x.toInt < y.toInt) (k : u.toInt < t.toInt) : f_X0_cut (y - x) (u - t) = (y - x - 1) ∧ f_X0_wholeSeconds (y - x) (u - t) = (86400 * (y - x - 1) + (u - t + 86400000000000) / 1000000000) / 1 ∧ f_X0_wholeSeconds (y - x) (u - t) / 60 = (86400 * (y - x - 1) + (u - t + 86400000000000) / 1000000000) / 60 ∧ f_X0_wholeSeconds (y - x) (u - t) / 3600 = (86400 * (y - x - 1) + (u - t + 86400000000000) / 1000000000) / 3600 := by
  have B1 : -9223372036854775808 ≤ y.toInt - x.toInt ∧ y.toInt - x.toInt < 9223372036854775808 := by omega
  have B2 : -9223372036854775808 ≤ u.toInt - t.toInt ∧ u.toInt - t.toInt < 9223372036854775808 := by omega
  have B3 : -9223372036854775808 ≤ y.toInt - x.toInt ∧ y.toInt - x.toInt < 9223372036854775808 := by omega
  have B4 : -9223372036854775808 ≤ (y.toInt - x.toInt - 1) ∧ (y.toInt - x.toInt - 1) < 9223372036854775808 := by omega
  have B5 : -9223372036854775808 ≤ u.toInt - t.toInt ∧ u.toInt - t.toInt < 9223372036854775808 := by omega
  have B6 : -9223372036854775808 ≤ (u.toInt - t.toInt + 86400000000000) ∧ (u.toInt - t.toInt + 86400000000000) < 9223372036854775808 := by omega
  have B7 : 0 ≤ (u.toInt - t.toInt + 86400000000000) := by omega
  have B8 : -9223372036854775808 ≤ 86400 * (y.toInt - x.toInt - 1) ∧ 86400 * (y.toInt - x.toInt - 1) < 9223372036854775808 := by omega
  have B9 : -9223372036854775808 ≤ 86400 * (y.toInt - x.toInt - 1) + (u.toInt - t.toInt + 86400000000000) / 1000000000 ∧ 86400 * (y.toInt - x.toInt - 1) + (u.toInt - t.toInt + 86400000000000) / 1000000000 < 9223372036854775808 := by omega
  have C1 : -1000000000000000 ≤ y.toInt - x.toInt ∧ y.toInt - x.toInt ≤ 1000000000000000 := by omega
  have C2 : -10000000 ≤ y.toInt - x.toInt ∧ y.toInt - x.toInt ≤ 10000000 := by omega
  have C3 : -86400000000000 < u.toInt - t.toInt ∧ u.toInt - t.toInt < 86400000000000 := by omega
  have C4 : 0 ≤ 86400 * (y.toInt - x.toInt - 1) + (u.toInt - t.toInt + 86400000000000) / 1000000000 := by omega
  have C5 : -9223372036854775808 < 86400 * (y.toInt - x.toInt - 1) + (u.toInt - t.toInt + 86400000000000) / 1000000000 := by omega
  have C6 : -9223372036854775808 < (y.toInt - x.toInt - 1) := by omega
  have i1 : (if 0 < y.toInt - x.toInt then (if u.toInt - t.toInt < 0 then y.toInt - x.toInt - 1 else y.toInt - x.toInt) else if y.toInt - x.toInt < 0 then (if 0 < u.toInt - t.toInt then y.toInt - x.toInt + 1 else y.toInt - x.toInt) else 0) = (y.toInt - x.toInt - 1) := by
    repeat (first | omega | split)
  have i2 : (if 0 ≤ 86400000000000 * (y.toInt - x.toInt) + (u.toInt - t.toInt) then 86400 * (y.toInt - x.toInt) + (u.toInt - t.toInt) / 1000000000 else -(86400 * -(y.toInt - x.toInt) + -(u.toInt - t.toInt) / 1000000000)) = 86400 * (y.toInt - x.toInt - 1) + (u.toInt - t.toInt + 86400000000000) / 1000000000 := by
    split <;> omega
  clear X1 X2 T1 T2 h k
  have e1 := p_sub (rfl : y.toInt = _) (rfl : x.toInt = _) B1.1 B1.2
  have e2 := p_sub (rfl : u.toInt = _) (rfl : t.toInt = _) B2.1 B2.2
  have e3 := e1
  have e4 := e2
  have e5 := p_sub e3 p_k1 B4.1 B4.2
  have e6 := p_add e4 p_day B6.1 B6.2
  have e7 := p_add (p_mul (show (86400 : Int64).toInt = 86400 from rfl) e5 B8.1 B8.2) (p_divn e6 (show (1000000000 : Int64).toInt = 1000000000 from rfl) (by decide) B7) B9.1 B9.2
  have w1 := (v_cut e1 e2 C1.1 C1.2).trans i1
  have w2 := (v_ws e1 e2 C2.1 C2.2 C3.1 C3.2).trans i2
  have w3 := p_ext w2 e7
  refine ⟨p_ext w1 e5, ?_, ?_, ?_⟩
  · rw [dv1]; exact w3
  · rw [w3]
  · rw [w3]
theorem wh_C {x y t u : Int64} (X1 : -4371587 ≤ x.toInt ∧ x.toInt ≤ 2932896) (X2 : -4371587 ≤ y.toInt ∧ y.toInt ≤ 2932896) (T1 : 0 ≤ t.toInt ∧ t.toInt ≤ 86399999999999) (T2 : 0 ≤ u.toInt ∧ u.toInt ≤ 86399999999999) (h : y.toInt ≤ x.toInt) (k : u.toInt ≤ t.toInt) : f_X0_cut (y - x) (u - t) = -((x - y - 0)) ∧ f_X0_wholeSeconds (y - x) (u - t) = -((86400 * (x - y - 0) + (t - u + 0) / 1000000000) / 1) ∧ f_X0_wholeSeconds (y - x) (u - t) / 60 = -((86400 * (x - y - 0) + (t - u + 0) / 1000000000) / 60) ∧ f_X0_wholeSeconds (y - x) (u - t) / 3600 = -((86400 * (x - y - 0) + (t - u + 0) / 1000000000) / 3600) := by
  have B1 : -9223372036854775808 ≤ y.toInt - x.toInt ∧ y.toInt - x.toInt < 9223372036854775808 := by omega
  have B2 : -9223372036854775808 ≤ u.toInt - t.toInt ∧ u.toInt - t.toInt < 9223372036854775808 := by omega
  have B3 : -9223372036854775808 ≤ x.toInt - y.toInt ∧ x.toInt - y.toInt < 9223372036854775808 := by omega
  have B4 : -9223372036854775808 ≤ (x.toInt - y.toInt - 0) ∧ (x.toInt - y.toInt - 0) < 9223372036854775808 := by omega
  have B5 : -9223372036854775808 ≤ t.toInt - u.toInt ∧ t.toInt - u.toInt < 9223372036854775808 := by omega
  have B6 : -9223372036854775808 ≤ (t.toInt - u.toInt + 0) ∧ (t.toInt - u.toInt + 0) < 9223372036854775808 := by omega
  have B7 : 0 ≤ (t.toInt - u.toInt + 0) := by omega
  have B8 : -9223372036854775808 ≤ 86400 * (x.toInt - y.toInt - 0) ∧ 86400 * (x.toInt - y.toInt - 0) < 9223372036854775808 := by omega
  have B9 : -9223372036854775808 ≤ 86400 * (x.toInt - y.toInt - 0) + (t.toInt - u.toInt + 0) / 1000000000 ∧ 86400 * (x.toInt - y.toInt - 0) + (t.toInt - u.toInt + 0) / 1000000000 < 9223372036854775808 := by omega
  have C1 : -1000000000000000 ≤ y.toInt - x.toInt ∧ y.toInt - x.toInt ≤ 1000000000000000 := by omega
  have C2 : -10000000 ≤ y.toInt - x.toInt ∧ y.toInt - x.toInt ≤ 10000000 := by omega
  have C3 : -86400000000000 < u.toInt - t.toInt ∧ u.toInt - t.toInt < 86400000000000 := by omega
  have C4 : 0 ≤ 86400 * (x.toInt - y.toInt - 0) + (t.toInt - u.toInt + 0) / 1000000000 := by omega
  have C5 : -9223372036854775808 < 86400 * (x.toInt - y.toInt - 0) + (t.toInt - u.toInt + 0) / 1000000000 := by omega
  have C6 : -9223372036854775808 < (x.toInt - y.toInt - 0) := by omega
  have i1 : (if 0 < y.toInt - x.toInt then (if u.toInt - t.toInt < 0 then y.toInt - x.toInt - 1 else y.toInt - x.toInt) else if y.toInt - x.toInt < 0 then (if 0 < u.toInt - t.toInt then y.toInt - x.toInt + 1 else y.toInt - x.toInt) else 0) = -(x.toInt - y.toInt - 0) := by
    repeat (first | omega | split)
  have i2 : (if 0 ≤ 86400000000000 * (y.toInt - x.toInt) + (u.toInt - t.toInt) then 86400 * (y.toInt - x.toInt) + (u.toInt - t.toInt) / 1000000000 else -(86400 * -(y.toInt - x.toInt) + -(u.toInt - t.toInt) / 1000000000)) = -(86400 * (x.toInt - y.toInt - 0) + (t.toInt - u.toInt + 0) / 1000000000) := by
    split <;> omega
  clear X1 X2 T1 T2 h k
  have e1 := p_sub (rfl : y.toInt = _) (rfl : x.toInt = _) B1.1 B1.2
  have e2 := p_sub (rfl : u.toInt = _) (rfl : t.toInt = _) B2.1 B2.2
  have e3 := p_sub (rfl : x.toInt = _) (rfl : y.toInt = _) B3.1 B3.2
  have e4 := p_sub (rfl : t.toInt = _) (rfl : u.toInt = _) B5.1 B5.2
  have e5 := p_sub e3 p_k0 B4.1 B4.2
  have e6 := p_add e4 p_k0 B6.1 B6.2
  have e7 := p_add (p_mul (show (86400 : Int64).toInt = 86400 from rfl) e5 B8.1 B8.2) (p_divn e6 (show (1000000000 : Int64).toInt = 1000000000 from rfl) (by decide) B7) B9.1 B9.2
  have w1 := (v_cut e1 e2 C1.1 C1.2).trans i1
  have w2 := (v_ws e1 e2 C2.1 C2.2 C3.1 C3.2).trans i2
  have w3 := p_ext w2 (p_neg e7 C5)
  refine ⟨p_ext w1 (p_neg e5 C6), ?_, ?_, ?_⟩
  · rw [dv1]; exact w3
  · rw [w3]; exact dvn60 e7 C4
  · rw [w3]; exact dvn3600 e7 C4
theorem wh_D {x y t u : Int64} (X1 : -4371587 ≤ x.toInt ∧ x.toInt ≤ 2932896) (X2 : -4371587 ≤ y.toInt ∧ y.toInt ≤ 2932896) (T1 : 0 ≤ t.toInt ∧ t.toInt ≤ 86399999999999) (T2 : 0 ≤ u.toInt ∧ u.toInt ≤ 86399999999999) (h : y.toInt < x.toInt) (k : t.toInt < u.toInt) : f_X0_cut (y - x) (u - t) = -((x - y - 1)) ∧ f_X0_wholeSeconds (y - x) (u - t) = -((86400 * (x - y - 1) + (t - u + 86400000000000) / 1000000000) / 1) ∧ f_X0_wholeSeconds (y - x) (u - t) / 60 = -((86400 * (x - y - 1) + (t - u + 86400000000000) / 1000000000) / 60) ∧ f_X0_wholeSeconds (y - x) (u - t) / 3600 = -((86400 * (x - y - 1) + (t - u + 86400000000000) / 1000000000) / 3600) := by
  have B1 : -9223372036854775808 ≤ y.toInt - x.toInt ∧ y.toInt - x.toInt < 9223372036854775808 := by omega
  have B2 : -9223372036854775808 ≤ u.toInt - t.toInt ∧ u.toInt - t.toInt < 9223372036854775808 := by omega
  have B3 : -9223372036854775808 ≤ x.toInt - y.toInt ∧ x.toInt - y.toInt < 9223372036854775808 := by omega
  have B4 : -9223372036854775808 ≤ (x.toInt - y.toInt - 1) ∧ (x.toInt - y.toInt - 1) < 9223372036854775808 := by omega
  have B5 : -9223372036854775808 ≤ t.toInt - u.toInt ∧ t.toInt - u.toInt < 9223372036854775808 := by omega
  have B6 : -9223372036854775808 ≤ (t.toInt - u.toInt + 86400000000000) ∧ (t.toInt - u.toInt + 86400000000000) < 9223372036854775808 := by omega
  have B7 : 0 ≤ (t.toInt - u.toInt + 86400000000000) := by omega
  have B8 : -9223372036854775808 ≤ 86400 * (x.toInt - y.toInt - 1) ∧ 86400 * (x.toInt - y.toInt - 1) < 9223372036854775808 := by omega
  have B9 : -9223372036854775808 ≤ 86400 * (x.toInt - y.toInt - 1) + (t.toInt - u.toInt + 86400000000000) / 1000000000 ∧ 86400 * (x.toInt - y.toInt - 1) + (t.toInt - u.toInt + 86400000000000) / 1000000000 < 9223372036854775808 := by omega
  have C1 : -1000000000000000 ≤ y.toInt - x.toInt ∧ y.toInt - x.toInt ≤ 1000000000000000 := by omega
  have C2 : -10000000 ≤ y.toInt - x.toInt ∧ y.toInt - x.toInt ≤ 10000000 := by omega
  have C3 : -86400000000000 < u.toInt - t.toInt ∧ u.toInt - t.toInt < 86400000000000 := by omega
  have C4 : 0 ≤ 86400 * (x.toInt - y.toInt - 1) + (t.toInt - u.toInt + 86400000000000) / 1000000000 := by omega
  have C5 : -9223372036854775808 < 86400 * (x.toInt - y.toInt - 1) + (t.toInt - u.toInt + 86400000000000) / 1000000000 := by omega
  have C6 : -9223372036854775808 < (x.toInt - y.toInt - 1) := by omega
  have i1 : (if 0 < y.toInt - x.toInt then (if u.toInt - t.toInt < 0 then y.toInt - x.toInt - 1 else y.toInt - x.toInt) else if y.toInt - x.toInt < 0 then (if 0 < u.toInt - t.toInt then y.toInt - x.toInt + 1 else y.toInt - x.toInt) else 0) = -(x.toInt - y.toInt - 1) := by
    repeat (first | omega | split)
  have i2 : (if 0 ≤ 86400000000000 * (y.toInt - x.toInt) + (u.toInt - t.toInt) then 86400 * (y.toInt - x.toInt) + (u.toInt - t.toInt) / 1000000000 else -(86400 * -(y.toInt - x.toInt) + -(u.toInt - t.toInt) / 1000000000)) = -(86400 * (x.toInt - y.toInt - 1) + (t.toInt - u.toInt + 86400000000000) / 1000000000) := by
    split <;> omega
  clear X1 X2 T1 T2 h k
  have e1 := p_sub (rfl : y.toInt = _) (rfl : x.toInt = _) B1.1 B1.2
  have e2 := p_sub (rfl : u.toInt = _) (rfl : t.toInt = _) B2.1 B2.2
  have e3 := p_sub (rfl : x.toInt = _) (rfl : y.toInt = _) B3.1 B3.2
  have e4 := p_sub (rfl : t.toInt = _) (rfl : u.toInt = _) B5.1 B5.2
  have e5 := p_sub e3 p_k1 B4.1 B4.2
  have e6 := p_add e4 p_day B6.1 B6.2
  have e7 := p_add (p_mul (show (86400 : Int64).toInt = 86400 from rfl) e5 B8.1 B8.2) (p_divn e6 (show (1000000000 : Int64).toInt = 1000000000 from rfl) (by decide) B7) B9.1 B9.2
  have w1 := (v_cut e1 e2 C1.1 C1.2).trans i1
  have w2 := (v_ws e1 e2 C2.1 C2.2 C3.1 C3.2).trans i2
  have w3 := p_ext w2 (p_neg e7 C5)
  refine ⟨p_ext w1 (p_neg e5 C6), ?_, ?_, ?_⟩
  · rw [dv1]; exact w3
  · rw [w3]; exact dvn60 e7 C4
  · rw [w3]; exact dvn3600 e7 C4
end ZPV
