section ZPI2
theorem dt {a : Int64} (h1 : -4371587 ≤ a.toInt) (h2 : a.toInt ≤ 2932896) : ∃ i : Int, iM a.toInt i ∧ -119988 ≤ i ∧ i ≤ 119999 ∧ pre_X3_parts a ∧ (s_X3_parts_yr a).toInt = i / 12 ∧ (s_X3_parts_mo a).toInt = i % 12 + 1 ∧ (s_X3_parts_dy a).toInt = a.toInt - iFM i + 1 ∧ (f_X1_monthOfDay a).toInt = i ∧ (f_X1_yearOfDay a).toInt = i / 12 ∧ -4371618 ≤ iFM i ∧ iFM i ≤ 2932896 ∧ 1 ≤ a.toInt - iFM i + 1 ∧ a.toInt - iFM i + 1 ≤ 31 := by
  obtain ⟨i, h, r1, r2⟩ := dt_m h1 h2
  obtain ⟨p, e1, e2, e3⟩ := m_pt (rfl : a.toInt = a.toInt) (by omega) (by omega) h
  have d := iM_dim h
  have l := iM_ML i
  exact ⟨i, h, r1, r2, p, e1, e2, e3, v_mi rfl (by omega) (by omega) h, v_yd rfl (by omega) (by omega) h, by omega, by omega, by omega, by omega⟩
theorem sw_up {x : Int64} {q : Int32} (h1 : -10000000 ≤ x.toInt) (h2 : x.toInt ≤ 10000000) (q1 : 1 ≤ q.toInt) (q2 : q.toInt ≤ 7) : pre_X3_sought x q 1 ∧ f_X3_sought x q 1 = f_X1_weekdayFrom x q ∧ -10000000 ≤ (f_X1_weekdayFrom x q).toInt ∧ (f_X1_weekdayFrom x q).toInt ≤ 10000007 := by
  obtain ⟨p, e⟩ := m_up (rfl : x.toInt = x.toInt) (rfl : q.toInt = q.toInt) (by omega) (by omega) q1 q2
  have g := v_wf (rfl : x.toInt = x.toInt) (rfl : q.toInt = q.toInt) (by omega) (by omega) (by omega) (by omega)
  exact ⟨p, p_ext e g, by rw [g]; omega, by rw [g]; omega⟩
theorem sw_down {x : Int64} {q : Int32} (h1 : -10000000 ≤ x.toInt) (h2 : x.toInt ≤ 10000000) (q1 : 1 ≤ q.toInt) (q2 : q.toInt ≤ 7) : pre_X3_sought x q (-1) ∧ f_X3_sought x q (-1) = f_X1_weekdayUpTo x q ∧ -10000007 ≤ (f_X1_weekdayUpTo x q).toInt ∧ (f_X1_weekdayUpTo x q).toInt ≤ 10000000 := by
  obtain ⟨p, e⟩ := m_down (rfl : x.toInt = x.toInt) (rfl : q.toInt = q.toInt) (by omega) (by omega) q1 q2
  have g := v_wu (rfl : x.toInt = x.toInt) (rfl : q.toInt = q.toInt) (by omega) (by omega) (by omega) (by omega)
  exact ⟨p, p_ext e g, by rw [g]; omega, by rw [g]; omega⟩
/-- a day of a month, or its last -/
theorem m_nl {Y : Int64} {M D : Int32} {y m q : Int} (hY : Y.toInt = y) (hM : M.toInt = m) (hD : D.toInt = q) (h1 : -1000000 ≤ y) (h2 : y ≤ 1000000) (m1 : 1 ≤ m) (m2 : m ≤ 12) : (f_X3_number Y M (if D ≤ f_X3_many Y M then D else f_X3_many Y M)).toInt = iDL (12 * y + m - 1) q := by
  have c0 := m_many hY hM (by omega)
  have c := p_le32 hD c0
  have j : (if D ≤ f_X3_many Y M then D else f_X3_many Y M).toInt = (if iML y m < q then iML y m else q) := by
    by_cases z : iML y m < q
    · rw [if_neg (fun t => by have := c.mp t; omega), if_pos z]; exact c0
    · rw [if_pos (c.mpr (by omega)), if_neg z]; exact hD
  rw [m_number hY hM j (by omega) (by omega) m1 m2]
  unfold iDL
  rw [iFM_ym m1 m2, show (12 * y + m - 1) / 12 = y by omega, show (12 * y + m - 1) % 12 + 1 = m by omega]
end ZPI2
