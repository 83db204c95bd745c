section ZPH
/-- the month of a kept date -/
theorem dt_m {a : Int64} (h1 : -4371587 ≤ a.toInt) (h2 : a.toInt ≤ 2932896) : ∃ i : Int, iM a.toInt i ∧ -119988 ≤ i ∧ i ≤ 119999 := by
  obtain ⟨h, _⟩ := v_mo (rfl : a.toInt = a.toInt) (by omega) (by omega)
  have r := iM_r h h1 h2
  exact ⟨_, h, r.1, r.2⟩
theorem pm_eq {a b : Int64} {k : Int} (h1 : -4371587 ≤ a.toInt) (h2 : a.toInt ≤ 2932896) (hb : b.toInt = k) (b1 : -100000000 ≤ k) (b2 : k ≤ 100000000) : pre_X3_byMonths a b ∧ f_X3_byMonths a b = f_X1_plusMonths a b ∧ -9000000000 ≤ (f_X1_plusMonths a b).toInt ∧ (f_X1_plusMonths a b).toInt ≤ 9000000000 := by
  obtain ⟨i, h, r1, r2⟩ := dt_m h1 h2
  have e := v_pm (rfl : a.toInt = a.toInt) hb (by omega) (by omega) h (by omega) (by omega)
  obtain ⟨p, g⟩ := m_bm (rfl : a.toInt = a.toInt) hb (by omega) (by omega) h (by omega) (by omega)
  have d := iM_dim h
  have l := iDL_r2 (i := i + k) (q := a.toInt - iFM i + 1) (by omega) (by omega) (by omega)
  refine ⟨p, p_ext g e, ?_, ?_⟩ <;> rw [e] <;> omega
theorem mv_eq {a k : Int64} {q : Int} (u : Int32) (h1 : -4371587 ≤ a.toInt) (h2 : a.toInt ≤ 2932896) (hk : k.toInt = q) (b1 : -1000000 ≤ q) (b2 : q ≤ 1000000) (hu : u = 100 ∨ u = 119 ∨ u = 109 ∨ u = 121) : pre_X3_moved a u k ∧ f_X3_moved a u k = f_X1_moved a u k ∧ -10000000000 ≤ (f_X1_moved a u k).toInt ∧ (f_X1_moved a u k).toInt ≤ 10000000000 := by
  unfold pre_X3_moved f_X3_moved f_X1_moved f_X3_moved_j1
  have s12 := p_mul p_k12 hk (by omega) (by omega)
  have s7 := p_mul p_k7 hk (by omega) (by omega)
  rcases hu with e | e | e | e <;> subst e
  · have t := p_add (rfl : a.toInt = a.toInt) hk (by omega) (by omega)
    simp +decide only [reduceIte, false_implies, true_implies, implies_true, true_and, and_true, not_true_eq_false, not_false_eq_true]
    constructor <;> rw [t] <;> omega
  · have t := p_add (rfl : a.toInt = a.toInt) s7 (by omega) (by omega)
    simp +decide only [reduceIte, false_implies, true_implies, implies_true, true_and, and_true, not_true_eq_false, not_false_eq_true]
    constructor <;> rw [t] <;> omega
  · obtain ⟨p, e, g1, g2⟩ := pm_eq h1 h2 hk (by omega) (by omega)
    simp +decide only [reduceIte, false_implies, true_implies, implies_true, true_and, and_true, not_true_eq_false, not_false_eq_true]
    exact ⟨p, e, by omega, by omega⟩
  · obtain ⟨p, e, g1, g2⟩ := pm_eq h1 h2 s12 (by omega) (by omega)
    simp +decide only [reduceIte, false_implies, true_implies, implies_true, true_and, and_true, not_true_eq_false, not_false_eq_true]
    exact ⟨p, e, by omega, by omega⟩
end ZPH
