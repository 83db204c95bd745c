section ZPT
theorem p_day : (86400000000000 : Int64).toInt = 86400000000000 := rfl
theorem J_ti {d : Nat → Int64} {sy sm sd mi : Nat → Int32} {ti sL bL mD mT : Nat → Int64} (I : iInv d sy sm sd mi ti sL bL mD mT) {x : Int64} (k : Nat) (h1 : 0 ≤ x.toInt) (h2 : x.toInt ≤ 86399999999999) : iInv d sy sm sd mi (vp_updL ti k x) sL bL mD mT := ⟨I.1, I.2.1, I.2.2.1, I.2.2.2.1, I.2.2.2.2.1, iT_upd I.2.2.2.2.2.1 h1 h2, I.2.2.2.2.2.2⟩
theorem m_roh {x : Int64} {n : Int} (hx : x.toInt = n) (h1 : -4000000000000000000 ≤ n) : pre_X3_round 3600000000000 ∧ (f_X3_round x 3600000000000).toInt = n % 24 * 3600000000000 := by
  have e1 := p_divn p_day (show (3600000000000 : Int64).toInt = 3600000000000 from rfl) (by omega) (by omega)
  rw [show (86400000000000 : Int) / 3600000000000 = 24 from rfl] at e1
  have e2 := m_rs hx e1 (by omega) (by omega) (by omega)
  have e3 := p_mul e2 (show (3600000000000 : Int64).toInt = 3600000000000 from rfl) (by omega) (by omega)
  refine ⟨fun z => ?_, e3⟩
  rw [z] at e1
  exact absurd e1 (by decide)
theorem v_roh {x : Int64} {n : Int} (hx : x.toInt = n) : (f_X0_restOfDay x 24).toInt = n % 24 * 3600000000000 := by
  unfold f_X0_restOfDay
  rw [if_neg (by decide)]
  have e1 := p_divn p_day (show (24 : Int64).toInt = 24 from rfl) (by omega) (by omega)
  rw [show (86400000000000 : Int) / 24 = 3600000000000 from rfl] at e1
  have e2 := v_fm hx (show (24 : Int64).toInt = 24 from rfl) (by omega)
  exact p_mul e2 e1 (by omega) (by omega)
theorem rd_h {x t : Int64} (h1 : -4000000000000000000 ≤ x.toInt) (t1 : 0 ≤ t.toInt) (t2 : t.toInt ≤ 86399999999999) : pre_X3_round 3600000000000 ∧ f_X3_rest (t + f_X3_round x 3600000000000) 86400000000000 = f_X0_roundDay (t + f_X0_restOfDay x 24) ∧ 0 ≤ (f_X0_roundDay (t + f_X0_restOfDay x 24)).toInt ∧ (f_X0_roundDay (t + f_X0_restOfDay x 24)).toInt ≤ 86399999999999 := by
  obtain ⟨p, e1⟩ := m_roh (rfl : x.toInt = _) h1
  have e2 := v_roh (rfl : x.toInt = _)
  have a1 := p_add (rfl : t.toInt = _) e1 (by omega) (by omega)
  have a2 := p_add (rfl : t.toInt = _) e2 (by omega) (by omega)
  have r1 := m_rs a1 p_day (by omega) (by omega) (by omega)
  have r2 : (f_X0_roundDay (t + f_X0_restOfDay x 24)).toInt = _ := v_fm a2 p_day (by omega)
  exact ⟨p, p_ext r1 r2, by rw [r2]; omega, by rw [r2]; omega⟩
theorem m_rom {x : Int64} {n : Int} (hx : x.toInt = n) (h1 : -4000000000000000000 ≤ n) : pre_X3_round 60000000000 ∧ (f_X3_round x 60000000000).toInt = n % 1440 * 60000000000 := by
  have e1 := p_divn p_day (show (60000000000 : Int64).toInt = 60000000000 from rfl) (by omega) (by omega)
  rw [show (86400000000000 : Int) / 60000000000 = 1440 from rfl] at e1
  have e2 := m_rs hx e1 (by omega) (by omega) (by omega)
  have e3 := p_mul e2 (show (60000000000 : Int64).toInt = 60000000000 from rfl) (by omega) (by omega)
  refine ⟨fun z => ?_, e3⟩
  rw [z] at e1
  exact absurd e1 (by decide)
theorem v_rom {x : Int64} {n : Int} (hx : x.toInt = n) : (f_X0_restOfDay x 1440).toInt = n % 1440 * 60000000000 := by
  unfold f_X0_restOfDay
  rw [if_neg (by decide)]
  have e1 := p_divn p_day (show (1440 : Int64).toInt = 1440 from rfl) (by omega) (by omega)
  rw [show (86400000000000 : Int) / 1440 = 60000000000 from rfl] at e1
  have e2 := v_fm hx (show (1440 : Int64).toInt = 1440 from rfl) (by omega)
  exact p_mul e2 e1 (by omega) (by omega)
theorem rd_m {x t : Int64} (h1 : -4000000000000000000 ≤ x.toInt) (t1 : 0 ≤ t.toInt) (t2 : t.toInt ≤ 86399999999999) : pre_X3_round 60000000000 ∧ f_X3_rest (t + f_X3_round x 60000000000) 86400000000000 = f_X0_roundDay (t + f_X0_restOfDay x 1440) ∧ 0 ≤ (f_X0_roundDay (t + f_X0_restOfDay x 1440)).toInt ∧ (f_X0_roundDay (t + f_X0_restOfDay x 1440)).toInt ≤ 86399999999999 := by
  obtain ⟨p, e1⟩ := m_rom (rfl : x.toInt = _) h1
  have e2 := v_rom (rfl : x.toInt = _)
  have a1 := p_add (rfl : t.toInt = _) e1 (by omega) (by omega)
  have a2 := p_add (rfl : t.toInt = _) e2 (by omega) (by omega)
  have r1 := m_rs a1 p_day (by omega) (by omega) (by omega)
  have r2 : (f_X0_roundDay (t + f_X0_restOfDay x 1440)).toInt = _ := v_fm a2 p_day (by omega)
  exact ⟨p, p_ext r1 r2, by rw [r2]; omega, by rw [r2]; omega⟩
theorem m_ros {x : Int64} {n : Int} (hx : x.toInt = n) (h1 : -4000000000000000000 ≤ n) : pre_X3_round 1000000000 ∧ (f_X3_round x 1000000000).toInt = n % 86400 * 1000000000 := by
  have e1 := p_divn p_day (show (1000000000 : Int64).toInt = 1000000000 from rfl) (by omega) (by omega)
  rw [show (86400000000000 : Int) / 1000000000 = 86400 from rfl] at e1
  have e2 := m_rs hx e1 (by omega) (by omega) (by omega)
  have e3 := p_mul e2 (show (1000000000 : Int64).toInt = 1000000000 from rfl) (by omega) (by omega)
  refine ⟨fun z => ?_, e3⟩
  rw [z] at e1
  exact absurd e1 (by decide)
theorem v_ros {x : Int64} {n : Int} (hx : x.toInt = n) : (f_X0_restOfDay x 86400).toInt = n % 86400 * 1000000000 := by
  unfold f_X0_restOfDay
  rw [if_neg (by decide)]
  have e1 := p_divn p_day (show (86400 : Int64).toInt = 86400 from rfl) (by omega) (by omega)
  rw [show (86400000000000 : Int) / 86400 = 1000000000 from rfl] at e1
  have e2 := v_fm hx (show (86400 : Int64).toInt = 86400 from rfl) (by omega)
  exact p_mul e2 e1 (by omega) (by omega)
theorem rd_s {x t : Int64} (h1 : -4000000000000000000 ≤ x.toInt) (t1 : 0 ≤ t.toInt) (t2 : t.toInt ≤ 86399999999999) : pre_X3_round 1000000000 ∧ f_X3_rest (t + f_X3_round x 1000000000) 86400000000000 = f_X0_roundDay (t + f_X0_restOfDay x 86400) ∧ 0 ≤ (f_X0_roundDay (t + f_X0_restOfDay x 86400)).toInt ∧ (f_X0_roundDay (t + f_X0_restOfDay x 86400)).toInt ≤ 86399999999999 := by
  obtain ⟨p, e1⟩ := m_ros (rfl : x.toInt = _) h1
  have e2 := v_ros (rfl : x.toInt = _)
  have a1 := p_add (rfl : t.toInt = _) e1 (by omega) (by omega)
  have a2 := p_add (rfl : t.toInt = _) e2 (by omega) (by omega)
  have r1 := m_rs a1 p_day (by omega) (by omega) (by omega)
  have r2 : (f_X0_roundDay (t + f_X0_restOfDay x 86400)).toInt = _ := v_fm a2 p_day (by omega)
  exact ⟨p, p_ext r1 r2, by rw [r2]; omega, by rw [r2]; omega⟩
theorem m_ron {x : Int64} {n : Int} (hx : x.toInt = n) (h1 : -4000000000000000000 ≤ n) : pre_X3_round 1 ∧ (f_X3_round x 1).toInt = n % 86400000000000 * 1 := by
  have e1 := p_divn p_day (show (1 : Int64).toInt = 1 from rfl) (by omega) (by omega)
  rw [show (86400000000000 : Int) / 1 = 86400000000000 from rfl] at e1
  have e2 := m_rs hx e1 (by omega) (by omega) (by omega)
  have e3 := p_mul e2 (show (1 : Int64).toInt = 1 from rfl) (by omega) (by omega)
  refine ⟨fun z => ?_, e3⟩
  rw [z] at e1
  exact absurd e1 (by decide)
theorem v_ron {x : Int64} {n : Int} (hx : x.toInt = n) : (f_X0_restOfDay x 86400000000000).toInt = n % 86400000000000 * 1 := by
  unfold f_X0_restOfDay
  rw [if_neg (by decide)]
  have e1 := p_divn p_day (show (86400000000000 : Int64).toInt = 86400000000000 from rfl) (by omega) (by omega)
  rw [show (86400000000000 : Int) / 86400000000000 = 1 from rfl] at e1
  have e2 := v_fm hx (show (86400000000000 : Int64).toInt = 86400000000000 from rfl) (by omega)
  exact p_mul e2 e1 (by omega) (by omega)
theorem rd_n {x t : Int64} (h1 : -4000000000000000000 ≤ x.toInt) (t1 : 0 ≤ t.toInt) (t2 : t.toInt ≤ 86399999999999) : pre_X3_round 1 ∧ f_X3_rest (t + f_X3_round x 1) 86400000000000 = f_X0_roundDay (t + f_X0_restOfDay x 86400000000000) ∧ 0 ≤ (f_X0_roundDay (t + f_X0_restOfDay x 86400000000000)).toInt ∧ (f_X0_roundDay (t + f_X0_restOfDay x 86400000000000)).toInt ≤ 86399999999999 := by
  obtain ⟨p, e1⟩ := m_ron (rfl : x.toInt = _) h1
  have e2 := v_ron (rfl : x.toInt = _)
  have a1 := p_add (rfl : t.toInt = _) e1 (by omega) (by omega)
  have a2 := p_add (rfl : t.toInt = _) e2 (by omega) (by omega)
  have r1 := m_rs a1 p_day (by omega) (by omega) (by omega)
  have r2 : (f_X0_roundDay (t + f_X0_restOfDay x 86400000000000)).toInt = _ := v_fm a2 p_day (by omega)
  exact ⟨p, p_ext r1 r2, by rw [r2]; omega, by rw [r2]; omega⟩
end ZPT
