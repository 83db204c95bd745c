section ZPF
theorem m_in_eq (a b c : Int64) : f_X3_in a b c = f_X2_isIn a b c := rfl
theorem m_unit_eq (a : Int32) : f_X3_isUnit a = f_X1_isUnit a := rfl
theorem v_in {a b c : Int64} {x y z : Int} (ha : a.toInt = x) (hb : b.toInt = y) (hc : c.toInt = z) : (y ≤ x ∧ x ≤ z ∧ f_X2_isIn a b c = 1) ∨ (¬ (y ≤ x ∧ x ≤ z) ∧ f_X2_isIn a b c = 0) := by
  unfold f_X2_isIn
  have c1 := p_lt ha hb
  have c2 := p_lt hc ha
  by_cases h1 : x < y
  · exact Or.inr ⟨by omega, if_pos (c1.mpr h1)⟩
  · rw [if_neg (fun t => h1 (c1.mp t))]
    by_cases h2 : z < x
    · exact Or.inr ⟨by omega, if_pos (c2.mpr h2)⟩
    · exact Or.inl ⟨by omega, by omega, if_neg (fun t => h2 (c2.mp t))⟩
theorem v_in32 {a : Int32} {b c : Int64} {x y z : Int} (ha : a.toInt = x) (hb : b.toInt = y) (hc : c.toInt = z) : (y ≤ x ∧ x ≤ z ∧ f_X2_isIn a.toInt64 b c = 1) ∨ (¬ (y ≤ x ∧ x ≤ z) ∧ f_X2_isIn a.toInt64 b c = 0) := v_in (p_w ha) hb hc
theorem v_s6 (a : Int32) : (vp_in a 6 ∧ 0 ≤ a.toInt ∧ a.toInt < 6 ∧ k_X2_checkSlot a 6 = 0 ∧ f_X3_isDate a = 1) ∨ (k_X2_checkSlot a 6 = 1 ∧ f_X3_isDate a = 0) := by
  unfold k_X2_checkSlot f_X3_isDate
  rw [m_in_eq]
  have c1 := p_lt32 (rfl : a.toInt = a.toInt) p_w0
  have c2 := p_lt32 (rfl : a.toInt = a.toInt) (show (6 : Int32).toInt = 6 from rfl)
  rcases v_in32 (a := a) (b := 0) (c := 5) rfl p_k0 (show (5 : Int64).toInt = 5 from rfl) with ⟨h1, h2, h3⟩ | ⟨h1, h3⟩
  · left
    rw [h3, if_neg (fun t => by have := c1.mp t; omega), if_pos (c2.mpr (by omega))]
    exact ⟨vp_of (by omega) (by omega), h1, by omega, rfl, rfl⟩
  · right
    rw [h3]
    refine ⟨?_, rfl⟩
    by_cases g : a.toInt < 0
    · rw [if_pos (c1.mpr g)]
    · rw [if_neg (fun t => g (c1.mp t)), if_neg (fun t => by have := c2.mp t; omega)]
theorem v_s4 (a : Int32) : (vp_in a 4 ∧ 0 ≤ a.toInt ∧ a.toInt < 4 ∧ k_X2_checkSlot a 4 = 0 ∧ f_X3_isSlot a = 1) ∨ (k_X2_checkSlot a 4 = 1 ∧ f_X3_isSlot a = 0) := by
  unfold k_X2_checkSlot f_X3_isSlot
  rw [m_in_eq]
  have c1 := p_lt32 (rfl : a.toInt = a.toInt) p_w0
  have c2 := p_lt32 (rfl : a.toInt = a.toInt) (show (4 : Int32).toInt = 4 from rfl)
  rcases v_in32 (a := a) (b := 0) (c := 3) rfl p_k0 (show (3 : Int64).toInt = 3 from rfl) with ⟨h1, h2, h3⟩ | ⟨h1, h3⟩
  · left
    rw [h3, if_neg (fun t => by have := c1.mp t; omega), if_pos (c2.mpr (by omega))]
    exact ⟨vp_of (by omega) (by omega), h1, by omega, rfl, rfl⟩
  · right
    rw [h3]
    refine ⟨?_, rfl⟩
    by_cases g : a.toInt < 0
    · rw [if_pos (c1.mpr g)]
    · rw [if_neg (fun t => g (c1.mp t)), if_neg (fun t => by have := c2.mp t; omega)]
theorem v_u (a : Int32) : ((a = 100 ∨ a = 119 ∨ a = 109 ∨ a = 121) ∧ f_X1_isUnit a = 1) ∨ (f_X1_isUnit a = 0) := by
  unfold f_X1_isUnit
  by_cases h1 : a = 100
  · exact Or.inl ⟨Or.inl h1, if_pos h1⟩
  rw [if_neg h1]
  by_cases h2 : a = 119
  · exact Or.inl ⟨Or.inr (Or.inl h2), if_pos h2⟩
  rw [if_neg h2]
  by_cases h3 : a = 109
  · exact Or.inl ⟨Or.inr (Or.inr (Or.inl h3)), if_pos h3⟩
  rw [if_neg h3]
  by_cases h4 : a = 121
  · exact Or.inl ⟨Or.inr (Or.inr (Or.inr h4)), if_pos h4⟩
  exact Or.inr (if_neg h4)
theorem v_day {a : Int64} {n : Int} (ha : a.toInt = n) (h1 : -10000000000 ≤ n) (h2 : n ≤ 10000000000) : pre_X3_isKept a ∧ ((-4371587 ≤ n ∧ n ≤ 2932896 ∧ f_X1_isDay a = 1 ∧ f_X3_isKept a = 1) ∨ (f_X1_isDay a = 0 ∧ f_X3_isKept a = 0)) := by
  refine ⟨m_pK ha h1 h2, ?_⟩
  rw [m_kept ha h1 h2]
  rcases v_in ha (show (-4371587 : Int64).toInt = -4371587 from rfl) (show (2932896 : Int64).toInt = 2932896 from rfl) with ⟨g1, g2, g3⟩ | ⟨g1, g3⟩
  · left
    exact ⟨g1, g2, g3, if_pos ⟨g1, g2⟩⟩
  · right
    exact ⟨g3, if_neg g1⟩
theorem v_sgn (a b : Int64) : f_X3_ordered a b = f_X2_sign a b := by
  unfold f_X3_ordered f_X2_sign
  have c1 := p_le (rfl : b.toInt = b.toInt) (rfl : a.toInt = a.toInt)
  have c2 := p_le (rfl : a.toInt = a.toInt) (rfl : b.toInt = b.toInt)
  have c3 := p_eq (rfl : a.toInt = a.toInt) (rfl : b.toInt = b.toInt)
  by_cases h : b.toInt ≤ a.toInt
  · rw [if_pos (c1.mpr h), if_pos (c1.mpr h)]
    by_cases g : a.toInt = b.toInt
    · rw [if_pos (c2.mpr (by omega)), if_pos (c3.mpr g)]
    · rw [if_neg (fun t => g (by have := c2.mp t; omega)), if_neg (fun t => g (c3.mp t))]
  · rw [if_neg (fun t => h (c1.mp t)), if_neg (fun t => h (c1.mp t))]
end ZPF
