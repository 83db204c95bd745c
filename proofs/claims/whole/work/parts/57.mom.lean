section ZPV
theorem v_dm (x : Int64) : (f_X1_isDay x = 1 ∧ (∀ p, f_X3_comes_j1 x p = 0) ∧ -4371587 ≤ x.toInt ∧ x.toInt ≤ 2932896) ∨ (f_X1_isDay x = 0 ∧ ∀ p, f_X3_comes_j1 x p = p) := by
  have b1 := m_first (show (-9999 : Int64).toInt = -9999 from rfl) (by omega) (by omega)
  have b2 := m_first (show (10000 : Int64).toInt = 10000 from rfl) (by omega) (by omega)
  rw [iFY_lo] at b1
  rw [iFY_hi] at b2
  have b3 := p_sub b2 p_k1 (by omega) (by omega)
  have e1 : f_X3_first (-9999) = -4371587 := p_ext b1 rfl
  have e2 : f_X3_first 10000 - 1 = 2932896 := p_ext b3 rfl
  have w : f_X1_isDay x = f_X2_isIn x (-4371587) 2932896 := rfl
  unfold f_X3_comes_j1
  rw [e1, e2, w]
  rcases v_in (rfl : x.toInt = _) (show (-4371587 : Int64).toInt = -4371587 from rfl) (show (2932896 : Int64).toInt = 2932896 from rfl) with ⟨r1, r2, r3⟩ | ⟨r9, r3⟩
  · exact Or.inl ⟨r3, fun p => by simp +decide only [m_in_eq, r3, reduceIte], r1, r2⟩
  · exact Or.inr ⟨r3, fun p => by simp +decide only [m_in_eq, r3, reduceIte]⟩
theorem t_in {t : Int64} (h1 : 0 ≤ t.toInt) (h2 : t.toInt ≤ 86399999999999) (a : Int64) : a + f_J9_floorDiv_f86c9 t 86400000000000 = a ∧ f_X0_roundDay t = t := by
  have e1 := v_fd (rfl : t.toInt = _) p_day (by omega)
  have e2 : (f_X0_roundDay t).toInt = _ := v_fm (rfl : t.toInt = _) p_day (by omega)
  have l1 := p_lo a
  have l2 := p_hi a
  have e3 := p_add (rfl : a.toInt = _) e1 (by omega) (by omega)
  exact ⟨p_of (e3.trans (by omega)), p_of (e2.trans (by omega))⟩
theorem J_mo {d : Nat → Int64} {sy sm sd mi : Nat → Int32} {ti sL bL mD mT : Nat → Int64} (I : iInv d sy sm sd mi ti sL bL mD mT) {x y : Int64} (k : Nat) (h1 : -4371587 ≤ x.toInt) (h2 : x.toInt ≤ 2932896) (h3 : 0 ≤ y.toInt) (h4 : y.toInt ≤ 86399999999999) : iInv d sy sm sd mi ti sL bL (vp_updL mD k x) (vp_updL mT k y) := ⟨I.1, I.2.1, I.2.2.1, I.2.2.2.1, I.2.2.2.2.1, I.2.2.2.2.2.1, I.2.2.2.2.2.2.1, iN_upd I.2.2.2.2.2.2.2 h1 h2 h3 h4⟩
theorem tm_rd (y : Int64) : 0 ≤ (f_X0_roundDay y).toInt ∧ (f_X0_roundDay y).toInt ≤ 86399999999999 := by
  have e2 : (f_X0_roundDay y).toInt = _ := v_fm (rfl : y.toInt = _) p_day (by omega)
  rw [e2]; omega
theorem kl2 {a b : Int64} (a1 : -900000000000 ≤ a.toInt) (a2 : a.toInt ≤ 900000000000) (h1 : -90000000000000 ≤ b.toInt) (h2 : b.toInt ≤ 90000000000000) : f_X2_keepLength_j1 a b = 1 := by
  have kB : (1000000000 : Int64).toInt = 1000000000 := rfl
  have kL : (-1000000000000 : Int64).toInt = -1000000000000 := rfl
  have kH : (1000000000000 : Int64).toInt = 1000000000000 := rfl
  have A := p_add (rfl : a.toInt = _) (v_fd (rfl : b.toInt = _) kB (by omega)) (by omega) (by omega)
  unfold f_X2_keepLength_j1
  rcases v_in A kL kH with ⟨i1, i2, i3⟩ | ⟨i1, i3⟩
  · rw [i3, if_neg (by decide), if_pos ((p_lt A kH).mpr (by omega))]
  · exfalso; omega
end ZPV
