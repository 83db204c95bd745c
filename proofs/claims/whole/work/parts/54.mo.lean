section ZPM2
theorem mth {x : Int64} (h1 : -200000000 ≤ x.toInt) (h2 : x.toInt ≤ 200000000) : f_X3_floor x 12 = f_X1_yearOfMonth x ∧ 1 + (f_X3_rest x 12).toInt32 = f_X1_monthInYear x ∧ f_X3_many (f_X1_yearOfMonth x) (f_X1_monthInYear x) = f_X1_lengthOfMonth x ∧ f_X1_monthInYear x ≤ 12 ∧ ((f_X2_isIn (f_X1_yearOfMonth x) (-9999) 9999 = 1 ∧ -119988 ≤ x.toInt ∧ x.toInt ≤ 119999) ∨ (f_X2_isIn (f_X1_yearOfMonth x) (-9999) 9999 = 0)) := by
  have f := m_fl (rfl : x.toInt = _) p_k12 (by omega) (by omega) (by omega)
  have r := p_add32 p_w1 (p_n (m_rs (rfl : x.toInt = _) p_k12 (by omega) (by omega) (by omega)) (by omega) (by omega)) (by omega) (by omega)
  have r2 : (1 + (f_X3_rest x 12).toInt32).toInt = x.toInt % 12 + 1 := by rw [r]; omega
  have y := v_yom (rfl : x.toInt = _)
  have m := v_miy (rfl : x.toInt = _)
  refine ⟨p_ext f y, p_ext32 r2 m, p_ext32 (m_many y m (by omega)) (v_lom rfl), (p_le32 m p_w12).mpr (by omega), ?_⟩
  rcases v_in y (show (-9999 : Int64).toInt = -9999 from rfl) (show (9999 : Int64).toInt = 9999 from rfl) with ⟨a, b, c⟩ | ⟨_, c⟩
  · exact Or.inl ⟨c, by omega, by omega⟩
  · exact Or.inr c
theorem J_mi {d : Nat → Int64} {sy sm sd mi : Nat → Int32} {ti sL bL mD mT : Nat → Int64} (I : iInv d sy sm sd mi ti sL bL mD mT) {x : Int64} (k : Nat) (h1 : -119988 ≤ x.toInt) (h2 : x.toInt ≤ 119999) : iInv d sy sm sd (upd mi k x.toInt32) ti sL bL mD mT ∧ vp_updL (zw mi) k x = zw (upd mi k x.toInt32) := by
  obtain ⟨i1, i2, i3, i4, i5, i6⟩ := I
  have ea := p_n (rfl : x.toInt = _) (by omega) (by omega)
  have fa := p_back (a := x) (by omega) (by omega)
  exact ⟨⟨i1, i2, i3, i4, iI_upd i5 (by omega) (by omega), i6⟩, by rw [zw_upd, fa]⟩
/-- a day of a month that is kept is kept -/
theorem v_kd {a x : Int64} {i q : Int} (hx : x.toInt = i) (ha : a.toInt = iFM i + q - 1) (h1 : -119988 ≤ i) (h2 : i ≤ 119999) (q1 : 1 ≤ q) (q2 : q ≤ iML (i / 12) (i % 12 + 1)) : f_X1_isDay a = 1 ∧ -4371587 ≤ a.toInt ∧ a.toInt ≤ 2932896 := by
  have R := (iM_y (iM_at q1 q2)).mp (by omega)
  obtain ⟨_, ⟨k2, k3, k4, k5⟩ | ⟨k4, k5⟩⟩ := v_day ha (by omega) (by omega)
  · exact ⟨k4, by omega, by omega⟩
  · exfalso
    have := m_kept ha (by omega) (by omega)
    rw [k5, if_pos R] at this
    exact absurd this (by decide)
theorem v_dayR {a : Int64} {n : Int} (ha : a.toInt = n) (h1 : -4371587 ≤ n) (h2 : n ≤ 2932896) : pre_X3_isKept a ∧ f_X1_isDay a = 1 ∧ f_X3_isKept a = 1 := by
  obtain ⟨k1, ⟨_, _, k4, k5⟩ | ⟨k4, k5⟩⟩ := v_day ha (by omega) (by omega)
  · exact ⟨k1, k4, k5⟩
  · exfalso
    have := m_kept ha (by omega) (by omega)
    rw [k5, if_pos ⟨h1, h2⟩] at this
    exact absurd this (by decide)
theorem yR {y : Int} (q : Int) (h1 : -9999 ≤ y) (h2 : y ≤ 9999) (q1 : 1 ≤ q) (q2 : q ≤ 365 + iL y) : -4371587 ≤ iFY y + q - 1 ∧ iFY y + q - 1 ≤ 2932896 := by
  have a := iFY_le h1
  have b : iFY (y + 1) ≤ iFY 10000 := iFY_le (by omega)
  have l := iFY_lo
  have r := iFY_hi
  have s := iFY_succ y
  omega
theorem p_365 : (365 : Int32).toInt64 = 365 := rfl
theorem p_366 : (366 : Int32).toInt64 = 366 := rfl
theorem v_u2 (a : Int32) : ((a = 100 ∨ a = 119 ∨ a = 109 ∨ a = 121) ∧ f_X1_isUnit a = 1) ∨ (f_X1_isUnit a = 0 ∧ ¬ a = 100 ∧ ¬ a = 119 ∧ ¬ a = 109 ∧ ¬ a = 121) := by
  rcases v_u a with h | h
  · exact Or.inl h
  · refine Or.inr ⟨h, ?_, ?_, ?_, ?_⟩ <;> (intro e; subst e; exact absurd h (by decide))
end ZPM2
