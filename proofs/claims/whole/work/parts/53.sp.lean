section ZPJ
theorem p_back {a : Int64} (h1 : -2147483648 ≤ a.toInt) (h2 : a.toInt < 2147483648) : a.toInt32.toInt64 = a := p_ext (p_w (p_n rfl h1 h2)) rfl
theorem zw_at (f : Nat → Int32) (k : Nat) : zw f k = (f k).toInt64 := rfl
/-- the three numbers of a span, kept or not -/
theorem v_sp (a b c : Int64) : (f_X2_isSpan a b c = 1 ∧ (∀ p, f_X3_spanned_j1 a b c p = 0) ∧ (-1000000 ≤ a.toInt ∧ a.toInt ≤ 1000000) ∧ (-1000000 ≤ b.toInt ∧ b.toInt ≤ 1000000) ∧ (-1000000 ≤ c.toInt ∧ c.toInt ≤ 1000000)) ∨ (f_X2_isSpan a b c = 0 ∧ ∀ p, f_X3_spanned_j1 a b c p = p) := by
  have l : (-1000000 : Int64).toInt = -1000000 := rfl
  have r : (1000000 : Int64).toInt = 1000000 := rfl
  rcases v_in (rfl : a.toInt = _) l r with ⟨a1, a2, a3⟩ | ⟨_, a3⟩
  · rcases v_in (rfl : b.toInt = _) l r with ⟨b1, b2, b3⟩ | ⟨_, b3⟩
    · rcases v_in (rfl : c.toInt = _) l r with ⟨c1, c2, c3⟩ | ⟨_, c3⟩
      · exact Or.inl ⟨by simp +decide only [f_X2_isSpan, a3, b3, c3, reduceIte], fun p => by simp +decide only [f_X3_spanned_j1, m_in_eq, a3, b3, c3, reduceIte], ⟨a1, a2⟩, ⟨b1, b2⟩, ⟨c1, c2⟩⟩
      · exact Or.inr ⟨by simp +decide only [f_X2_isSpan, a3, b3, c3, reduceIte], fun p => by simp +decide only [f_X3_spanned_j1, m_in_eq, a3, b3, c3, reduceIte]⟩
    · exact Or.inr ⟨by simp +decide only [f_X2_isSpan, a3, b3, reduceIte], fun p => by simp +decide only [f_X3_spanned_j1, m_in_eq, a3, b3, reduceIte]⟩
  · exact Or.inr ⟨by simp +decide only [f_X2_isSpan, a3, reduceIte], fun p => by simp +decide only [f_X3_spanned_j1, m_in_eq, a3, reduceIte]⟩
theorem J_sp {d : Nat → Int64} {sy sm sd mi : Nat → Int32} {ti sL bL mD mT : Nat → Int64} (I : iInv d sy sm sd mi ti sL bL mD mT) {a b c : Int64} (k : Nat) (h1 : -1000000 ≤ a.toInt ∧ a.toInt ≤ 1000000) (h2 : -1000000 ≤ b.toInt ∧ b.toInt ≤ 1000000) (h3 : -1000000 ≤ c.toInt ∧ c.toInt ≤ 1000000) : iInv d (upd sy k a.toInt32) (upd sm k b.toInt32) (upd sd k c.toInt32) mi ti sL bL mD mT ∧ vp_updL (zw sy) k a = zw (upd sy k a.toInt32) ∧ vp_updL (zw sm) k b = zw (upd sm k b.toInt32) ∧ vp_updL (zw sd) k c = zw (upd sd k c.toInt32) ∧ a.toInt32.toInt64 = a ∧ b.toInt32.toInt64 = b := by
  obtain ⟨i1, i2, i3, i4, i5⟩ := I
  have ea := p_n (rfl : a.toInt = _) (by omega) (by omega)
  have eb := p_n (rfl : b.toInt = _) (by omega) (by omega)
  have ec := p_n (rfl : c.toInt = _) (by omega) (by omega)
  have fa := p_back (a := a) (by omega) (by omega)
  have fb := p_back (a := b) (by omega) (by omega)
  have fc := p_back (a := c) (by omega) (by omega)
  refine ⟨⟨i1, iS_upd i2 (by omega) (by omega), iS_upd i3 (by omega) (by omega), iS_upd i4 (by omega) (by omega), i5⟩, ?_, ?_, ?_, fa, fb⟩
  · rw [zw_upd, fa]
  · rw [zw_upd, fb]
  · rw [zw_upd, fc]
end ZPJ
section ZPJ2
theorem p_bk (a : Int32) : a.toInt64.toInt32 = a := p_ext32 (p_n (p_w (rfl : a.toInt = _)) (p_lo32 a) (p_hi32 a)) rfl
theorem m_t32 (a b : Int32) (h1 : -100 ≤ a.toInt) (h2 : a.toInt ≤ 100) (g1 : -1000000 ≤ b.toInt) (g2 : b.toInt ≤ 1000000) : a.toInt64 * b.toInt64 = (a * b).toInt64 := by
  have l1 : a.toInt * b.toInt ≤ 100000000 := by
    have := Int.mul_le_mul_of_natAbs_le (x := a.toInt) (y := b.toInt) (s := 100) (t := 1000000) (by omega) (by omega)
    omega
  have l2 : -100000000 ≤ a.toInt * b.toInt := by
    have := Int.mul_le_mul_of_natAbs_le (x := -a.toInt) (y := b.toInt) (s := 100) (t := 1000000) (by omega) (by omega)
    rw [Int.neg_mul] at this
    omega
  exact p_ext (p_mul (p_w rfl) (p_w rfl) (by omega) (by omega)) (p_w (p_mul32 rfl rfl (by omega) (by omega)))
end ZPJ2
