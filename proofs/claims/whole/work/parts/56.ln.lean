section ZPU
theorem sgn0 (a b : Int64) : f_X2_sign a b = 0 ↔ a = b := by
  unfold f_X2_sign
  have c1 := p_le (rfl : b.toInt = b.toInt) (rfl : a.toInt = a.toInt)
  have c3 := p_eq (rfl : a.toInt = a.toInt) (rfl : b.toInt = b.toInt)
  by_cases h : b.toInt ≤ a.toInt
  · rw [if_pos (c1.mpr h)]
    by_cases g : a = b
    · rw [if_pos g]; exact ⟨fun _ => g, fun _ => rfl⟩
    · rw [if_neg g]; exact ⟨fun z => absurd z (by decide), fun z => absurd z g⟩
  · rw [if_neg (fun t => h (c1.mp t))]
    exact ⟨fun z => absurd z (by decide), fun z => absurd (c3.mp z) (by omega)⟩
theorem v_kl {a b : Int64} (h1 : -4000000000000000000 ≤ a.toInt) (h2 : a.toInt ≤ 4000000000000000000) (g1 : -4000000000000000000 ≤ b.toInt) (g2 : b.toInt ≤ 4000000000000000000) : f_X3_floor b 1000000000 = f_J9_floorDiv_f86c9 b 1000000000 ∧ f_X3_rest b 1000000000 = f_J9_floorMod_f86c9 b 1000000000 ∧ ((f_X2_keepLength_j1 a b = 1 ∧ (∀ p, f_X3_lasts_j1 a b p = 0) ∧ (-1000000000000 ≤ (a + f_J9_floorDiv_f86c9 b 1000000000).toInt ∧ (a + f_J9_floorDiv_f86c9 b 1000000000).toInt ≤ 1000000000000) ∧ (0 ≤ (f_J9_floorMod_f86c9 b 1000000000).toInt ∧ (f_J9_floorMod_f86c9 b 1000000000).toInt ≤ 999999999) ∧ ((a + f_J9_floorDiv_f86c9 b 1000000000).toInt = 1000000000000 → (f_J9_floorMod_f86c9 b 1000000000).toInt = 0)) ∨ (f_X2_keepLength_j1 a b = 0 ∧ ∀ p, f_X3_lasts_j1 a b p = p)) := by
  have kB : (1000000000 : Int64).toInt = 1000000000 := rfl
  have kL : (-1000000000000 : Int64).toInt = -1000000000000 := rfl
  have kH : (1000000000000 : Int64).toInt = 1000000000000 := rfl
  have f1 := v_fd (rfl : b.toInt = _) kB (by omega)
  have f2 := v_fm (rfl : b.toInt = _) kB (by omega)
  have e1 := p_ext (m_fl (rfl : b.toInt = _) kB (by omega) (by omega) (by omega)) f1
  have e2 := p_ext (m_rs (rfl : b.toInt = _) kB (by omega) (by omega) (by omega)) f2
  have A := p_add (rfl : a.toInt = _) f1 (by omega) (by omega)
  refine ⟨e1, e2, ?_⟩
  unfold f_X2_keepLength_j1 f_X3_lasts_j1
  rw [e1, e2]
  have r : 0 ≤ (f_J9_floorMod_f86c9 b 1000000000).toInt ∧ (f_J9_floorMod_f86c9 b 1000000000).toInt ≤ 999999999 := by rw [f2]; omega
  clear A f1 f2 e1 e2
  generalize a + f_J9_floorDiv_f86c9 b 1000000000 = s
  generalize f_J9_floorMod_f86c9 b 1000000000 = t at r ⊢
  have c1 := p_lt (rfl : s.toInt = _) kL
  have c2 := p_lt kH (rfl : s.toInt = _)
  have c3 := p_lt (rfl : s.toInt = _) kH
  have c4 := p_eq (rfl : s.toInt = _) kH
  have c5 := p_eq (rfl : t.toInt = _) p_k0
  have c6 := p_le (rfl : t.toInt = _) p_k0
  rcases v_in (rfl : s.toInt = _) kL kH with ⟨i1, i2, i3⟩ | ⟨i1, i3⟩
  · have n1 : ¬ s < -1000000000000 := fun z => by have := c1.mp z; omega
    have n2 : ¬ 1000000000000 < s := fun z => by have := c2.mp z; omega
    by_cases h3 : s.toInt < 1000000000000
    · have n3 := c3.mpr h3
      have n4 : ¬ s = 1000000000000 := fun z => by have := c4.mp z; omega
      left
      refine ⟨?_, fun p => ?_, ⟨i1, i2⟩, r, fun z => by omega⟩
      · rw [i3, if_neg (by decide), if_pos n3]
      · rw [if_neg n1, if_neg n2, if_neg n4]
    · have n3 : ¬ s < 1000000000000 := fun z => h3 (c3.mp z)
      have n4 : s = 1000000000000 := c4.mpr (by omega)
      by_cases h5 : t.toInt = 0
      · left
        refine ⟨?_, fun p => ?_, ⟨i1, i2⟩, r, fun z => h5⟩
        · rw [i3, if_neg (by decide), if_neg n3, if_pos (c5.mpr h5)]
        · rw [if_neg n1, if_neg n2, if_pos n4, if_pos (c6.mpr (by omega))]
      · right
        refine ⟨?_, fun p => ?_⟩
        · rw [i3, if_neg (by decide), if_neg n3, if_neg (fun z => h5 (c5.mp z))]
        · rw [if_neg n1, if_neg n2, if_pos n4, if_neg (fun z => by have := c6.mp z; omega)]
  · right
    refine ⟨?_, fun p => ?_⟩
    · rw [i3, if_pos rfl]
    · by_cases h1 : s.toInt < -1000000000000
      · rw [if_pos (c1.mpr h1)]
      · rw [if_neg (fun z => h1 (c1.mp z)), if_pos (c2.mpr (by omega))]
theorem J_ln {d : Nat → Int64} {sy sm sd mi : Nat → Int32} {ti sL bL mD mT : Nat → Int64} (I : iInv d sy sm sd mi ti sL bL mD mT) {x y : Int64} (k : Nat) (h : (-1000000000000 ≤ x.toInt ∧ x.toInt ≤ 1000000000000) ∧ (0 ≤ y.toInt ∧ y.toInt ≤ 999999999) ∧ (x.toInt = 1000000000000 → y.toInt = 0)) : iInv d sy sm sd mi ti (vp_updL sL k x) (vp_updL bL k y) mD mT := ⟨I.1, I.2.1, I.2.2.1, I.2.2.2.1, I.2.2.2.2.1, I.2.2.2.2.2.1, iG_upd I.2.2.2.2.2.2.1 h.1.1 h.1.2 h.2.1.1 h.2.1.2 h.2.2, I.2.2.2.2.2.2.2⟩
theorem m_t64 (a : Int32) (b : Int64) (h1 : -1000 ≤ a.toInt) (h2 : a.toInt ≤ 1000) (g1 : -1000000000000 ≤ b.toInt) (g2 : b.toInt ≤ 1000000000000) : -1000000000000000 ≤ (a.toInt64 * b).toInt ∧ (a.toInt64 * b).toInt ≤ 1000000000000000 := by
  have l1 : a.toInt * b.toInt ≤ 1000000000000000 := by
    have := Int.mul_le_mul_of_natAbs_le (x := a.toInt) (y := b.toInt) (s := 1000) (t := 1000000000000) (by omega) (by omega)
    omega
  have l2 : -1000000000000000 ≤ a.toInt * b.toInt := by
    have := Int.mul_le_mul_of_natAbs_le (x := -a.toInt) (y := b.toInt) (s := 1000) (t := 1000000000000) (by omega) (by omega)
    rw [Int.neg_mul] at this
    omega
  rw [p_mul (p_w (rfl : a.toInt = _)) (rfl : b.toInt = _) (by omega) (by omega)]
  exact ⟨l2, l1⟩
theorem kl1 {b : Int64} (h1 : -90000000000000 ≤ b.toInt) (h2 : b.toInt ≤ 90000000000000) : f_X2_keepLength_j1 0 b = 1 := by
  have kB : (1000000000 : Int64).toInt = 1000000000 := rfl
  have kL : (-1000000000000 : Int64).toInt = -1000000000000 := rfl
  have kH : (1000000000000 : Int64).toInt = 1000000000000 := rfl
  have A := p_add p_k0 (v_fd (rfl : b.toInt = _) kB (by omega)) (by omega) (by omega)
  unfold f_X2_keepLength_j1
  rcases v_in A kL kH with ⟨i1, i2, i3⟩ | ⟨i1, i3⟩
  · rw [i3, if_neg (by decide), if_pos ((p_lt A kH).mpr (by omega))]
  · exfalso; omega
end ZPU
