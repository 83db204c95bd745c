section ZPP
theorem m_fin {yr : Int64} {n t Y : Int} (u0 : yr.toInt = Y) (ht : t = n - iFY Y) (u3 : -100000001 ≤ Y) (u4 : Y ≤ 100000001) : ∀ (w : Int64) (k : Int32) (K : Int), w.toInt = t - iC Y K → k.toInt = K → 1 ≤ K → K ≤ 12 → iC Y K ≤ t → t < iC Y K + iML Y K → ∃ i : Int, iM n i ∧ yr.toInt = i / 12 ∧ k.toInt = i % 12 + 1 ∧ (w.toInt32 + 1).toInt = n - iFM i + 1 ∧ -2000000000 < i ∧ i < 2000000000 := by
  intro w k K hw hk K1 K2 g1 g2
  have lm := iML_r Y K
  have e1 := p_n hw (by omega) (by omega)
  have e2 := p_add32 e1 (show (1 : Int32).toInt = 1 from rfl) (by omega) (by omega)
  refine ⟨12 * Y + K - 1, iM_ym K1 K2 (by omega) (by omega), by omega, by omega, ?_, by omega, by omega⟩
  rw [iFM_ym K1 K2, e2]
  omega
set_option maxHeartbeats 40000000 in
theorem m_parts {a : Int64} {n : Int} (ha : a.toInt = n) (h1 : -10000000000 ≤ n) (h2 : n ≤ 10000000000) : pre_X3_parts a ∧ ∃ i : Int, iM n i ∧ (s_X3_parts_yr a).toInt = i / 12 ∧ (s_X3_parts_mo a).toInt = i % 12 + 1 ∧ (s_X3_parts_dy a).toInt = n - iFM i + 1 ∧ -2000000000 < i ∧ i < 2000000000 := by
  have e2 := p_mul ha (show (400 : Int64).toInt = 400 from rfl) (by omega) (by omega)
  have e3 := m_fl e2 (show (146097 : Int64).toInt = 146097 from rfl) (by omega) (by omega) (by omega)
  have e4 := p_add (show (1970 : Int64).toInt = 1970 from rfl) e3 (by omega) (by omega)
  obtain ⟨E, hE⟩ : ∃ E : Int, E = 1970 + n * 400 / 146097 := ⟨_, rfl⟩
  rw [← hE] at e4
  have gu := iFY_guess2 hE
  have b1 : -99999990 ≤ E := by omega
  have b2 : E ≤ 99999990 := by omega
  have y0 := m_first e4 (by omega) (by omega)
  have im := p_sub e4 (show (1 : Int64).toInt = 1 from rfl) (by omega) (by omega)
  have ym := m_first im (by omega) (by omega)
  have c0 := p_le y0 ha
  have hj1 : ∃ J : Int, (f_X3_parts_j1 a).toInt = J ∧ iFY J ≤ n ∧ n < iFY (J + 2) ∧ -100000000 ≤ J ∧ J ≤ 100000000 := by
    unfold f_X3_parts_j1
    by_cases k : iFY E ≤ n
    · rw [if_pos (c0.mpr k)]; exact ⟨E, e4, k, gu.2, by omega, by omega⟩
    · rw [if_neg (fun z => k (c0.mp z))]
      have m1 := iFY_le (show E ≤ E - 1 + 2 by omega)
      exact ⟨E - 1, im, gu.1, by omega, by omega, by omega⟩
  obtain ⟨J, j0, j1, j2, j3, j4⟩ := hj1
  have ip := p_add j0 (show (1 : Int64).toInt = 1 from rfl) (by omega) (by omega)
  have yp := m_first ip (by omega) (by omega)
  have ip2 := p_add ip (show (1 : Int64).toInt = 1 from rfl) (by omega) (by omega)
  have yp2 := m_first ip2 (by omega) (by omega)
  have c1 := p_lt ha yp
  have hj2 : ∃ Y : Int, (f_X3_parts_j2 a).toInt = Y ∧ iFY Y ≤ n ∧ n < iFY (Y + 1) ∧ -100000001 ≤ Y ∧ Y ≤ 100000001 := by
    unfold f_X3_parts_j2
    by_cases k : n < iFY (J + 1)
    · rw [if_pos (c1.mpr k)]; exact ⟨J, j0, j1, k, by omega, by omega⟩
    · rw [if_neg (fun z => k (c1.mp z))]
      exact ⟨J + 1, ip, by omega, by rw [show J + 1 + 1 = J + 2 by omega]; exact j2, by omega, by omega⟩
  obtain ⟨Y, u0, u1, u2, u3, u4⟩ := hj2
  have fy := m_first u0 (by omega) (by omega)
  have yr := iFY_r (y := Y) (B := 100000001) (by omega) (by omega) (by omega)
  have l := iL_01 Y
  rw [iFY_succ] at u2
  obtain ⟨t, ht⟩ : ∃ t : Int, t = n - iFY Y := ⟨_, rfl⟩
  have c1' := iC_1 Y
  have t1 : (a - (f_X3_first (f_X3_parts_j2 a))).toInt = t - iC Y 1 := (p_sub ha fy (by omega) (by omega)).trans (by omega)
  have st : ∀ (w : Int64) (k : Int32) (K : Int), w.toInt = t - iC Y K → k.toInt = K → 1 ≤ K → K ≤ 11 → (w - ((f_X3_many (f_X3_parts_j2 a) k)).toInt64).toInt = t - iC Y (K + 1) := by
    intro w k K hw hk K1 K2
    have c := iC_r (y := Y) K1 (by omega)
    have l := iML_r Y K
    rw [p_sub hw (p_w (m_many u0 hk (by omega))) (by omega) (by omega), iC_succ K1 K2]; omega
  have cs : ∀ (w : Int64) (k : Int32) (K : Int), w.toInt = t - iC Y K → k.toInt = K → 1 ≤ K → K ≤ 11 → (w < ((f_X3_many (f_X3_parts_j2 a) k)).toInt64 ↔ t < iC Y (K + 1)) := by
    intro w k K hw hk K1 K2
    rw [p_lt hw (p_w (m_many u0 hk (by omega))), iC_succ K1 K2]
    omega
  have t2 := st _ 1 1 t1 rfl (by omega) (by omega)
  have t3 := st _ 2 2 t2 rfl (by omega) (by omega)
  have t4 := st _ 3 3 t3 rfl (by omega) (by omega)
  have t5 := st _ 4 4 t4 rfl (by omega) (by omega)
  have t6 := st _ 5 5 t5 rfl (by omega) (by omega)
  have t7 := st _ 6 6 t6 rfl (by omega) (by omega)
  have t8 := st _ 7 7 t7 rfl (by omega) (by omega)
  have t9 := st _ 8 8 t8 rfl (by omega) (by omega)
  have t10 := st _ 9 9 t9 rfl (by omega) (by omega)
  have t11 := st _ 10 10 t10 rfl (by omega) (by omega)
  have t12 := st _ 11 11 t11 rfl (by omega) (by omega)
  have d1 := cs _ 1 1 t1 rfl (by omega) (by omega)
  have d2 := cs _ 2 2 t2 rfl (by omega) (by omega)
  have d3 := cs _ 3 3 t3 rfl (by omega) (by omega)
  have d4 := cs _ 4 4 t4 rfl (by omega) (by omega)
  have d5 := cs _ 5 5 t5 rfl (by omega) (by omega)
  have d6 := cs _ 6 6 t6 rfl (by omega) (by omega)
  have d7 := cs _ 7 7 t7 rfl (by omega) (by omega)
  have d8 := cs _ 8 8 t8 rfl (by omega) (by omega)
  have d9 := cs _ 9 9 t9 rfl (by omega) (by omega)
  have d10 := cs _ 10 10 t10 rfl (by omega) (by omega)
  have d11 := cs _ 11 11 t11 rfl (by omega) (by omega)
  have d12 := p_lt t12 (p_w (m_many u0 (show (12 : Int32).toInt = 12 from rfl) (by omega)))
  have c13 := iC_13 Y
  have r1 := iC_r (y := Y) (m := 1) (by omega) (by omega)
  have r2 := iC_r (y := Y) (m := 2) (by omega) (by omega)
  have r3 := iC_r (y := Y) (m := 3) (by omega) (by omega)
  have r4 := iC_r (y := Y) (m := 4) (by omega) (by omega)
  have r5 := iC_r (y := Y) (m := 5) (by omega) (by omega)
  have r6 := iC_r (y := Y) (m := 6) (by omega) (by omega)
  have r7 := iC_r (y := Y) (m := 7) (by omega) (by omega)
  have r8 := iC_r (y := Y) (m := 8) (by omega) (by omega)
  have r9 := iC_r (y := Y) (m := 9) (by omega) (by omega)
  have r10 := iC_r (y := Y) (m := 10) (by omega) (by omega)
  have r11 := iC_r (y := Y) (m := 11) (by omega) (by omega)
  have r12 := iC_r (y := Y) (m := 12) (by omega) (by omega)
  have s1 := iC_succ (y := Y) (m := 1) (by omega) (by omega)
  rw [show (1 : Int) + 1 = 2 from rfl] at s1 t2 d1
  have s2 := iC_succ (y := Y) (m := 2) (by omega) (by omega)
  rw [show (2 : Int) + 1 = 3 from rfl] at s2 t3 d2
  have s3 := iC_succ (y := Y) (m := 3) (by omega) (by omega)
  rw [show (3 : Int) + 1 = 4 from rfl] at s3 t4 d3
  have s4 := iC_succ (y := Y) (m := 4) (by omega) (by omega)
  rw [show (4 : Int) + 1 = 5 from rfl] at s4 t5 d4
  have s5 := iC_succ (y := Y) (m := 5) (by omega) (by omega)
  rw [show (5 : Int) + 1 = 6 from rfl] at s5 t6 d5
  have s6 := iC_succ (y := Y) (m := 6) (by omega) (by omega)
  rw [show (6 : Int) + 1 = 7 from rfl] at s6 t7 d6
  have s7 := iC_succ (y := Y) (m := 7) (by omega) (by omega)
  rw [show (7 : Int) + 1 = 8 from rfl] at s7 t8 d7
  have s8 := iC_succ (y := Y) (m := 8) (by omega) (by omega)
  rw [show (8 : Int) + 1 = 9 from rfl] at s8 t9 d8
  have s9 := iC_succ (y := Y) (m := 9) (by omega) (by omega)
  rw [show (9 : Int) + 1 = 10 from rfl] at s9 t10 d9
  have s10 := iC_succ (y := Y) (m := 10) (by omega) (by omega)
  rw [show (10 : Int) + 1 = 11 from rfl] at s10 t11 d10
  have s11 := iC_succ (y := Y) (m := 11) (by omega) (by omega)
  rw [show (11 : Int) + 1 = 12 from rfl] at s11 t12 d11 d12
  have fin := m_fin (yr := f_X3_parts_j2 a) u0 ht u3 u4
  have g0 : iC Y 1 ≤ t := by omega
  have g13 : t < iC Y 12 + iML Y 12 := by omega
  refine ⟨⟨fun h => ?_, fun h => ?_, fun h1 h2 h3 h4 h5 h6 h7 h8 h9 h10 h11 => ?_⟩, ?_⟩
  · exact (p_le ym ha).mpr gu.1
  · refine (p_lt ha yp2).mpr ?_
    rw [show J + 1 + 1 = J + 2 by omega]; exact j2
  · exact d12.mpr (by omega)
  · unfold s_X3_parts_yr s_X3_parts_mo s_X3_parts_dy f_X3_parts_j3a f_X3_parts_j3b
    simp only [d1, d2, d3, d4, d5, d6, d7, d8, d9, d10, d11]
    by_cases k1 : t < iC Y 2
    · simp only [k1, if_true, if_false]
      exact fin _ 1 1 t1 rfl (by decide) (by decide) g0 (by rw [← s1]; exact k1)
    by_cases k2 : t < iC Y 3
    · simp only [k1, k2, if_true, if_false]
      exact fin _ 2 2 t2 rfl (by decide) (by decide) (Int.not_lt.mp k1) (by rw [← s2]; exact k2)
    by_cases k3 : t < iC Y 4
    · simp only [k1, k2, k3, if_true, if_false]
      exact fin _ 3 3 t3 rfl (by decide) (by decide) (Int.not_lt.mp k2) (by rw [← s3]; exact k3)
    by_cases k4 : t < iC Y 5
    · simp only [k1, k2, k3, k4, if_true, if_false]
      exact fin _ 4 4 t4 rfl (by decide) (by decide) (Int.not_lt.mp k3) (by rw [← s4]; exact k4)
    by_cases k5 : t < iC Y 6
    · simp only [k1, k2, k3, k4, k5, if_true, if_false]
      exact fin _ 5 5 t5 rfl (by decide) (by decide) (Int.not_lt.mp k4) (by rw [← s5]; exact k5)
    by_cases k6 : t < iC Y 7
    · simp only [k1, k2, k3, k4, k5, k6, if_true, if_false]
      exact fin _ 6 6 t6 rfl (by decide) (by decide) (Int.not_lt.mp k5) (by rw [← s6]; exact k6)
    by_cases k7 : t < iC Y 8
    · simp only [k1, k2, k3, k4, k5, k6, k7, if_true, if_false]
      exact fin _ 7 7 t7 rfl (by decide) (by decide) (Int.not_lt.mp k6) (by rw [← s7]; exact k7)
    by_cases k8 : t < iC Y 9
    · simp only [k1, k2, k3, k4, k5, k6, k7, k8, if_true, if_false]
      exact fin _ 8 8 t8 rfl (by decide) (by decide) (Int.not_lt.mp k7) (by rw [← s8]; exact k8)
    by_cases k9 : t < iC Y 10
    · simp only [k1, k2, k3, k4, k5, k6, k7, k8, k9, if_true, if_false]
      exact fin _ 9 9 t9 rfl (by decide) (by decide) (Int.not_lt.mp k8) (by rw [← s9]; exact k9)
    by_cases k10 : t < iC Y 11
    · simp only [k1, k2, k3, k4, k5, k6, k7, k8, k9, k10, if_true, if_false]
      exact fin _ 10 10 t10 rfl (by decide) (by decide) (Int.not_lt.mp k9) (by rw [← s10]; exact k10)
    by_cases k11 : t < iC Y 12
    · simp only [k1, k2, k3, k4, k5, k6, k7, k8, k9, k10, k11, if_true, if_false]
      exact fin _ 11 11 t11 rfl (by decide) (by decide) (Int.not_lt.mp k10) (by rw [← s11]; exact k11)
    simp only [k1, k2, k3, k4, k5, k6, k7, k8, k9, k10, k11, if_false]
    exact fin _ 12 12 t12 rfl (by decide) (by decide) (Int.not_lt.mp k11) g13
end ZPP
