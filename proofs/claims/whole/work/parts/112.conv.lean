section ZPC
theorem p_qb {a b : Int64} {x y : Int} (ha : a.toInt = x) (hb : b.toInt = y) (hy : 0 < y) : (a / b * b).toInt = if x < 0 ∧ x % y ≠ 0 then x - x % y + y else x - x % y := by
  have h0 := p_div ha hb hy
  have e1 : y * (x / y) + x % y = x := Int.mul_ediv_add_emod x y
  have e2 : 0 ≤ x % y := Int.emod_nonneg _ (by omega)
  have e3 : x % y < y := Int.emod_lt_of_pos _ hy
  have l1 := p_lo a
  have l2 := p_hi a
  have l3 := p_hi b
  rw [ha] at l1 l2
  rw [hb] at l3
  by_cases h : x < 0 ∧ x % y ≠ 0
  · rw [if_pos h] at h0
    rw [if_pos h]
    have e4 : (x / y + 1) * y = x - x % y + y := by rw [Int.add_mul, Int.mul_comm (x / y) y]; omega
    rw [← e4]
    exact p_mul h0 hb (by rw [e4]; omega) (by rw [e4]; omega)
  · rw [if_neg h] at h0
    rw [if_neg h]
    have e4 : (x / y) * y = x - x % y := by rw [Int.mul_comm (x / y) y]; omega
    have h9 : 0 ≤ x ∨ x % y = 0 := by
      by_cases z : x < 0
      · exact Or.inr (Classical.byContradiction fun q => h ⟨z, q⟩)
      · exact Or.inl (by omega)
    rw [← e4]
    exact p_mul h0 hb (by rw [e4]; omega) (by rw [e4]; omega)
theorem v_fd {a b : Int64} {x y : Int} (ha : a.toInt = x) (hb : b.toInt = y) (hy : 0 < y) : (f_J9_floorDiv_f86c9 a b).toInt = x / y := by
  unfold f_J9_floorDiv_f86c9
  by_cases h : 0 ≤ (a ^^^ b)
  · rw [if_pos h]
    rw [p_xor, ha, hb] at h
    exact p_divn ha hb hy (h.mpr (by omega))
  · rw [if_neg h]
    rw [p_xor, ha, hb] at h
    have hx : x < 0 := by
      by_cases z : x < 0
      · exact z
      · exact absurd ⟨fun _ => by omega, fun _ => by omega⟩ h
    have h0 := p_div ha hb hy
    have h1 := p_qb ha hb hy
    have e2 : 0 ≤ x % y := Int.emod_nonneg _ (by omega)
    have e3 : x % y < y := Int.emod_lt_of_pos _ hy
    by_cases m : x % y = 0
    · have n : ¬ (x < 0 ∧ x % y ≠ 0) := fun z => z.2 m
      rw [if_neg n] at h0 h1
      rw [if_pos ((p_eq h1 ha).mpr (by omega))]
      exact h0
    · have n : x < 0 ∧ x % y ≠ 0 := ⟨hx, m⟩
      rw [if_pos n] at h0 h1
      rw [if_neg (fun z => by have := (p_eq h1 ha).mp z; omega)]
      have l1 := p_lo (a / b)
      rw [h0] at l1
      have l2 := p_hi (a / b)
      rw [h0] at l2
      have q1 : x / y < 0 := Int.ediv_neg_of_neg_of_pos hx hy
      have q2 : x ≤ x / y := by
        have := Int.mul_ediv_add_emod x y
        have e : y * (x / y + 1) ≤ 1 * (x / y + 1) := Int.mul_le_mul_of_nonpos_right (by omega) (by omega)
        rw [Int.mul_add, Int.mul_one] at e
        omega
      have l3 := p_lo a
      rw [ha] at l3
      have e := p_sub h0 (show (1 : Int64).toInt = 1 from rfl) (by omega) (by omega)
      rw [e]; omega
theorem v_fm {a b : Int64} {x y : Int} (ha : a.toInt = x) (hb : b.toInt = y) (hy : 0 < y) : (f_J9_floorMod_f86c9 a b).toInt = x % y := by
  unfold f_J9_floorMod_f86c9
  have e2 : 0 ≤ x % y := Int.emod_nonneg _ (by omega)
  have e3 : x % y < y := Int.emod_lt_of_pos _ hy
  have l3 := p_hi b
  rw [hb] at l3
  by_cases h : 0 ≤ (a ^^^ b)
  · rw [if_pos h]
    rw [p_xor, ha, hb] at h
    exact p_remn ha hb hy (h.mpr (by omega))
  · rw [if_neg h]
    rw [p_xor, ha, hb] at h
    have hx : x < 0 := by
      by_cases z : x < 0
      · exact z
      · exact absurd ⟨fun _ => by omega, fun _ => by omega⟩ h
    have h0 := p_rem ha hb hy
    by_cases m : x % y = 0
    · rw [if_pos ((p_rem0 ha hb hy).mpr m), h0, if_neg (fun z => z.2 m)]
    · rw [if_neg (fun z => m ((p_rem0 ha hb hy).mp z))]
      rw [if_pos ⟨hx, m⟩] at h0
      rw [p_add h0 hb (by omega) (by omega)]; omega
theorem p_qb32 {a b : Int32} {x y : Int} (ha : a.toInt = x) (hb : b.toInt = y) (hy : 0 < y) : (a / b * b).toInt = if x < 0 ∧ x % y ≠ 0 then x - x % y + y else x - x % y := by
  have h0 := p_div32 ha hb hy
  have e1 : y * (x / y) + x % y = x := Int.mul_ediv_add_emod x y
  have e2 : 0 ≤ x % y := Int.emod_nonneg _ (by omega)
  have e3 : x % y < y := Int.emod_lt_of_pos _ hy
  have l1 := p_lo32 a
  have l2 := p_hi32 a
  have l3 := p_hi32 b
  rw [ha] at l1 l2
  rw [hb] at l3
  by_cases h : x < 0 ∧ x % y ≠ 0
  · rw [if_pos h] at h0
    rw [if_pos h]
    have e4 : (x / y + 1) * y = x - x % y + y := by rw [Int.add_mul, Int.mul_comm (x / y) y]; omega
    rw [← e4]
    exact p_mul32 h0 hb (by rw [e4]; omega) (by rw [e4]; omega)
  · rw [if_neg h] at h0
    rw [if_neg h]
    have e4 : (x / y) * y = x - x % y := by rw [Int.mul_comm (x / y) y]; omega
    have h9 : 0 ≤ x ∨ x % y = 0 := by
      by_cases z : x < 0
      · exact Or.inr (Classical.byContradiction fun q => h ⟨z, q⟩)
      · exact Or.inl (by omega)
    rw [← e4]
    exact p_mul32 h0 hb (by rw [e4]; omega) (by rw [e4]; omega)
theorem v_fm32 {a b : Int32} {x y : Int} (ha : a.toInt = x) (hb : b.toInt = y) (hy : 0 < y) : (f_J9_floorMod_7cf53 a b).toInt = x % y := by
  unfold f_J9_floorMod_7cf53
  have e2 : 0 ≤ x % y := Int.emod_nonneg _ (by omega)
  have e3 : x % y < y := Int.emod_lt_of_pos _ hy
  have l1 := p_lo32 a
  have l2 := p_hi32 a
  have l3 := p_hi32 b
  rw [ha] at l1 l2
  rw [hb] at l3
  have h1 := p_qb32 ha hb hy
  have e0 : (0 : Int32).toInt = 0 := rfl
  by_cases h : 0 ≤ (a ^^^ b)
  · rw [if_pos h]
    rw [p_xor32, ha, hb] at h
    have hx : 0 ≤ x := h.mpr (by omega)
    rw [if_neg (fun z => by omega)] at h1
    rw [p_sub32 ha h1 (by omega) (by omega)]; omega
  · rw [if_neg h]
    rw [p_xor32, ha, hb] at h
    have hx : x < 0 := by
      by_cases z : x < 0
      · exact z
      · exact absurd ⟨fun _ => by omega, fun _ => by omega⟩ h
    by_cases m : x % y = 0
    · rw [if_neg (fun z => z.2 m)] at h1
      have h2 := p_sub32 ha h1 (by omega) (by omega)
      rw [if_pos ((p_eq32 h2 e0).mpr (by omega)), h2]; omega
    · rw [if_pos ⟨hx, m⟩] at h1
      have h2 := p_sub32 ha h1 (by omega) (by omega)
      rw [if_neg (fun z => by have := (p_eq32 h2 e0).mp z; omega)]
      rw [p_add32 h2 hb (by omega) (by omega)]; omega
/-- the class's calendar over the whole numbers -/
theorem v_long {a : Int64} {x : Int} (ha : a.toInt = x) : (f_X1_isLongYear a).toInt = iL x := by
  unfold f_X1_isLongYear iL
  have h4 := p_rem0 ha (show (4 : Int64).toInt = 4 from rfl) (by omega)
  have h1 := p_rem0 ha (show (100 : Int64).toInt = 100 from rfl) (by omega)
  have h0 := p_rem0 ha (show (400 : Int64).toInt = 400 from rfl) (by omega)
  simp only [h4, h1, h0]
  repeat (first | rfl | split)
theorem v_long0 {a : Int64} {x : Int} (ha : a.toInt = x) : f_X1_isLongYear a = 0 ↔ iL x = 0 := by
  have h := v_long ha
  rw [← Int32.toInt_inj, h]; rfl
theorem v_loy {a : Int64} {x : Int} (ha : a.toInt = x) : (f_X1_lengthOfYear a).toInt = 365 + iL x := by
  unfold f_X1_lengthOfYear
  rcases iL_01 x with h | h
  · rw [if_pos ((v_long0 ha).mpr h), h]; rfl
  · rw [if_neg (fun z => by have := (v_long0 ha).mp z; omega), h]; rfl
theorem v_idx {a b : Int64} {x y : Int} (ha : a.toInt = x) (hb : b.toInt = y) (h1 : -1000000000 ≤ x) (h2 : x ≤ 1000000000) (h3 : -1000000000 ≤ y) (h4 : y ≤ 1000000000) : (f_X1_monthIndex a b).toInt = 12 * x + y - 1 := by
  unfold f_X1_monthIndex
  have e1 := p_mul (show (12 : Int64).toInt = 12 from rfl) ha (by omega) (by omega)
  have e2 := p_add e1 hb (by omega) (by omega)
  exact p_sub e2 (show (1 : Int64).toInt = 1 from rfl) (by omega) (by omega)
theorem v_yom {a : Int64} {x : Int} (ha : a.toInt = x) : (f_X1_yearOfMonth a).toInt = x / 12 := v_fd ha rfl (by omega)
theorem v_miy {a : Int64} {x : Int} (ha : a.toInt = x) : (f_X1_monthInYear a).toInt = x % 12 + 1 := by
  unfold f_X1_monthInYear
  have h := v_fm ha (show (12 : Int64).toInt = 12 from rfl) (by omega)
  exact p_add32 (p_n h (by omega) (by omega)) (show (1 : Int32).toInt = 1 from rfl) (by omega) (by omega)
theorem v_lom {a : Int64} {x : Int} (ha : a.toInt = x) : (f_X1_lengthOfMonth a).toInt = iML (x / 12) (x % 12 + 1) := by
  unfold f_X1_lengthOfMonth iML
  have h := v_miy ha
  have g : ∀ k : Int32, f_X1_monthInYear a = k ↔ x % 12 + 1 = k.toInt := fun k => p_eq32 h rfl
  have c2 := g 2
  have c3 := g 3
  have c4 := g 4
  have c5 := g 5
  have c6 := g 6
  have c7 := g 7
  have c8 := g 8
  have c9 := g 9
  have c10 := g 10
  have c11 := g 11
  rw [show (2 : Int32).toInt = 2 from rfl] at c2
  rw [show (3 : Int32).toInt = 3 from rfl] at c3
  rw [show (4 : Int32).toInt = 4 from rfl] at c4
  rw [show (5 : Int32).toInt = 5 from rfl] at c5
  rw [show (6 : Int32).toInt = 6 from rfl] at c6
  rw [show (7 : Int32).toInt = 7 from rfl] at c7
  rw [show (8 : Int32).toInt = 8 from rfl] at c8
  rw [show (9 : Int32).toInt = 9 from rfl] at c9
  rw [show (10 : Int32).toInt = 10 from rfl] at c10
  rw [show (11 : Int32).toInt = 11 from rfl] at c11
  simp only [c2, c3, c4, c5, c6, c7, c8, c9, c10, c11, v_long0 (v_yom ha)]
  have l := iL_01 (x / 12)
  repeat (first | (show (28 : Int) = _; omega) | (show (29 : Int) = _; omega) | (show (30 : Int) = _; omega) | (show (31 : Int) = _; omega) | split)
theorem v_foy {a : Int64} {x : Int} (ha : a.toInt = x) (h1 : -1000000000 ≤ x) (h2 : x ≤ 1000000000) : (f_X1_firstOfYear a).toInt = iFY x := by
  unfold f_X1_firstOfYear
  have a3 := p_add ha (show (3 : Int64).toInt = 3 from rfl) (by omega) (by omega)
  have a9 := p_add ha (show (99 : Int64).toInt = 99 from rfl) (by omega) (by omega)
  have a4 := p_add ha (show (399 : Int64).toInt = 399 from rfl) (by omega) (by omega)
  have d3 := v_fd a3 (show (4 : Int64).toInt = 4 from rfl) (by omega)
  have d9 := v_fd a9 (show (100 : Int64).toInt = 100 from rfl) (by omega)
  have d4 := v_fd a4 (show (400 : Int64).toInt = 400 from rfl) (by omega)
  have e1 := p_mul (show (365 : Int64).toInt = 365 from rfl) ha (by omega) (by omega)
  have e2 := p_sub d3 d9 (by omega) (by omega)
  have e3 := p_add e2 d4 (by omega) (by omega)
  have e4 := p_add e1 e3 (by omega) (by omega)
  have e5 := p_sub e4 (show (719528 : Int64).toInt = 719528 from rfl) (by omega) (by omega)
  rw [e5]; unfold iFY; omega
theorem v_fom {a : Int64} {x : Int} (ha : a.toInt = x) (h1 : -1000000000 ≤ x) (h2 : x ≤ 1000000000) : (f_X1_firstOfMonth a).toInt = iFM x := by
  unfold f_X1_firstOfMonth f_X1_firstOfMonth_j2 f_X1_firstOfMonth_j1
  have m := v_miy ha
  have y := v_foy (v_yom ha) (by omega) (by omega)
  have yb := iFY_r (y := x / 12) (B := 100000000) (by omega) (by omega) (by omega)
  have e1 := p_mul32 (show (367 : Int32).toInt = 367 from rfl) m (by omega) (by omega)
  have e2 := p_sub32 e1 (show (362 : Int32).toInt = 362 from rfl) (by omega) (by omega)
  have e3 := p_divn32 e2 (show (12 : Int32).toInt = 12 from rfl) (by omega) (by omega)
  have e4 := p_w e3
  have c := p_le32 m (show (2 : Int32).toInt = 2 from rfl)
  unfold iFM iC
  have l := iL_01 (x / 12)
  have l0 := v_long0 (v_yom ha)
  by_cases hm : x % 12 + 1 ≤ 2
  · rw [if_pos (c.mpr hm), if_pos hm]
    exact p_add y e4 (by omega) (by omega)
  · rw [if_neg (fun z => hm (c.mp z)), if_neg hm]
    rcases l with l | l
    · have g : (if f_X1_isLongYear (f_X1_yearOfMonth a) = 0 then (2 : Int64) else 1) = 2 := if_pos (l0.mpr l)
      rw [g, if_neg (by decide)]
      have e5 := p_sub e4 (show (2 : Int64).toInt = 2 from rfl) (by omega) (by omega)
      rw [p_add y e5 (by omega) (by omega)]; omega
    · have g : (if f_X1_isLongYear (f_X1_yearOfMonth a) = 0 then (2 : Int64) else 1) = 1 := if_neg (fun z => by have := l0.mp z; omega)
      rw [g, if_pos rfl]
      have e5 := p_sub e4 (show (1 : Int64).toInt = 1 from rfl) (by omega) (by omega)
      rw [p_add y e5 (by omega) (by omega)]; omega
theorem v_yod {a : Int64} {n : Int} (ha : a.toInt = n) (h1 : -10000000000 ≤ n) (h2 : n ≤ 10000000000) : ∃ r : Int, (f_X1_yearOfDay a).toInt = r ∧ iFY r ≤ n ∧ n < iFY (r + 1) ∧ -50000000 ≤ r ∧ r ≤ 50000000 := by
  unfold f_X1_yearOfDay
  have e1 := p_add ha (show (719528 : Int64).toInt = 719528 from rfl) (by omega) (by omega)
  have e2 := p_mul (show (400 : Int64).toInt = 400 from rfl) e1 (by omega) (by omega)
  have e3 := v_fd e2 (show (146097 : Int64).toInt = 146097 from rfl) (by omega)
  generalize f_J9_floorDiv_f86c9 (400 * (a + 719528)) 146097 = g at e3 ⊢
  obtain ⟨E, hE⟩ : ∃ E : Int, E = 400 * (n + 719528) / 146097 := ⟨_, rfl⟩
  rw [← hE] at e3
  have gu := iFY_guess hE
  have b1 : -49999990 ≤ E := by omega
  have b2 : E ≤ 49999990 := by omega
  have y0 := v_foy e3 (by omega) (by omega)
  have i1 := p_add e3 (show (1 : Int64).toInt = 1 from rfl) (by omega) (by omega)
  have y1 := v_foy i1 (by omega) (by omega)
  have i2 := p_sub e3 (show (1 : Int64).toInt = 1 from rfl) (by omega) (by omega)
  have c0 := p_le y0 ha
  have c1 := p_lt ha y1
  by_cases k0 : iFY E ≤ n
  · rw [if_pos (c0.mpr k0)]
    by_cases k1 : n < iFY (E + 1)
    · rw [if_pos (c1.mpr k1)]
      exact ⟨E, e3, k0, k1, by omega, by omega⟩
    · rw [if_neg (fun z => k1 (c1.mp z))]
      exact ⟨E + 1, i1, by omega, by rw [show E + 1 + 1 = E + 2 by omega]; exact gu.2, by omega, by omega⟩
  · rw [if_neg (fun z => k0 (c0.mp z))]
    exact ⟨E - 1, i2, gu.1, by rw [show E - 1 + 1 = E by omega]; omega, by omega, by omega⟩
/-- what the month of a number is -/
def iM (n i : Int) : Prop := iFM i ≤ n ∧ n < iFM (i + 1)
theorem iM_one {n i j : Int} (h : iM n i) (k : iM n j) : i = j := iFM_one h.1 h.2 k.1 k.2
theorem iM_ym {n y m : Int} (h1 : 1 ≤ m) (h2 : m ≤ 12) (a : iFY y + iC y m ≤ n) (b : n < iFY y + iC y m + iML y m) : iM n (12 * y + m - 1) := by
  unfold iM
  rw [iFM_succ, iFM_ym h1 h2]
  have e1 : (12 * y + m - 1) / 12 = y := by omega
  have e2 : (12 * y + m - 1) % 12 + 1 = m := by omega
  rw [e1, e2]
  exact ⟨a, b⟩
theorem v_mod {a : Int64} {n : Int} (ha : a.toInt = n) (h1 : -10000000000 ≤ n) (h2 : n ≤ 10000000000) : ∃ i : Int, (f_X1_monthOfDay a).toInt = i ∧ iM n i ∧ -1000000000 < i ∧ i < 999999999 := by
  obtain ⟨r, hr, r1, r2, r3, r4⟩ := v_yod ha h1 h2
  unfold f_X1_monthOfDay f_X1_monthOfDay_j1 f_X1_monthOfDay_j2 f_X1_monthOfDay_j3
  have y0 := v_foy hr (by omega) (by omega)
  have yb := iFY_r (y := r) (B := 100000000) (by omega) (by omega) (by omega)
  have p0 := p_sub ha y0 (by omega) (by omega)
  have l := iL_01 r
  have l0 := v_long0 hr
  rw [iFY_succ] at r2
  generalize a - f_X1_firstOfYear (f_X1_yearOfDay a) = q at p0 ⊢
  obtain ⟨t, ht⟩ : ∃ t : Int, t = n - iFY r := ⟨_, rfl⟩
  rw [← ht] at p0
  have core : ∀ (w : Int64) (u : Int), w.toInt = u → 0 ≤ u → u ≤ 367 → ∀ M : Int, M = (12 * u + 373) / 367 → (f_X1_monthIndex (f_X1_yearOfDay a) ((12 * w + 373) / 367)).toInt = 12 * r + M - 1 := by
    intro w u hw u1 u2 M hM
    have e1 := p_mul (show (12 : Int64).toInt = 12 from rfl) hw (by omega) (by omega)
    have e2 := p_add e1 (show (373 : Int64).toInt = 373 from rfl) (by omega) (by omega)
    have e3 := p_divn e2 (show (367 : Int64).toInt = 367 from rfl) (by omega) (by omega)
    rw [← hM] at e3
    exact v_idx hr e3 (by omega) (by omega) (by omega) (by omega)
  rcases l with l | l
  · have g : (if f_X1_isLongYear (f_X1_yearOfDay a) = 0 then (2 : Int32) else 1) = 2 := if_pos (l0.mpr l)
    rw [g, if_neg (by decide)]
    have c := p_lt p0 (show (59 : Int64).toInt = 59 from rfl)
    by_cases k : t < 59
    · rw [if_pos (c.mpr k)]
      obtain ⟨M, hM⟩ : ∃ M : Int, M = (12 * t + 373) / 367 := ⟨_, rfl⟩
      refine ⟨_, core q t p0 (by omega) (by omega) M hM, iM_ym (by omega) (by omega) ?_ ?_, by omega, by omega⟩
      · have : M = 1 ∨ M = 2 := by omega
        rcases this with z | z <;> subst z <;> unfold iC <;> simp <;> omega
      · have : M = 1 ∨ M = 2 := by omega
        rcases this with z | z <;> rw [z] at hM ⊢ <;> unfold iC iML <;> simp <;> omega
    · rw [if_neg (fun z => k (c.mp z))]
      have p2 := p_add p0 (show (2 : Int64).toInt = 2 from rfl) (by omega) (by omega)
      obtain ⟨M, hM⟩ : ∃ M : Int, M = (12 * (t + 2) + 373) / 367 := ⟨_, rfl⟩
      refine ⟨_, core (q + 2) (t + 2) p2 (by omega) (by omega) M hM, iM_ym (by omega) (by omega) ?_ ?_, by omega, by omega⟩
      · rcases i12 (show 1 ≤ M by omega) (by omega) with z | z | z | z | z | z | z | z | z | z | z | z <;> rw [z] at hM ⊢ <;> unfold iC <;> simp <;> omega
      · rcases i12 (show 1 ≤ M by omega) (by omega) with z | z | z | z | z | z | z | z | z | z | z | z <;> rw [z] at hM ⊢ <;> unfold iC iML <;> simp <;> omega
  · have g : (if f_X1_isLongYear (f_X1_yearOfDay a) = 0 then (2 : Int32) else 1) = 1 := if_neg (fun z => by have := l0.mp z; omega)
    rw [g, if_pos rfl]
    have c := p_lt p0 (show (60 : Int64).toInt = 60 from rfl)
    by_cases k : t < 60
    · rw [if_pos (c.mpr k)]
      obtain ⟨M, hM⟩ : ∃ M : Int, M = (12 * t + 373) / 367 := ⟨_, rfl⟩
      refine ⟨_, core q t p0 (by omega) (by omega) M hM, iM_ym (by omega) (by omega) ?_ ?_, by omega, by omega⟩
      · have : M = 1 ∨ M = 2 := by omega
        rcases this with z | z <;> rw [z] at hM ⊢ <;> unfold iC <;> simp <;> omega
      · have : M = 1 ∨ M = 2 := by omega
        rcases this with z | z <;> rw [z] at hM ⊢ <;> unfold iC iML <;> simp <;> omega
    · rw [if_neg (fun z => k (c.mp z))]
      have p2 := p_add p0 (show (1 : Int64).toInt = 1 from rfl) (by omega) (by omega)
      obtain ⟨M, hM⟩ : ∃ M : Int, M = (12 * (t + 1) + 373) / 367 := ⟨_, rfl⟩
      refine ⟨_, core (q + 1) (t + 1) p2 (by omega) (by omega) M hM, iM_ym (by omega) (by omega) ?_ ?_, by omega, by omega⟩
      · rcases i12 (show 1 ≤ M by omega) (by omega) with z | z | z | z | z | z | z | z | z | z | z | z <;> rw [z] at hM ⊢ <;> unfold iC <;> simp <;> omega
      · rcases i12 (show 1 ≤ M by omega) (by omega) with z | z | z | z | z | z | z | z | z | z | z | z <;> rw [z] at hM ⊢ <;> unfold iC iML <;> simp <;> omega
end ZPC
