section ZPE
theorem p_neg1 : (-1 : Int64).toInt = -1 := rfl
theorem p_wneg1 : (-1 : Int32).toInt = -1 := rfl
theorem m_wd {a : Int64} {n : Int} (ha : a.toInt = n) (h1 : -1000000000000 ≤ n) (h2 : n ≤ 1000000000000) : (f_X3_weekdayOf a).toInt = (n + 3) % 7 + 1 := by
  unfold f_X3_weekdayOf
  have e1 := p_add ha p_k3 (by omega) (by omega)
  have e2 := m_rs e1 p_k7 (by omega) (by omega) (by omega)
  have e3 := p_n e2 (by omega) (by omega)
  rw [p_add32 p_w1 e3 (by omega) (by omega)]; omega
theorem iwk {n q j δ : Int} {m : Int} (hδ : δ = (q - ((n + 3) % 7 + 1)) % 7) (j0 : 0 ≤ j) (j6 : j ≤ 6) (q1 : 1 ≤ q) (q7 : q ≤ 7) (hm : m = n + j) : (m + 3) % 7 + 1 = q ↔ δ = j := by
  subst hm
  constructor
  · intro h; omega
  · intro h; omega
theorem iwd {n q j δ : Int} {m : Int} (hδ : δ = (((n + 3) % 7 + 1) - q) % 7) (j0 : 0 ≤ j) (j6 : j ≤ 6) (q1 : 1 ≤ q) (q7 : q ≤ 7) (hm : m = n - j) : (m + 3) % 7 + 1 = q ↔ δ = j := by
  subst hm
  constructor
  · intro h; omega
  · intro h; omega
theorem m_up {a : Int64} {n : Int} {b : Int32} {q : Int} (ha : a.toInt = n) (hb : b.toInt = q) (h1 : -100000000000 ≤ n) (h2 : n ≤ 100000000000) (q1 : 1 ≤ q) (q2 : q ≤ 7) : pre_X3_sought a b 1 ∧ (f_X3_sought a b 1).toInt = n + (q - ((n + 3) % 7 + 1)) % 7 := by
  unfold pre_X3_sought f_X3_sought
  have o : ((1 : Int32).toInt64).toInt = 1 := p_w p_w1
  revert o
  generalize (1 : Int32).toInt64 = w
  intro o
  obtain ⟨δ, hδ⟩ : ∃ δ : Int, δ = (q - ((n + 3) % 7 + 1)) % 7 := ⟨_, rfl⟩
  have d0 : 0 ≤ δ ∧ δ ≤ 6 := by omega
  have e1 := p_add ha o (by omega) (by omega)
  have e2 := p_add e1 o (by omega) (by omega)
  have e3 := p_add e2 o (by omega) (by omega)
  have e4 := p_add e3 o (by omega) (by omega)
  have e5 := p_add e4 o (by omega) (by omega)
  have e6 := p_add e5 o (by omega) (by omega)
  have c0 := (p_eq32 (m_wd ha (by omega) (by omega)) hb).trans (iwk (j := 0) (m := n) hδ (by decide) (by decide) q1 q2 (by omega))
  have c1 := (p_eq32 (m_wd e1 (by omega) (by omega)) hb).trans (iwk (j := 1) (m := n + 1) hδ (by decide) (by decide) q1 q2 (by omega))
  have c2 := (p_eq32 (m_wd e2 (by omega) (by omega)) hb).trans (iwk (j := 2) (m := n + 1 + 1) hδ (by decide) (by decide) q1 q2 (by omega))
  have c3 := (p_eq32 (m_wd e3 (by omega) (by omega)) hb).trans (iwk (j := 3) (m := n + 1 + 1 + 1) hδ (by decide) (by decide) q1 q2 (by omega))
  have c4 := (p_eq32 (m_wd e4 (by omega) (by omega)) hb).trans (iwk (j := 4) (m := n + 1 + 1 + 1 + 1) hδ (by decide) (by decide) q1 q2 (by omega))
  have c5 := (p_eq32 (m_wd e5 (by omega) (by omega)) hb).trans (iwk (j := 5) (m := n + 1 + 1 + 1 + 1 + 1) hδ (by decide) (by decide) q1 q2 (by omega))
  have c6 := (p_eq32 (m_wd e6 (by omega) (by omega)) hb).trans (iwk (j := 6) (m := n + 1 + 1 + 1 + 1 + 1 + 1) hδ (by decide) (by decide) q1 q2 (by omega))
  rw [← hδ]
  clear hδ h1 h2 q1 q2 hb o
  refine ⟨fun z0 z1 z2 z3 z4 z5 => ?_, ?_⟩
  · rw [c0] at z0; rw [c1] at z1; rw [c2] at z2; rw [c3] at z3; rw [c4] at z4; rw [c5] at z5
    exact c6.mpr (by omega)
  · by_cases z0 : δ = 0
    · rw [if_pos (c0.mpr z0), ha]; omega
    rw [if_neg (fun z => z0 (c0.mp z))]
    by_cases z1 : δ = 1
    · rw [if_pos (c1.mpr z1), e1]; omega
    rw [if_neg (fun z => z1 (c1.mp z))]
    by_cases z2 : δ = 2
    · rw [if_pos (c2.mpr z2), e2]; omega
    rw [if_neg (fun z => z2 (c2.mp z))]
    by_cases z3 : δ = 3
    · rw [if_pos (c3.mpr z3), e3]; omega
    rw [if_neg (fun z => z3 (c3.mp z))]
    by_cases z4 : δ = 4
    · rw [if_pos (c4.mpr z4), e4]; omega
    rw [if_neg (fun z => z4 (c4.mp z))]
    by_cases z5 : δ = 5
    · rw [if_pos (c5.mpr z5), e5]; omega
    rw [if_neg (fun z => z5 (c5.mp z))]
    rw [e6]; omega
theorem m_down {a : Int64} {n : Int} {b : Int32} {q : Int} (ha : a.toInt = n) (hb : b.toInt = q) (h1 : -100000000000 ≤ n) (h2 : n ≤ 100000000000) (q1 : 1 ≤ q) (q2 : q ≤ 7) : pre_X3_sought a b (-1) ∧ (f_X3_sought a b (-1)).toInt = n - (((n + 3) % 7 + 1) - q) % 7 := by
  unfold pre_X3_sought f_X3_sought
  have o : (((-1) : Int32).toInt64).toInt = -1 := p_w p_wneg1
  revert o
  generalize ((-1) : Int32).toInt64 = w
  intro o
  obtain ⟨δ, hδ⟩ : ∃ δ : Int, δ = (((n + 3) % 7 + 1) - q) % 7 := ⟨_, rfl⟩
  have d0 : 0 ≤ δ ∧ δ ≤ 6 := by omega
  have e1 := p_add ha o (by omega) (by omega)
  have e2 := p_add e1 o (by omega) (by omega)
  have e3 := p_add e2 o (by omega) (by omega)
  have e4 := p_add e3 o (by omega) (by omega)
  have e5 := p_add e4 o (by omega) (by omega)
  have e6 := p_add e5 o (by omega) (by omega)
  have c0 := (p_eq32 (m_wd ha (by omega) (by omega)) hb).trans (iwd (j := 0) (m := n) hδ (by decide) (by decide) q1 q2 (by omega))
  have c1 := (p_eq32 (m_wd e1 (by omega) (by omega)) hb).trans (iwd (j := 1) (m := n + -1) hδ (by decide) (by decide) q1 q2 (by omega))
  have c2 := (p_eq32 (m_wd e2 (by omega) (by omega)) hb).trans (iwd (j := 2) (m := n + -1 + -1) hδ (by decide) (by decide) q1 q2 (by omega))
  have c3 := (p_eq32 (m_wd e3 (by omega) (by omega)) hb).trans (iwd (j := 3) (m := n + -1 + -1 + -1) hδ (by decide) (by decide) q1 q2 (by omega))
  have c4 := (p_eq32 (m_wd e4 (by omega) (by omega)) hb).trans (iwd (j := 4) (m := n + -1 + -1 + -1 + -1) hδ (by decide) (by decide) q1 q2 (by omega))
  have c5 := (p_eq32 (m_wd e5 (by omega) (by omega)) hb).trans (iwd (j := 5) (m := n + -1 + -1 + -1 + -1 + -1) hδ (by decide) (by decide) q1 q2 (by omega))
  have c6 := (p_eq32 (m_wd e6 (by omega) (by omega)) hb).trans (iwd (j := 6) (m := n + -1 + -1 + -1 + -1 + -1 + -1) hδ (by decide) (by decide) q1 q2 (by omega))
  rw [← hδ]
  clear hδ h1 h2 q1 q2 hb o
  refine ⟨fun z0 z1 z2 z3 z4 z5 => ?_, ?_⟩
  · rw [c0] at z0; rw [c1] at z1; rw [c2] at z2; rw [c3] at z3; rw [c4] at z4; rw [c5] at z5
    exact c6.mpr (by omega)
  · by_cases z0 : δ = 0
    · rw [if_pos (c0.mpr z0), ha]; omega
    rw [if_neg (fun z => z0 (c0.mp z))]
    by_cases z1 : δ = 1
    · rw [if_pos (c1.mpr z1), e1]; omega
    rw [if_neg (fun z => z1 (c1.mp z))]
    by_cases z2 : δ = 2
    · rw [if_pos (c2.mpr z2), e2]; omega
    rw [if_neg (fun z => z2 (c2.mp z))]
    by_cases z3 : δ = 3
    · rw [if_pos (c3.mpr z3), e3]; omega
    rw [if_neg (fun z => z3 (c3.mp z))]
    by_cases z4 : δ = 4
    · rw [if_pos (c4.mpr z4), e4]; omega
    rw [if_neg (fun z => z4 (c4.mp z))]
    by_cases z5 : δ = 5
    · rw [if_pos (c5.mpr z5), e5]; omega
    rw [if_neg (fun z => z5 (c5.mp z))]
    rw [e6]; omega
/-- the three parts of a number, with the month that holds it -/
theorem m_pt {a : Int64} {n i : Int} (ha : a.toInt = n) (h1 : -10000000000 ≤ n) (h2 : n ≤ 10000000000) (h : iM n i) : pre_X3_parts a ∧ (s_X3_parts_yr a).toInt = i / 12 ∧ (s_X3_parts_mo a).toInt = i % 12 + 1 ∧ (s_X3_parts_dy a).toInt = n - iFM i + 1 := by
  obtain ⟨p, j, hj, e1, e2, e3, _, _⟩ := m_parts ha h1 h2
  have e := iM_one hj h
  rw [e] at e1 e2 e3
  exact ⟨p, e1, e2, e3⟩
theorem m_kept {a : Int64} {n : Int} (ha : a.toInt = n) (h1 : -10000000000 ≤ n) (h2 : n ≤ 10000000000) : f_X3_isKept a = if -4371587 ≤ n ∧ n ≤ 2932896 then 1 else 0 := by
  obtain ⟨hi, _⟩ := v_mo ha h1 h2
  obtain ⟨p, e1, e2, e3⟩ := m_pt ha h1 h2 hi
  have y := iM_y hi
  unfold f_X3_isKept f_X3_isYear f_X3_in
  have c1 := p_lt e1 (show (-9999 : Int64).toInt = -9999 from rfl)
  have c2 := p_lt (show (9999 : Int64).toInt = 9999 from rfl) e1
  by_cases g : -4371587 ≤ n ∧ n ≤ 2932896
  · have k := y.mpr g
    rw [if_neg (fun z => by have := c1.mp z; omega), if_neg (fun z => by have := c2.mp z; omega), if_pos g]
  · rw [if_neg g]
    have k : ¬ (-9999 ≤ (f_X1_monthOfDay a).toInt / 12 ∧ (f_X1_monthOfDay a).toInt / 12 ≤ 9999) := fun z => g (y.mp z)
    by_cases c : (f_X1_monthOfDay a).toInt / 12 < -9999
    · rw [if_pos (c1.mpr c)]
    · rw [if_neg (fun z => c (c1.mp z)), if_pos (c2.mpr (by omega))]
theorem m_pK {a : Int64} {n : Int} (ha : a.toInt = n) (h1 : -10000000000 ≤ n) (h2 : n ≤ 10000000000) : pre_X3_isKept a := (m_parts ha h1 h2).1
theorem m_bm {a b : Int64} {n i k : Int} (ha : a.toInt = n) (hb : b.toInt = k) (h1 : -10000000000 ≤ n) (h2 : n ≤ 10000000000) (h : iM n i) (b1 : -1000000000 ≤ i + k) (b2 : i + k ≤ 1000000000) : pre_X3_byMonths a b ∧ (f_X3_byMonths a b).toInt = iDL (i + k) (n - iFM i + 1) := by
  obtain ⟨p, e1, e2, e3⟩ := m_pt ha h1 h2 h
  have r := v_mr ha h1 h2 h
  have d := iM_dim h
  have l := iM_ML i
  have g1 := p_mul p_k12 e1 (by omega) (by omega)
  have g2 := p_add g1 (p_w e2) (by omega) (by omega)
  have g3 := p_sub g2 p_k1 (by omega) (by omega)
  have g4 := p_add g3 hb (by omega) (by omega)
  have g5 := m_fl g4 p_k12 (by omega) (by omega) (by omega)
  have g6 := m_rs g4 p_k12 (by omega) (by omega) (by omega)
  have g7 := p_add32 p_w1 (p_n g6 (by omega) (by omega)) (by omega) (by omega)
  have q : 12 * (i / 12) + (i % 12 + 1) - 1 + k = i + k := by omega
  rw [q] at g5 g6 g7
  have g8 := m_many g5 g7 (by omega)
  have w : (1 : Int) + (i + k) % 12 = (i + k) % 12 + 1 := by omega
  rw [w] at g7 g8
  unfold pre_X3_byMonths f_X3_byMonths f_X3_byMonths_j1
  refine ⟨⟨p, (p_le32 g7 p_w12).mpr (by omega)⟩, ?_⟩
  have c := p_le32 e3 g8
  have j : (if (s_X3_parts_dy a) ≤ (f_X3_many (f_X3_floor ((((12 * (s_X3_parts_yr a)) + ((s_X3_parts_mo a)).toInt64) - 1) + b) 12) (1 + ((f_X3_rest ((((12 * (s_X3_parts_yr a)) + ((s_X3_parts_mo a)).toInt64) - 1) + b) 12)).toInt32)) then (s_X3_parts_dy a) else (f_X3_many (f_X3_floor ((((12 * (s_X3_parts_yr a)) + ((s_X3_parts_mo a)).toInt64) - 1) + b) 12) (1 + ((f_X3_rest ((((12 * (s_X3_parts_yr a)) + ((s_X3_parts_mo a)).toInt64) - 1) + b) 12)).toInt32))).toInt = (if iML ((i + k) / 12) ((i + k) % 12 + 1) < n - iFM i + 1 then iML ((i + k) / 12) ((i + k) % 12 + 1) else n - iFM i + 1) := by
    by_cases z : iML ((i + k) / 12) ((i + k) % 12 + 1) < n - iFM i + 1
    · rw [if_neg (fun y => by have := c.mp y; omega), if_pos z]; exact g8
    · rw [if_pos (c.mpr (by omega)), if_neg z]; exact e3
  rw [m_number g5 g7 j (by omega) (by omega) (by omega) (by omega)]
  unfold iDL
  rw [iFM_div (i + k)]
theorem m_pmf {a b : Int64} {n m : Int} (ha : a.toInt = n) (hb : b.toInt = m) (h1 : -10000000000 ≤ n) (h2 : n ≤ 10000000000) (g1 : -10000000000 ≤ m) (g2 : m ≤ 10000000000) : pre_X3_monthsFrom a b := by
  have pa := (m_parts ha h1 h2).1
  have pb := (m_parts hb g1 g2).1
  unfold pre_X3_monthsFrom f_X3_monthsFrom_j1 f_X3_monthsFrom_j2
  by_cases c : b ≤ a
  · rw [if_pos c, if_pos c]; exact ⟨pb, pa⟩
  · rw [if_neg c, if_neg c]; exact ⟨pa, pb⟩
theorem m_mf {a b : Int64} {n i m j : Int} (ha : a.toInt = n) (hb : b.toInt = m) (h1 : -10000000000 ≤ n) (h2 : n ≤ 10000000000) (g1 : -10000000000 ≤ m) (g2 : m ≤ 10000000000) (h : iM n i) (g : iM m j) : (f_X3_monthsFrom a b).toInt = iWM n i m j := by
  obtain ⟨pa, ya, ma, da⟩ := m_pt ha h1 h2 h
  obtain ⟨pb, yb, mb, db⟩ := m_pt hb g1 g2 g
  have r1 := v_mr ha h1 h2 h
  have r2 := v_mr hb g1 g2 g
  have ia := p_add (p_mul p_k12 ya (by omega) (by omega)) (p_w ma) (by omega) (by omega)
  have na := p_neg ia (by omega)
  have ib := p_add (p_mul p_k12 yb (by omega) (by omega)) (p_w mb) (by omega) (by omega)
  have nb := p_neg ib (by omega)
  have tb := p_mul p_k12 yb (by omega) (by omega)
  have ta := p_mul p_k12 ya (by omega) (by omega)
  have ab := p_add (p_add na tb (by omega) (by omega)) (p_w mb) (by omega) (by omega)
  have ba := p_add (p_add nb ta (by omega) (by omega)) (p_w ma) (by omega) (by omega)
  unfold f_X3_monthsFrom f_X3_monthsFrom_j3 f_X3_monthsFrom_j1 f_X3_monthsFrom_j2 iWM
  by_cases c : m ≤ n
  · have c1 : b ≤ a := (p_le hb ha).mpr c
    simp only [if_pos c1]
    have k := p_le32 db da
    by_cases e : m - iFM j ≤ n - iFM i
    · rw [if_pos (k.mpr (by omega)), if_pos (by decide)]
      have s := p_neg (p_sub ba p_k0 (by omega) (by omega)) (by omega)
      rw [s, if_pos e]
      by_cases c2 : n ≤ m
      · have q : n = m := by omega
        subst q
        have q2 := iM_one h g
        subst q2
        rw [if_pos (by omega), if_pos (by omega)]; omega
      · rw [if_neg c2]; omega
    · rw [if_neg (show ¬ s_X3_parts_dy b ≤ s_X3_parts_dy a from fun z => e (by have := k.mp z; omega)), if_neg (by decide)]
      have s := p_neg (p_sub ba p_k1 (by omega) (by omega)) (by omega)
      rw [s, if_neg e]
      by_cases c2 : n ≤ m
      · have q : n = m := by omega
        subst q
        have q2 := iM_one h g
        subst q2
        omega
      · rw [if_neg c2]; omega
  · have c1 : ¬ b ≤ a := fun z => c ((p_le hb ha).mp z)
    simp only [if_neg c1]
    have k := p_le32 da db
    rw [if_pos (show n ≤ m by omega)]
    by_cases e : n - iFM i ≤ m - iFM j
    · rw [if_pos (k.mpr (by omega)), if_pos (by decide), if_pos e]
      rw [p_sub ab p_k0 (by omega) (by omega)]; omega
    · rw [if_neg (show ¬ s_X3_parts_dy a ≤ s_X3_parts_dy b from fun z => e (by have := k.mp z; omega)), if_neg (by decide), if_neg e]
      rw [p_sub ab p_k1 (by omega) (by omega)]; omega
end ZPE
