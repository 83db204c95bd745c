section ZPE
theorem p_neg1 : (-1 : Int64).toInt = -1 := rfl
theorem p_wneg1 : (-1 : Int32).toInt = -1 := rfl
theorem m_wd {a : Int64} {n : Int} (ha : a.toInt = n) (h1 : -1000000000000 ≤ n) (h2 : n ≤ 1000000000000) : (f_X3_weekdayOf a).toInt = (n + 3) % 7 + 1 := by
  unfold f_X3_weekdayOf
  have e1 := p_add ha p_k3 (by omega) (by omega)
  have e2 := m_rs e1 p_k7 (by omega) (by omega) (by omega)
  have e3 := p_n e2 (by omega) (by omega)
  rw [p_add32 p_w1 e3 (by omega) (by omega)]; omega
theorem iwk {n q j δ : Int} {m : Int} (hδ : δ = (q - ((n + 3) % 7 + 1)) % 7) (j0 : 0 ≤ j) (j6 : j ≤ 6) (q1 : 1 ≤ q) (q7 : q ≤ 7) (hm : m = n + j) : (m + 3) % 7 + 1 = q ↔ δ = j := by
  subst hm
  constructor
  · intro h; omega
  · intro h; omega
theorem iwd {n q j δ : Int} {m : Int} (hδ : δ = (((n + 3) % 7 + 1) - q) % 7) (j0 : 0 ≤ j) (j6 : j ≤ 6) (q1 : 1 ≤ q) (q7 : q ≤ 7) (hm : m = n - j) : (m + 3) % 7 + 1 = q ↔ δ = j := by
  subst hm
  constructor
  · intro h; omega
  · intro h; omega
theorem m_up {a : Int64} {n : Int} {b : Int32} {q : Int} (ha : a.toInt = n) (hb : b.toInt = q) (h1 : -100000000000 ≤ n) (h2 : n ≤ 100000000000) (q1 : 1 ≤ q) (q2 : q ≤ 7) : pre_X3_sought a b 1 ∧ (f_X3_sought a b 1).toInt = n + (q - ((n + 3) % 7 + 1)) % 7 := by
  unfold pre_X3_sought f_X3_sought
  have o : ((1 : Int32).toInt64).toInt = 1 := p_w p_w1
  revert o
  generalize (1 : Int32).toInt64 = w
  intro o
  obtain ⟨δ, hδ⟩ : ∃ δ : Int, δ = (q - ((n + 3) % 7 + 1)) % 7 := ⟨_, rfl⟩
  have d0 : 0 ≤ δ ∧ δ ≤ 6 := by omega
  have e1 := p_add ha o (by omega) (by omega)
  have e2 := p_add e1 o (by omega) (by omega)
  have e3 := p_add e2 o (by omega) (by omega)
  have e4 := p_add e3 o (by omega) (by omega)
  have e5 := p_add e4 o (by omega) (by omega)
  have e6 := p_add e5 o (by omega) (by omega)
  have c0 := (p_eq32 (m_wd ha (by omega) (by omega)) hb).trans (iwk (j := 0) (m := n) hδ (by decide) (by decide) q1 q2 (by omega))
  have c1 := (p_eq32 (m_wd e1 (by omega) (by omega)) hb).trans (iwk (j := 1) (m := n + 1) hδ (by decide) (by decide) q1 q2 (by omega))
  have c2 := (p_eq32 (m_wd e2 (by omega) (by omega)) hb).trans (iwk (j := 2) (m := n + 1 + 1) hδ (by decide) (by decide) q1 q2 (by omega))
  have c3 := (p_eq32 (m_wd e3 (by omega) (by omega)) hb).trans (iwk (j := 3) (m := n + 1 + 1 + 1) hδ (by decide) (by decide) q1 q2 (by omega))
  have c4 := (p_eq32 (m_wd e4 (by omega) (by omega)) hb).trans (iwk (j := 4) (m := n + 1 + 1 + 1 + 1) hδ (by decide) (by decide) q1 q2 (by omega))
  have c5 := (p_eq32 (m_wd e5 (by omega) (by omega)) hb).trans (iwk (j := 5) (m := n + 1 + 1 + 1 + 1 + 1) hδ (by decide) (by decide) q1 q2 (by omega))
  have c6 := (p_eq32 (m_wd e6 (by omega) (by omega)) hb).trans (iwk (j := 6) (m := n + 1 + 1 + 1 + 1 + 1 + 1) hδ (by decide) (by decide) q1 q2 (by omega))
  rw [← hδ]
  clear hδ h1 h2 q1 q2 hb o
  refine ⟨fun z0 z1 z2 z3 z4 z5 => ?_, ?_⟩
  · rw [c0] at z0; rw [c1] at z1; rw [c2] at z2; rw [c3] at z3; rw [c4] at z4; rw [c5] at z5
    exact c6.mpr (by omega)
  · by_cases z0 : δ = 0
    · rw [if_pos (c0.mpr z0), ha]; omega
    rw [if_neg (fun z => z0 (c0.mp z))]
    by_cases z1 : δ = 1
    · rw [if_pos (c1.mpr z1), e1]; omega
    rw [if_neg (fun z => z1 (c1.mp z))]
    by_cases z2 : δ = 2
    · rw [if_pos (c2.mpr z2), e2]; omega
    rw [if_neg (fun z => z2 (c2.mp z))]
    by_cases z3 : δ = 3
    · rw [if_pos (c3.mpr z3), e3]; omega
    rw [if_neg (fun z => z3 (c3.mp z))]
    by_cases z4 : δ = 4
    · rw [if_pos (c4.mpr z4), e4]; omega
    rw [if_neg (fun z => z4 (c4.mp z))]
    by_cases z5 : δ = 5
    · rw [if_pos (c5.mpr z5), e5]; omega
    rw [if_neg (fun z => z5 (c5.mp z))]
    rw [e6]; omega
theorem m_down {a : Int64} {n : Int} {b : Int32} {q : Int} (ha : a.toInt = n) (hb : b.toInt = q) (h1 : -100000000000 ≤ n) (h2 : n ≤ 100000000000) (q1 : 1 ≤ q) (q2 : q ≤ 7) : pre_X3_sought a b (-1) ∧ (f_X3_sought a b (-1)).toInt = n - (((n + 3) % 7 + 1) - q) % 7 := by
  unfold pre_X3_sought f_X3_sought
  have o : (((-1) : Int32).toInt64).toInt = -1 := p_w p_wneg1
  revert o
  generalize ((-1) : Int32).toInt64 = w
  intro o
  obtain ⟨δ, hδ⟩ : ∃ δ : Int, δ = (((n + 3) % 7 + 1) - q) % 7 := ⟨_, rfl⟩
  have d0 : 0 ≤ δ ∧ δ ≤ 6 := by omega
  have e1 := p_add ha o (by omega) (by omega)
  have e2 := p_add e1 o (by omega) (by omega)
  have e3 := p_add e2 o (by omega) (by omega)
  have e4 := p_add e3 o (by omega) (by omega)
  have e5 := p_add e4 o (by omega) (by omega)
  have e6 := p_add e5 o (by omega) (by omega)
  have c0 := (p_eq32 (m_wd ha (by omega) (by omega)) hb).trans (iwd (j := 0) (m := n) hδ (by decide) (by decide) q1 q2 (by omega))
  have c1 := (p_eq32 (m_wd e1 (by omega) (by omega)) hb).trans (iwd (j := 1) (m := n + -1) hδ (by decide) (by decide) q1 q2 (by omega))
  have c2 := (p_eq32 (m_wd e2 (by omega) (by omega)) hb).trans (iwd (j := 2) (m := n + -1 + -1) hδ (by decide) (by decide) q1 q2 (by omega))
  have c3 := (p_eq32 (m_wd e3 (by omega) (by omega)) hb).trans (iwd (j := 3) (m := n + -1 + -1 + -1) hδ (by decide) (by decide) q1 q2 (by omega))
  have c4 := (p_eq32 (m_wd e4 (by omega) (by omega)) hb).trans (iwd (j := 4) (m := n + -1 + -1 + -1 + -1) hδ (by decide) (by decide) q1 q2 (by omega))
  have c5 := (p_eq32 (m_wd e5 (by omega) (by omega)) hb).trans (iwd (j := 5) (m := n + -1 + -1 + -1 + -1 + -1) hδ (by decide) (by decide) q1 q2 (by omega))
  have c6 := (p_eq32 (m_wd e6 (by omega) (by omega)) hb).trans (iwd (j := 6) (m := n + -1 + -1 + -1 + -1 + -1 + -1) hδ (by decide) (by decide) q1 q2 (by omega))
  rw [← hδ]
  clear hδ h1 h2 q1 q2 hb o
  refine ⟨fun z0 z1 z2 z3 z4 z5 => ?_, ?_⟩
  · rw [c0] at z0; rw [c1] at z1; rw [c2] at z2; rw [c3] at z3; rw [c4] at z4; rw [c5] at z5
    exact c6.mpr (by omega)
  · by_cases z0 : δ = 0
    · rw [if_pos (c0.mpr z0), ha]; omega
    rw [if_neg (fun z => z0 (c0.mp z))]
    by_cases z1 : δ = 1
    · rw [if_pos (c1.mpr z1), e1]; omega
    rw [if_neg (fun z => z1 (c1.mp z))]
    by_cases z2 : δ = 2
    · rw [if_pos (c2.mpr z2), e2]; omega
    rw [if_neg (fun z => z2 (c2.mp z))]
    by_cases z3 : δ = 3
    · rw [if_pos (c3.mpr z3), e3]; omega
    rw [if_neg (fun z => z3 (c3.mp z))]
    by_cases z4 : δ = 4
    · rw [if_pos (c4.mpr z4), e4]; omega
    rw [if_neg (fun z => z4 (c4.mp z))]
    by_cases z5 : δ = 5
    · rw [if_pos (c5.mpr z5), e5]; omega
    rw [if_neg (fun z => z5 (c5.mp z))]
    rw [e6]; omega
end ZPE
