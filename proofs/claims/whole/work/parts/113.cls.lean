section ZPD
theorem p_k0 : (0 : Int64).toInt = 0 := rfl
theorem p_k1 : (1 : Int64).toInt = 1 := rfl
theorem p_k3 : (3 : Int64).toInt = 3 := rfl
theorem p_k7 : (7 : Int64).toInt = 7 := rfl
theorem p_k12 : (12 : Int64).toInt = 12 := rfl
theorem p_w0 : (0 : Int32).toInt = 0 := rfl
theorem p_w1 : (1 : Int32).toInt = 1 := rfl
theorem p_w2 : (2 : Int32).toInt = 2 := rfl
theorem p_w7 : (7 : Int32).toInt = 7 := rfl
theorem p_w12 : (12 : Int32).toInt = 12 := rfl
/-- months of the dates that are kept -/
theorem iM_r {n i : Int} (h : iM n i) (h1 : -4371587 ≤ n) (h2 : n ≤ 2932896) : -119988 ≤ i ∧ i ≤ 119999 := by
  obtain ⟨a, b⟩ := h
  constructor
  · by_cases c : i + 1 ≤ -119988
    · have e := iFM_le c
      have f := iFM_year (-9999)
      have g := iFY_lo
      rw [show (12 * (-9999) : Int) = -119988 from rfl] at f
      omega
    · omega
  · by_cases c : 120000 ≤ i
    · have e := iFM_le c
      have f := iFM_year 10000
      have g := iFY_hi
      rw [show (12 * 10000 : Int) = 120000 from rfl] at f
      omega
    · omega
theorem iM_y {n i : Int} (h : iM n i) : (-9999 ≤ i / 12 ∧ i / 12 ≤ 9999) ↔ (-4371587 ≤ n ∧ n ≤ 2932896) := by
  constructor
  · intro k
    obtain ⟨a, b⟩ := iFM_in h.1 h.2
    have e1 := iFY_le k.1
    have e2 : iFY (i / 12 + 1) ≤ iFY 10000 := iFY_le (by omega)
    have l := iFY_lo
    have r := iFY_hi
    omega
  · intro k
    have := iM_r h k.1 k.2
    omega
theorem iM_dim {n i : Int} (h : iM n i) : 1 ≤ n - iFM i + 1 ∧ n - iFM i + 1 ≤ iML (i / 12) (i % 12 + 1) := by
  obtain ⟨a, b⟩ := h
  rw [iFM_succ] at b
  omega
theorem iM_at {i q : Int} (h1 : 1 ≤ q) (h2 : q ≤ iML (i / 12) (i % 12 + 1)) : iM (iFM i + q - 1) i := by
  refine ⟨by omega, ?_⟩
  rw [iFM_succ]; omega
theorem iM_ML (i : Int) : 28 ≤ iML (i / 12) (i % 12 + 1) ∧ iML (i / 12) (i % 12 + 1) ≤ 31 := iML_r _ _
theorem iFM_div (i : Int) : iFM i = iFY (i / 12) + iC (i / 12) (i % 12 + 1) := by
  have := iFM_ym (y := i / 12) (m := i % 12 + 1) (by omega) (by omega)
  rw [show 12 * (i / 12) + (i % 12 + 1) - 1 = i by omega] at this
  exact this
theorem iFM_r {i : Int} (h1 : -1000000000 ≤ i) (h2 : i ≤ 1000000000) : -40000000000 ≤ iFM i ∧ iFM i ≤ 40000000000 := by
  have e := iFM_div i
  have c := iC_r (y := i / 12) (m := i % 12 + 1) (by omega) (by omega)
  have b := iFY_r (y := i / 12) (B := 100000000) (by omega) (by omega) (by omega)
  omega
theorem v_mo {a : Int64} {n : Int} (ha : a.toInt = n) (h1 : -10000000000 ≤ n) (h2 : n ≤ 10000000000) : iM n (f_X1_monthOfDay a).toInt ∧ -1000000000 < (f_X1_monthOfDay a).toInt ∧ (f_X1_monthOfDay a).toInt < 999999999 := by
  obtain ⟨i, e, h⟩ := v_mod ha h1 h2
  rw [e]; exact h
theorem v_mi {a : Int64} {n i : Int} (ha : a.toInt = n) (h1 : -10000000000 ≤ n) (h2 : n ≤ 10000000000) (h : iM n i) : (f_X1_monthOfDay a).toInt = i := iM_one (v_mo ha h1 h2).1 h
theorem v_yd {a : Int64} {n i : Int} (ha : a.toInt = n) (h1 : -10000000000 ≤ n) (h2 : n ≤ 10000000000) (h : iM n i) : (f_X1_yearOfDay a).toInt = i / 12 := by
  obtain ⟨r, e, r1, r2, _, _⟩ := v_yod ha h1 h2
  obtain ⟨a1, a2⟩ := iFM_in h.1 h.2
  rw [e]; exact iFY_one r1 r2 a1 a2
theorem v_mr {a : Int64} {n i : Int} (ha : a.toInt = n) (h1 : -10000000000 ≤ n) (h2 : n ≤ 10000000000) (h : iM n i) : -1000000000 < i ∧ i < 999999999 := by
  have e := v_mi ha h1 h2 h
  have := (v_mo ha h1 h2).2
  rw [e] at this; exact this
theorem v_fm1 {a : Int64} {n i : Int} (ha : a.toInt = n) (h1 : -10000000000 ≤ n) (h2 : n ≤ 10000000000) (h : iM n i) : (f_X1_firstOfMonth (f_X1_monthOfDay a)).toInt = iFM i := by
  have r := v_mr ha h1 h2 h
  exact v_fom (v_mi ha h1 h2 h) (by omega) (by omega)
theorem v_dim {a : Int64} {n i : Int} (ha : a.toInt = n) (h1 : -10000000000 ≤ n) (h2 : n ≤ 10000000000) (h : iM n i) : (f_X1_dayInMonth a).toInt = n - iFM i + 1 := by
  unfold f_X1_dayInMonth
  have d := iM_dim h
  have l := iM_ML i
  have e1 := p_sub ha (v_fm1 ha h1 h2 h) (by omega) (by omega)
  have e2 := p_n e1 (by omega) (by omega)
  exact p_add32 e2 p_w1 (by omega) (by omega)
theorem v_lm {a : Int64} {n i : Int} (ha : a.toInt = n) (h1 : -10000000000 ≤ n) (h2 : n ≤ 10000000000) (h : iM n i) : (f_X1_lengthOfMonth (f_X1_monthOfDay a)).toInt = iML (i / 12) (i % 12 + 1) := v_lom (v_mi ha h1 h2 h)
theorem v_wd {a : Int64} {n : Int} (ha : a.toInt = n) (h1 : -1000000000000 ≤ n) (h2 : n ≤ 1000000000000) : (f_X1_weekdayOf a).toInt = (n + 3) % 7 + 1 := by
  unfold f_X1_weekdayOf
  have e1 := p_add ha p_k3 (by omega) (by omega)
  have e2 := v_fm e1 p_k7 (by omega)
  have e3 := p_n e2 (by omega) (by omega)
  exact p_add32 e3 p_w1 (by omega) (by omega)
theorem v_wf {a : Int64} {n : Int} {b : Int32} {q : Int} (ha : a.toInt = n) (hb : b.toInt = q) (h1 : -1000000000000 ≤ n) (h2 : n ≤ 1000000000000) (q1 : -100 ≤ q) (q2 : q ≤ 100) : (f_X1_weekdayFrom a b).toInt = n + (q - ((n + 3) % 7 + 1)) % 7 := by
  unfold f_X1_weekdayFrom
  have e1 := p_sub32 hb (v_wd ha h1 h2) (by omega) (by omega)
  have e2 := v_fm32 e1 p_w7 (by omega)
  exact p_add ha (p_w e2) (by omega) (by omega)
theorem v_wu {a : Int64} {n : Int} {b : Int32} {q : Int} (ha : a.toInt = n) (hb : b.toInt = q) (h1 : -1000000000000 ≤ n) (h2 : n ≤ 1000000000000) (q1 : -100 ≤ q) (q2 : q ≤ 100) : (f_X1_weekdayUpTo a b).toInt = n - (((n + 3) % 7 + 1) - q) % 7 := by
  unfold f_X1_weekdayUpTo
  have e1 := p_sub32 (v_wd ha h1 h2) hb (by omega) (by omega)
  have e2 := v_fm32 e1 p_w7 (by omega)
  exact p_sub ha (p_w e2) (by omega) (by omega)
def iDL (i q : Int) : Int := iFM i + (if iML (i / 12) (i % 12 + 1) < q then iML (i / 12) (i % 12 + 1) else q) - 1
theorem iDL_in {i q : Int} (h1 : 1 ≤ q) : iM (iDL i q) i := by
  unfold iDL
  have l := iM_ML i
  split
  · exact iM_at (by omega) (by omega)
  · exact iM_at (by omega) (by omega)
theorem v_dol {a b : Int64} {i q : Int} (ha : a.toInt = i) (hb : b.toInt = q) (h1 : -1000000000 ≤ i) (h2 : i ≤ 1000000000) (q1 : -1000000 ≤ q) (q2 : q ≤ 1000000) : (f_X1_dayOrLast a b).toInt = iDL i q := by
  unfold f_X1_dayOrLast iDL
  have f := v_fom ha h1 h2
  have r := iFM_r h1 h2
  have l := p_w (v_lom ha)
  have g := iM_ML i
  have c := p_lt l hb
  have e : (if ((f_X1_lengthOfMonth a)).toInt64 < b then ((f_X1_lengthOfMonth a)).toInt64 else b).toInt = (if iML (i / 12) (i % 12 + 1) < q then iML (i / 12) (i % 12 + 1) else q) := by
    by_cases h : iML (i / 12) (i % 12 + 1) < q
    · rw [if_pos (c.mpr h), if_pos h]; exact l
    · rw [if_neg (fun z => h (c.mp z)), if_neg h]; exact hb
  have t : -1000000 ≤ (if iML (i / 12) (i % 12 + 1) < q then iML (i / 12) (i % 12 + 1) else q) ∧ (if iML (i / 12) (i % 12 + 1) < q then iML (i / 12) (i % 12 + 1) else q) ≤ 1000000 := by
    split <;> omega
  exact p_sub (p_add f e (by omega) (by omega)) p_k1 (by omega) (by omega)
theorem iDL_r {i q : Int} (h1 : -1000000000 ≤ i) (h2 : i ≤ 1000000000) (q1 : 1 ≤ q) : -41000000000 ≤ iDL i q ∧ iDL i q ≤ 41000000000 := by
  unfold iDL
  have r := iFM_r h1 h2
  have g := iM_ML i
  split <;> omega
theorem v_pm {a b : Int64} {n i k : Int} (ha : a.toInt = n) (hb : b.toInt = k) (h1 : -10000000000 ≤ n) (h2 : n ≤ 10000000000) (h : iM n i) (b1 : -1000000000 ≤ i + k) (b2 : i + k ≤ 1000000000) : (f_X1_plusMonths a b).toInt = iDL (i + k) (n - iFM i + 1) := by
  unfold f_X1_plusMonths
  have m := v_mi ha h1 h2 h
  have d := iM_dim h
  have l := iM_ML i
  have e1 := p_add m hb (by omega) (by omega)
  have e2 := p_sub ha (v_fm1 ha h1 h2 h) (by omega) (by omega)
  have e3 := p_add e2 p_k1 (by omega) (by omega)
  exact v_dol e1 e3 b1 b2 (by omega) (by omega)
/-- whole months from one date to another -/
def iWM (n i m j : Int) : Int := if n ≤ m then (if n - iFM i ≤ m - iFM j then j - i else j - i - 1) else (if m - iFM j ≤ n - iFM i then -(i - j) else -(i - j - 1))
theorem v_wm {a b : Int64} {n i m j : Int} (ha : a.toInt = n) (hb : b.toInt = m) (h1 : -10000000000 ≤ n) (h2 : n ≤ 10000000000) (g1 : -10000000000 ≤ m) (g2 : m ≤ 10000000000) (h : iM n i) (g : iM m j) : (f_X1_wholeMonths a b).toInt = iWM n i m j := by
  unfold f_X1_wholeMonths f_X1_wholeMonths_j1 iWM
  have m1 := v_mi ha h1 h2 h
  have m2 := v_mi hb g1 g2 g
  have r1 := v_mr ha h1 h2 h
  have r2 := v_mr hb g1 g2 g
  have f1 := v_fm1 ha h1 h2 h
  have f2 := v_fm1 hb g1 g2 g
  have d1 := iM_dim h
  have d2 := iM_dim g
  have l1 := iM_ML i
  have l2 := iM_ML j
  have s1 := p_sub ha f1 (by omega) (by omega)
  have s2 := p_sub hb f2 (by omega) (by omega)
  have t1 := p_sub m2 m1 (by omega) (by omega)
  have t2 := p_sub m1 m2 (by omega) (by omega)
  have u1 := p_sub t1 p_k1 (by omega) (by omega)
  have u2 := p_sub t2 p_k1 (by omega) (by omega)
  by_cases c : n ≤ m
  · have c1 : ¬ b < a := fun z => by have := (p_lt hb ha).mp z; omega
    rw [if_pos ((p_le ha hb).mpr c), if_pos c]
    simp only [if_neg c1]
    by_cases e : n - iFM i ≤ m - iFM j
    · rw [if_pos ((p_le s1 s2).mpr e), if_pos e]; exact t1
    · rw [if_neg (fun z => e ((p_le s1 s2).mp z)), if_neg e]; exact u1
  · have c1 : b < a := (p_lt hb ha).mpr (by omega)
    rw [if_neg (fun z => c ((p_le ha hb).mp z)), if_neg c]
    simp only [if_pos c1]
    by_cases e : m - iFM j ≤ n - iFM i
    · rw [if_pos ((p_le s2 s1).mpr e), if_pos e]; exact p_neg t2 (by omega)
    · rw [if_neg (fun z => e ((p_le s2 s1).mp z)), if_neg e]; exact p_neg u2 (by omega)
theorem iFM_r2 {i : Int} (h1 : -200000000 ≤ i) (h2 : i ≤ 200000000) : -8000000000 ≤ iFM i ∧ iFM i ≤ 8000000000 := by
  have e := iFM_div i
  have c := iC_r (y := i / 12) (m := i % 12 + 1) (by omega) (by omega)
  have b := iFY_r (y := i / 12) (B := 20000000) (by omega) (by omega) (by omega)
  omega
theorem iDL_r2 {i q : Int} (h1 : -200000000 ≤ i) (h2 : i ≤ 200000000) (q1 : 1 ≤ q) : -9000000000 ≤ iDL i q ∧ iDL i q ≤ 9000000000 := by
  unfold iDL
  have r := iFM_r2 h1 h2
  have g := iM_ML i
  split <;> omega
end ZPD
