section ZSD
theorem iM_le {n i m j : Int} (h : iM n i) (g : iM m j) (l : n ≤ m) : i ≤ j := by
  refine Int.not_lt.mp (fun c => ?_)
  have e := iFM_le (show j + 1 ≤ i by omega)
  have a := h.1
  have b := g.2
  omega
theorem iWM_way {n i m j : Int} (h : iM n i) (g : iM m j) (l : n ≤ m) : 0 ≤ iWM n i m j ∧ iDL (i + iWM n i m j) (n - iFM i + 1) ≤ m ∧ m - iDL (i + iWM n i m j) (n - iFM i + 1) < 31 := by
  have D := iM_dim h
  have E := iM_dim g
  have le := iM_le h g l
  have Li := iM_ML i
  have Lj := iM_ML j
  unfold iWM
  rw [if_pos l]
  by_cases c : n - iFM i ≤ m - iFM j
  · rw [if_pos c, show i + (j - i) = j by omega]
    unfold iDL
    rw [if_neg (show ¬ iML (j / 12) (j % 12 + 1) < n - iFM i + 1 by omega)]
    refine ⟨by omega, by omega, by omega⟩
  · rw [if_neg c, show i + (j - i - 1) = j - 1 by omega]
    have ne : i ≠ j := by
      intro e
      subst e
      omega
    have s := iFM_succ (j - 1)
    rw [show j - 1 + 1 = j by omega] at s
    have L := iM_ML (j - 1)
    unfold iDL
    generalize iML ((j - 1) / 12) ((j - 1) % 12 + 1) = M at s L ⊢
    generalize iML (i / 12) (i % 12 + 1) = M2 at D Li
    by_cases k : M < n - iFM i + 1
    · rw [if_pos k]; refine ⟨by omega, by omega, by omega⟩
    · rw [if_neg k]; refine ⟨by omega, by omega, by omega⟩
theorem iWM_neg {n i m j : Int} (l : ¬ n ≤ m) : iWM n i m j = -(iWM m j n i) := by
  unfold iWM
  rw [if_neg l, if_pos (show m ≤ n by omega)]
  by_cases c : m - iFM j ≤ n - iFM i
  · rw [if_pos c, if_pos c]
  · rw [if_neg c, if_neg c]
theorem iWM_r {n i m j : Int} (i1 : -119988 ≤ i) (i2 : i ≤ 119999) (j1 : -119988 ≤ j) (j2 : j ≤ 119999) : -1000000 ≤ iWM n i m j ∧ iWM n i m j ≤ 1000000 := by
  unfold iWM
  by_cases l : n ≤ m
  · rw [if_pos l]
    by_cases c : n - iFM i ≤ m - iFM j
    · rw [if_pos c]; omega
    · rw [if_neg c]; omega
  · rw [if_neg l]
    by_cases c : m - iFM j ≤ n - iFM i
    · rw [if_pos c]; omega
    · rw [if_neg c]; omega
theorem so_way {a b : Int64} (a1 : -4371587 ≤ a.toInt) (a2 : a.toInt ≤ 2932896) (b1 : -4371587 ≤ b.toInt) (b2 : b.toInt ≤ 2932896) : f_X2_isSoundWay a b = 1 := by
  obtain ⟨i, h, i1, i2⟩ := dt_m a1 a2
  obtain ⟨j, g, j1, j2⟩ := dt_m b1 b2
  obtain ⟨n, ha⟩ : ∃ n : Int, a.toInt = n := ⟨_, rfl⟩
  obtain ⟨m, hb⟩ : ∃ m : Int, b.toInt = m := ⟨_, rfl⟩
  rw [ha] at a1 a2 h
  rw [hb] at b1 b2 g
  have n1 : -10000000000 ≤ n ∧ n ≤ 10000000000 := by omega
  have m1 : -10000000000 ≤ m ∧ m ≤ 10000000000 := by omega
  have r := iWM_r (n := n) (i := i) (m := m) (j := j) i1 i2 j1 j2
  have r2 := iWM_r (n := m) (i := j) (m := n) (j := i) j1 j2 i1 i2
  have rb : -1000000000 ≤ i + iWM n i m j ∧ i + iWM n i m j ≤ 1000000000 := by omega
  have rn : -9223372036854775808 < iWM m j n i := by omega
  have dd := iM_dim h
  have dl := iDL_r2 (i := i + iWM n i m j) (q := n - iFM i + 1) (by omega) (by omega) dd.1
  have sb : -9223372036854775808 ≤ m - iDL (i + iWM n i m j) (n - iFM i + 1) ∧ m - iDL (i + iWM n i m j) (n - iFM i + 1) < 9223372036854775808 := by omega
  unfold f_X2_isSoundWay
  by_cases l : n ≤ m
  · obtain ⟨w1, w2, w3⟩ := iWM_way h g l
    have W := v_wm ha hb n1.1 n1.2 m1.1 m1.2 h g
    have P := v_pm ha W n1.1 n1.2 h rb.1 rb.2
    have S := p_sub hb P sb.1 sb.2
    rw [if_pos ((p_le ha hb).mpr l), if_neg (fun z => absurd ((p_lt W p_k0).mp z) (Int.not_lt.mpr w1)), if_neg (fun z => absurd ((p_lt hb P).mp z) (Int.not_lt.mpr w2)), if_neg (fun z => absurd ((p_le (show (31 : Int64).toInt = 31 from rfl) S).mp z) (Int.not_le.mpr w3))]
  · have w := (iWM_way g h (Int.le_of_lt (Int.not_le.mp l))).1
    have e := iWM_neg (i := i) (j := j) l
    have q : ¬ 0 < iWM n i m j := by rw [e]; omega
    have W := v_wm ha hb n1.1 n1.2 m1.1 m1.2 h g
    have W2 := v_wm hb ha m1.1 m1.2 n1.1 n1.2 g h
    rw [if_neg (fun z => l ((p_le ha hb).mp z)), if_neg (fun z => q ((p_lt p_k0 W).mp z)), if_pos (p_ext W ((p_neg W2 rn).trans e.symm))]
theorem so_wd {a : Int64} {n : Int} (ha : a.toInt = n) (h1 : -4371587 ≤ n) (h2 : n ≤ 2932896) : f_X1_weekdayOf (a + 1) = (f_X1_weekdayOf a - f_X1_weekdayOf a / 7 * 7) + 1 := by
  have b1 : -1000000000000 ≤ n ∧ n ≤ 1000000000000 := by omega
  have b2 : -1000000000000 ≤ n + 1 ∧ n + 1 ≤ 1000000000000 := by omega
  have b3 : -9223372036854775808 ≤ n + 1 ∧ n + 1 < 9223372036854775808 := by omega
  have c0 : ¬ ((n + 3) % 7 + 1 < 0 ∧ ((n + 3) % 7 + 1) % 7 ≠ 0) := by omega
  have c1 : -2147483648 ≤ (n + 3) % 7 + 1 - ((n + 3) % 7 + 1 - ((n + 3) % 7 + 1) % 7) ∧ (n + 3) % 7 + 1 - ((n + 3) % 7 + 1 - ((n + 3) % 7 + 1) % 7) < 2147483648 := by omega
  have c2 : -2147483648 ≤ (n + 3) % 7 + 1 - ((n + 3) % 7 + 1 - ((n + 3) % 7 + 1) % 7) + 1 ∧ (n + 3) % 7 + 1 - ((n + 3) % 7 + 1 - ((n + 3) % 7 + 1) % 7) + 1 < 2147483648 := by omega
  have e : (n + 1 + 3) % 7 + 1 = (n + 3) % 7 + 1 - ((n + 3) % 7 + 1 - ((n + 3) % 7 + 1) % 7) + 1 := by omega
  have w := v_wd ha b1.1 b1.2
  have w1 := v_wd (p_add ha p_k1 b3.1 b3.2) b2.1 b2.2
  have q := p_qb32 w p_w7 (by decide)
  rw [if_neg c0] at q
  exact p_ext32 (w1.trans e) (p_add32 (p_sub32 w q c1.1 c1.2) p_w1 c2.1 c2.2)
theorem so_day {a : Int64} (h1 : -4371587 ≤ a.toInt) (h2 : a.toInt ≤ 2932896) : f_X2_isSoundDay a = 1 := by
  obtain ⟨i, hi, i1, i2⟩ := dt_m h1 h2
  obtain ⟨n, hn⟩ : ∃ n : Int, a.toInt = n := ⟨_, rfl⟩
  rw [hn] at h1 h2 hi
  have D := iM_dim hi
  have L := iM_ML i
  have L2 := iM_ML (i + 1)
  have s1 := iFM_succ i
  have s2 := iFM_succ (i + 1)
  have fr := iFM_r2 (i := i) (by omega) (by omega)
  have b1 : -10000000000 ≤ n ∧ n ≤ 10000000000 := by omega
  have b3 : -10000000000 ≤ n + 1 ∧ n + 1 ≤ 10000000000 := by omega
  have b4 : -9223372036854775808 ≤ n + 1 ∧ n + 1 < 9223372036854775808 := by omega
  have b5 : -9223372036854775808 ≤ iFM i + (n - iFM i + 1) ∧ iFM i + (n - iFM i + 1) < 9223372036854775808 := by omega
  have b6 : -9223372036854775808 ≤ iFM i + (n - iFM i + 1) - 1 ∧ iFM i + (n - iFM i + 1) - 1 < 9223372036854775808 := by omega
  have b7 : iFM i + (n - iFM i + 1) - 1 = n := by omega
  have b8 : -1000000000 ≤ i + 1 ∧ i + 1 ≤ 1000000000 := by omega
  have b9 : -9223372036854775808 ≤ i + 1 ∧ i + 1 < 9223372036854775808 := by omega
  have ba : -1000000000 ≤ i + 1 + -1 ∧ i + 1 + -1 ≤ 1000000000 := by omega
  have bb : i + 1 + -1 = i := by omega
  have bc : -1000000000 ≤ i ∧ i ≤ 1000000000 := by omega
  have dl := iDL_r2 (i := i + 1) (q := n - iFM i + 1) (by omega) (by omega) D.1
  have be : -10000000000 ≤ iDL (i + 1) (n - iFM i + 1) ∧ iDL (i + 1) (n - iFM i + 1) ≤ 10000000000 := by omega
  have bf : -1000000 ≤ (if iML ((i + 1) / 12) ((i + 1) % 12 + 1) < n - iFM i + 1 then iML ((i + 1) / 12) ((i + 1) % 12 + 1) else n - iFM i + 1) ∧ (if iML ((i + 1) / 12) ((i + 1) % 12 + 1) < n - iFM i + 1 then iML ((i + 1) / 12) ((i + 1) % 12 + 1) else n - iFM i + 1) ≤ 1000000 := by
    split <;> omega
  have bg : iDL (i + 1) (n - iFM i + 1) - iFM (i + 1) + 1 = (if iML ((i + 1) / 12) ((i + 1) % 12 + 1) < n - iFM i + 1 then iML ((i + 1) / 12) ((i + 1) % 12 + 1) else n - iFM i + 1) := by
    unfold iDL
    generalize (if iML ((i + 1) / 12) ((i + 1) % 12 + 1) < n - iFM i + 1 then iML ((i + 1) / 12) ((i + 1) % 12 + 1) else n - iFM i + 1) = x
    omega
  have nx : n - iFM i + 1 = iML (i / 12) (i % 12 + 1) → iM (n + 1) (i + 1) ∧ n + 1 - iFM (i + 1) + 1 = 1 := fun c => ⟨⟨by omega, by omega⟩, by omega⟩
  have ny : ¬ n - iFM i + 1 = iML (i / 12) (i % 12 + 1) → iM (n + 1) i ∧ n + 1 - iFM i + 1 = n - iFM i + 1 + 1 := fun c => ⟨⟨by omega, by omega⟩, by omega⟩
  have bi : -2147483648 ≤ n - iFM i + 1 + 1 ∧ n - iFM i + 1 + 1 < 2147483648 := by omega
  have bj : ¬ (1 ≤ n - iFM i + 1 ∧ n - iFM i + 1 ≤ iML (i / 12) (i % 12 + 1)) → False := fun z => z D
  clear L L2 s1 s2 fr dl
  have hm := v_mi hn b1.1 b1.2 hi
  have hd := v_dim hn b1.1 b1.2 hi
  have hl := v_lm hn b1.1 b1.2 hi
  have hf := v_fm1 hn b1.1 b1.2 hi
  have a1 := p_add hn p_k1 b4.1 b4.2
  have m1 := p_add hm p_k1 b9.1 b9.2
  have w := so_wd hn h1 h2
  obtain ⟨_, dy, _⟩ := v_dayR hn h1 h2
  have e1 : f_X1_firstOfMonth (f_X1_monthOfDay a) + (f_X1_dayInMonth a).toInt64 - 1 = a := p_ext ((p_sub (p_add hf (p_w hd) b5.1 b5.2) p_k1 b6.1 b6.2).trans b7) hn
  have J2 : f_X2_isSoundDay_j2 a = 1 := by
    unfold f_X2_isSoundDay_j2
    rcases v_in32 (a := f_X1_dayInMonth a) (b := 1) hd p_k1 (p_w hl) with ⟨_, _, z⟩ | ⟨z, _⟩
    · rw [dy, if_neg (by decide), z, if_neg (by decide), if_pos e1]
    · exact (bj z).elim
  have p1 := v_pm hn p_k1 b1.1 b1.2 hi b8.1 b8.2
  have p2 := v_pm p1 p_neg1 be.1 be.2 (iDL_in D.1) ba.1 ba.2
  rw [bb, bg] at p2
  have ll := v_lom m1
  have c := p_lt32 ll hd
  have mv : (if f_X1_lengthOfMonth (f_X1_monthOfDay a + 1) < f_X1_dayInMonth a then f_X1_lengthOfMonth (f_X1_monthOfDay a + 1) else f_X1_dayInMonth a).toInt = (if iML ((i + 1) / 12) ((i + 1) % 12 + 1) < n - iFM i + 1 then iML ((i + 1) / 12) ((i + 1) % 12 + 1) else n - iFM i + 1) := by
    by_cases z : iML ((i + 1) / 12) ((i + 1) % 12 + 1) < n - iFM i + 1
    · rw [if_pos (c.mpr z), if_pos z]; exact ll
    · rw [if_neg (fun y => z (c.mp y)), if_neg z]; exact hd
  have F := p_ext p2 (v_dol hm (p_w mv) bc.1 bc.2 bf.1 bf.2)
  unfold f_X2_isSoundDay
  by_cases k : n - iFM i + 1 = iML (i / 12) (i % 12 + 1)
  · obtain ⟨hx, dx⟩ := nx k
    have J1 : f_X2_isSoundDay_j1 a = 1 := by
      unfold f_X2_isSoundDay_j1
      exact if_pos ((p_eq32 hd hl).mpr k)
    have J6 : f_X2_isSoundDay_j6 a = 1 := by
      unfold f_X2_isSoundDay_j6
      rw [if_pos (p_ext (v_mi a1 b3.1 b3.2 hx) m1), if_pos (p_ext32 ((v_dim a1 b3.1 b3.2 hx).trans dx) p_w1), if_pos w]
    rw [J1, if_neg (by decide), J2, if_neg (by decide), J6, if_neg (by decide), if_pos F]
  · obtain ⟨hx, dx⟩ := ny k
    have J1 : f_X2_isSoundDay_j1 a = 0 := by
      unfold f_X2_isSoundDay_j1
      exact if_neg (fun z => k ((p_eq32 hd hl).mp z))
    have J3 : f_X2_isSoundDay_j3 a = 1 := by
      unfold f_X2_isSoundDay_j3
      rw [if_pos (p_ext (v_mi a1 b3.1 b3.2 hx) hm), if_pos (p_ext32 ((v_dim a1 b3.1 b3.2 hx).trans dx) (p_add32 hd p_w1 bi.1 bi.2)), if_pos w]
    rw [J1, if_pos rfl, J2, if_neg (by decide), J3, if_neg (by decide), if_pos F]
theorem st_i (T D : Int) (h1 : 0 ≤ T + D) (h2 : T + D < 86400000000000) : (T + D / 1000000000 % 86400 * 1000000000 + D % 1000000000) % 86400000000000 = T + D := by omega
theorem so_time {t u : Int64} (t1 : 0 ≤ t.toInt) (t2 : t.toInt ≤ 86399999999999) (u1 : 0 ≤ u.toInt) (u2 : u.toInt ≤ 86399999999999) : f_X2_isSoundTimeWay t u = 1 := by
  have B1 : -9223372036854775808 ≤ u.toInt - t.toInt ∧ u.toInt - t.toInt < 9223372036854775808 := by omega
  have B2 : -9223372036854775808 ≤ t.toInt + (u.toInt - t.toInt) / 1000000000 % 86400 * 1000000000 ∧ t.toInt + (u.toInt - t.toInt) / 1000000000 % 86400 * 1000000000 < 9223372036854775808 := by omega
  have B3 : -9223372036854775808 ≤ t.toInt + (u.toInt - t.toInt) / 1000000000 % 86400 * 1000000000 + (u.toInt - t.toInt) % 1000000000 ∧ t.toInt + (u.toInt - t.toInt) / 1000000000 % 86400 * 1000000000 + (u.toInt - t.toInt) % 1000000000 < 9223372036854775808 := by omega
  have i1 := st_i t.toInt (u.toInt - t.toInt) (by omega) (by omega)
  have i2 : t.toInt + (u.toInt - t.toInt) = u.toInt := by omega
  clear t1 t2 u1 u2
  have KB := (show (1000000000 : Int64).toInt = 1000000000 from rfl)
  have d := p_sub (rfl : u.toInt = _) (rfl : t.toInt = _) B1.1 B1.2
  have r := v_ros (v_fd d KB (by decide))
  have f := v_fm d KB (by decide)
  have g : (f_X0_roundDay ((t + f_X0_restOfDay (f_J9_floorDiv_f86c9 (u - t) 1000000000) 86400) + f_J9_floorMod_f86c9 (u - t) 1000000000)).toInt = _ := v_fm (p_add (p_add (rfl : t.toInt = _) r B2.1 B2.2) f B3.1 B3.2) p_day (by decide)
  unfold f_X2_isSoundTimeWay
  exact if_pos (p_ext ((g.trans i1).trans i2) rfl)
theorem sm_i (A C T U : Int) (t1 : 0 ≤ T) (t2 : T < 86400000000000) (u1 : 0 ≤ U) (u2 : U < 86400000000000) : A + ((C - A) * 86400 + (U - T) / 1000000000) / 86400 + (T + ((C - A) * 86400 + (U - T) / 1000000000) % 86400 * 1000000000 + (U - T) % 1000000000) / 86400000000000 = C ∧ (T + ((C - A) * 86400 + (U - T) / 1000000000) % 86400 * 1000000000 + (U - T) % 1000000000) % 86400000000000 = U := by
  have a : ((C - A) * 86400 + (U - T) / 1000000000) / 86400 = C - A + (U - T) / 1000000000 / 86400 := by omega
  have b : ((C - A) * 86400 + (U - T) / 1000000000) % 86400 = (U - T) / 1000000000 % 86400 := by omega
  rw [a, b]
  constructor <;> omega
theorem so_mom {mD mT : Nat → Int64} (N : iN mD mT) {p q : Int32} (hp : vp_in p 4) (hq : vp_in q 4) : f_X2_isSoundMomentWay mD mT p q = 1 := by
  obtain ⟨⟨a1, a2⟩, t1, t2⟩ := iN_at N hp
  obtain ⟨⟨c1, c2⟩, u1, u2⟩ := iN_at N hq
  unfold f_X2_isSoundMomentWay
  generalize mD p.toNatClampNeg = a at a1 a2 ⊢
  generalize mD q.toNatClampNeg = c at c1 c2 ⊢
  generalize mT p.toNatClampNeg = t at t1 t2 ⊢
  generalize mT q.toNatClampNeg = u at u1 u2 ⊢
  have B1 : -9223372036854775808 ≤ c.toInt - a.toInt ∧ c.toInt - a.toInt < 9223372036854775808 := by omega
  have B2 : -9223372036854775808 ≤ (c.toInt - a.toInt) * 86400 ∧ (c.toInt - a.toInt) * 86400 < 9223372036854775808 := by omega
  have B3 : -9223372036854775808 ≤ u.toInt - t.toInt ∧ u.toInt - t.toInt < 9223372036854775808 := by omega
  have B4 : -9223372036854775808 ≤ ((c.toInt - a.toInt) * 86400 + (u.toInt - t.toInt) / 1000000000) ∧ ((c.toInt - a.toInt) * 86400 + (u.toInt - t.toInt) / 1000000000) < 9223372036854775808 := by omega
  have B5 : -9223372036854775808 ≤ t.toInt + ((c.toInt - a.toInt) * 86400 + (u.toInt - t.toInt) / 1000000000) % 86400 * 1000000000 ∧ t.toInt + ((c.toInt - a.toInt) * 86400 + (u.toInt - t.toInt) / 1000000000) % 86400 * 1000000000 < 9223372036854775808 := by omega
  have B6 : -9223372036854775808 ≤ t.toInt + ((c.toInt - a.toInt) * 86400 + (u.toInt - t.toInt) / 1000000000) % 86400 * 1000000000 + (u.toInt - t.toInt) % 1000000000 ∧ t.toInt + ((c.toInt - a.toInt) * 86400 + (u.toInt - t.toInt) / 1000000000) % 86400 * 1000000000 + (u.toInt - t.toInt) % 1000000000 < 9223372036854775808 := by omega
  have B7 : -9223372036854775808 ≤ a.toInt + ((c.toInt - a.toInt) * 86400 + (u.toInt - t.toInt) / 1000000000) / 86400 ∧ a.toInt + ((c.toInt - a.toInt) * 86400 + (u.toInt - t.toInt) / 1000000000) / 86400 < 9223372036854775808 := by omega
  have B8 : -9223372036854775808 ≤ a.toInt + ((c.toInt - a.toInt) * 86400 + (u.toInt - t.toInt) / 1000000000) / 86400 + (t.toInt + ((c.toInt - a.toInt) * 86400 + (u.toInt - t.toInt) / 1000000000) % 86400 * 1000000000 + (u.toInt - t.toInt) % 1000000000) / 86400000000000 ∧ a.toInt + ((c.toInt - a.toInt) * 86400 + (u.toInt - t.toInt) / 1000000000) / 86400 + (t.toInt + ((c.toInt - a.toInt) * 86400 + (u.toInt - t.toInt) / 1000000000) % 86400 * 1000000000 + (u.toInt - t.toInt) % 1000000000) / 86400000000000 < 9223372036854775808 := by omega
  have i1 := sm_i a.toInt c.toInt t.toInt u.toInt t1 (by omega) u1 (by omega)
  clear t1 t2 u1 u2 a1 a2 c1 c2
  have KB := (show (1000000000 : Int64).toInt = 1000000000 from rfl)
  have K := (show (86400 : Int64).toInt = 86400 from rfl)
  have d := p_sub (rfl : u.toInt = _) (rfl : t.toInt = _) B3.1 B3.2
  have s := p_add (p_mul (p_sub (rfl : c.toInt = _) (rfl : a.toInt = _) B1.1 B1.2) K B2.1 B2.2) (v_fd d KB (by decide)) B4.1 B4.2
  have g1 : (f_X0_daysOf ((c - a) * 86400 + f_J9_floorDiv_f86c9 (u - t) 1000000000) 86400).toInt = ((c.toInt - a.toInt) * 86400 + (u.toInt - t.toInt) / 1000000000) / 86400 := by
    unfold f_X0_daysOf
    rw [if_neg (by decide)]; exact v_fd s K (by decide)
  have g2 := p_add (p_add (rfl : t.toInt = _) (v_ros s) B5.1 B5.2) (v_fm d KB (by decide)) B6.1 B6.2
  have g3 := p_add (p_add (rfl : a.toInt = _) g1 B7.1 B7.2) (v_fd g2 p_day (by decide)) B8.1 B8.2
  have g4 : (f_X0_roundDay ((t + f_X0_restOfDay ((c - a) * 86400 + f_J9_floorDiv_f86c9 (u - t) 1000000000) 86400) + f_J9_floorMod_f86c9 (u - t) 1000000000)).toInt = _ := v_fm g2 p_day (by decide)
  rw [if_pos (p_ext (g3.trans i1.1) rfl), if_pos (p_ext (g4.trans i1.2) rfl)]
def fk_g : FP.Core.Datum → Prop
  | .nan => False
  | .inf _ => True
  | .fin _ c q => c < 9007199254740992 ∧ q ≤ 971
theorem fk_t : FP.Core.b64.tails = 4503599627370496 := by decide
theorem fk_x : FP.Core.b64.exps = 2048 := by decide
theorem fk_m : FP.Core.b64.qmin = -1074 := by decide
theorem fk_M : FP.Core.b64.qmax = 971 := by decide
theorem fk_p : 2 ^ FP.Core.b64.p = 9007199254740992 := by decide
theorem fk_enc {d : FP.Core.Datum} (h : fk_g d) : FP.Core.encode FP.Core.b64 d % 9223372036854775808 ≤ 9218868437227405312 ∧ FP.Core.encode FP.Core.b64 d < 18446744073709551616 := by
  cases d with
  | nan => exact h.elim
  | inf s => cases s <;> decide
  | fin s c q =>
    obtain ⟨h1, h2⟩ := h
    have hs : s.toNat ≤ 1 := by cases s <;> decide
    unfold FP.Core.encode FP.Core.assemble
    rw [fk_t, fk_x, fk_m]
    dsimp only
    generalize s.toNat = b at hs ⊢
    by_cases k : c < 4503599627370496
    · rw [if_pos k]; omega
    · rw [if_neg k]; omega
theorem fk_bound (s : Bool) (c : Nat) (q : Int) (h : c < 9007199254740992) : fk_g (FP.Core.bound FP.Core.b64 s c q) := by
  unfold FP.Core.bound
  rw [fk_M]
  by_cases k : q ≤ 971
  · rw [if_pos k]; exact ⟨h, k⟩
  · rw [if_neg k]; exact trivial
theorem fk_rr (s : Bool) (a b : Nat) (e : Int) : fk_g (FP.Core.roundRatio FP.Core.b64 s a b e) := by
  unfold FP.Core.roundRatio
  by_cases k : a = 0
  · rw [if_pos k, fk_m]; exact ⟨by decide, by decide⟩
  · rw [if_neg k]
    unfold FP.Core.roundAt
    generalize FP.Core.nearest _ _ = c
    generalize FP.Core.quantum _ _ _ _ = q
    unfold FP.Core.settle
    rw [fk_p]
    by_cases w : c < 9007199254740992
    · rw [if_pos w]; exact fk_bound s c q w
    · rw [if_neg w, fk_t]; exact fk_bound s _ _ (by decide)
theorem fk_dec {n : Nat} (h : n % 9223372036854775808 ≤ 9218868437227405312) : FP.Core.decode FP.Core.b64 n ≠ .nan := by
  intro g
  unfold FP.Core.decode FP.Core.fieldE FP.Core.fieldT at g
  rw [fk_t, fk_x] at g
  by_cases a : n / 4503599627370496 % 2048 = 2048 - 1
  · rw [if_pos a] at g
    by_cases b : n % 4503599627370496 = 0
    · rw [if_pos b] at g; cases g
    · omega
  · rw [if_neg a] at g
    by_cases b : n / 4503599627370496 % 2048 = 0
    · rw [if_pos b] at g; cases g
    · rw [if_neg b] at g; cases g
theorem fk_q {d : FP.Core.Datum} (h : d ≠ .nan) (c : Nat) (q : Int) (hc : ¬ c = 0) : fk_g (FP.Core.quotient FP.Core.b64 d (.fin false c q)) := by
  cases d with
  | nan => exact absurd rfl h
  | inf s => exact trivial
  | fin s a e =>
    show fk_g (if c = 0 then _ else FP.Core.roundRatio FP.Core.b64 (s != false) a c (e - q))
    rw [if_neg hc]
    exact fk_rr _ _ _ _
theorem fk_vf {n : Nat} (h : n % 9223372036854775808 ≤ 9218868437227405312) (h2 : n < 18446744073709551616) : vf_n64 (UInt64.ofNat n) := by
  unfold vf_n64
  rw [UInt64.le_iff_toNat_le, UInt64.toNat_and, UInt64.toNat_ofNat_of_lt' h2]
  show n &&& 9223372036854775807 ≤ 9218868437227405312
  rw [show (9223372036854775807 : Nat) = 2 ^ 63 - 1 from rfl, Nat.and_two_pow_sub_one_eq_mod]
  exact h
theorem fk_six : FP.Core.decode FP.Core.b64 (4618441417868443648 : UInt64).toNat = .fin false 6755399441055744 (-50) := by decide +kernel
theorem fk_l (x : Int64) : FP.Core.decode FP.Core.b64 (FP.Core.l2d x).toNat ≠ .nan := by
  obtain ⟨a, b⟩ := fk_enc (fk_rr (decide (x.toInt < 0)) x.toInt.natAbs 1 0)
  show FP.Core.decode FP.Core.b64 (UInt64.ofNat (FP.Core.encode FP.Core.b64 (FP.Core.roundRatio FP.Core.b64 (decide (x.toInt < 0)) x.toInt.natAbs 1 0))).toNat ≠ .nan
  rw [UInt64.toNat_ofNat_of_lt' b]
  exact fk_dec a
theorem mean_vf (x : Int64) : vf_n64 (FP.ddiv (FP.l2d x) 4618441417868443648) := by
  show vf_n64 (UInt64.ofNat (FP.Core.encode FP.Core.b64 (FP.Core.quotient FP.Core.b64 (FP.Core.decode FP.Core.b64 (FP.Core.l2d x).toNat) (FP.Core.decode FP.Core.b64 (4618441417868443648 : UInt64).toNat))))
  rw [fk_six]
  obtain ⟨a, b⟩ := fk_enc (fk_q (fk_l x) 6755399441055744 (-50) (by decide))
  exact fk_vf a b
theorem fk_ord {d : FP.Core.Datum} (h : d ≠ .nan) : FP.Core.order d d = some .eq := by
  cases d with
  | nan => exact absurd rfl h
  | inf s => cases s <;> decide
  | fin s c q =>
    show some (compare _ _) = some .eq
    generalize FP.Core.signed s (FP.Core.inUnits c q (min q q)) = z
    simp [compare, compareOfLessAndEq]
theorem mean_eq (x : Int64) : Op.cmpValue (FP.dcmp (FP.ddiv (FP.l2d x) 4618441417868443648) (FP.ddiv (FP.l2d x) 4618441417868443648)) .l = 0 := by
  have k : FP.Core.decode FP.Core.b64 (FP.ddiv (FP.l2d x) 4618441417868443648).toNat ≠ .nan := by
    show FP.Core.decode FP.Core.b64 (UInt64.ofNat (FP.Core.encode FP.Core.b64 (FP.Core.quotient FP.Core.b64 (FP.Core.decode FP.Core.b64 (FP.Core.l2d x).toNat) (FP.Core.decode FP.Core.b64 (4618441417868443648 : UInt64).toNat)))).toNat ≠ .nan
    rw [fk_six]
    obtain ⟨a, b⟩ := fk_enc (fk_q (fk_l x) 6755399441055744 (-50) (by decide))
    rw [UInt64.toNat_ofNat_of_lt' b]
    exact fk_dec a
  generalize FP.ddiv (FP.l2d x) 4618441417868443648 = w at k ⊢
  rw [show FP.dcmp w w = some .eq from fk_ord k]
  rfl
theorem share_k (k : Int32) (h : k = 0 ∨ k = 1 ∨ k = 2 ∨ k = 3 ∨ k = 4 ∨ k = 5 ∨ k = 6) : vf_n32 (FP.fdiv (FP.i2f k) 1086324736) ∧ vf_n64 (FP.f2d (FP.fdiv (FP.i2f k) 1086324736)) ∧ Op.cmpValue (FP.dcmp (FP.f2d (FP.fdiv (FP.i2f k) 1086324736)) (FP.f2d (FP.fdiv (FP.i2f k) 1086324736))) .l = 0 := by
  unfold vf_n32 vf_n64
  rcases h with h | h | h | h | h | h | h <;> subst h <;> decide +kernel
theorem ls_add (c x : Int32) : (if c = 0 then x else x + 1) = x + (if c = 0 then 0 else 1) := by
  by_cases h : c = 0
  · rw [if_pos h, if_pos h, Int32.add_zero]
  · rw [if_neg h, if_neg h]
theorem ls_01 (c : Int32) : ∃ k : Int, (if c = 0 then (0 : Int32) else 1).toInt = k ∧ 0 ≤ k ∧ k ≤ 1 := by
  by_cases h : c = 0
  · rw [if_pos h]; exact ⟨0, rfl, by decide, by decide⟩
  · rw [if_neg h]; exact ⟨1, rfl, by decide, by decide⟩
theorem ls_k {k : Int32} {n : Int} (h : k.toInt = n) (h1 : 0 ≤ n) (h2 : n ≤ 6) : k = 0 ∨ k = 1 ∨ k = 2 ∨ k = 3 ∨ k = 4 ∨ k = 5 ∨ k = 6 := by
  have c : n = 0 ∨ n = 1 ∨ n = 2 ∨ n = 3 ∨ n = 4 ∨ n = 5 ∨ n = 6 := by omega
  rcases c with c | c | c | c | c | c | c <;> subst c
  · exact Or.inl (p_ext32 h rfl)
  · exact Or.inr (Or.inl (p_ext32 h rfl))
  · exact Or.inr (Or.inr (Or.inl (p_ext32 h rfl)))
  · exact Or.inr (Or.inr (Or.inr (Or.inl (p_ext32 h rfl))))
  · exact Or.inr (Or.inr (Or.inr (Or.inr (Or.inl (p_ext32 h rfl)))))
  · exact Or.inr (Or.inr (Or.inr (Or.inr (Or.inr (Or.inl (p_ext32 h rfl))))))
  · exact Or.inr (Or.inr (Or.inr (Or.inr (Or.inr (Or.inr (p_ext32 h rfl))))))
theorem ls_long {a : Int64} (h1 : -4371587 ≤ a.toInt) (h2 : a.toInt ≤ 2932896) : pre_X3_parts a ∧ f_X3_isLong (s_X3_parts_yr a) = f_X1_isLongYear (f_X1_yearOfDay a) := by
  obtain ⟨i, hi, i1, i2⟩ := dt_m h1 h2
  have b : -10000000000 ≤ a.toInt ∧ a.toInt ≤ 10000000000 := by omega
  have b2 : -4611686018427387904 ≤ i / 12 := by omega
  obtain ⟨p, e1, _, _⟩ := m_pt (rfl : a.toInt = _) b.1 b.2 hi
  exact ⟨p, p_ext32 (m_long e1 b2) (v_long (v_yd rfl b.1 b.2 hi))⟩
theorem ls_sum (c0 c1 c2 c3 c4 c5 : Int32) : ∃ k : Int32, (k = 0 ∨ k = 1 ∨ k = 2 ∨ k = 3 ∨ k = 4 ∨ k = 5 ∨ k = 6) ∧ ((((((0 + (if c0 = 0 then 0 else 1)) + (if c1 = 0 then 0 else 1)) + (if c2 = 0 then 0 else 1)) + (if c3 = 0 then 0 else 1)) + (if c4 = 0 then 0 else 1)) + (if c5 = 0 then 0 else 1) : Int32) = k := by
  obtain ⟨k0, e0, a0, b0⟩ := ls_01 c0
  obtain ⟨k1, e1, a1, b1⟩ := ls_01 c1
  obtain ⟨k2, e2, a2, b2⟩ := ls_01 c2
  obtain ⟨k3, e3, a3, b3⟩ := ls_01 c3
  obtain ⟨k4, e4, a4, b4⟩ := ls_01 c4
  obtain ⟨k5, e5, a5, b5⟩ := ls_01 c5
  generalize (if c0 = 0 then (0 : Int32) else 1) = x0 at e0 ⊢
  generalize (if c1 = 0 then (0 : Int32) else 1) = x1 at e1 ⊢
  generalize (if c2 = 0 then (0 : Int32) else 1) = x2 at e2 ⊢
  generalize (if c3 = 0 then (0 : Int32) else 1) = x3 at e3 ⊢
  generalize (if c4 = 0 then (0 : Int32) else 1) = x4 at e4 ⊢
  generalize (if c5 = 0 then (0 : Int32) else 1) = x5 at e5 ⊢
  have s := p_add32 (p_add32 (p_add32 (p_add32 (p_add32 (p_add32 p_w0 e0 (by omega) (by omega)) e1 (by omega) (by omega)) e2 (by omega) (by omega)) e3 (by omega) (by omega)) e4 (by omega) (by omega)) e5 (by omega) (by omega)
  exact ⟨_, ls_k s (by omega) (by omega), rfl⟩
set_option maxHeartbeats 4000000 in
set_option maxRecDepth 100000 in
theorem i_c45 (d : Nat → Int64) (sy : Nat → Int32) (sm : Nat → Int32) (sd : Nat → Int32) (mi : Nat → Int32) (ti : Nat → Int64) (sL : Nat → Int64) (bL : Nat → Int64) (mD : Nat → Int64) (mT : Nat → Int64) (ou : Nat → Int64) (q1 q2 q3 q4 q5 : Int32) (I : iInv d sy sm sd mi ti sL bL mD mT) : pre_Lc45 d := by
  obtain ⟨p0, e0⟩ := ls_long (I.1 0 (by decide)).1 (I.1 0 (by decide)).2
  obtain ⟨p1, e1⟩ := ls_long (I.1 1 (by decide)).1 (I.1 1 (by decide)).2
  obtain ⟨p2, e2⟩ := ls_long (I.1 2 (by decide)).1 (I.1 2 (by decide)).2
  obtain ⟨p3, e3⟩ := ls_long (I.1 3 (by decide)).1 (I.1 3 (by decide)).2
  obtain ⟨p4, e4⟩ := ls_long (I.1 4 (by decide)).1 (I.1 4 (by decide)).2
  obtain ⟨p5, e5⟩ := ls_long (I.1 5 (by decide)).1 (I.1 5 (by decide)).2
  obtain ⟨k, hk, hs⟩ := ls_sum (f_X1_isLongYear (f_X1_yearOfDay (d 0))) (f_X1_isLongYear (f_X1_yearOfDay (d 1))) (f_X1_isLongYear (f_X1_yearOfDay (d 2))) (f_X1_isLongYear (f_X1_yearOfDay (d 3))) (f_X1_isLongYear (f_X1_yearOfDay (d 4))) (f_X1_isLongYear (f_X1_yearOfDay (d 5)))
  have A : f_X2_longShare_j6 d = k := by
    unfold f_X2_longShare_j6 f_X2_longShare_j5 f_X2_longShare_j4 f_X2_longShare_j3 f_X2_longShare_j2 f_X2_longShare_j1
    rw [← hs, ls_add, ls_add, ls_add, ls_add, ls_add, Int32.zero_add]
  have M : (((((0 + f_X3_longShare_j1 d) + f_X3_longShare_j2 d) + f_X3_longShare_j3 d) + f_X3_longShare_j4 d) + f_X3_longShare_j5 d) + f_X3_longShare_j6 d = k := by
    unfold f_X3_longShare_j1 f_X3_longShare_j2 f_X3_longShare_j3 f_X3_longShare_j4 f_X3_longShare_j5 f_X3_longShare_j6
    rw [e0, e1, e2, e3, e4, e5]
    exact hs
  obtain ⟨v1, v2, v3⟩ := share_k k hk
  unfold pre_Lc45 pre_X2_longShare pre_X3_longShare f_X2_longShare f_X3_longShare
  rw [A, M]
  exact ⟨v1, v2, ⟨p0, p1, p2, p3, p4, p5, v1⟩, v2, v3⟩
set_option maxHeartbeats 4000000 in
set_option maxRecDepth 100000 in
theorem i_c46 (d : Nat → Int64) (sy : Nat → Int32) (sm : Nat → Int32) (sd : Nat → Int32) (mi : Nat → Int32) (ti : Nat → Int64) (sL : Nat → Int64) (bL : Nat → Int64) (mD : Nat → Int64) (mT : Nat → Int64) (ou : Nat → Int64) (q1 q2 q3 q4 q5 : Int32) (I : iInv d sy sm sd mi ti sL bL mD mT) : pre_Lc46 d := by
  exact ⟨mean_vf _, mean_vf _, mean_eq _⟩
theorem ck_m (x : Int32) (h1 : -119988 ≤ x.toInt) (h2 : x.toInt ≤ 119999) : f_X3_floor x.toInt64 12 = f_X1_yearOfMonth x.toInt64 ∧ (f_X1_monthInYear x.toInt64).toInt64 = 1 + f_X3_rest x.toInt64 12 := by
  have b : -4611686018427387904 ≤ x.toInt := by omega
  have c : -9223372036854775808 ≤ 1 + x.toInt % 12 ∧ 1 + x.toInt % 12 < 9223372036854775808 := by omega
  have e : x.toInt % 12 + 1 = 1 + x.toInt % 12 := by omega
  have X := p_w (rfl : x.toInt = _)
  exact ⟨p_ext (m_fl X p_k12 (by decide) b (by decide)) (v_yom X), p_ext ((p_w (v_miy X)).trans e) (p_add p_k1 (m_rs X p_k12 (by decide) b (by decide)) c.1 c.2)⟩
set_option maxHeartbeats 4000000 in
set_option maxRecDepth 100000 in
theorem i_c47 (d : Nat → Int64) (sy : Nat → Int32) (sm : Nat → Int32) (sd : Nat → Int32) (mi : Nat → Int32) (ti : Nat → Int64) (sL : Nat → Int64) (bL : Nat → Int64) (mD : Nat → Int64) (mT : Nat → Int64) (ou : Nat → Int64) (q1 q2 q3 q4 q5 : Int32) (I : iInv d sy sm sd mi ti sL bL mD mT) : pre_Lc47 d sy sm sd mi ti sL bL mD mT := by
  obtain ⟨f0, g0⟩ := ck_m (mi 0) (I.2.2.2.2.1 0 (by decide)).1 (I.2.2.2.2.1 0 (by decide)).2
  obtain ⟨f1, g1⟩ := ck_m (mi 1) (I.2.2.2.2.1 1 (by decide)).1 (I.2.2.2.2.1 1 (by decide)).2
  obtain ⟨f2, g2⟩ := ck_m (mi 2) (I.2.2.2.2.1 2 (by decide)).1 (I.2.2.2.2.1 2 (by decide)).2
  obtain ⟨f3, g3⟩ := ck_m (mi 3) (I.2.2.2.2.1 3 (by decide)).1 (I.2.2.2.2.1 3 (by decide)).2
  clear I
  unfold pre_Lc47 f_X2_checksum f_X3_checksum
  simp only [zw_at, f0, f1, f2, f3, g0, g1, g2, g3, Int64.add_assoc]
set_option maxHeartbeats 4000000 in
set_option maxRecDepth 100000 in
theorem i_c48 (d : Nat → Int64) (sy : Nat → Int32) (sm : Nat → Int32) (sd : Nat → Int32) (mi : Nat → Int32) (ti : Nat → Int64) (sL : Nat → Int64) (bL : Nat → Int64) (mD : Nat → Int64) (mT : Nat → Int64) (ou : Nat → Int64) (q1 q2 q3 q4 q5 : Int32) (I : iInv d sy sm sd mi ti sL bL mD mT) : pre_Lc48 d ti mD mT := by
  have sd : ∀ k, k < 6 → f_X2_isSoundDay (d k) = 1 := fun k hk => so_day (I.1 k hk).1 (I.1 k hk).2
  have sz : ∀ k, k < 4 → f_X2_isSoundDay (mD k) = 1 := fun k hk => so_day (I.2.2.2.2.2.2.2 k hk).1.1 (I.2.2.2.2.2.2.2 k hk).1.2
  have sw : ∀ j k, j < 6 → k < 6 → f_X2_isSoundWay (d j) (d k) = 1 := fun j k hj hk => so_way (I.1 j hj).1 (I.1 j hj).2 (I.1 k hk).1 (I.1 k hk).2
  have st : ∀ j k, j < 4 → k < 4 → f_X2_isSoundTimeWay (ti j) (ti k) = 1 := fun j k hj hk => so_time (I.2.2.2.2.2.1 j hj).1 (I.2.2.2.2.2.1 j hj).2 (I.2.2.2.2.2.1 k hk).1 (I.2.2.2.2.2.1 k hk).2
  have sm : ∀ p q : Int32, vp_in p 4 → vp_in q 4 → f_X2_isSoundMomentWay mD mT p q = 1 := fun p q hp hq => so_mom I.2.2.2.2.2.2.2 hp hq
  unfold pre_Lc48 pre_X2_isSound
  exact ⟨⟨sd 0 (by decide), sw 0 0 (by decide) (by decide), sw 0 1 (by decide) (by decide), sw 0 2 (by decide) (by decide), sw 0 3 (by decide) (by decide), sw 0 4 (by decide) (by decide), sw 0 5 (by decide) (by decide), sd 1 (by decide), sw 1 0 (by decide) (by decide), sw 1 1 (by decide) (by decide), sw 1 2 (by decide) (by decide), sw 1 3 (by decide) (by decide), sw 1 4 (by decide) (by decide), sw 1 5 (by decide) (by decide), sd 2 (by decide), sw 2 0 (by decide) (by decide), sw 2 1 (by decide) (by decide), sw 2 2 (by decide) (by decide), sw 2 3 (by decide) (by decide), sw 2 4 (by decide) (by decide), sw 2 5 (by decide) (by decide), sd 3 (by decide), sw 3 0 (by decide) (by decide), sw 3 1 (by decide) (by decide), sw 3 2 (by decide) (by decide), sw 3 3 (by decide) (by decide), sw 3 4 (by decide) (by decide), sw 3 5 (by decide) (by decide), sd 4 (by decide), sw 4 0 (by decide) (by decide), sw 4 1 (by decide) (by decide), sw 4 2 (by decide) (by decide), sw 4 3 (by decide) (by decide), sw 4 4 (by decide) (by decide), sw 4 5 (by decide) (by decide), sd 5 (by decide), sw 5 0 (by decide) (by decide), sw 5 1 (by decide) (by decide), sw 5 2 (by decide) (by decide), sw 5 3 (by decide) (by decide), sw 5 4 (by decide) (by decide), sw 5 5 (by decide) (by decide), sz 0 (by decide), st 0 0 (by decide) (by decide), sm 0 0 (zvpl 0 4 (by decide)) (zvpl 0 4 (by decide)), st 0 1 (by decide) (by decide), sm 0 1 (zvpl 0 4 (by decide)) (zvpl 1 4 (by decide)), st 0 2 (by decide) (by decide), sm 0 2 (zvpl 0 4 (by decide)) (zvpl 2 4 (by decide)), st 0 3 (by decide) (by decide), sm 0 3 (zvpl 0 4 (by decide)) (zvpl 3 4 (by decide)), sz 1 (by decide), st 1 0 (by decide) (by decide), sm 1 0 (zvpl 1 4 (by decide)) (zvpl 0 4 (by decide)), st 1 1 (by decide) (by decide), sm 1 1 (zvpl 1 4 (by decide)) (zvpl 1 4 (by decide)), st 1 2 (by decide) (by decide), sm 1 2 (zvpl 1 4 (by decide)) (zvpl 2 4 (by decide)), st 1 3 (by decide) (by decide), sm 1 3 (zvpl 1 4 (by decide)) (zvpl 3 4 (by decide)), sz 2 (by decide), st 2 0 (by decide) (by decide), sm 2 0 (zvpl 2 4 (by decide)) (zvpl 0 4 (by decide)), st 2 1 (by decide) (by decide), sm 2 1 (zvpl 2 4 (by decide)) (zvpl 1 4 (by decide)), st 2 2 (by decide) (by decide), sm 2 2 (zvpl 2 4 (by decide)) (zvpl 2 4 (by decide)), st 2 3 (by decide) (by decide), sm 2 3 (zvpl 2 4 (by decide)) (zvpl 3 4 (by decide)), sz 3 (by decide), st 3 0 (by decide) (by decide), sm 3 0 (zvpl 3 4 (by decide)) (zvpl 0 4 (by decide)), st 3 1 (by decide) (by decide), sm 3 1 (zvpl 3 4 (by decide)) (zvpl 1 4 (by decide)), st 3 2 (by decide) (by decide), sm 3 2 (zvpl 3 4 (by decide)) (zvpl 2 4 (by decide)), st 3 3 (by decide) (by decide), sm 3 3 (zvpl 3 4 (by decide)) (zvpl 3 4 (by decide))⟩, rfl⟩
end ZSD
