def f_X2_moment (d : Nat → Int64) (ti : Nat → Int64) (p1 : Int32) (p2 : Int32) (p3 : Int32) : Int64 := (if k_X2_checkSlot p1 4 = 0 then (if k_X2_checkSlot p2 6 = 0 then (if k_X2_checkSlot p3 4 = 0 then (if k_X2_keepMoment (d p2.toNatClampNeg) (ti p3.toNatClampNeg) = 0 then (f_X2_keepMoment (d p2.toNatClampNeg) (ti p3.toNatClampNeg)) else 0) else 0) else 0) else 0)
def s_X2_moment_mD (d : Nat → Int64) (ti : Nat → Int64) (mD : Nat → Int64) (p1 : Int32) (p2 : Int32) (p3 : Int32) : Nat → Int64 := (if k_X2_checkSlot p1 4 = 0 then (if k_X2_checkSlot p2 6 = 0 then (if k_X2_checkSlot p3 4 = 0 then (if k_X2_keepMoment (d p2.toNatClampNeg) (ti p3.toNatClampNeg) = 0 then (s_X2_keepMoment_mD mD p1 (d p2.toNatClampNeg) (ti p3.toNatClampNeg)) else mD) else mD) else mD) else mD)
def s_X2_moment_mT (d : Nat → Int64) (ti : Nat → Int64) (mT : Nat → Int64) (p1 : Int32) (p2 : Int32) (p3 : Int32) : Nat → Int64 := (if k_X2_checkSlot p1 4 = 0 then (if k_X2_checkSlot p2 6 = 0 then (if k_X2_checkSlot p3 4 = 0 then (if k_X2_keepMoment (d p2.toNatClampNeg) (ti p3.toNatClampNeg) = 0 then (s_X2_keepMoment_mT mT p1 (d p2.toNatClampNeg) (ti p3.toNatClampNeg)) else mT) else mT) else mT) else mT)
def k_X2_moment (d : Nat → Int64) (ti : Nat → Int64) (p1 : Int32) (p2 : Int32) (p3 : Int32) : Int32 := (if k_X2_checkSlot p1 4 = 0 then (if k_X2_checkSlot p2 6 = 0 then (if k_X2_checkSlot p3 4 = 0 then (if k_X2_keepMoment (d p2.toNatClampNeg) (ti p3.toNatClampNeg) = 0 then 0 else k_X2_keepMoment (d p2.toNatClampNeg) (ti p3.toNatClampNeg)) else k_X2_checkSlot p3 4) else k_X2_checkSlot p2 6) else k_X2_checkSlot p1 4)
theorem q_X2_moment : ZY yX2_moment wsX2_moment cX2_moment 4 (some .long) 3 := ⟨⟨_, rfl⟩, by decide +kernel, by decide +kernel, by decide +kernel⟩
set_option maxHeartbeats 4000000 in
set_option maxRecDepth 100000 in
theorem c_X2_moment (l : Launch) (hfl : l.stackTraces = false) (D : va_G) (cI cJ : ClassId) (X : va_W) (y : Nat → Nat) (d : Nat → Int64) (sy : Nat → Int32) (sm : Nat → Int32) (sd : Nat → Int32) (mi : Nat → Int32) (ti : Nat → Int64) (sL : Nat → Int64) (bL : Nat → Int64) (mD : Nat → Int64) (mT : Nat → Int64) (p1 : Int32) (p2 : Int32) (p3 : Int32)  : ZM l yX2_moment wsX2_moment { frames := 8, cells := 4, slots := 24, locals := 129 } [.ref (y 0), .int p1, .int p2, .int p3] D (zTys cI cJ) (wY cI cJ y d sy sm sd mi ti sL bL mD mT X) 4 24 (fun v w => k_X2_moment d ti p1 p2 p3 = 0 ∧ v = some (.long (f_X2_moment d ti p1 p2 p3)) ∧ w = (wY cI cJ y d sy sm sd mi ti sL bL (s_X2_moment_mD d ti mD p1 p2 p3) (s_X2_moment_mT d ti mT p1 p2 p3) X)) (fun E w => w = (wY cI cJ y d sy sm sd mi ti sL bL mD mT X) ∧ zEx E (k_X2_moment d ti p1 p2 p3)) := by
  refine z_open (own := RX2) hfl (cc := cX2_moment) (maxL := 4) (ret := (some .long)) (lv := [(0, .ref (y 0)), (1, .int p1), (2, .int p2), (3, .int p3)]) rfl (by decide) rfl rfl (Nat.le_of_ble_eq_true rfl) ?_
  intro p e s m args below meth c A C hno hnm hargs
  have hin : ∀ w ∈ wsX20, w ∈ wsX2_moment := by decide +kernel
  have w1 := C.1.2.2.2.2 (.fieldLink RX2 9 "Yearwheel" "dates" "[J") (by decide +kernel)
  have w2 := C.1.2.2.2.2 (.fieldLink RX2 26 "Yearwheel" "times" "[J") (by decide +kernel)
  refine z_iload_n C dX2_moment_0 rfl 1 rfl ?_
  refine z_iconst (v := 4) C dX2_moment_1 (by decide) ?_
  refine z_xsv (rest := []) C (c_X2_checkSlot l hfl D cI cJ _ p1 (4 : Int32) ) q_X2_checkSlot gX2_moment_X2_checkSlot ⟨rfl, rfl⟩ rfl rfl (Nat.le_of_ble_eq_true rfl) ⟨Nat.le_of_ble_eq_true rfl, Nat.le_of_ble_eq_true rfl⟩ ⟨Nat.le_of_ble_eq_true rfl, Nat.le_of_ble_eq_true rfl⟩ dX2_moment_2 (fun h1 => ?_) (fun E h1 h1_E => ?_)
  · refine z_iload_n C dX2_moment_5 rfl 2 rfl ?_
    refine z_bipush (v := 6) C dX2_moment_6 (by decide) ?_
    refine z_xsv (rest := []) C (c_X2_checkSlot l hfl D cI cJ _ p2 (6 : Int32) ) q_X2_checkSlot gX2_moment_X2_checkSlot ⟨rfl, rfl⟩ rfl rfl (Nat.le_of_ble_eq_true rfl) ⟨Nat.le_of_ble_eq_true rfl, Nat.le_of_ble_eq_true rfl⟩ ⟨Nat.le_of_ble_eq_true rfl, Nat.le_of_ble_eq_true rfl⟩ dX2_moment_8 (fun h2 => ?_) (fun E h2 h2_E => ?_)
    · refine z_iload_n C dX2_moment_11 rfl 3 rfl ?_
      refine z_iconst (v := 4) C dX2_moment_12 (by decide) ?_
      refine z_xsv (rest := []) C (c_X2_checkSlot l hfl D cI cJ _ p3 (4 : Int32) ) q_X2_checkSlot gX2_moment_X2_checkSlot ⟨rfl, rfl⟩ rfl rfl (Nat.le_of_ble_eq_true rfl) ⟨Nat.le_of_ble_eq_true rfl, Nat.le_of_ble_eq_true rfl⟩ ⟨Nat.le_of_ble_eq_true rfl, Nat.le_of_ble_eq_true rfl⟩ dX2_moment_13 (fun h3 => ?_) (fun E h3 h3_E => ?_)
      · refine z_aload_n C dX2_moment_16 rfl 0 rfl ?_
        refine z_iload_n C dX2_moment_17 rfl 1 rfl ?_
        refine z_aload_n C dX2_moment_18 rfl 0 rfl ?_
        refine z_get (CC := RX2) (T := TX2) (N := 10) (ci := 2) C hin 0 rfl rfl 0 (by decide) w1 rfl rfl dX2_moment_19 ?_
        refine z_iload_n C dX2_moment_22 rfl 2 rfl ?_
        refine z_lald C 1 1 rfl rfl (vpS6 h2) dX2_moment_23 ?_
        refine z_aload_n C dX2_moment_24 rfl 0 rfl ?_
        refine z_get (CC := RX2) (T := TX2) (N := 10) (ci := 2) C hin 0 rfl rfl 5 (by decide) w2 rfl rfl dX2_moment_25 ?_
        refine z_iload_n C dX2_moment_28 rfl 3 rfl ?_
        refine z_lald C 6 1 rfl rfl (vpS4 h3) dX2_moment_29 ?_
        refine z_xwl (ws' := (wY cI cJ y d sy sm sd mi ti sL bL (s_X2_keepMoment_mD mD p1 (d p2.toNatClampNeg) (ti p3.toNatClampNeg)) (s_X2_keepMoment_mT mT p1 (d p2.toNatClampNeg) (ti p3.toNatClampNeg)) X)) (rest := []) (ci := 2) (q0 := 0) C (c_X2_keepMoment l hfl D cI cJ X y d sy sm sd mi ti sL bL mD mT p1 (d p2.toNatClampNeg) (ti p3.toNatClampNeg) (vpS4 h1)) q_X2_keepMoment rfl rfl rfl gX2_moment_X2_keepMoment ⟨rfl, rfl⟩ rfl rfl (Nat.le_of_ble_eq_true rfl) ⟨Nat.le_of_ble_eq_true rfl, Nat.le_of_ble_eq_true rfl⟩ ⟨Nat.le_of_ble_eq_true rfl, Nat.le_of_ble_eq_true rfl⟩ dX2_moment_30 (fun h4 => ?_) (fun E h4 h4_E => ?_)
        · exact z_lret C ⟨by rw [k_X2_moment, if_pos h1, if_pos h2, if_pos h3, if_pos h4], congrArg (fun v => some (Value.long v)) (by rw [f_X2_moment, if_pos h1, if_pos h2, if_pos h3, if_pos h4] : (f_X2_keepMoment (d p2.toNatClampNeg) (ti p3.toNatClampNeg)) = (f_X2_moment d ti p1 p2 p3)), by rw [s_X2_moment_mD, if_pos h1, if_pos h2, if_pos h3, if_pos h4, s_X2_moment_mT, if_pos h1, if_pos h2, if_pos h3, if_pos h4]⟩ (by decide) (by decide) dX2_moment_33
        · exact z_tout C hno ⟨rfl, by rw [k_X2_moment, if_pos h1, if_pos h2, if_pos h3, if_neg h4]; exact h4_E⟩ (by decide) (by decide)
      · exact z_tout C hno ⟨rfl, by rw [k_X2_moment, if_pos h1, if_pos h2, if_neg h3]; exact h3_E⟩ (by decide) (by decide)
    · exact z_tout C hno ⟨rfl, by rw [k_X2_moment, if_pos h1, if_neg h2]; exact h2_E⟩ (by decide) (by decide)
  · exact z_tout C hno ⟨rfl, by rw [k_X2_moment, if_neg h1]; exact h1_E⟩ (by decide) (by decide)
def f_X2_dateOf (mD : Nat → Int64) (p1 : Int32) (p2 : Int32) : Int64 := (if k_X2_checkSlot p1 4 = 0 then (if k_X2_checkSlot p2 6 = 0 then (if k_X2_keepDate (mD p1.toNatClampNeg) = 0 then (f_X2_keepDate (mD p1.toNatClampNeg)) else 0) else 0) else 0)
def s_X2_dateOf_d (d : Nat → Int64) (mD : Nat → Int64) (p1 : Int32) (p2 : Int32) : Nat → Int64 := (if k_X2_checkSlot p1 4 = 0 then (if k_X2_checkSlot p2 6 = 0 then (if k_X2_keepDate (mD p1.toNatClampNeg) = 0 then (s_X2_keepDate_d d p2 (mD p1.toNatClampNeg)) else d) else d) else d)
def k_X2_dateOf (mD : Nat → Int64) (p1 : Int32) (p2 : Int32) : Int32 := (if k_X2_checkSlot p1 4 = 0 then (if k_X2_checkSlot p2 6 = 0 then (if k_X2_keepDate (mD p1.toNatClampNeg) = 0 then 0 else k_X2_keepDate (mD p1.toNatClampNeg)) else k_X2_checkSlot p2 6) else k_X2_checkSlot p1 4)
theorem q_X2_dateOf : ZY yX2_dateOf wsX2_dateOf cX2_dateOf 3 (some .long) 2 := ⟨⟨_, rfl⟩, by decide +kernel, by decide +kernel, by decide +kernel⟩
set_option maxHeartbeats 4000000 in
set_option maxRecDepth 100000 in
theorem c_X2_dateOf (l : Launch) (hfl : l.stackTraces = false) (D : va_G) (cI cJ : ClassId) (X : va_W) (y : Nat → Nat) (d : Nat → Int64) (sy : Nat → Int32) (sm : Nat → Int32) (sd : Nat → Int32) (mi : Nat → Int32) (ti : Nat → Int64) (sL : Nat → Int64) (bL : Nat → Int64) (mD : Nat → Int64) (mT : Nat → Int64) (p1 : Int32) (p2 : Int32)  : ZM l yX2_dateOf wsX2_dateOf { frames := 8, cells := 3, slots := 18, locals := 125 } [.ref (y 0), .int p1, .int p2] D (zTys cI cJ) (wY cI cJ y d sy sm sd mi ti sL bL mD mT X) 3 18 (fun v w => k_X2_dateOf mD p1 p2 = 0 ∧ v = some (.long (f_X2_dateOf mD p1 p2)) ∧ w = (wY cI cJ y (s_X2_dateOf_d d mD p1 p2) sy sm sd mi ti sL bL mD mT X)) (fun E w => w = (wY cI cJ y d sy sm sd mi ti sL bL mD mT X) ∧ zEx E (k_X2_dateOf mD p1 p2)) := by
  refine z_open (own := RX2) hfl (cc := cX2_dateOf) (maxL := 3) (ret := (some .long)) (lv := [(0, .ref (y 0)), (1, .int p1), (2, .int p2)]) rfl (by decide) rfl rfl (Nat.le_of_ble_eq_true rfl) ?_
  intro p e s m args below meth c A C hno hnm hargs
  have hin : ∀ w ∈ wsX20, w ∈ wsX2_dateOf := by decide +kernel
  have w1 := C.1.2.2.2.2 (.fieldLink RX2 35 "Yearwheel" "momentDays" "[J") (by decide +kernel)
  refine z_iload_n C dX2_dateOf_0 rfl 1 rfl ?_
  refine z_iconst (v := 4) C dX2_dateOf_1 (by decide) ?_
  refine z_xsv (rest := []) C (c_X2_checkSlot l hfl D cI cJ _ p1 (4 : Int32) ) q_X2_checkSlot gX2_dateOf_X2_checkSlot ⟨rfl, rfl⟩ rfl rfl (Nat.le_of_ble_eq_true rfl) ⟨Nat.le_of_ble_eq_true rfl, Nat.le_of_ble_eq_true rfl⟩ ⟨Nat.le_of_ble_eq_true rfl, Nat.le_of_ble_eq_true rfl⟩ dX2_dateOf_2 (fun h1 => ?_) (fun E h1 h1_E => ?_)
  · refine z_iload_n C dX2_dateOf_5 rfl 2 rfl ?_
    refine z_bipush (v := 6) C dX2_dateOf_6 (by decide) ?_
    refine z_xsv (rest := []) C (c_X2_checkSlot l hfl D cI cJ _ p2 (6 : Int32) ) q_X2_checkSlot gX2_dateOf_X2_checkSlot ⟨rfl, rfl⟩ rfl rfl (Nat.le_of_ble_eq_true rfl) ⟨Nat.le_of_ble_eq_true rfl, Nat.le_of_ble_eq_true rfl⟩ ⟨Nat.le_of_ble_eq_true rfl, Nat.le_of_ble_eq_true rfl⟩ dX2_dateOf_8 (fun h2 => ?_) (fun E h2 h2_E => ?_)
    · refine z_aload_n C dX2_dateOf_11 rfl 0 rfl ?_
      refine z_iload_n C dX2_dateOf_12 rfl 2 rfl ?_
      refine z_aload_n C dX2_dateOf_13 rfl 0 rfl ?_
      refine z_get (CC := RX2) (T := TX2) (N := 10) (ci := 2) C hin 0 rfl rfl 8 (by decide) w1 rfl rfl dX2_dateOf_14 ?_
      refine z_iload_n C dX2_dateOf_17 rfl 1 rfl ?_
      refine z_lald C 9 1 rfl rfl (vpS4 h1) dX2_dateOf_18 ?_
      refine z_xwl (ws' := (wY cI cJ y (s_X2_keepDate_d d p2 (mD p1.toNatClampNeg)) sy sm sd mi ti sL bL mD mT X)) (rest := []) (ci := 2) (q0 := 0) C (c_X2_keepDate l hfl D cI cJ X y d sy sm sd mi ti sL bL mD mT p2 (mD p1.toNatClampNeg) (vpS6 h2)) q_X2_keepDate rfl rfl rfl gX2_dateOf_X2_keepDate ⟨rfl, rfl⟩ rfl rfl (Nat.le_of_ble_eq_true rfl) ⟨Nat.le_of_ble_eq_true rfl, Nat.le_of_ble_eq_true rfl⟩ ⟨Nat.le_of_ble_eq_true rfl, Nat.le_of_ble_eq_true rfl⟩ dX2_dateOf_19 (fun h3 => ?_) (fun E h3 h3_E => ?_)
      · exact z_lret C ⟨by rw [k_X2_dateOf, if_pos h1, if_pos h2, if_pos h3], congrArg (fun v => some (Value.long v)) (by rw [f_X2_dateOf, if_pos h1, if_pos h2, if_pos h3] : (f_X2_keepDate (mD p1.toNatClampNeg)) = (f_X2_dateOf mD p1 p2)), by rw [s_X2_dateOf_d, if_pos h1, if_pos h2, if_pos h3]⟩ (by decide) (by decide) dX2_dateOf_22
      · exact z_tout C hno ⟨rfl, by rw [k_X2_dateOf, if_pos h1, if_pos h2, if_neg h3]; exact h3_E⟩ (by decide) (by decide)
    · exact z_tout C hno ⟨rfl, by rw [k_X2_dateOf, if_pos h1, if_neg h2]; exact h2_E⟩ (by decide) (by decide)
  · exact z_tout C hno ⟨rfl, by rw [k_X2_dateOf, if_neg h1]; exact h1_E⟩ (by decide) (by decide)
def f_X2_timeOf (ti : Nat → Int64) (mT : Nat → Int64) (p1 : Int32) (p2 : Int32) : Int64 := (if k_X2_checkSlot p1 4 = 0 then (if k_X2_checkSlot p2 4 = 0 then ((vp_updL ti p2.toNatClampNeg (mT p1.toNatClampNeg)) p2.toNatClampNeg) else 0) else 0)
def s_X2_timeOf_ti (ti : Nat → Int64) (mT : Nat → Int64) (p1 : Int32) (p2 : Int32) : Nat → Int64 := (if k_X2_checkSlot p1 4 = 0 then (if k_X2_checkSlot p2 4 = 0 then (vp_updL ti p2.toNatClampNeg (mT p1.toNatClampNeg)) else ti) else ti)
def k_X2_timeOf (p1 : Int32) (p2 : Int32) : Int32 := (if k_X2_checkSlot p1 4 = 0 then (if k_X2_checkSlot p2 4 = 0 then 0 else k_X2_checkSlot p2 4) else k_X2_checkSlot p1 4)
theorem q_X2_timeOf : ZY yX2_timeOf wsX2_timeOf cX2_timeOf 3 (some .long) 2 := ⟨⟨_, rfl⟩, by decide +kernel, by decide +kernel, by decide +kernel⟩
set_option maxHeartbeats 4000000 in
set_option maxRecDepth 100000 in
theorem c_X2_timeOf (l : Launch) (hfl : l.stackTraces = false) (D : va_G) (cI cJ : ClassId) (X : va_W) (y : Nat → Nat) (d : Nat → Int64) (sy : Nat → Int32) (sm : Nat → Int32) (sd : Nat → Int32) (mi : Nat → Int32) (ti : Nat → Int64) (sL : Nat → Int64) (bL : Nat → Int64) (mD : Nat → Int64) (mT : Nat → Int64) (p1 : Int32) (p2 : Int32)  : ZM l yX2_timeOf wsX2_timeOf { frames := 7, cells := 2, slots := 12, locals := 103 } [.ref (y 0), .int p1, .int p2] D (zTys cI cJ) (wY cI cJ y d sy sm sd mi ti sL bL mD mT X) 2 12 (fun v w => k_X2_timeOf p1 p2 = 0 ∧ v = some (.long (f_X2_timeOf ti mT p1 p2)) ∧ w = (wY cI cJ y d sy sm sd mi (s_X2_timeOf_ti ti mT p1 p2) sL bL mD mT X)) (fun E w => w = (wY cI cJ y d sy sm sd mi ti sL bL mD mT X) ∧ zEx E (k_X2_timeOf p1 p2)) := by
  refine z_open (own := RX2) hfl (cc := cX2_timeOf) (maxL := 3) (ret := (some .long)) (lv := [(0, .ref (y 0)), (1, .int p1), (2, .int p2)]) rfl (by decide) rfl rfl (Nat.le_of_ble_eq_true rfl) ?_
  intro p e s m args below meth c A C hno hnm hargs
  have hin : ∀ w ∈ wsX20, w ∈ wsX2_timeOf := by decide +kernel
  have w1 := C.1.2.2.2.2 (.fieldLink RX2 26 "Yearwheel" "times" "[J") (by decide +kernel)
  have w2 := C.1.2.2.2.2 (.fieldLink RX2 38 "Yearwheel" "momentTimes" "[J") (by decide +kernel)
  refine z_iload_n C dX2_timeOf_0 rfl 1 rfl ?_
  refine z_iconst (v := 4) C dX2_timeOf_1 (by decide) ?_
  refine z_xsv (rest := []) C (c_X2_checkSlot l hfl D cI cJ _ p1 (4 : Int32) ) q_X2_checkSlot gX2_timeOf_X2_checkSlot ⟨rfl, rfl⟩ rfl rfl (Nat.le_of_ble_eq_true rfl) ⟨Nat.le_of_ble_eq_true rfl, Nat.le_of_ble_eq_true rfl⟩ ⟨Nat.le_of_ble_eq_true rfl, Nat.le_of_ble_eq_true rfl⟩ dX2_timeOf_2 (fun h1 => ?_) (fun E h1 h1_E => ?_)
  · refine z_iload_n C dX2_timeOf_5 rfl 2 rfl ?_
    refine z_iconst (v := 4) C dX2_timeOf_6 (by decide) ?_
    refine z_xsv (rest := []) C (c_X2_checkSlot l hfl D cI cJ _ p2 (4 : Int32) ) q_X2_checkSlot gX2_timeOf_X2_checkSlot ⟨rfl, rfl⟩ rfl rfl (Nat.le_of_ble_eq_true rfl) ⟨Nat.le_of_ble_eq_true rfl, Nat.le_of_ble_eq_true rfl⟩ ⟨Nat.le_of_ble_eq_true rfl, Nat.le_of_ble_eq_true rfl⟩ dX2_timeOf_7 (fun h2 => ?_) (fun E h2 h2_E => ?_)
    · refine z_aload_n C dX2_timeOf_10 rfl 0 rfl ?_
      refine z_get (CC := RX2) (T := TX2) (N := 10) (ci := 2) C hin 0 rfl rfl 5 (by decide) w1 rfl rfl dX2_timeOf_11 ?_
      refine z_iload_n C dX2_timeOf_14 rfl 2 rfl ?_
      refine z_aload_n C dX2_timeOf_15 rfl 0 rfl ?_
      refine z_get (CC := RX2) (T := TX2) (N := 10) (ci := 2) C hin 0 rfl rfl 9 (by decide) w2 rfl rfl dX2_timeOf_16 ?_
      refine z_iload_n C dX2_timeOf_19 rfl 1 rfl ?_
      refine z_lald C 10 1 rfl rfl (vpS4 h1) dX2_timeOf_20 ?_
      refine z_last C 6 1 rfl rfl (vpS4 h2) (ws' := (wY cI cJ y d sy sm sd mi (vp_updL ti p2.toNatClampNeg (mT p1.toNatClampNeg)) sL bL mD mT X)) rfl dX2_timeOf_21 ?_
      refine z_aload_n C dX2_timeOf_22 rfl 0 rfl ?_
      refine z_get (CC := RX2) (T := TX2) (N := 10) (ci := 2) C hin 0 rfl rfl 5 (by decide) w1 rfl rfl dX2_timeOf_23 ?_
      refine z_iload_n C dX2_timeOf_26 rfl 2 rfl ?_
      refine z_lald C 6 1 rfl rfl (vpS4 h2) dX2_timeOf_27 ?_
      exact z_lret C ⟨by rw [k_X2_timeOf, if_pos h1, if_pos h2], congrArg (fun v => some (Value.long v)) (by rw [f_X2_timeOf, if_pos h1, if_pos h2] : ((vp_updL ti p2.toNatClampNeg (mT p1.toNatClampNeg)) p2.toNatClampNeg) = (f_X2_timeOf ti mT p1 p2)), by rw [s_X2_timeOf_ti, if_pos h1, if_pos h2]⟩ (by decide) (by decide) dX2_timeOf_28
    · exact z_tout C hno ⟨rfl, by rw [k_X2_timeOf, if_pos h1, if_neg h2]; exact h2_E⟩ (by decide) (by decide)
  · exact z_tout C hno ⟨rfl, by rw [k_X2_timeOf, if_neg h1]; exact h1_E⟩ (by decide) (by decide)
def f_X2_moveMoment_j1 (p2 : Int32) : Int32 := (if (f_X0_countInDay p2) ≤ 0 then 0 else 1)
def f_X2_moveMoment (mD : Nat → Int64) (mT : Nat → Int64) (p1 : Int32) (p2 : Int32) (p3 : Int64) (p4 : Int32) : Int64 := (if k_X2_checkSlot p1 4 = 0 then (if k_X2_checkSlot p4 4 = 0 then (if (f_X1_isUnit p2) = 0 then (if f_X2_moveMoment_j1 p2 = 0 then 0 else (if k_X2_checkArgument (f_X2_isIn p3 (-1000000000000000) 1000000000000000) = 0 then (if k_X2_keepMoment ((mD p1.toNatClampNeg) + (f_X0_daysOf p3 (f_X0_countInDay p2))) ((mT p1.toNatClampNeg) + (f_X0_restOfDay p3 (f_X0_countInDay p2))) = 0 then (f_X2_keepMoment ((mD p1.toNatClampNeg) + (f_X0_daysOf p3 (f_X0_countInDay p2))) ((mT p1.toNatClampNeg) + (f_X0_restOfDay p3 (f_X0_countInDay p2)))) else 0) else 0)) else (if k_X2_checkArgument (f_X2_isIn p3 (-1000000) 1000000) = 0 then (if k_X2_keepMoment (f_X1_moved (mD p1.toNatClampNeg) p2 p3) (mT p1.toNatClampNeg) = 0 then (f_X2_keepMoment (f_X1_moved (mD p1.toNatClampNeg) p2 p3) (mT p1.toNatClampNeg)) else 0) else 0)) else 0) else 0)
def s_X2_moveMoment_mD (mD : Nat → Int64) (mT : Nat → Int64) (p1 : Int32) (p2 : Int32) (p3 : Int64) (p4 : Int32) : Nat → Int64 := (if k_X2_checkSlot p1 4 = 0 then (if k_X2_checkSlot p4 4 = 0 then (if (f_X1_isUnit p2) = 0 then (if f_X2_moveMoment_j1 p2 = 0 then mD else (if k_X2_checkArgument (f_X2_isIn p3 (-1000000000000000) 1000000000000000) = 0 then (if k_X2_keepMoment ((mD p1.toNatClampNeg) + (f_X0_daysOf p3 (f_X0_countInDay p2))) ((mT p1.toNatClampNeg) + (f_X0_restOfDay p3 (f_X0_countInDay p2))) = 0 then (s_X2_keepMoment_mD mD p4 ((mD p1.toNatClampNeg) + (f_X0_daysOf p3 (f_X0_countInDay p2))) ((mT p1.toNatClampNeg) + (f_X0_restOfDay p3 (f_X0_countInDay p2)))) else mD) else mD)) else (if k_X2_checkArgument (f_X2_isIn p3 (-1000000) 1000000) = 0 then (if k_X2_keepMoment (f_X1_moved (mD p1.toNatClampNeg) p2 p3) (mT p1.toNatClampNeg) = 0 then (s_X2_keepMoment_mD mD p4 (f_X1_moved (mD p1.toNatClampNeg) p2 p3) (mT p1.toNatClampNeg)) else mD) else mD)) else mD) else mD)
def s_X2_moveMoment_mT (mD : Nat → Int64) (mT : Nat → Int64) (p1 : Int32) (p2 : Int32) (p3 : Int64) (p4 : Int32) : Nat → Int64 := (if k_X2_checkSlot p1 4 = 0 then (if k_X2_checkSlot p4 4 = 0 then (if (f_X1_isUnit p2) = 0 then (if f_X2_moveMoment_j1 p2 = 0 then mT else (if k_X2_checkArgument (f_X2_isIn p3 (-1000000000000000) 1000000000000000) = 0 then (if k_X2_keepMoment ((mD p1.toNatClampNeg) + (f_X0_daysOf p3 (f_X0_countInDay p2))) ((mT p1.toNatClampNeg) + (f_X0_restOfDay p3 (f_X0_countInDay p2))) = 0 then (s_X2_keepMoment_mT mT p4 ((mD p1.toNatClampNeg) + (f_X0_daysOf p3 (f_X0_countInDay p2))) ((mT p1.toNatClampNeg) + (f_X0_restOfDay p3 (f_X0_countInDay p2)))) else mT) else mT)) else (if k_X2_checkArgument (f_X2_isIn p3 (-1000000) 1000000) = 0 then (if k_X2_keepMoment (f_X1_moved (mD p1.toNatClampNeg) p2 p3) (mT p1.toNatClampNeg) = 0 then (s_X2_keepMoment_mT mT p4 (f_X1_moved (mD p1.toNatClampNeg) p2 p3) (mT p1.toNatClampNeg)) else mT) else mT)) else mT) else mT)
def k_X2_moveMoment (mD : Nat → Int64) (mT : Nat → Int64) (p1 : Int32) (p2 : Int32) (p3 : Int64) (p4 : Int32) : Int32 := (if k_X2_checkSlot p1 4 = 0 then (if k_X2_checkSlot p4 4 = 0 then (if (f_X1_isUnit p2) = 0 then (if f_X2_moveMoment_j1 p2 = 0 then k_X2_checkArgument 0 else (if k_X2_checkArgument (f_X2_isIn p3 (-1000000000000000) 1000000000000000) = 0 then (if k_X2_keepMoment ((mD p1.toNatClampNeg) + (f_X0_daysOf p3 (f_X0_countInDay p2))) ((mT p1.toNatClampNeg) + (f_X0_restOfDay p3 (f_X0_countInDay p2))) = 0 then 0 else k_X2_keepMoment ((mD p1.toNatClampNeg) + (f_X0_daysOf p3 (f_X0_countInDay p2))) ((mT p1.toNatClampNeg) + (f_X0_restOfDay p3 (f_X0_countInDay p2)))) else k_X2_checkArgument (f_X2_isIn p3 (-1000000000000000) 1000000000000000))) else (if k_X2_checkArgument (f_X2_isIn p3 (-1000000) 1000000) = 0 then (if k_X2_keepMoment (f_X1_moved (mD p1.toNatClampNeg) p2 p3) (mT p1.toNatClampNeg) = 0 then 0 else k_X2_keepMoment (f_X1_moved (mD p1.toNatClampNeg) p2 p3) (mT p1.toNatClampNeg)) else k_X2_checkArgument (f_X2_isIn p3 (-1000000) 1000000))) else k_X2_checkSlot p4 4) else k_X2_checkSlot p1 4)
theorem q_X2_moveMoment : ZY yX2_moveMoment wsX2_moveMoment cX2_moveMoment 10 (some .long) 4 := ⟨⟨_, rfl⟩, by decide +kernel, by decide +kernel, by decide +kernel⟩
set_option maxHeartbeats 4000000 in
set_option maxRecDepth 100000 in
theorem c_X2_moveMoment (l : Launch) (hfl : l.stackTraces = false) (D : va_G) (cI cJ : ClassId) (X : va_W) (y : Nat → Nat) (d : Nat → Int64) (sy : Nat → Int32) (sm : Nat → Int32) (sd : Nat → Int32) (mi : Nat → Int32) (ti : Nat → Int64) (sL : Nat → Int64) (bL : Nat → Int64) (mD : Nat → Int64) (mT : Nat → Int64) (p1 : Int32) (p2 : Int32) (p3 : Int64) (p4 : Int32)  : ZM l yX2_moveMoment wsX2_moveMoment { frames := 8, cells := 5, slots := 30, locals := 146 } [.ref (y 0), .int p1, .int p2, .long p3, .int p4] D (zTys cI cJ) (wY cI cJ y d sy sm sd mi ti sL bL mD mT X) 5 30 (fun v w => k_X2_moveMoment mD mT p1 p2 p3 p4 = 0 ∧ v = some (.long (f_X2_moveMoment mD mT p1 p2 p3 p4)) ∧ w = (wY cI cJ y d sy sm sd mi ti sL bL (s_X2_moveMoment_mD mD mT p1 p2 p3 p4) (s_X2_moveMoment_mT mD mT p1 p2 p3 p4) X)) (fun E w => w = (wY cI cJ y d sy sm sd mi ti sL bL mD mT X) ∧ zEx E (k_X2_moveMoment mD mT p1 p2 p3 p4)) := by
  refine z_open (own := RX2) hfl (cc := cX2_moveMoment) (maxL := 10) (ret := (some .long)) (lv := [(0, .ref (y 0)), (1, .int p1), (2, .int p2), (3, .long p3), (5, .int p4)]) rfl (by decide) rfl rfl (Nat.le_of_ble_eq_true rfl) ?_
  intro p e s m args below meth c A C hno hnm hargs
  have hin : ∀ w ∈ wsX20, w ∈ wsX2_moveMoment := by decide +kernel
  have w1 := C.1.2.2.2.2 (.constantLong RX2 209 (-1000000000000000)) (by decide +kernel)
  have w2 := C.1.2.2.2.2 (.constantLong RX2 211 (1000000000000000)) (by decide +kernel)
  have w3 := C.1.2.2.2.2 (.fieldLink RX2 35 "Yearwheel" "momentDays" "[J") (by decide +kernel)
  have w4 := C.1.2.2.2.2 (.fieldLink RX2 38 "Yearwheel" "momentTimes" "[J") (by decide +kernel)
  have w5 := C.1.2.2.2.2 (.constantLong RX2 112 (-1000000)) (by decide +kernel)
  have w6 := C.1.2.2.2.2 (.constantLong RX2 114 (1000000)) (by decide +kernel)
  refine z_iload_n C dX2_moveMoment_0 rfl 1 rfl ?_
  refine z_iconst (v := 4) C dX2_moveMoment_1 (by decide) ?_
  refine z_xsv (rest := []) C (c_X2_checkSlot l hfl D cI cJ _ p1 (4 : Int32) ) q_X2_checkSlot gX2_moveMoment_X2_checkSlot ⟨rfl, rfl⟩ rfl rfl (Nat.le_of_ble_eq_true rfl) ⟨Nat.le_of_ble_eq_true rfl, Nat.le_of_ble_eq_true rfl⟩ ⟨Nat.le_of_ble_eq_true rfl, Nat.le_of_ble_eq_true rfl⟩ dX2_moveMoment_2 (fun h1 => ?_) (fun E h1 h1_E => ?_)
  · refine z_iload C dX2_moveMoment_5 4 rfl ?_
    refine z_iconst (v := 4) C dX2_moveMoment_7 (by decide) ?_
    refine z_xsv (rest := []) C (c_X2_checkSlot l hfl D cI cJ _ p4 (4 : Int32) ) q_X2_checkSlot gX2_moveMoment_X2_checkSlot ⟨rfl, rfl⟩ rfl rfl (Nat.le_of_ble_eq_true rfl) ⟨Nat.le_of_ble_eq_true rfl, Nat.le_of_ble_eq_true rfl⟩ ⟨Nat.le_of_ble_eq_true rfl, Nat.le_of_ble_eq_true rfl⟩ dX2_moveMoment_8 (fun h2 => ?_) (fun E h2 h2_E => ?_)
    · refine z_iload_n C dX2_moveMoment_11 rfl 2 rfl ?_
      refine z_si (rest := []) C (c_X1_isUnit l hfl D cI cJ _ p2 ) q_X1_isUnit gX2_moveMoment_X1_isUnit ⟨rfl, rfl⟩ rfl rfl (Nat.le_of_ble_eq_true rfl) ⟨Nat.le_of_ble_eq_true rfl, Nat.le_of_ble_eq_true rfl⟩ ⟨Nat.le_of_ble_eq_true rfl, Nat.le_of_ble_eq_true rfl⟩ dX2_moveMoment_12 ?_
      refine z_if_eq (tgt := 55) C dX2_moveMoment_15 (by decide) (fun h3 => ?_) (fun h3 => ?_)
      · refine z_iload_n C dX2_moveMoment_55 rfl 2 rfl ?_
        refine z_sl (rest := []) C (c_X0_countInDay l hfl D cI cJ _ p2 ) q_X0_countInDay gX2_moveMoment_X0_countInDay ⟨rfl, rfl⟩ rfl rfl (Nat.le_of_ble_eq_true rfl) ⟨Nat.le_of_ble_eq_true rfl, Nat.le_of_ble_eq_true rfl⟩ ⟨Nat.le_of_ble_eq_true rfl, Nat.le_of_ble_eq_true rfl⟩ dX2_moveMoment_56 ?_
        refine z_lstore (lv' := [(6, .long (f_X0_countInDay p2)), (0, .ref (y 0)), (1, .int p1), (2, .int p2), (3, .long p3), (5, .int p4)]) C dX2_moveMoment_59 (by decide) rfl ?_
        refine z_lload C dX2_moveMoment_61 0 rfl ?_
        refine z_lconst (v := 0) C dX2_moveMoment_63 (by decide) ?_
        have K1_0 : f_X2_moveMoment_j1 p2 = 0 → ((f_X0_countInDay p2) ≤ 0) → ZW p l e { frames := 8, cells := 5, slots := 30, locals := 146 } s m args below meth c 10 D (zTys cI cJ) A (zE D (zTys cI cJ) A below args s (fun v w => k_X2_moveMoment mD mT p1 p2 p3 p4 = 0 ∧ v = some (.long (f_X2_moveMoment mD mT p1 p2 p3 p4)) ∧ w = (wY cI cJ y d sy sm sd mi ti sL bL (s_X2_moveMoment_mD mD mT p1 p2 p3 p4) (s_X2_moveMoment_mT mD mT p1 p2 p3 p4) X)) (fun E w => w = (wY cI cJ y d sy sm sd mi ti sL bL mD mT X) ∧ zEx E (k_X2_moveMoment mD mT p1 p2 p3 p4)) 5 30) 2 12 (wY cI cJ y d sy sm sd mi ti sL bL mD mT X) 73 [(6, .long (f_X0_countInDay p2)), (0, .ref (y 0)), (1, .int p1), (2, .int p2), (3, .long p3), (5, .int p4)] [.int 0] := by
          intro h5 h6
          refine z_xsv (rest := []) C (c_X2_checkArgument l hfl D cI cJ _ (0 : Int32) ) q_X2_checkArgument gX2_moveMoment_X2_checkArgument ⟨rfl, rfl⟩ rfl rfl (Nat.le_of_ble_eq_true rfl) ⟨Nat.le_of_ble_eq_true rfl, Nat.le_of_ble_eq_true rfl⟩ ⟨Nat.le_of_ble_eq_true rfl, Nat.le_of_ble_eq_true rfl⟩ dX2_moveMoment_73 (fun h => absurd h (by decide)) (fun E h7 h7_E => ?_)
          exact z_tout C hno ⟨rfl, by rw [k_X2_moveMoment, if_pos h1, if_pos h2, if_pos h3, if_pos h5]; exact h7_E⟩ (by decide) (by decide)
        have K1_1 : f_X2_moveMoment_j1 p2 = 1 → (¬ (f_X0_countInDay p2) ≤ 0) → ZW p l e { frames := 8, cells := 5, slots := 30, locals := 146 } s m args below meth c 10 D (zTys cI cJ) A (zE D (zTys cI cJ) A below args s (fun v w => k_X2_moveMoment mD mT p1 p2 p3 p4 = 0 ∧ v = some (.long (f_X2_moveMoment mD mT p1 p2 p3 p4)) ∧ w = (wY cI cJ y d sy sm sd mi ti sL bL (s_X2_moveMoment_mD mD mT p1 p2 p3 p4) (s_X2_moveMoment_mT mD mT p1 p2 p3 p4) X)) (fun E w => w = (wY cI cJ y d sy sm sd mi ti sL bL mD mT X) ∧ zEx E (k_X2_moveMoment mD mT p1 p2 p3 p4)) 5 30) 2 12 (wY cI cJ y d sy sm sd mi ti sL bL mD mT X) 73 [(6, .long (f_X0_countInDay p2)), (0, .ref (y 0)), (1, .int p1), (2, .int p2), (3, .long p3), (5, .int p4)] [.int 1] := by
          intro h8 h9
          refine z_xsv (rest := []) C (c_X2_checkArgument l hfl D cI cJ _ (1 : Int32) ) q_X2_checkArgument gX2_moveMoment_X2_checkArgument ⟨rfl, rfl⟩ rfl rfl (Nat.le_of_ble_eq_true rfl) ⟨Nat.le_of_ble_eq_true rfl, Nat.le_of_ble_eq_true rfl⟩ ⟨Nat.le_of_ble_eq_true rfl, Nat.le_of_ble_eq_true rfl⟩ dX2_moveMoment_73 (fun _ => ?_) (fun _ h _ => absurd (by decide) h)
          refine z_lload_n C dX2_moveMoment_76 rfl 4 rfl ?_
          refine z_ldc2 (v := (-1000000000000000)) C w1 dX2_moveMoment_77 ?_
          refine z_ldc2 (v := 1000000000000000) C w2 dX2_moveMoment_80 ?_
          refine z_si (rest := []) C (c_X2_isIn l hfl D cI cJ _ p3 ((-1000000000000000) : Int64) (1000000000000000 : Int64) ) q_X2_isIn gX2_moveMoment_X2_isIn ⟨rfl, rfl⟩ rfl rfl (Nat.le_of_ble_eq_true rfl) ⟨Nat.le_of_ble_eq_true rfl, Nat.le_of_ble_eq_true rfl⟩ ⟨Nat.le_of_ble_eq_true rfl, Nat.le_of_ble_eq_true rfl⟩ dX2_moveMoment_83 ?_
          refine z_xsv (rest := []) C (c_X2_checkArgument l hfl D cI cJ _ (f_X2_isIn p3 (-1000000000000000) 1000000000000000) ) q_X2_checkArgument gX2_moveMoment_X2_checkArgument ⟨rfl, rfl⟩ rfl rfl (Nat.le_of_ble_eq_true rfl) ⟨Nat.le_of_ble_eq_true rfl, Nat.le_of_ble_eq_true rfl⟩ ⟨Nat.le_of_ble_eq_true rfl, Nat.le_of_ble_eq_true rfl⟩ dX2_moveMoment_86 (fun h11 => ?_) (fun E h11 h11_E => ?_)
          · refine z_aload_n C dX2_moveMoment_89 rfl 1 rfl ?_
            refine z_get (CC := RX2) (T := TX2) (N := 10) (ci := 2) C hin 0 rfl rfl 8 (by decide) w3 rfl rfl dX2_moveMoment_90 ?_
            refine z_iload_n C dX2_moveMoment_93 rfl 2 rfl ?_
            refine z_lald C 9 1 rfl rfl (vpS4 h1) dX2_moveMoment_94 ?_
            refine z_lload_n C dX2_moveMoment_95 rfl 4 rfl ?_
            refine z_lload C dX2_moveMoment_96 0 rfl ?_
            refine z_sl (rest := [.long (mD p1.toNatClampNeg)]) C (c_X0_daysOf l hfl D cI cJ _ p3 (f_X0_countInDay p2) ) q_X0_daysOf gX2_moveMoment_X0_daysOf ⟨rfl, rfl⟩ rfl rfl (Nat.le_of_ble_eq_true rfl) ⟨Nat.le_of_ble_eq_true rfl, Nat.le_of_ble_eq_true rfl⟩ ⟨Nat.le_of_ble_eq_true rfl, Nat.le_of_ble_eq_true rfl⟩ dX2_moveMoment_98 ?_
            refine z_ladd C dX2_moveMoment_101 ?_
            refine z_lstore (lv' := [(8, .long ((mD p1.toNatClampNeg) + (f_X0_daysOf p3 (f_X0_countInDay p2)))), (6, .long (f_X0_countInDay p2)), (0, .ref (y 0)), (1, .int p1), (2, .int p2), (3, .long p3), (5, .int p4)]) C dX2_moveMoment_102 (by decide) rfl ?_
            refine z_aload_n C dX2_moveMoment_104 rfl 2 rfl ?_
            refine z_iload C dX2_moveMoment_105 6 rfl ?_
            refine z_lload C dX2_moveMoment_107 0 rfl ?_
            refine z_aload_n C dX2_moveMoment_109 rfl 2 rfl ?_
            refine z_get (CC := RX2) (T := TX2) (N := 10) (ci := 2) C hin 0 rfl rfl 9 (by decide) w4 rfl rfl dX2_moveMoment_110 ?_
            refine z_iload_n C dX2_moveMoment_113 rfl 3 rfl ?_
            refine z_lald C 10 1 rfl rfl (vpS4 h1) dX2_moveMoment_114 ?_
            refine z_lload_n C dX2_moveMoment_115 rfl 5 rfl ?_
            refine z_lload C dX2_moveMoment_116 1 rfl ?_
            refine z_sl (rest := [.long (mT p1.toNatClampNeg), .long ((mD p1.toNatClampNeg) + (f_X0_daysOf p3 (f_X0_countInDay p2))), .int p4, .ref (y 0)]) C (c_X0_restOfDay l hfl D cI cJ _ p3 (f_X0_countInDay p2) ) q_X0_restOfDay gX2_moveMoment_X0_restOfDay ⟨rfl, rfl⟩ rfl rfl (Nat.le_of_ble_eq_true rfl) ⟨Nat.le_of_ble_eq_true rfl, Nat.le_of_ble_eq_true rfl⟩ ⟨Nat.le_of_ble_eq_true rfl, Nat.le_of_ble_eq_true rfl⟩ dX2_moveMoment_118 ?_
            refine z_ladd C dX2_moveMoment_121 ?_
            refine z_xwl (ws' := (wY cI cJ y d sy sm sd mi ti sL bL (s_X2_keepMoment_mD mD p4 ((mD p1.toNatClampNeg) + (f_X0_daysOf p3 (f_X0_countInDay p2))) ((mT p1.toNatClampNeg) + (f_X0_restOfDay p3 (f_X0_countInDay p2)))) (s_X2_keepMoment_mT mT p4 ((mD p1.toNatClampNeg) + (f_X0_daysOf p3 (f_X0_countInDay p2))) ((mT p1.toNatClampNeg) + (f_X0_restOfDay p3 (f_X0_countInDay p2)))) X)) (rest := []) (ci := 2) (q0 := 0) C (c_X2_keepMoment l hfl D cI cJ X y d sy sm sd mi ti sL bL mD mT p4 ((mD p1.toNatClampNeg) + (f_X0_daysOf p3 (f_X0_countInDay p2))) ((mT p1.toNatClampNeg) + (f_X0_restOfDay p3 (f_X0_countInDay p2))) (vpS4 h2)) q_X2_keepMoment rfl rfl rfl gX2_moveMoment_X2_keepMoment ⟨rfl, rfl⟩ rfl rfl (Nat.le_of_ble_eq_true rfl) ⟨Nat.le_of_ble_eq_true rfl, Nat.le_of_ble_eq_true rfl⟩ ⟨Nat.le_of_ble_eq_true rfl, Nat.le_of_ble_eq_true rfl⟩ dX2_moveMoment_122 (fun h12 => ?_) (fun E h12 h12_E => ?_)
            · exact z_lret C ⟨by rw [k_X2_moveMoment, if_pos h1, if_pos h2, if_pos h3, if_neg (by rw [h8]; decide : ¬ f_X2_moveMoment_j1 p2 = 0), if_pos h11, if_pos h12], congrArg (fun v => some (Value.long v)) (by rw [f_X2_moveMoment, if_pos h1, if_pos h2, if_pos h3, if_neg (by rw [h8]; decide : ¬ f_X2_moveMoment_j1 p2 = 0), if_pos h11, if_pos h12] : (f_X2_keepMoment ((mD p1.toNatClampNeg) + (f_X0_daysOf p3 (f_X0_countInDay p2))) ((mT p1.toNatClampNeg) + (f_X0_restOfDay p3 (f_X0_countInDay p2)))) = (f_X2_moveMoment mD mT p1 p2 p3 p4)), by rw [s_X2_moveMoment_mD, if_pos h1, if_pos h2, if_pos h3, if_neg (by rw [h8]; decide : ¬ f_X2_moveMoment_j1 p2 = 0), if_pos h11, if_pos h12, s_X2_moveMoment_mT, if_pos h1, if_pos h2, if_pos h3, if_neg (by rw [h8]; decide : ¬ f_X2_moveMoment_j1 p2 = 0), if_pos h11, if_pos h12]⟩ (by decide) (by decide) dX2_moveMoment_125
            · exact z_tout C hno ⟨rfl, by rw [k_X2_moveMoment, if_pos h1, if_pos h2, if_pos h3, if_neg (by rw [h8]; decide : ¬ f_X2_moveMoment_j1 p2 = 0), if_pos h11, if_neg h12]; exact h12_E⟩ (by decide) (by decide)
          · exact z_tout C hno ⟨rfl, by rw [k_X2_moveMoment, if_pos h1, if_pos h2, if_pos h3, if_neg (by rw [h8]; decide : ¬ f_X2_moveMoment_j1 p2 = 0), if_neg h11]; exact h11_E⟩ (by decide) (by decide)
        refine z_lcmp_le (tgt := 72) C dX2_moveMoment_64 dX2_moveMoment_65 (by decide) (fun h4 => ?_) (fun h4 => ?_)
        · refine z_iconst (v := 0) C dX2_moveMoment_72 (by decide) ?_
          exact K1_0 (by rw [f_X2_moveMoment_j1, if_pos h4]) h4
        · refine z_iconst (v := 1) C dX2_moveMoment_68 (by decide) ?_
          refine z_goto (tgt := 73) C dX2_moveMoment_69 (by decide) ?_
          exact K1_1 (by rw [f_X2_moveMoment_j1, if_neg h4]) h4
      · refine z_lload_n C dX2_moveMoment_18 rfl 3 rfl ?_
        refine z_ldc2 (v := (-1000000)) C w5 dX2_moveMoment_19 ?_
        refine z_ldc2 (v := 1000000) C w6 dX2_moveMoment_22 ?_
        refine z_si (rest := []) C (c_X2_isIn l hfl D cI cJ _ p3 ((-1000000) : Int64) (1000000 : Int64) ) q_X2_isIn gX2_moveMoment_X2_isIn ⟨rfl, rfl⟩ rfl rfl (Nat.le_of_ble_eq_true rfl) ⟨Nat.le_of_ble_eq_true rfl, Nat.le_of_ble_eq_true rfl⟩ ⟨Nat.le_of_ble_eq_true rfl, Nat.le_of_ble_eq_true rfl⟩ dX2_moveMoment_25 ?_
        refine z_xsv (rest := []) C (c_X2_checkArgument l hfl D cI cJ _ (f_X2_isIn p3 (-1000000) 1000000) ) q_X2_checkArgument gX2_moveMoment_X2_checkArgument ⟨rfl, rfl⟩ rfl rfl (Nat.le_of_ble_eq_true rfl) ⟨Nat.le_of_ble_eq_true rfl, Nat.le_of_ble_eq_true rfl⟩ ⟨Nat.le_of_ble_eq_true rfl, Nat.le_of_ble_eq_true rfl⟩ dX2_moveMoment_28 (fun h13 => ?_) (fun E h13 h13_E => ?_)
        · refine z_aload_n C dX2_moveMoment_31 rfl 0 rfl ?_
          refine z_iload C dX2_moveMoment_32 4 rfl ?_
          refine z_aload_n C dX2_moveMoment_34 rfl 0 rfl ?_
          refine z_get (CC := RX2) (T := TX2) (N := 10) (ci := 2) C hin 0 rfl rfl 8 (by decide) w3 rfl rfl dX2_moveMoment_35 ?_
          refine z_iload_n C dX2_moveMoment_38 rfl 1 rfl ?_
          refine z_lald C 9 1 rfl rfl (vpS4 h1) dX2_moveMoment_39 ?_
          refine z_iload_n C dX2_moveMoment_40 rfl 2 rfl ?_
          refine z_lload_n C dX2_moveMoment_41 rfl 3 rfl ?_
          refine z_sl (rest := [.int p4, .ref (y 0)]) C (c_X1_moved l hfl D cI cJ _ (mD p1.toNatClampNeg) p2 p3 ) q_X1_moved gX2_moveMoment_X1_moved ⟨rfl, rfl⟩ rfl rfl (Nat.le_of_ble_eq_true rfl) ⟨Nat.le_of_ble_eq_true rfl, Nat.le_of_ble_eq_true rfl⟩ ⟨Nat.le_of_ble_eq_true rfl, Nat.le_of_ble_eq_true rfl⟩ dX2_moveMoment_42 ?_
          refine z_aload_n C dX2_moveMoment_45 rfl 0 rfl ?_
          refine z_get (CC := RX2) (T := TX2) (N := 10) (ci := 2) C hin 0 rfl rfl 9 (by decide) w4 rfl rfl dX2_moveMoment_46 ?_
          refine z_iload_n C dX2_moveMoment_49 rfl 1 rfl ?_
          refine z_lald C 10 1 rfl rfl (vpS4 h1) dX2_moveMoment_50 ?_
          refine z_xwl (ws' := (wY cI cJ y d sy sm sd mi ti sL bL (s_X2_keepMoment_mD mD p4 (f_X1_moved (mD p1.toNatClampNeg) p2 p3) (mT p1.toNatClampNeg)) (s_X2_keepMoment_mT mT p4 (f_X1_moved (mD p1.toNatClampNeg) p2 p3) (mT p1.toNatClampNeg)) X)) (rest := []) (ci := 2) (q0 := 0) C (c_X2_keepMoment l hfl D cI cJ X y d sy sm sd mi ti sL bL mD mT p4 (f_X1_moved (mD p1.toNatClampNeg) p2 p3) (mT p1.toNatClampNeg) (vpS4 h2)) q_X2_keepMoment rfl rfl rfl gX2_moveMoment_X2_keepMoment ⟨rfl, rfl⟩ rfl rfl (Nat.le_of_ble_eq_true rfl) ⟨Nat.le_of_ble_eq_true rfl, Nat.le_of_ble_eq_true rfl⟩ ⟨Nat.le_of_ble_eq_true rfl, Nat.le_of_ble_eq_true rfl⟩ dX2_moveMoment_51 (fun h14 => ?_) (fun E h14 h14_E => ?_)
          · exact z_lret C ⟨by rw [k_X2_moveMoment, if_pos h1, if_pos h2, if_neg h3, if_pos h13, if_pos h14], congrArg (fun v => some (Value.long v)) (by rw [f_X2_moveMoment, if_pos h1, if_pos h2, if_neg h3, if_pos h13, if_pos h14] : (f_X2_keepMoment (f_X1_moved (mD p1.toNatClampNeg) p2 p3) (mT p1.toNatClampNeg)) = (f_X2_moveMoment mD mT p1 p2 p3 p4)), by rw [s_X2_moveMoment_mD, if_pos h1, if_pos h2, if_neg h3, if_pos h13, if_pos h14, s_X2_moveMoment_mT, if_pos h1, if_pos h2, if_neg h3, if_pos h13, if_pos h14]⟩ (by decide) (by decide) dX2_moveMoment_54
          · exact z_tout C hno ⟨rfl, by rw [k_X2_moveMoment, if_pos h1, if_pos h2, if_neg h3, if_pos h13, if_neg h14]; exact h14_E⟩ (by decide) (by decide)
        · exact z_tout C hno ⟨rfl, by rw [k_X2_moveMoment, if_pos h1, if_pos h2, if_neg h3, if_neg h13]; exact h13_E⟩ (by decide) (by decide)
    · exact z_tout C hno ⟨rfl, by rw [k_X2_moveMoment, if_pos h1, if_neg h2]; exact h2_E⟩ (by decide) (by decide)
  · exact z_tout C hno ⟨rfl, by rw [k_X2_moveMoment, if_neg h1]; exact h1_E⟩ (by decide) (by decide)
def f_X2_goMoment_j1 (p3 : Int32) : Int32 := (if p3 = 0 then 1 else (-1))
def f_X2_goMoment (sL : Nat → Int64) (bL : Nat → Int64) (mD : Nat → Int64) (mT : Nat → Int64) (p1 : Int32) (p2 : Int32) (p3 : Int32) (p4 : Int32) : Int64 := (if k_X2_checkSlot p1 4 = 0 then (if k_X2_checkSlot p2 4 = 0 then (if k_X2_checkSlot p4 4 = 0 then (if f_X2_goMoment_j1 p3 = (-1) then (if k_X2_keepMoment ((mD p1.toNatClampNeg) + ((-1) * (f_X0_daysOf (sL p2.toNatClampNeg) 86400))) ((mT p1.toNatClampNeg) + ((-1) * ((f_X0_restOfDay (sL p2.toNatClampNeg) 86400) + (bL p2.toNatClampNeg)))) = 0 then (f_X2_keepMoment ((mD p1.toNatClampNeg) + ((-1) * (f_X0_daysOf (sL p2.toNatClampNeg) 86400))) ((mT p1.toNatClampNeg) + ((-1) * ((f_X0_restOfDay (sL p2.toNatClampNeg) 86400) + (bL p2.toNatClampNeg))))) else 0) else (if k_X2_keepMoment ((mD p1.toNatClampNeg) + (1 * (f_X0_daysOf (sL p2.toNatClampNeg) 86400))) ((mT p1.toNatClampNeg) + (1 * ((f_X0_restOfDay (sL p2.toNatClampNeg) 86400) + (bL p2.toNatClampNeg)))) = 0 then (f_X2_keepMoment ((mD p1.toNatClampNeg) + (1 * (f_X0_daysOf (sL p2.toNatClampNeg) 86400))) ((mT p1.toNatClampNeg) + (1 * ((f_X0_restOfDay (sL p2.toNatClampNeg) 86400) + (bL p2.toNatClampNeg))))) else 0)) else 0) else 0) else 0)
def s_X2_goMoment_mD (sL : Nat → Int64) (bL : Nat → Int64) (mD : Nat → Int64) (mT : Nat → Int64) (p1 : Int32) (p2 : Int32) (p3 : Int32) (p4 : Int32) : Nat → Int64 := (if k_X2_checkSlot p1 4 = 0 then (if k_X2_checkSlot p2 4 = 0 then (if k_X2_checkSlot p4 4 = 0 then (if f_X2_goMoment_j1 p3 = (-1) then (if k_X2_keepMoment ((mD p1.toNatClampNeg) + ((-1) * (f_X0_daysOf (sL p2.toNatClampNeg) 86400))) ((mT p1.toNatClampNeg) + ((-1) * ((f_X0_restOfDay (sL p2.toNatClampNeg) 86400) + (bL p2.toNatClampNeg)))) = 0 then (s_X2_keepMoment_mD mD p4 ((mD p1.toNatClampNeg) + ((-1) * (f_X0_daysOf (sL p2.toNatClampNeg) 86400))) ((mT p1.toNatClampNeg) + ((-1) * ((f_X0_restOfDay (sL p2.toNatClampNeg) 86400) + (bL p2.toNatClampNeg))))) else mD) else (if k_X2_keepMoment ((mD p1.toNatClampNeg) + (1 * (f_X0_daysOf (sL p2.toNatClampNeg) 86400))) ((mT p1.toNatClampNeg) + (1 * ((f_X0_restOfDay (sL p2.toNatClampNeg) 86400) + (bL p2.toNatClampNeg)))) = 0 then (s_X2_keepMoment_mD mD p4 ((mD p1.toNatClampNeg) + (1 * (f_X0_daysOf (sL p2.toNatClampNeg) 86400))) ((mT p1.toNatClampNeg) + (1 * ((f_X0_restOfDay (sL p2.toNatClampNeg) 86400) + (bL p2.toNatClampNeg))))) else mD)) else mD) else mD) else mD)
def s_X2_goMoment_mT (sL : Nat → Int64) (bL : Nat → Int64) (mD : Nat → Int64) (mT : Nat → Int64) (p1 : Int32) (p2 : Int32) (p3 : Int32) (p4 : Int32) : Nat → Int64 := (if k_X2_checkSlot p1 4 = 0 then (if k_X2_checkSlot p2 4 = 0 then (if k_X2_checkSlot p4 4 = 0 then (if f_X2_goMoment_j1 p3 = (-1) then (if k_X2_keepMoment ((mD p1.toNatClampNeg) + ((-1) * (f_X0_daysOf (sL p2.toNatClampNeg) 86400))) ((mT p1.toNatClampNeg) + ((-1) * ((f_X0_restOfDay (sL p2.toNatClampNeg) 86400) + (bL p2.toNatClampNeg)))) = 0 then (s_X2_keepMoment_mT mT p4 ((mD p1.toNatClampNeg) + ((-1) * (f_X0_daysOf (sL p2.toNatClampNeg) 86400))) ((mT p1.toNatClampNeg) + ((-1) * ((f_X0_restOfDay (sL p2.toNatClampNeg) 86400) + (bL p2.toNatClampNeg))))) else mT) else (if k_X2_keepMoment ((mD p1.toNatClampNeg) + (1 * (f_X0_daysOf (sL p2.toNatClampNeg) 86400))) ((mT p1.toNatClampNeg) + (1 * ((f_X0_restOfDay (sL p2.toNatClampNeg) 86400) + (bL p2.toNatClampNeg)))) = 0 then (s_X2_keepMoment_mT mT p4 ((mD p1.toNatClampNeg) + (1 * (f_X0_daysOf (sL p2.toNatClampNeg) 86400))) ((mT p1.toNatClampNeg) + (1 * ((f_X0_restOfDay (sL p2.toNatClampNeg) 86400) + (bL p2.toNatClampNeg))))) else mT)) else mT) else mT) else mT)
def k_X2_goMoment (sL : Nat → Int64) (bL : Nat → Int64) (mD : Nat → Int64) (mT : Nat → Int64) (p1 : Int32) (p2 : Int32) (p3 : Int32) (p4 : Int32) : Int32 := (if k_X2_checkSlot p1 4 = 0 then (if k_X2_checkSlot p2 4 = 0 then (if k_X2_checkSlot p4 4 = 0 then (if f_X2_goMoment_j1 p3 = (-1) then (if k_X2_keepMoment ((mD p1.toNatClampNeg) + ((-1) * (f_X0_daysOf (sL p2.toNatClampNeg) 86400))) ((mT p1.toNatClampNeg) + ((-1) * ((f_X0_restOfDay (sL p2.toNatClampNeg) 86400) + (bL p2.toNatClampNeg)))) = 0 then 0 else k_X2_keepMoment ((mD p1.toNatClampNeg) + ((-1) * (f_X0_daysOf (sL p2.toNatClampNeg) 86400))) ((mT p1.toNatClampNeg) + ((-1) * ((f_X0_restOfDay (sL p2.toNatClampNeg) 86400) + (bL p2.toNatClampNeg))))) else (if k_X2_keepMoment ((mD p1.toNatClampNeg) + (1 * (f_X0_daysOf (sL p2.toNatClampNeg) 86400))) ((mT p1.toNatClampNeg) + (1 * ((f_X0_restOfDay (sL p2.toNatClampNeg) 86400) + (bL p2.toNatClampNeg)))) = 0 then 0 else k_X2_keepMoment ((mD p1.toNatClampNeg) + (1 * (f_X0_daysOf (sL p2.toNatClampNeg) 86400))) ((mT p1.toNatClampNeg) + (1 * ((f_X0_restOfDay (sL p2.toNatClampNeg) 86400) + (bL p2.toNatClampNeg)))))) else k_X2_checkSlot p4 4) else k_X2_checkSlot p2 4) else k_X2_checkSlot p1 4)
theorem q_X2_goMoment : ZY yX2_goMoment wsX2_goMoment cX2_goMoment 10 (some .long) 4 := ⟨⟨_, rfl⟩, by decide +kernel, by decide +kernel, by decide +kernel⟩
set_option maxHeartbeats 4000000 in
set_option maxRecDepth 100000 in
theorem c_X2_goMoment (l : Launch) (hfl : l.stackTraces = false) (D : va_G) (cI cJ : ClassId) (X : va_W) (y : Nat → Nat) (d : Nat → Int64) (sy : Nat → Int32) (sm : Nat → Int32) (sd : Nat → Int32) (mi : Nat → Int32) (ti : Nat → Int64) (sL : Nat → Int64) (bL : Nat → Int64) (mD : Nat → Int64) (mT : Nat → Int64) (p1 : Int32) (p2 : Int32) (p3 : Int32) (p4 : Int32)  : ZM l yX2_goMoment wsX2_goMoment { frames := 8, cells := 4, slots := 24, locals := 129 } [.ref (y 0), .int p1, .int p2, .int p3, .int p4] D (zTys cI cJ) (wY cI cJ y d sy sm sd mi ti sL bL mD mT X) 4 24 (fun v w => k_X2_goMoment sL bL mD mT p1 p2 p3 p4 = 0 ∧ v = some (.long (f_X2_goMoment sL bL mD mT p1 p2 p3 p4)) ∧ w = (wY cI cJ y d sy sm sd mi ti sL bL (s_X2_goMoment_mD sL bL mD mT p1 p2 p3 p4) (s_X2_goMoment_mT sL bL mD mT p1 p2 p3 p4) X)) (fun E w => w = (wY cI cJ y d sy sm sd mi ti sL bL mD mT X) ∧ zEx E (k_X2_goMoment sL bL mD mT p1 p2 p3 p4)) := by
  refine z_open (own := RX2) hfl (cc := cX2_goMoment) (maxL := 10) (ret := (some .long)) (lv := [(0, .ref (y 0)), (1, .int p1), (2, .int p2), (3, .int p3), (4, .int p4)]) rfl (by decide) rfl rfl (Nat.le_of_ble_eq_true rfl) ?_
  intro p e s m args below meth c A C hno hnm hargs
  have hin : ∀ w ∈ wsX20, w ∈ wsX2_goMoment := by decide +kernel
  have w1 := C.1.2.2.2.2 (.fieldLink RX2 35 "Yearwheel" "momentDays" "[J") (by decide +kernel)
  have w2 := C.1.2.2.2.2 (.fieldLink RX2 29 "Yearwheel" "lengthSeconds" "[J") (by decide +kernel)
  have w3 := C.1.2.2.2.2 (.constantLong RX2 221 (86400)) (by decide +kernel)
  have w4 := C.1.2.2.2.2 (.fieldLink RX2 32 "Yearwheel" "lengthBillionths" "[J") (by decide +kernel)
  have w5 := C.1.2.2.2.2 (.fieldLink RX2 38 "Yearwheel" "momentTimes" "[J") (by decide +kernel)
  refine z_iload_n C dX2_goMoment_0 rfl 1 rfl ?_
  refine z_iconst (v := 4) C dX2_goMoment_1 (by decide) ?_
  refine z_xsv (rest := []) C (c_X2_checkSlot l hfl D cI cJ _ p1 (4 : Int32) ) q_X2_checkSlot gX2_goMoment_X2_checkSlot ⟨rfl, rfl⟩ rfl rfl (Nat.le_of_ble_eq_true rfl) ⟨Nat.le_of_ble_eq_true rfl, Nat.le_of_ble_eq_true rfl⟩ ⟨Nat.le_of_ble_eq_true rfl, Nat.le_of_ble_eq_true rfl⟩ dX2_goMoment_2 (fun h1 => ?_) (fun E h1 h1_E => ?_)
  · refine z_iload_n C dX2_goMoment_5 rfl 2 rfl ?_
    refine z_iconst (v := 4) C dX2_goMoment_6 (by decide) ?_
    refine z_xsv (rest := []) C (c_X2_checkSlot l hfl D cI cJ _ p2 (4 : Int32) ) q_X2_checkSlot gX2_goMoment_X2_checkSlot ⟨rfl, rfl⟩ rfl rfl (Nat.le_of_ble_eq_true rfl) ⟨Nat.le_of_ble_eq_true rfl, Nat.le_of_ble_eq_true rfl⟩ ⟨Nat.le_of_ble_eq_true rfl, Nat.le_of_ble_eq_true rfl⟩ dX2_goMoment_7 (fun h2 => ?_) (fun E h2 h2_E => ?_)
    · refine z_iload C dX2_goMoment_10 4 rfl ?_
      refine z_iconst (v := 4) C dX2_goMoment_12 (by decide) ?_
      refine z_xsv (rest := []) C (c_X2_checkSlot l hfl D cI cJ _ p4 (4 : Int32) ) q_X2_checkSlot gX2_goMoment_X2_checkSlot ⟨rfl, rfl⟩ rfl rfl (Nat.le_of_ble_eq_true rfl) ⟨Nat.le_of_ble_eq_true rfl, Nat.le_of_ble_eq_true rfl⟩ ⟨Nat.le_of_ble_eq_true rfl, Nat.le_of_ble_eq_true rfl⟩ dX2_goMoment_13 (fun h3 => ?_) (fun E h3 h3_E => ?_)
      · refine z_iload_n C dX2_goMoment_16 rfl 3 rfl ?_
        have K1_m1 : f_X2_goMoment_j1 p3 = (-1) → (¬ p3 = 0) → ZW p l e { frames := 8, cells := 4, slots := 24, locals := 129 } s m args below meth c 10 D (zTys cI cJ) A (zE D (zTys cI cJ) A below args s (fun v w => k_X2_goMoment sL bL mD mT p1 p2 p3 p4 = 0 ∧ v = some (.long (f_X2_goMoment sL bL mD mT p1 p2 p3 p4)) ∧ w = (wY cI cJ y d sy sm sd mi ti sL bL (s_X2_goMoment_mD sL bL mD mT p1 p2 p3 p4) (s_X2_goMoment_mT sL bL mD mT p1 p2 p3 p4) X)) (fun E w => w = (wY cI cJ y d sy sm sd mi ti sL bL mD mT X) ∧ zEx E (k_X2_goMoment sL bL mD mT p1 p2 p3 p4)) 4 24) 3 18 (wY cI cJ y d sy sm sd mi ti sL bL mD mT X) 25 [(0, .ref (y 0)), (1, .int p1), (2, .int p2), (3, .int p3), (4, .int p4)] [.int (-1)] := by
          intro h5 h6
          refine z_istore (lv' := [(5, .int (-1)), (0, .ref (y 0)), (1, .int p1), (2, .int p2), (3, .int p3), (4, .int p4)]) C dX2_goMoment_25 (by decide) rfl ?_
          refine z_aload_n C dX2_goMoment_27 rfl 1 rfl ?_
          refine z_get (CC := RX2) (T := TX2) (N := 10) (ci := 2) C hin 0 rfl rfl 8 (by decide) w1 rfl rfl dX2_goMoment_28 ?_
          refine z_iload_n C dX2_goMoment_31 rfl 2 rfl ?_
          refine z_lald C 9 1 rfl rfl (vpS4 h1) dX2_goMoment_32 ?_
          refine z_iload C dX2_goMoment_33 0 rfl ?_
          refine z_i2l (v := (-1)) C dX2_goMoment_35 (by decide) ?_
          refine z_aload_n C dX2_goMoment_36 rfl 1 rfl ?_
          refine z_get (CC := RX2) (T := TX2) (N := 10) (ci := 2) C hin 0 rfl rfl 6 (by decide) w2 rfl rfl dX2_goMoment_37 ?_
          refine z_iload_n C dX2_goMoment_40 rfl 3 rfl ?_
          refine z_lald C 7 1 rfl rfl (vpS4 h2) dX2_goMoment_41 ?_
          refine z_ldc2 (v := 86400) C w3 dX2_goMoment_42 ?_
          refine z_sl (rest := [.long (-1), .long (mD p1.toNatClampNeg)]) C (c_X0_daysOf l hfl D cI cJ _ (sL p2.toNatClampNeg) (86400 : Int64) ) q_X0_daysOf gX2_goMoment_X0_daysOf ⟨rfl, rfl⟩ rfl rfl (Nat.le_of_ble_eq_true rfl) ⟨Nat.le_of_ble_eq_true rfl, Nat.le_of_ble_eq_true rfl⟩ ⟨Nat.le_of_ble_eq_true rfl, Nat.le_of_ble_eq_true rfl⟩ dX2_goMoment_45 ?_
          refine z_lmul C dX2_goMoment_48 ?_
          refine z_ladd C dX2_goMoment_49 ?_
          refine z_lstore (lv' := [(6, .long ((mD p1.toNatClampNeg) + ((-1) * (f_X0_daysOf (sL p2.toNatClampNeg) 86400)))), (5, .int (-1)), (0, .ref (y 0)), (1, .int p1), (2, .int p2), (3, .int p3), (4, .int p4)]) C dX2_goMoment_50 (by decide) rfl ?_
          refine z_aload_n C dX2_goMoment_52 rfl 2 rfl ?_
          refine z_get (CC := RX2) (T := TX2) (N := 10) (ci := 2) C hin 0 rfl rfl 6 (by decide) w2 rfl rfl dX2_goMoment_53 ?_
          refine z_iload_n C dX2_goMoment_56 rfl 4 rfl ?_
          refine z_lald C 7 1 rfl rfl (vpS4 h2) dX2_goMoment_57 ?_
          refine z_ldc2 (v := 86400) C w3 dX2_goMoment_58 ?_
          refine z_sl (rest := []) C (c_X0_restOfDay l hfl D cI cJ _ (sL p2.toNatClampNeg) (86400 : Int64) ) q_X0_restOfDay gX2_goMoment_X0_restOfDay ⟨rfl, rfl⟩ rfl rfl (Nat.le_of_ble_eq_true rfl) ⟨Nat.le_of_ble_eq_true rfl, Nat.le_of_ble_eq_true rfl⟩ ⟨Nat.le_of_ble_eq_true rfl, Nat.le_of_ble_eq_true rfl⟩ dX2_goMoment_61 ?_
          refine z_aload_n C dX2_goMoment_64 rfl 2 rfl ?_
          refine z_get (CC := RX2) (T := TX2) (N := 10) (ci := 2) C hin 0 rfl rfl 7 (by decide) w4 rfl rfl dX2_goMoment_65 ?_
          refine z_iload_n C dX2_goMoment_68 rfl 4 rfl ?_
          refine z_lald C 8 1 rfl rfl (vpS4 h2) dX2_goMoment_69 ?_
          refine z_ladd C dX2_goMoment_70 ?_
          refine z_lstore (lv' := [(8, .long ((f_X0_restOfDay (sL p2.toNatClampNeg) 86400) + (bL p2.toNatClampNeg))), (6, .long ((mD p1.toNatClampNeg) + ((-1) * (f_X0_daysOf (sL p2.toNatClampNeg) 86400)))), (5, .int (-1)), (0, .ref (y 0)), (1, .int p1), (2, .int p2), (3, .int p3), (4, .int p4)]) C dX2_goMoment_71 (by decide) rfl ?_
          refine z_aload_n C dX2_goMoment_73 rfl 3 rfl ?_
          refine z_iload C dX2_goMoment_74 7 rfl ?_
          refine z_lload C dX2_goMoment_76 1 rfl ?_
          refine z_aload_n C dX2_goMoment_78 rfl 3 rfl ?_
          refine z_get (CC := RX2) (T := TX2) (N := 10) (ci := 2) C hin 0 rfl rfl 9 (by decide) w5 rfl rfl dX2_goMoment_79 ?_
          refine z_iload_n C dX2_goMoment_82 rfl 4 rfl ?_
          refine z_lald C 10 1 rfl rfl (vpS4 h1) dX2_goMoment_83 ?_
          refine z_iload C dX2_goMoment_84 2 rfl ?_
          refine z_i2l (v := (-1)) C dX2_goMoment_86 (by decide) ?_
          refine z_lload C dX2_goMoment_87 0 rfl ?_
          refine z_lmul C dX2_goMoment_89 ?_
          refine z_ladd C dX2_goMoment_90 ?_
          refine z_xwl (ws' := (wY cI cJ y d sy sm sd mi ti sL bL (s_X2_keepMoment_mD mD p4 ((mD p1.toNatClampNeg) + ((-1) * (f_X0_daysOf (sL p2.toNatClampNeg) 86400))) ((mT p1.toNatClampNeg) + ((-1) * ((f_X0_restOfDay (sL p2.toNatClampNeg) 86400) + (bL p2.toNatClampNeg))))) (s_X2_keepMoment_mT mT p4 ((mD p1.toNatClampNeg) + ((-1) * (f_X0_daysOf (sL p2.toNatClampNeg) 86400))) ((mT p1.toNatClampNeg) + ((-1) * ((f_X0_restOfDay (sL p2.toNatClampNeg) 86400) + (bL p2.toNatClampNeg))))) X)) (rest := []) (ci := 2) (q0 := 0) C (c_X2_keepMoment l hfl D cI cJ X y d sy sm sd mi ti sL bL mD mT p4 ((mD p1.toNatClampNeg) + ((-1) * (f_X0_daysOf (sL p2.toNatClampNeg) 86400))) ((mT p1.toNatClampNeg) + ((-1) * ((f_X0_restOfDay (sL p2.toNatClampNeg) 86400) + (bL p2.toNatClampNeg)))) (vpS4 h3)) q_X2_keepMoment rfl rfl rfl gX2_goMoment_X2_keepMoment ⟨rfl, rfl⟩ rfl rfl (Nat.le_of_ble_eq_true rfl) ⟨Nat.le_of_ble_eq_true rfl, Nat.le_of_ble_eq_true rfl⟩ ⟨Nat.le_of_ble_eq_true rfl, Nat.le_of_ble_eq_true rfl⟩ dX2_goMoment_91 (fun h7 => ?_) (fun E h7 h7_E => ?_)
          · exact z_lret C ⟨by rw [k_X2_goMoment, if_pos h1, if_pos h2, if_pos h3, if_pos h5, if_pos h7], congrArg (fun v => some (Value.long v)) (by rw [f_X2_goMoment, if_pos h1, if_pos h2, if_pos h3, if_pos h5, if_pos h7] : (f_X2_keepMoment ((mD p1.toNatClampNeg) + ((-1) * (f_X0_daysOf (sL p2.toNatClampNeg) 86400))) ((mT p1.toNatClampNeg) + ((-1) * ((f_X0_restOfDay (sL p2.toNatClampNeg) 86400) + (bL p2.toNatClampNeg))))) = (f_X2_goMoment sL bL mD mT p1 p2 p3 p4)), by rw [s_X2_goMoment_mD, if_pos h1, if_pos h2, if_pos h3, if_pos h5, if_pos h7, s_X2_goMoment_mT, if_pos h1, if_pos h2, if_pos h3, if_pos h5, if_pos h7]⟩ (by decide) (by decide) dX2_goMoment_94
          · exact z_tout C hno ⟨rfl, by rw [k_X2_goMoment, if_pos h1, if_pos h2, if_pos h3, if_pos h5, if_neg h7]; exact h7_E⟩ (by decide) (by decide)
        have K1_1 : f_X2_goMoment_j1 p3 = 1 → (p3 = 0) → ZW p l e { frames := 8, cells := 4, slots := 24, locals := 129 } s m args below meth c 10 D (zTys cI cJ) A (zE D (zTys cI cJ) A below args s (fun v w => k_X2_goMoment sL bL mD mT p1 p2 p3 p4 = 0 ∧ v = some (.long (f_X2_goMoment sL bL mD mT p1 p2 p3 p4)) ∧ w = (wY cI cJ y d sy sm sd mi ti sL bL (s_X2_goMoment_mD sL bL mD mT p1 p2 p3 p4) (s_X2_goMoment_mT sL bL mD mT p1 p2 p3 p4) X)) (fun E w => w = (wY cI cJ y d sy sm sd mi ti sL bL mD mT X) ∧ zEx E (k_X2_goMoment sL bL mD mT p1 p2 p3 p4)) 4 24) 3 18 (wY cI cJ y d sy sm sd mi ti sL bL mD mT X) 25 [(0, .ref (y 0)), (1, .int p1), (2, .int p2), (3, .int p3), (4, .int p4)] [.int 1] := by
          intro h8 h9
          refine z_istore (lv' := [(5, .int 1), (0, .ref (y 0)), (1, .int p1), (2, .int p2), (3, .int p3), (4, .int p4)]) C dX2_goMoment_25 (by decide) rfl ?_
          refine z_aload_n C dX2_goMoment_27 rfl 1 rfl ?_
          refine z_get (CC := RX2) (T := TX2) (N := 10) (ci := 2) C hin 0 rfl rfl 8 (by decide) w1 rfl rfl dX2_goMoment_28 ?_
          refine z_iload_n C dX2_goMoment_31 rfl 2 rfl ?_
          refine z_lald C 9 1 rfl rfl (vpS4 h1) dX2_goMoment_32 ?_
          refine z_iload C dX2_goMoment_33 0 rfl ?_
          refine z_i2l (v := 1) C dX2_goMoment_35 (by decide) ?_
          refine z_aload_n C dX2_goMoment_36 rfl 1 rfl ?_
          refine z_get (CC := RX2) (T := TX2) (N := 10) (ci := 2) C hin 0 rfl rfl 6 (by decide) w2 rfl rfl dX2_goMoment_37 ?_
          refine z_iload_n C dX2_goMoment_40 rfl 3 rfl ?_
          refine z_lald C 7 1 rfl rfl (vpS4 h2) dX2_goMoment_41 ?_
          refine z_ldc2 (v := 86400) C w3 dX2_goMoment_42 ?_
          refine z_sl (rest := [.long 1, .long (mD p1.toNatClampNeg)]) C (c_X0_daysOf l hfl D cI cJ _ (sL p2.toNatClampNeg) (86400 : Int64) ) q_X0_daysOf gX2_goMoment_X0_daysOf ⟨rfl, rfl⟩ rfl rfl (Nat.le_of_ble_eq_true rfl) ⟨Nat.le_of_ble_eq_true rfl, Nat.le_of_ble_eq_true rfl⟩ ⟨Nat.le_of_ble_eq_true rfl, Nat.le_of_ble_eq_true rfl⟩ dX2_goMoment_45 ?_
          refine z_lmul C dX2_goMoment_48 ?_
          refine z_ladd C dX2_goMoment_49 ?_
          refine z_lstore (lv' := [(6, .long ((mD p1.toNatClampNeg) + (1 * (f_X0_daysOf (sL p2.toNatClampNeg) 86400)))), (5, .int 1), (0, .ref (y 0)), (1, .int p1), (2, .int p2), (3, .int p3), (4, .int p4)]) C dX2_goMoment_50 (by decide) rfl ?_
          refine z_aload_n C dX2_goMoment_52 rfl 2 rfl ?_
          refine z_get (CC := RX2) (T := TX2) (N := 10) (ci := 2) C hin 0 rfl rfl 6 (by decide) w2 rfl rfl dX2_goMoment_53 ?_
          refine z_iload_n C dX2_goMoment_56 rfl 4 rfl ?_
          refine z_lald C 7 1 rfl rfl (vpS4 h2) dX2_goMoment_57 ?_
          refine z_ldc2 (v := 86400) C w3 dX2_goMoment_58 ?_
          refine z_sl (rest := []) C (c_X0_restOfDay l hfl D cI cJ _ (sL p2.toNatClampNeg) (86400 : Int64) ) q_X0_restOfDay gX2_goMoment_X0_restOfDay ⟨rfl, rfl⟩ rfl rfl (Nat.le_of_ble_eq_true rfl) ⟨Nat.le_of_ble_eq_true rfl, Nat.le_of_ble_eq_true rfl⟩ ⟨Nat.le_of_ble_eq_true rfl, Nat.le_of_ble_eq_true rfl⟩ dX2_goMoment_61 ?_
          refine z_aload_n C dX2_goMoment_64 rfl 2 rfl ?_
          refine z_get (CC := RX2) (T := TX2) (N := 10) (ci := 2) C hin 0 rfl rfl 7 (by decide) w4 rfl rfl dX2_goMoment_65 ?_
          refine z_iload_n C dX2_goMoment_68 rfl 4 rfl ?_
          refine z_lald C 8 1 rfl rfl (vpS4 h2) dX2_goMoment_69 ?_
          refine z_ladd C dX2_goMoment_70 ?_
          refine z_lstore (lv' := [(8, .long ((f_X0_restOfDay (sL p2.toNatClampNeg) 86400) + (bL p2.toNatClampNeg))), (6, .long ((mD p1.toNatClampNeg) + (1 * (f_X0_daysOf (sL p2.toNatClampNeg) 86400)))), (5, .int 1), (0, .ref (y 0)), (1, .int p1), (2, .int p2), (3, .int p3), (4, .int p4)]) C dX2_goMoment_71 (by decide) rfl ?_
          refine z_aload_n C dX2_goMoment_73 rfl 3 rfl ?_
          refine z_iload C dX2_goMoment_74 7 rfl ?_
          refine z_lload C dX2_goMoment_76 1 rfl ?_
          refine z_aload_n C dX2_goMoment_78 rfl 3 rfl ?_
          refine z_get (CC := RX2) (T := TX2) (N := 10) (ci := 2) C hin 0 rfl rfl 9 (by decide) w5 rfl rfl dX2_goMoment_79 ?_
          refine z_iload_n C dX2_goMoment_82 rfl 4 rfl ?_
          refine z_lald C 10 1 rfl rfl (vpS4 h1) dX2_goMoment_83 ?_
          refine z_iload C dX2_goMoment_84 2 rfl ?_
          refine z_i2l (v := 1) C dX2_goMoment_86 (by decide) ?_
          refine z_lload C dX2_goMoment_87 0 rfl ?_
          refine z_lmul C dX2_goMoment_89 ?_
          refine z_ladd C dX2_goMoment_90 ?_
          refine z_xwl (ws' := (wY cI cJ y d sy sm sd mi ti sL bL (s_X2_keepMoment_mD mD p4 ((mD p1.toNatClampNeg) + (1 * (f_X0_daysOf (sL p2.toNatClampNeg) 86400))) ((mT p1.toNatClampNeg) + (1 * ((f_X0_restOfDay (sL p2.toNatClampNeg) 86400) + (bL p2.toNatClampNeg))))) (s_X2_keepMoment_mT mT p4 ((mD p1.toNatClampNeg) + (1 * (f_X0_daysOf (sL p2.toNatClampNeg) 86400))) ((mT p1.toNatClampNeg) + (1 * ((f_X0_restOfDay (sL p2.toNatClampNeg) 86400) + (bL p2.toNatClampNeg))))) X)) (rest := []) (ci := 2) (q0 := 0) C (c_X2_keepMoment l hfl D cI cJ X y d sy sm sd mi ti sL bL mD mT p4 ((mD p1.toNatClampNeg) + (1 * (f_X0_daysOf (sL p2.toNatClampNeg) 86400))) ((mT p1.toNatClampNeg) + (1 * ((f_X0_restOfDay (sL p2.toNatClampNeg) 86400) + (bL p2.toNatClampNeg)))) (vpS4 h3)) q_X2_keepMoment rfl rfl rfl gX2_goMoment_X2_keepMoment ⟨rfl, rfl⟩ rfl rfl (Nat.le_of_ble_eq_true rfl) ⟨Nat.le_of_ble_eq_true rfl, Nat.le_of_ble_eq_true rfl⟩ ⟨Nat.le_of_ble_eq_true rfl, Nat.le_of_ble_eq_true rfl⟩ dX2_goMoment_91 (fun h10 => ?_) (fun E h10 h10_E => ?_)
          · exact z_lret C ⟨by rw [k_X2_goMoment, if_pos h1, if_pos h2, if_pos h3, if_neg (by rw [h8]; decide : ¬ f_X2_goMoment_j1 p3 = (-1)), if_pos h10], congrArg (fun v => some (Value.long v)) (by rw [f_X2_goMoment, if_pos h1, if_pos h2, if_pos h3, if_neg (by rw [h8]; decide : ¬ f_X2_goMoment_j1 p3 = (-1)), if_pos h10] : (f_X2_keepMoment ((mD p1.toNatClampNeg) + (1 * (f_X0_daysOf (sL p2.toNatClampNeg) 86400))) ((mT p1.toNatClampNeg) + (1 * ((f_X0_restOfDay (sL p2.toNatClampNeg) 86400) + (bL p2.toNatClampNeg))))) = (f_X2_goMoment sL bL mD mT p1 p2 p3 p4)), by rw [s_X2_goMoment_mD, if_pos h1, if_pos h2, if_pos h3, if_neg (by rw [h8]; decide : ¬ f_X2_goMoment_j1 p3 = (-1)), if_pos h10, s_X2_goMoment_mT, if_pos h1, if_pos h2, if_pos h3, if_neg (by rw [h8]; decide : ¬ f_X2_goMoment_j1 p3 = (-1)), if_pos h10]⟩ (by decide) (by decide) dX2_goMoment_94
          · exact z_tout C hno ⟨rfl, by rw [k_X2_goMoment, if_pos h1, if_pos h2, if_pos h3, if_neg (by rw [h8]; decide : ¬ f_X2_goMoment_j1 p3 = (-1)), if_neg h10]; exact h10_E⟩ (by decide) (by decide)
        refine z_if_eq (tgt := 24) C dX2_goMoment_17 (by decide) (fun h4 => ?_) (fun h4 => ?_)
        · refine z_iconst (v := 1) C dX2_goMoment_24 (by decide) ?_
          exact K1_1 (by rw [f_X2_goMoment_j1, if_pos h4]) h4
        · refine z_iconst (v := (-1)) C dX2_goMoment_20 (by decide) ?_
          refine z_goto (tgt := 25) C dX2_goMoment_21 (by decide) ?_
          exact K1_m1 (by rw [f_X2_goMoment_j1, if_neg h4]) h4
      · exact z_tout C hno ⟨rfl, by rw [k_X2_goMoment, if_pos h1, if_pos h2, if_neg h3]; exact h3_E⟩ (by decide) (by decide)
    · exact z_tout C hno ⟨rfl, by rw [k_X2_goMoment, if_pos h1, if_neg h2]; exact h2_E⟩ (by decide) (by decide)
  · exact z_tout C hno ⟨rfl, by rw [k_X2_goMoment, if_neg h1]; exact h1_E⟩ (by decide) (by decide)
def f_X2_lengthOfMoments (mD : Nat → Int64) (mT : Nat → Int64) (p1 : Int32) (p2 : Int32) (p3 : Int32) : Int64 := (if k_X2_checkSlot p1 4 = 0 then (if k_X2_checkSlot p2 4 = 0 then (if k_X2_checkSlot p3 4 = 0 then (if k_X2_keepLength (((mD p2.toNatClampNeg) - (mD p1.toNatClampNeg)) * 86400) ((mT p2.toNatClampNeg) - (mT p1.toNatClampNeg)) = 0 then (f_X2_keepLength (((mD p2.toNatClampNeg) - (mD p1.toNatClampNeg)) * 86400) ((mT p2.toNatClampNeg) - (mT p1.toNatClampNeg))) else 0) else 0) else 0) else 0)
def s_X2_lengthOfMoments_sL (sL : Nat → Int64) (mD : Nat → Int64) (mT : Nat → Int64) (p1 : Int32) (p2 : Int32) (p3 : Int32) : Nat → Int64 := (if k_X2_checkSlot p1 4 = 0 then (if k_X2_checkSlot p2 4 = 0 then (if k_X2_checkSlot p3 4 = 0 then (if k_X2_keepLength (((mD p2.toNatClampNeg) - (mD p1.toNatClampNeg)) * 86400) ((mT p2.toNatClampNeg) - (mT p1.toNatClampNeg)) = 0 then (s_X2_keepLength_sL sL p3 (((mD p2.toNatClampNeg) - (mD p1.toNatClampNeg)) * 86400) ((mT p2.toNatClampNeg) - (mT p1.toNatClampNeg))) else sL) else sL) else sL) else sL)
def s_X2_lengthOfMoments_bL (bL : Nat → Int64) (mD : Nat → Int64) (mT : Nat → Int64) (p1 : Int32) (p2 : Int32) (p3 : Int32) : Nat → Int64 := (if k_X2_checkSlot p1 4 = 0 then (if k_X2_checkSlot p2 4 = 0 then (if k_X2_checkSlot p3 4 = 0 then (if k_X2_keepLength (((mD p2.toNatClampNeg) - (mD p1.toNatClampNeg)) * 86400) ((mT p2.toNatClampNeg) - (mT p1.toNatClampNeg)) = 0 then (s_X2_keepLength_bL bL p3 (((mD p2.toNatClampNeg) - (mD p1.toNatClampNeg)) * 86400) ((mT p2.toNatClampNeg) - (mT p1.toNatClampNeg))) else bL) else bL) else bL) else bL)
def k_X2_lengthOfMoments (mD : Nat → Int64) (mT : Nat → Int64) (p1 : Int32) (p2 : Int32) (p3 : Int32) : Int32 := (if k_X2_checkSlot p1 4 = 0 then (if k_X2_checkSlot p2 4 = 0 then (if k_X2_checkSlot p3 4 = 0 then (if k_X2_keepLength (((mD p2.toNatClampNeg) - (mD p1.toNatClampNeg)) * 86400) ((mT p2.toNatClampNeg) - (mT p1.toNatClampNeg)) = 0 then 0 else k_X2_keepLength (((mD p2.toNatClampNeg) - (mD p1.toNatClampNeg)) * 86400) ((mT p2.toNatClampNeg) - (mT p1.toNatClampNeg))) else k_X2_checkSlot p3 4) else k_X2_checkSlot p2 4) else k_X2_checkSlot p1 4)
theorem q_X2_lengthOfMoments : ZY yX2_lengthOfMoments wsX2_lengthOfMoments cX2_lengthOfMoments 6 (some .long) 3 := ⟨⟨_, rfl⟩, by decide +kernel, by decide +kernel, by decide +kernel⟩
set_option maxHeartbeats 4000000 in
set_option maxRecDepth 100000 in
theorem c_X2_lengthOfMoments (l : Launch) (hfl : l.stackTraces = false) (D : va_G) (cI cJ : ClassId) (X : va_W) (y : Nat → Nat) (d : Nat → Int64) (sy : Nat → Int32) (sm : Nat → Int32) (sd : Nat → Int32) (mi : Nat → Int32) (ti : Nat → Int64) (sL : Nat → Int64) (bL : Nat → Int64) (mD : Nat → Int64) (mT : Nat → Int64) (p1 : Int32) (p2 : Int32) (p3 : Int32)  : ZM l yX2_lengthOfMoments wsX2_lengthOfMoments { frames := 8, cells := 4, slots := 24, locals := 131 } [.ref (y 0), .int p1, .int p2, .int p3] D (zTys cI cJ) (wY cI cJ y d sy sm sd mi ti sL bL mD mT X) 4 24 (fun v w => k_X2_lengthOfMoments mD mT p1 p2 p3 = 0 ∧ v = some (.long (f_X2_lengthOfMoments mD mT p1 p2 p3)) ∧ w = (wY cI cJ y d sy sm sd mi ti (s_X2_lengthOfMoments_sL sL mD mT p1 p2 p3) (s_X2_lengthOfMoments_bL bL mD mT p1 p2 p3) mD mT X)) (fun E w => w = (wY cI cJ y d sy sm sd mi ti sL bL mD mT X) ∧ zEx E (k_X2_lengthOfMoments mD mT p1 p2 p3)) := by
  refine z_open (own := RX2) hfl (cc := cX2_lengthOfMoments) (maxL := 6) (ret := (some .long)) (lv := [(0, .ref (y 0)), (1, .int p1), (2, .int p2), (3, .int p3)]) rfl (by decide) rfl rfl (Nat.le_of_ble_eq_true rfl) ?_
  intro p e s m args below meth c A C hno hnm hargs
  have hin : ∀ w ∈ wsX20, w ∈ wsX2_lengthOfMoments := by decide +kernel
  have w1 := C.1.2.2.2.2 (.fieldLink RX2 35 "Yearwheel" "momentDays" "[J") (by decide +kernel)
  have w2 := C.1.2.2.2.2 (.constantLong RX2 221 (86400)) (by decide +kernel)
  have w3 := C.1.2.2.2.2 (.fieldLink RX2 38 "Yearwheel" "momentTimes" "[J") (by decide +kernel)
  refine z_iload_n C dX2_lengthOfMoments_0 rfl 1 rfl ?_
  refine z_iconst (v := 4) C dX2_lengthOfMoments_1 (by decide) ?_
  refine z_xsv (rest := []) C (c_X2_checkSlot l hfl D cI cJ _ p1 (4 : Int32) ) q_X2_checkSlot gX2_lengthOfMoments_X2_checkSlot ⟨rfl, rfl⟩ rfl rfl (Nat.le_of_ble_eq_true rfl) ⟨Nat.le_of_ble_eq_true rfl, Nat.le_of_ble_eq_true rfl⟩ ⟨Nat.le_of_ble_eq_true rfl, Nat.le_of_ble_eq_true rfl⟩ dX2_lengthOfMoments_2 (fun h1 => ?_) (fun E h1 h1_E => ?_)
  · refine z_iload_n C dX2_lengthOfMoments_5 rfl 2 rfl ?_
    refine z_iconst (v := 4) C dX2_lengthOfMoments_6 (by decide) ?_
    refine z_xsv (rest := []) C (c_X2_checkSlot l hfl D cI cJ _ p2 (4 : Int32) ) q_X2_checkSlot gX2_lengthOfMoments_X2_checkSlot ⟨rfl, rfl⟩ rfl rfl (Nat.le_of_ble_eq_true rfl) ⟨Nat.le_of_ble_eq_true rfl, Nat.le_of_ble_eq_true rfl⟩ ⟨Nat.le_of_ble_eq_true rfl, Nat.le_of_ble_eq_true rfl⟩ dX2_lengthOfMoments_7 (fun h2 => ?_) (fun E h2 h2_E => ?_)
    · refine z_iload_n C dX2_lengthOfMoments_10 rfl 3 rfl ?_
      refine z_iconst (v := 4) C dX2_lengthOfMoments_11 (by decide) ?_
      refine z_xsv (rest := []) C (c_X2_checkSlot l hfl D cI cJ _ p3 (4 : Int32) ) q_X2_checkSlot gX2_lengthOfMoments_X2_checkSlot ⟨rfl, rfl⟩ rfl rfl (Nat.le_of_ble_eq_true rfl) ⟨Nat.le_of_ble_eq_true rfl, Nat.le_of_ble_eq_true rfl⟩ ⟨Nat.le_of_ble_eq_true rfl, Nat.le_of_ble_eq_true rfl⟩ dX2_lengthOfMoments_12 (fun h3 => ?_) (fun E h3 h3_E => ?_)
      · refine z_aload_n C dX2_lengthOfMoments_15 rfl 0 rfl ?_
        refine z_get (CC := RX2) (T := TX2) (N := 10) (ci := 2) C hin 0 rfl rfl 8 (by decide) w1 rfl rfl dX2_lengthOfMoments_16 ?_
        refine z_iload_n C dX2_lengthOfMoments_19 rfl 2 rfl ?_
        refine z_lald C 9 1 rfl rfl (vpS4 h2) dX2_lengthOfMoments_20 ?_
        refine z_aload_n C dX2_lengthOfMoments_21 rfl 0 rfl ?_
        refine z_get (CC := RX2) (T := TX2) (N := 10) (ci := 2) C hin 0 rfl rfl 8 (by decide) w1 rfl rfl dX2_lengthOfMoments_22 ?_
        refine z_iload_n C dX2_lengthOfMoments_25 rfl 1 rfl ?_
        refine z_lald C 9 1 rfl rfl (vpS4 h1) dX2_lengthOfMoments_26 ?_
        refine z_lsub C dX2_lengthOfMoments_27 ?_
        refine z_lstore (lv' := [(4, .long ((mD p2.toNatClampNeg) - (mD p1.toNatClampNeg))), (0, .ref (y 0)), (1, .int p1), (2, .int p2), (3, .int p3)]) C dX2_lengthOfMoments_28 (by decide) rfl ?_
        refine z_aload_n C dX2_lengthOfMoments_30 rfl 1 rfl ?_
        refine z_iload_n C dX2_lengthOfMoments_31 rfl 4 rfl ?_
        refine z_lload C dX2_lengthOfMoments_32 0 rfl ?_
        refine z_ldc2 (v := 86400) C w2 dX2_lengthOfMoments_34 ?_
        refine z_lmul C dX2_lengthOfMoments_37 ?_
        refine z_aload_n C dX2_lengthOfMoments_38 rfl 1 rfl ?_
        refine z_get (CC := RX2) (T := TX2) (N := 10) (ci := 2) C hin 0 rfl rfl 9 (by decide) w3 rfl rfl dX2_lengthOfMoments_39 ?_
        refine z_iload_n C dX2_lengthOfMoments_42 rfl 3 rfl ?_
        refine z_lald C 10 1 rfl rfl (vpS4 h2) dX2_lengthOfMoments_43 ?_
        refine z_aload_n C dX2_lengthOfMoments_44 rfl 1 rfl ?_
        refine z_get (CC := RX2) (T := TX2) (N := 10) (ci := 2) C hin 0 rfl rfl 9 (by decide) w3 rfl rfl dX2_lengthOfMoments_45 ?_
        refine z_iload_n C dX2_lengthOfMoments_48 rfl 2 rfl ?_
        refine z_lald C 10 1 rfl rfl (vpS4 h1) dX2_lengthOfMoments_49 ?_
        refine z_lsub C dX2_lengthOfMoments_50 ?_
        refine z_xwl (ws' := (wY cI cJ y d sy sm sd mi ti (s_X2_keepLength_sL sL p3 (((mD p2.toNatClampNeg) - (mD p1.toNatClampNeg)) * 86400) ((mT p2.toNatClampNeg) - (mT p1.toNatClampNeg))) (s_X2_keepLength_bL bL p3 (((mD p2.toNatClampNeg) - (mD p1.toNatClampNeg)) * 86400) ((mT p2.toNatClampNeg) - (mT p1.toNatClampNeg))) mD mT X)) (rest := []) (ci := 2) (q0 := 0) C (c_X2_keepLength l hfl D cI cJ X y d sy sm sd mi ti sL bL mD mT p3 (((mD p2.toNatClampNeg) - (mD p1.toNatClampNeg)) * 86400) ((mT p2.toNatClampNeg) - (mT p1.toNatClampNeg)) (vpS4 h3)) q_X2_keepLength rfl rfl rfl gX2_lengthOfMoments_X2_keepLength ⟨rfl, rfl⟩ rfl rfl (Nat.le_of_ble_eq_true rfl) ⟨Nat.le_of_ble_eq_true rfl, Nat.le_of_ble_eq_true rfl⟩ ⟨Nat.le_of_ble_eq_true rfl, Nat.le_of_ble_eq_true rfl⟩ dX2_lengthOfMoments_51 (fun h4 => ?_) (fun E h4 h4_E => ?_)
        · exact z_lret C ⟨by rw [k_X2_lengthOfMoments, if_pos h1, if_pos h2, if_pos h3, if_pos h4], congrArg (fun v => some (Value.long v)) (by rw [f_X2_lengthOfMoments, if_pos h1, if_pos h2, if_pos h3, if_pos h4] : (f_X2_keepLength (((mD p2.toNatClampNeg) - (mD p1.toNatClampNeg)) * 86400) ((mT p2.toNatClampNeg) - (mT p1.toNatClampNeg))) = (f_X2_lengthOfMoments mD mT p1 p2 p3)), by rw [s_X2_lengthOfMoments_sL, if_pos h1, if_pos h2, if_pos h3, if_pos h4, s_X2_lengthOfMoments_bL, if_pos h1, if_pos h2, if_pos h3, if_pos h4]⟩ (by decide) (by decide) dX2_lengthOfMoments_54
        · exact z_tout C hno ⟨rfl, by rw [k_X2_lengthOfMoments, if_pos h1, if_pos h2, if_pos h3, if_neg h4]; exact h4_E⟩ (by decide) (by decide)
      · exact z_tout C hno ⟨rfl, by rw [k_X2_lengthOfMoments, if_pos h1, if_pos h2, if_neg h3]; exact h3_E⟩ (by decide) (by decide)
    · exact z_tout C hno ⟨rfl, by rw [k_X2_lengthOfMoments, if_pos h1, if_neg h2]; exact h2_E⟩ (by decide) (by decide)
  · exact z_tout C hno ⟨rfl, by rw [k_X2_lengthOfMoments, if_neg h1]; exact h1_E⟩ (by decide) (by decide)
def f_X2_whole (mD : Nat → Int64) (mT : Nat → Int64) (p1 : Int32) (p2 : Int32) (p3 : Int32) : Int64 := (if k_X2_checkSlot p1 4 = 0 then (if k_X2_checkSlot p2 4 = 0 then (if p3 = 100 then (f_X0_cut ((mD p2.toNatClampNeg) - (mD p1.toNatClampNeg)) ((mT p2.toNatClampNeg) - (mT p1.toNatClampNeg))) else (if p3 = 104 then ((f_X0_wholeSeconds ((mD p2.toNatClampNeg) - (mD p1.toNatClampNeg)) ((mT p2.toNatClampNeg) - (mT p1.toNatClampNeg))) / 3600) else (if p3 = 105 then ((f_X0_wholeSeconds ((mD p2.toNatClampNeg) - (mD p1.toNatClampNeg)) ((mT p2.toNatClampNeg) - (mT p1.toNatClampNeg))) / 60) else (if p3 = 115 then (f_X0_wholeSeconds ((mD p2.toNatClampNeg) - (mD p1.toNatClampNeg)) ((mT p2.toNatClampNeg) - (mT p1.toNatClampNeg))) else 0)))) else 0) else 0)
def k_X2_whole (p1 : Int32) (p2 : Int32) (p3 : Int32) : Int32 := (if k_X2_checkSlot p1 4 = 0 then (if k_X2_checkSlot p2 4 = 0 then (if p3 = 100 then 0 else (if p3 = 104 then 0 else (if p3 = 105 then 0 else (if p3 = 115 then 0 else 2)))) else k_X2_checkSlot p2 4) else k_X2_checkSlot p1 4)
theorem q_X2_whole : ZY yX2_whole wsX2_whole cX2_whole 8 (some .long) 3 := ⟨⟨_, rfl⟩, by decide +kernel, by decide +kernel, by decide +kernel⟩
set_option maxHeartbeats 4000000 in
set_option maxRecDepth 100000 in
theorem c_X2_whole (l : Launch) (hfl : l.stackTraces = false) (D : va_G) (cI cJ : ClassId) (X : va_W) (y : Nat → Nat) (d : Nat → Int64) (sy : Nat → Int32) (sm : Nat → Int32) (sd : Nat → Int32) (mi : Nat → Int32) (ti : Nat → Int64) (sL : Nat → Int64) (bL : Nat → Int64) (mD : Nat → Int64) (mT : Nat → Int64) (p1 : Int32) (p2 : Int32) (p3 : Int32)  : ZM l yX2_whole wsX2_whole { frames := 7, cells := 3, slots := 18, locals := 103 } [.ref (y 0), .int p1, .int p2, .int p3] D (zTys cI cJ) (wY cI cJ y d sy sm sd mi ti sL bL mD mT X) 3 18 (fun v w => k_X2_whole p1 p2 p3 = 0 ∧ v = some (.long (f_X2_whole mD mT p1 p2 p3)) ∧ w = (wY cI cJ y d sy sm sd mi ti sL bL mD mT X)) (fun E w => w = (wY cI cJ y d sy sm sd mi ti sL bL mD mT X) ∧ zEx E (k_X2_whole p1 p2 p3)) := by
  refine z_open (own := RX2) hfl (cc := cX2_whole) (maxL := 8) (ret := (some .long)) (lv := [(0, .ref (y 0)), (1, .int p1), (2, .int p2), (3, .int p3)]) rfl (by decide) rfl rfl (Nat.le_of_ble_eq_true rfl) ?_
  intro p e s m args below meth c A C hno hnm hargs
  have hin : ∀ w ∈ wsX20, w ∈ wsX2_whole := by decide +kernel
  have w1 := C.1.2.2.2.2 (.fieldLink RX2 35 "Yearwheel" "momentDays" "[J") (by decide +kernel)
  have w2 := C.1.2.2.2.2 (.fieldLink RX2 38 "Yearwheel" "momentTimes" "[J") (by decide +kernel)
  have w3 := C.1.2.2.2.2 (.constantLong RX2 249 (3600)) (by decide +kernel)
  have w4 := C.1.2.2.2.2 (.constantLong RX2 201 (60)) (by decide +kernel)
  have w5 := C.1.2.2.2.2 (.classLink RX2 101 "java/lang/IllegalArgumentException") (by decide +kernel)
  have w6 := C.1.2.2.2.2 (.initialized "java/lang/IllegalArgumentException") (by decide +kernel)
  refine z_iload_n C dX2_whole_0 rfl 1 rfl ?_
  refine z_iconst (v := 4) C dX2_whole_1 (by decide) ?_
  refine z_xsv (rest := []) C (c_X2_checkSlot l hfl D cI cJ _ p1 (4 : Int32) ) q_X2_checkSlot gX2_whole_X2_checkSlot ⟨rfl, rfl⟩ rfl rfl (Nat.le_of_ble_eq_true rfl) ⟨Nat.le_of_ble_eq_true rfl, Nat.le_of_ble_eq_true rfl⟩ ⟨Nat.le_of_ble_eq_true rfl, Nat.le_of_ble_eq_true rfl⟩ dX2_whole_2 (fun h1 => ?_) (fun E h1 h1_E => ?_)
  · refine z_iload_n C dX2_whole_5 rfl 2 rfl ?_
    refine z_iconst (v := 4) C dX2_whole_6 (by decide) ?_
    refine z_xsv (rest := []) C (c_X2_checkSlot l hfl D cI cJ _ p2 (4 : Int32) ) q_X2_checkSlot gX2_whole_X2_checkSlot ⟨rfl, rfl⟩ rfl rfl (Nat.le_of_ble_eq_true rfl) ⟨Nat.le_of_ble_eq_true rfl, Nat.le_of_ble_eq_true rfl⟩ ⟨Nat.le_of_ble_eq_true rfl, Nat.le_of_ble_eq_true rfl⟩ dX2_whole_7 (fun h2 => ?_) (fun E h2 h2_E => ?_)
    · refine z_aload_n C dX2_whole_10 rfl 0 rfl ?_
      refine z_get (CC := RX2) (T := TX2) (N := 10) (ci := 2) C hin 0 rfl rfl 8 (by decide) w1 rfl rfl dX2_whole_11 ?_
      refine z_iload_n C dX2_whole_14 rfl 2 rfl ?_
      refine z_lald C 9 1 rfl rfl (vpS4 h2) dX2_whole_15 ?_
      refine z_aload_n C dX2_whole_16 rfl 0 rfl ?_
      refine z_get (CC := RX2) (T := TX2) (N := 10) (ci := 2) C hin 0 rfl rfl 8 (by decide) w1 rfl rfl dX2_whole_17 ?_
      refine z_iload_n C dX2_whole_20 rfl 1 rfl ?_
      refine z_lald C 9 1 rfl rfl (vpS4 h1) dX2_whole_21 ?_
      refine z_lsub C dX2_whole_22 ?_
      refine z_lstore (lv' := [(4, .long ((mD p2.toNatClampNeg) - (mD p1.toNatClampNeg))), (0, .ref (y 0)), (1, .int p1), (2, .int p2), (3, .int p3)]) C dX2_whole_23 (by decide) rfl ?_
      refine z_aload_n C dX2_whole_25 rfl 1 rfl ?_
      refine z_get (CC := RX2) (T := TX2) (N := 10) (ci := 2) C hin 0 rfl rfl 9 (by decide) w2 rfl rfl dX2_whole_26 ?_
      refine z_iload_n C dX2_whole_29 rfl 3 rfl ?_
      refine z_lald C 10 1 rfl rfl (vpS4 h2) dX2_whole_30 ?_
      refine z_aload_n C dX2_whole_31 rfl 1 rfl ?_
      refine z_get (CC := RX2) (T := TX2) (N := 10) (ci := 2) C hin 0 rfl rfl 9 (by decide) w2 rfl rfl dX2_whole_32 ?_
      refine z_iload_n C dX2_whole_35 rfl 2 rfl ?_
      refine z_lald C 10 1 rfl rfl (vpS4 h1) dX2_whole_36 ?_
      refine z_lsub C dX2_whole_37 ?_
      refine z_lstore (lv' := [(6, .long ((mT p2.toNatClampNeg) - (mT p1.toNatClampNeg))), (4, .long ((mD p2.toNatClampNeg) - (mD p1.toNatClampNeg))), (0, .ref (y 0)), (1, .int p1), (2, .int p2), (3, .int p3)]) C dX2_whole_38 (by decide) rfl ?_
      refine z_iload_n C dX2_whole_40 rfl 5 rfl ?_
      refine zcases (p3 = 100) (fun h3 => ?_) (fun h3 => ?_)
      · refine z_lookup (off := 43) (tgt := 84) C dX2_whole_41 (by decide) (by rw [h3]; decide) (by decide) ?_
        refine z_lload C dX2_whole_84 1 rfl ?_
        refine z_lload C dX2_whole_86 0 rfl ?_
        refine z_sl (rest := []) C (c_X0_cut l hfl D cI cJ _ ((mD p2.toNatClampNeg) - (mD p1.toNatClampNeg)) ((mT p2.toNatClampNeg) - (mT p1.toNatClampNeg)) ) q_X0_cut gX2_whole_X0_cut ⟨rfl, rfl⟩ rfl rfl (Nat.le_of_ble_eq_true rfl) ⟨Nat.le_of_ble_eq_true rfl, Nat.le_of_ble_eq_true rfl⟩ ⟨Nat.le_of_ble_eq_true rfl, Nat.le_of_ble_eq_true rfl⟩ dX2_whole_88 ?_
        exact z_lret C ⟨by rw [k_X2_whole, if_pos h1, if_pos h2, if_pos h3], congrArg (fun v => some (Value.long v)) (by rw [f_X2_whole, if_pos h1, if_pos h2, if_pos h3] : (f_X0_cut ((mD p2.toNatClampNeg) - (mD p1.toNatClampNeg)) ((mT p2.toNatClampNeg) - (mT p1.toNatClampNeg))) = (f_X2_whole mD mT p1 p2 p3)), rfl⟩ (by decide) (by decide) dX2_whole_91
      · refine zcases (p3 = 104) (fun h4 => ?_) (fun h4 => ?_)
        · refine z_lookup (off := 51) (tgt := 92) C dX2_whole_41 (by decide) (by rw [h4]; decide) (by decide) ?_
          refine z_lload C dX2_whole_92 1 rfl ?_
          refine z_lload C dX2_whole_94 0 rfl ?_
          refine z_sl (rest := []) C (c_X0_wholeSeconds l hfl D cI cJ _ ((mD p2.toNatClampNeg) - (mD p1.toNatClampNeg)) ((mT p2.toNatClampNeg) - (mT p1.toNatClampNeg)) ) q_X0_wholeSeconds gX2_whole_X0_wholeSeconds ⟨rfl, rfl⟩ rfl rfl (Nat.le_of_ble_eq_true rfl) ⟨Nat.le_of_ble_eq_true rfl, Nat.le_of_ble_eq_true rfl⟩ ⟨Nat.le_of_ble_eq_true rfl, Nat.le_of_ble_eq_true rfl⟩ dX2_whole_96 ?_
          refine z_ldc2 (v := 3600) C w3 dX2_whole_99 ?_
          refine z_ldiv C dX2_whole_102 (by decide) ?_
          exact z_lret C ⟨by rw [k_X2_whole, if_pos h1, if_pos h2, if_neg h3, if_pos h4], congrArg (fun v => some (Value.long v)) (by rw [f_X2_whole, if_pos h1, if_pos h2, if_neg h3, if_pos h4] : ((f_X0_wholeSeconds ((mD p2.toNatClampNeg) - (mD p1.toNatClampNeg)) ((mT p2.toNatClampNeg) - (mT p1.toNatClampNeg))) / 3600) = (f_X2_whole mD mT p1 p2 p3)), rfl⟩ (by decide) (by decide) dX2_whole_103
        · refine zcases (p3 = 105) (fun h5 => ?_) (fun h5 => ?_)
          · refine z_lookup (off := 63) (tgt := 104) C dX2_whole_41 (by decide) (by rw [h5]; decide) (by decide) ?_
            refine z_lload C dX2_whole_104 1 rfl ?_
            refine z_lload C dX2_whole_106 0 rfl ?_
            refine z_sl (rest := []) C (c_X0_wholeSeconds l hfl D cI cJ _ ((mD p2.toNatClampNeg) - (mD p1.toNatClampNeg)) ((mT p2.toNatClampNeg) - (mT p1.toNatClampNeg)) ) q_X0_wholeSeconds gX2_whole_X0_wholeSeconds ⟨rfl, rfl⟩ rfl rfl (Nat.le_of_ble_eq_true rfl) ⟨Nat.le_of_ble_eq_true rfl, Nat.le_of_ble_eq_true rfl⟩ ⟨Nat.le_of_ble_eq_true rfl, Nat.le_of_ble_eq_true rfl⟩ dX2_whole_108 ?_
            refine z_ldc2 (v := 60) C w4 dX2_whole_111 ?_
            refine z_ldiv C dX2_whole_114 (by decide) ?_
            exact z_lret C ⟨by rw [k_X2_whole, if_pos h1, if_pos h2, if_neg h3, if_neg h4, if_pos h5], congrArg (fun v => some (Value.long v)) (by rw [f_X2_whole, if_pos h1, if_pos h2, if_neg h3, if_neg h4, if_pos h5] : ((f_X0_wholeSeconds ((mD p2.toNatClampNeg) - (mD p1.toNatClampNeg)) ((mT p2.toNatClampNeg) - (mT p1.toNatClampNeg))) / 60) = (f_X2_whole mD mT p1 p2 p3)), rfl⟩ (by decide) (by decide) dX2_whole_115
          · refine zcases (p3 = 115) (fun h6 => ?_) (fun h6 => ?_)
            · refine z_lookup (off := 75) (tgt := 116) C dX2_whole_41 (by decide) (by rw [h6]; decide) (by decide) ?_
              refine z_lload C dX2_whole_116 1 rfl ?_
              refine z_lload C dX2_whole_118 0 rfl ?_
              refine z_sl (rest := []) C (c_X0_wholeSeconds l hfl D cI cJ _ ((mD p2.toNatClampNeg) - (mD p1.toNatClampNeg)) ((mT p2.toNatClampNeg) - (mT p1.toNatClampNeg)) ) q_X0_wholeSeconds gX2_whole_X0_wholeSeconds ⟨rfl, rfl⟩ rfl rfl (Nat.le_of_ble_eq_true rfl) ⟨Nat.le_of_ble_eq_true rfl, Nat.le_of_ble_eq_true rfl⟩ ⟨Nat.le_of_ble_eq_true rfl, Nat.le_of_ble_eq_true rfl⟩ dX2_whole_120 ?_
              exact z_lret C ⟨by rw [k_X2_whole, if_pos h1, if_pos h2, if_neg h3, if_neg h4, if_neg h5, if_pos h6], congrArg (fun v => some (Value.long v)) (by rw [f_X2_whole, if_pos h1, if_pos h2, if_neg h3, if_neg h4, if_neg h5, if_pos h6] : (f_X0_wholeSeconds ((mD p2.toNatClampNeg) - (mD p1.toNatClampNeg)) ((mT p2.toNatClampNeg) - (mT p1.toNatClampNeg))) = (f_X2_whole mD mT p1 p2 p3)), rfl⟩ (by decide) (by decide) dX2_whole_123
            · refine z_lookup (off := 83) (tgt := 124) C dX2_whole_41 (by decide) (zlk4 h3 h4 h5 h6) (by decide) ?_
              obtain ⟨sa, hsa⟩ := C.2.2.2.2.2.1.1 (251, _) (List.mem_of_getElem? (i := 10) rfl)
              exact z_throwS C hno (cls := "java/lang/IllegalArgumentException") (names := ["java/lang/RuntimeException", "java/lang/Exception"]) (by decide +kernel) (by decide +kernel) w5 w6 hsa (z_hat RX2 105 "java/lang/IllegalArgumentException" ["java/lang/RuntimeException", "java/lang/Exception"] zg_105 (fun w hw => C.1.2.2.2.2 w ((by decide +kernel : ∀ w ∈ (vx_atS RX2 105 "java/lang/IllegalArgumentException" ["java/lang/RuntimeException", "java/lang/Exception"]).filter goodWord, w ∈ wsX2_whole) w hw)) C.2.2.2.2.2.1 (by decide : "java/lang/IllegalArgumentException" ∈ zCs)) zo_105 dX2_whole_124 dX2_whole_127 dX2_whole_128 dX2_whole_130 dX2_whole_133 (by decide) (Nat.le_of_ble_eq_true rfl) (Nat.le_of_ble_eq_true rfl) (Nat.le_of_ble_eq_true rfl) (Nat.le_of_ble_eq_true rfl) (Nat.le_of_ble_eq_true rfl) ⟨rfl, by rw [k_X2_whole, if_pos h1, if_pos h2, if_neg h3, if_neg h4, if_neg h5, if_neg h6]; exact zEx2⟩
    · exact z_tout C hno ⟨rfl, by rw [k_X2_whole, if_pos h1, if_neg h2]; exact h2_E⟩ (by decide) (by decide)
  · exact z_tout C hno ⟨rfl, by rw [k_X2_whole, if_neg h1]; exact h1_E⟩ (by decide) (by decide)
def f_X2_orderMoments (mD : Nat → Int64) (mT : Nat → Int64) (p1 : Int32) (p2 : Int32) : Int32 := (if k_X2_checkSlot p1 4 = 0 then (if k_X2_checkSlot p2 4 = 0 then (if (f_X2_sign (mD p1.toNatClampNeg) (mD p2.toNatClampNeg)) = 0 then (f_X2_sign (mT p1.toNatClampNeg) (mT p2.toNatClampNeg)) else (f_X2_sign (mD p1.toNatClampNeg) (mD p2.toNatClampNeg))) else 0) else 0)
def k_X2_orderMoments (mD : Nat → Int64) (p1 : Int32) (p2 : Int32) : Int32 := (if k_X2_checkSlot p1 4 = 0 then (if k_X2_checkSlot p2 4 = 0 then (if (f_X2_sign (mD p1.toNatClampNeg) (mD p2.toNatClampNeg)) = 0 then 0 else 0) else k_X2_checkSlot p2 4) else k_X2_checkSlot p1 4)
theorem q_X2_orderMoments : ZY yX2_orderMoments wsX2_orderMoments cX2_orderMoments 4 (some .int) 2 := ⟨⟨_, rfl⟩, by decide +kernel, by decide +kernel, by decide +kernel⟩
set_option maxHeartbeats 4000000 in
set_option maxRecDepth 100000 in
theorem c_X2_orderMoments (l : Launch) (hfl : l.stackTraces = false) (D : va_G) (cI cJ : ClassId) (X : va_W) (y : Nat → Nat) (d : Nat → Int64) (sy : Nat → Int32) (sm : Nat → Int32) (sd : Nat → Int32) (mi : Nat → Int32) (ti : Nat → Int64) (sL : Nat → Int64) (bL : Nat → Int64) (mD : Nat → Int64) (mT : Nat → Int64) (p1 : Int32) (p2 : Int32)  : ZM l yX2_orderMoments wsX2_orderMoments { frames := 7, cells := 2, slots := 12, locals := 103 } [.ref (y 0), .int p1, .int p2] D (zTys cI cJ) (wY cI cJ y d sy sm sd mi ti sL bL mD mT X) 2 12 (fun v w => k_X2_orderMoments mD p1 p2 = 0 ∧ v = some (.int (f_X2_orderMoments mD mT p1 p2)) ∧ w = (wY cI cJ y d sy sm sd mi ti sL bL mD mT X)) (fun E w => w = (wY cI cJ y d sy sm sd mi ti sL bL mD mT X) ∧ zEx E (k_X2_orderMoments mD p1 p2)) := by
  refine z_open (own := RX2) hfl (cc := cX2_orderMoments) (maxL := 4) (ret := (some .int)) (lv := [(0, .ref (y 0)), (1, .int p1), (2, .int p2)]) rfl (by decide) rfl rfl (Nat.le_of_ble_eq_true rfl) ?_
  intro p e s m args below meth c A C hno hnm hargs
  have hin : ∀ w ∈ wsX20, w ∈ wsX2_orderMoments := by decide +kernel
  have w1 := C.1.2.2.2.2 (.fieldLink RX2 35 "Yearwheel" "momentDays" "[J") (by decide +kernel)
  have w2 := C.1.2.2.2.2 (.fieldLink RX2 38 "Yearwheel" "momentTimes" "[J") (by decide +kernel)
  refine z_iload_n C dX2_orderMoments_0 rfl 1 rfl ?_
  refine z_iconst (v := 4) C dX2_orderMoments_1 (by decide) ?_
  refine z_xsv (rest := []) C (c_X2_checkSlot l hfl D cI cJ _ p1 (4 : Int32) ) q_X2_checkSlot gX2_orderMoments_X2_checkSlot ⟨rfl, rfl⟩ rfl rfl (Nat.le_of_ble_eq_true rfl) ⟨Nat.le_of_ble_eq_true rfl, Nat.le_of_ble_eq_true rfl⟩ ⟨Nat.le_of_ble_eq_true rfl, Nat.le_of_ble_eq_true rfl⟩ dX2_orderMoments_2 (fun h1 => ?_) (fun E h1 h1_E => ?_)
  · refine z_iload_n C dX2_orderMoments_5 rfl 2 rfl ?_
    refine z_iconst (v := 4) C dX2_orderMoments_6 (by decide) ?_
    refine z_xsv (rest := []) C (c_X2_checkSlot l hfl D cI cJ _ p2 (4 : Int32) ) q_X2_checkSlot gX2_orderMoments_X2_checkSlot ⟨rfl, rfl⟩ rfl rfl (Nat.le_of_ble_eq_true rfl) ⟨Nat.le_of_ble_eq_true rfl, Nat.le_of_ble_eq_true rfl⟩ ⟨Nat.le_of_ble_eq_true rfl, Nat.le_of_ble_eq_true rfl⟩ dX2_orderMoments_7 (fun h2 => ?_) (fun E h2 h2_E => ?_)
    · refine z_aload_n C dX2_orderMoments_10 rfl 0 rfl ?_
      refine z_get (CC := RX2) (T := TX2) (N := 10) (ci := 2) C hin 0 rfl rfl 8 (by decide) w1 rfl rfl dX2_orderMoments_11 ?_
      refine z_iload_n C dX2_orderMoments_14 rfl 1 rfl ?_
      refine z_lald C 9 1 rfl rfl (vpS4 h1) dX2_orderMoments_15 ?_
      refine z_aload_n C dX2_orderMoments_16 rfl 0 rfl ?_
      refine z_get (CC := RX2) (T := TX2) (N := 10) (ci := 2) C hin 0 rfl rfl 8 (by decide) w1 rfl rfl dX2_orderMoments_17 ?_
      refine z_iload_n C dX2_orderMoments_20 rfl 2 rfl ?_
      refine z_lald C 9 1 rfl rfl (vpS4 h2) dX2_orderMoments_21 ?_
      refine z_si (rest := []) C (c_X2_sign l hfl D cI cJ _ (mD p1.toNatClampNeg) (mD p2.toNatClampNeg) ) q_X2_sign gX2_orderMoments_X2_sign ⟨rfl, rfl⟩ rfl rfl (Nat.le_of_ble_eq_true rfl) ⟨Nat.le_of_ble_eq_true rfl, Nat.le_of_ble_eq_true rfl⟩ ⟨Nat.le_of_ble_eq_true rfl, Nat.le_of_ble_eq_true rfl⟩ dX2_orderMoments_22 ?_
      refine z_istore_n (lv' := [(3, .int (f_X2_sign (mD p1.toNatClampNeg) (mD p2.toNatClampNeg))), (0, .ref (y 0)), (1, .int p1), (2, .int p2)]) C dX2_orderMoments_25 rfl (by decide) rfl ?_
      refine z_iload_n C dX2_orderMoments_26 rfl 0 rfl ?_
      refine z_if_eq (tgt := 34) C dX2_orderMoments_27 (by decide) (fun h3 => ?_) (fun h3 => ?_)
      · refine z_aload_n C dX2_orderMoments_34 rfl 1 rfl ?_
        refine z_get (CC := RX2) (T := TX2) (N := 10) (ci := 2) C hin 0 rfl rfl 9 (by decide) w2 rfl rfl dX2_orderMoments_35 ?_
        refine z_iload_n C dX2_orderMoments_38 rfl 2 rfl ?_
        refine z_lald C 10 1 rfl rfl (vpS4 h1) dX2_orderMoments_39 ?_
        refine z_aload_n C dX2_orderMoments_40 rfl 1 rfl ?_
        refine z_get (CC := RX2) (T := TX2) (N := 10) (ci := 2) C hin 0 rfl rfl 9 (by decide) w2 rfl rfl dX2_orderMoments_41 ?_
        refine z_iload_n C dX2_orderMoments_44 rfl 3 rfl ?_
        refine z_lald C 10 1 rfl rfl (vpS4 h2) dX2_orderMoments_45 ?_
        refine z_si (rest := []) C (c_X2_sign l hfl D cI cJ _ (mT p1.toNatClampNeg) (mT p2.toNatClampNeg) ) q_X2_sign gX2_orderMoments_X2_sign ⟨rfl, rfl⟩ rfl rfl (Nat.le_of_ble_eq_true rfl) ⟨Nat.le_of_ble_eq_true rfl, Nat.le_of_ble_eq_true rfl⟩ ⟨Nat.le_of_ble_eq_true rfl, Nat.le_of_ble_eq_true rfl⟩ dX2_orderMoments_46 ?_
        exact z_iret C ⟨by rw [k_X2_orderMoments, if_pos h1, if_pos h2, if_pos h3], congrArg (fun v => some (Value.int v)) (by rw [f_X2_orderMoments, if_pos h1, if_pos h2, if_pos h3] : (f_X2_sign (mT p1.toNatClampNeg) (mT p2.toNatClampNeg)) = (f_X2_orderMoments mD mT p1 p2)), rfl⟩ (by decide) (by decide) dX2_orderMoments_49
      · refine z_iload_n C dX2_orderMoments_30 rfl 0 rfl ?_
        refine z_goto (tgt := 49) C dX2_orderMoments_31 (by decide) ?_
        exact z_iret C ⟨by rw [k_X2_orderMoments, if_pos h1, if_pos h2, if_neg h3], congrArg (fun v => some (Value.int v)) (by rw [f_X2_orderMoments, if_pos h1, if_pos h2, if_neg h3] : (f_X2_sign (mD p1.toNatClampNeg) (mD p2.toNatClampNeg)) = (f_X2_orderMoments mD mT p1 p2)), rfl⟩ (by decide) (by decide) dX2_orderMoments_49
    · exact z_tout C hno ⟨rfl, by rw [k_X2_orderMoments, if_pos h1, if_neg h2]; exact h2_E⟩ (by decide) (by decide)
  · exact z_tout C hno ⟨rfl, by rw [k_X2_orderMoments, if_neg h1]; exact h1_E⟩ (by decide) (by decide)
