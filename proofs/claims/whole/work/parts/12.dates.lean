def f_X2_date (p1 : Int32) (p2 : Int32) (p3 : Int32) (p4 : Int32) : Int64 := (if k_X2_checkSlot p1 6 = 0 then (if k_X2_checkArgument (f_X2_isYear ((p2).toInt64)) = 0 then (if k_X2_checkArgument (f_X2_isIn ((p3).toInt64) 1 12) = 0 then (if k_X2_checkArgument (f_X2_isIn ((p4).toInt64) 1 (((f_X1_lengthOfMonth (f_X1_monthIndex ((p2).toInt64) ((p3).toInt64)))).toInt64)) = 0 then (if k_X2_keepDate (((f_X1_firstOfMonth (f_X1_monthIndex ((p2).toInt64) ((p3).toInt64))) + (p4).toInt64) - 1) = 0 then (f_X2_keepDate (((f_X1_firstOfMonth (f_X1_monthIndex ((p2).toInt64) ((p3).toInt64))) + (p4).toInt64) - 1)) else 0) else 0) else 0) else 0) else 0)
def s_X2_date_d (d : Nat → Int64) (p1 : Int32) (p2 : Int32) (p3 : Int32) (p4 : Int32) : Nat → Int64 := (if k_X2_checkSlot p1 6 = 0 then (if k_X2_checkArgument (f_X2_isYear ((p2).toInt64)) = 0 then (if k_X2_checkArgument (f_X2_isIn ((p3).toInt64) 1 12) = 0 then (if k_X2_checkArgument (f_X2_isIn ((p4).toInt64) 1 (((f_X1_lengthOfMonth (f_X1_monthIndex ((p2).toInt64) ((p3).toInt64)))).toInt64)) = 0 then (if k_X2_keepDate (((f_X1_firstOfMonth (f_X1_monthIndex ((p2).toInt64) ((p3).toInt64))) + (p4).toInt64) - 1) = 0 then (s_X2_keepDate_d d p1 (((f_X1_firstOfMonth (f_X1_monthIndex ((p2).toInt64) ((p3).toInt64))) + (p4).toInt64) - 1)) else d) else d) else d) else d) else d)
def k_X2_date (p1 : Int32) (p2 : Int32) (p3 : Int32) (p4 : Int32) : Int32 := (if k_X2_checkSlot p1 6 = 0 then (if k_X2_checkArgument (f_X2_isYear ((p2).toInt64)) = 0 then (if k_X2_checkArgument (f_X2_isIn ((p3).toInt64) 1 12) = 0 then (if k_X2_checkArgument (f_X2_isIn ((p4).toInt64) 1 (((f_X1_lengthOfMonth (f_X1_monthIndex ((p2).toInt64) ((p3).toInt64)))).toInt64)) = 0 then (if k_X2_keepDate (((f_X1_firstOfMonth (f_X1_monthIndex ((p2).toInt64) ((p3).toInt64))) + (p4).toInt64) - 1) = 0 then 0 else k_X2_keepDate (((f_X1_firstOfMonth (f_X1_monthIndex ((p2).toInt64) ((p3).toInt64))) + (p4).toInt64) - 1)) else k_X2_checkArgument (f_X2_isIn ((p4).toInt64) 1 (((f_X1_lengthOfMonth (f_X1_monthIndex ((p2).toInt64) ((p3).toInt64)))).toInt64))) else k_X2_checkArgument (f_X2_isIn ((p3).toInt64) 1 12)) else k_X2_checkArgument (f_X2_isYear ((p2).toInt64))) else k_X2_checkSlot p1 6)
theorem q_X2_date : ZY yX2_date wsX2_date cX2_date 7 (some .long) 4 := ⟨⟨_, rfl⟩, by decide +kernel, by decide +kernel, by decide +kernel⟩
set_option maxHeartbeats 4000000 in
set_option maxRecDepth 100000 in
theorem c_X2_date (l : Launch) (hfl : l.stackTraces = false) (D : va_G) (cI cJ : ClassId) (X : va_W) (y : Nat → Nat) (d : Nat → Int64) (sy : Nat → Int32) (sm : Nat → Int32) (sd : Nat → Int32) (mi : Nat → Int32) (ti : Nat → Int64) (sL : Nat → Int64) (bL : Nat → Int64) (mD : Nat → Int64) (mT : Nat → Int64) (p1 : Int32) (p2 : Int32) (p3 : Int32) (p4 : Int32)  : ZM l yX2_date wsX2_date { frames := 8, cells := 5, slots := 30, locals := 125 } [.ref (y 0), .int p1, .int p2, .int p3, .int p4] D (zTys cI cJ) (wY cI cJ y d sy sm sd mi ti sL bL mD mT X) 5 30 (fun v w => k_X2_date p1 p2 p3 p4 = 0 ∧ v = some (.long (f_X2_date p1 p2 p3 p4)) ∧ w = (wY cI cJ y (s_X2_date_d d p1 p2 p3 p4) sy sm sd mi ti sL bL mD mT X)) (fun E w => w = (wY cI cJ y d sy sm sd mi ti sL bL mD mT X) ∧ zEx E (k_X2_date p1 p2 p3 p4)) := by
  refine z_open (own := RX2) hfl (cc := cX2_date) (maxL := 7) (ret := (some .long)) (lv := [(0, .ref (y 0)), (1, .int p1), (2, .int p2), (3, .int p3), (4, .int p4)]) rfl (by decide) rfl rfl (Nat.le_of_ble_eq_true rfl) ?_
  intro p e s m args below meth c A C hno hnm hargs
  have hin : ∀ w ∈ wsX20, w ∈ wsX2_date := by decide +kernel
  have w1 := C.1.2.2.2.2 (.constantLong RX2 53 (12)) (by decide +kernel)
  refine z_iload_n C dX2_date_0 rfl 1 rfl ?_
  refine z_bipush (v := 6) C dX2_date_1 (by decide) ?_
  refine z_xsv (rest := []) C (c_X2_checkSlot l hfl D cI cJ _ p1 (6 : Int32) ) q_X2_checkSlot gX2_date_X2_checkSlot ⟨rfl, rfl⟩ rfl rfl (Nat.le_of_ble_eq_true rfl) ⟨Nat.le_of_ble_eq_true rfl, Nat.le_of_ble_eq_true rfl⟩ ⟨Nat.le_of_ble_eq_true rfl, Nat.le_of_ble_eq_true rfl⟩ dX2_date_3 (fun h1 => ?_) (fun E h1 h1_E => ?_)
  · refine z_iload_n C dX2_date_6 rfl 2 rfl ?_
    refine z_i2l (v := (p2).toInt64) C dX2_date_7 rfl ?_
    refine z_si (rest := []) C (c_X2_isYear l hfl D cI cJ _ ((p2).toInt64) ) q_X2_isYear gX2_date_X2_isYear ⟨rfl, rfl⟩ rfl rfl (Nat.le_of_ble_eq_true rfl) ⟨Nat.le_of_ble_eq_true rfl, Nat.le_of_ble_eq_true rfl⟩ ⟨Nat.le_of_ble_eq_true rfl, Nat.le_of_ble_eq_true rfl⟩ dX2_date_8 ?_
    refine z_xsv (rest := []) C (c_X2_checkArgument l hfl D cI cJ _ (f_X2_isYear ((p2).toInt64)) ) q_X2_checkArgument gX2_date_X2_checkArgument ⟨rfl, rfl⟩ rfl rfl (Nat.le_of_ble_eq_true rfl) ⟨Nat.le_of_ble_eq_true rfl, Nat.le_of_ble_eq_true rfl⟩ ⟨Nat.le_of_ble_eq_true rfl, Nat.le_of_ble_eq_true rfl⟩ dX2_date_11 (fun h2 => ?_) (fun E h2 h2_E => ?_)
    · refine z_iload_n C dX2_date_14 rfl 3 rfl ?_
      refine z_i2l (v := (p3).toInt64) C dX2_date_15 rfl ?_
      refine z_lconst (v := 1) C dX2_date_16 (by decide) ?_
      refine z_ldc2 (v := 12) C w1 dX2_date_17 ?_
      refine z_si (rest := []) C (c_X2_isIn l hfl D cI cJ _ ((p3).toInt64) (1 : Int64) (12 : Int64) ) q_X2_isIn gX2_date_X2_isIn ⟨rfl, rfl⟩ rfl rfl (Nat.le_of_ble_eq_true rfl) ⟨Nat.le_of_ble_eq_true rfl, Nat.le_of_ble_eq_true rfl⟩ ⟨Nat.le_of_ble_eq_true rfl, Nat.le_of_ble_eq_true rfl⟩ dX2_date_20 ?_
      refine z_xsv (rest := []) C (c_X2_checkArgument l hfl D cI cJ _ (f_X2_isIn ((p3).toInt64) 1 12) ) q_X2_checkArgument gX2_date_X2_checkArgument ⟨rfl, rfl⟩ rfl rfl (Nat.le_of_ble_eq_true rfl) ⟨Nat.le_of_ble_eq_true rfl, Nat.le_of_ble_eq_true rfl⟩ ⟨Nat.le_of_ble_eq_true rfl, Nat.le_of_ble_eq_true rfl⟩ dX2_date_23 (fun h3 => ?_) (fun E h3 h3_E => ?_)
      · refine z_iload_n C dX2_date_26 rfl 2 rfl ?_
        refine z_i2l (v := (p2).toInt64) C dX2_date_27 rfl ?_
        refine z_iload_n C dX2_date_28 rfl 3 rfl ?_
        refine z_i2l (v := (p3).toInt64) C dX2_date_29 rfl ?_
        refine z_sl (rest := []) C (c_X1_monthIndex l hfl D cI cJ _ ((p2).toInt64) ((p3).toInt64) ) q_X1_monthIndex gX2_date_X1_monthIndex ⟨rfl, rfl⟩ rfl rfl (Nat.le_of_ble_eq_true rfl) ⟨Nat.le_of_ble_eq_true rfl, Nat.le_of_ble_eq_true rfl⟩ ⟨Nat.le_of_ble_eq_true rfl, Nat.le_of_ble_eq_true rfl⟩ dX2_date_30 ?_
        refine z_lstore (lv' := [(5, .long (f_X1_monthIndex ((p2).toInt64) ((p3).toInt64))), (0, .ref (y 0)), (1, .int p1), (2, .int p2), (3, .int p3), (4, .int p4)]) C dX2_date_33 (by decide) rfl ?_
        refine z_iload C dX2_date_35 5 rfl ?_
        refine z_i2l (v := (p4).toInt64) C dX2_date_37 rfl ?_
        refine z_lconst (v := 1) C dX2_date_38 (by decide) ?_
        refine z_lload C dX2_date_39 0 rfl ?_
        refine z_si (rest := [.long 1, .long (p4).toInt64]) C (c_X1_lengthOfMonth l hfl D cI cJ _ (f_X1_monthIndex ((p2).toInt64) ((p3).toInt64)) ) q_X1_lengthOfMonth gX2_date_X1_lengthOfMonth ⟨rfl, rfl⟩ rfl rfl (Nat.le_of_ble_eq_true rfl) ⟨Nat.le_of_ble_eq_true rfl, Nat.le_of_ble_eq_true rfl⟩ ⟨Nat.le_of_ble_eq_true rfl, Nat.le_of_ble_eq_true rfl⟩ dX2_date_41 ?_
        refine z_i2l (v := ((f_X1_lengthOfMonth (f_X1_monthIndex ((p2).toInt64) ((p3).toInt64)))).toInt64) C dX2_date_44 rfl ?_
        refine z_si (rest := []) C (c_X2_isIn l hfl D cI cJ _ ((p4).toInt64) (1 : Int64) (((f_X1_lengthOfMonth (f_X1_monthIndex ((p2).toInt64) ((p3).toInt64)))).toInt64) ) q_X2_isIn gX2_date_X2_isIn ⟨rfl, rfl⟩ rfl rfl (Nat.le_of_ble_eq_true rfl) ⟨Nat.le_of_ble_eq_true rfl, Nat.le_of_ble_eq_true rfl⟩ ⟨Nat.le_of_ble_eq_true rfl, Nat.le_of_ble_eq_true rfl⟩ dX2_date_45 ?_
        refine z_xsv (rest := []) C (c_X2_checkArgument l hfl D cI cJ _ (f_X2_isIn ((p4).toInt64) 1 (((f_X1_lengthOfMonth (f_X1_monthIndex ((p2).toInt64) ((p3).toInt64)))).toInt64)) ) q_X2_checkArgument gX2_date_X2_checkArgument ⟨rfl, rfl⟩ rfl rfl (Nat.le_of_ble_eq_true rfl) ⟨Nat.le_of_ble_eq_true rfl, Nat.le_of_ble_eq_true rfl⟩ ⟨Nat.le_of_ble_eq_true rfl, Nat.le_of_ble_eq_true rfl⟩ dX2_date_48 (fun h4 => ?_) (fun E h4 h4_E => ?_)
        · refine z_aload_n C dX2_date_51 rfl 1 rfl ?_
          refine z_iload_n C dX2_date_52 rfl 2 rfl ?_
          refine z_lload C dX2_date_53 0 rfl ?_
          refine z_sl (rest := [.int p1, .ref (y 0)]) C (c_X1_firstOfMonth l hfl D cI cJ _ (f_X1_monthIndex ((p2).toInt64) ((p3).toInt64)) ) q_X1_firstOfMonth gX2_date_X1_firstOfMonth ⟨rfl, rfl⟩ rfl rfl (Nat.le_of_ble_eq_true rfl) ⟨Nat.le_of_ble_eq_true rfl, Nat.le_of_ble_eq_true rfl⟩ ⟨Nat.le_of_ble_eq_true rfl, Nat.le_of_ble_eq_true rfl⟩ dX2_date_55 ?_
          refine z_iload C dX2_date_58 5 rfl ?_
          refine z_i2l (v := (p4).toInt64) C dX2_date_60 rfl ?_
          refine z_ladd C dX2_date_61 ?_
          refine z_lconst (v := 1) C dX2_date_62 (by decide) ?_
          refine z_lsub C dX2_date_63 ?_
          refine z_xwl (ws' := (wY cI cJ y (s_X2_keepDate_d d p1 (((f_X1_firstOfMonth (f_X1_monthIndex ((p2).toInt64) ((p3).toInt64))) + (p4).toInt64) - 1)) sy sm sd mi ti sL bL mD mT X)) (rest := []) (ci := 2) (q0 := 0) C (c_X2_keepDate l hfl D cI cJ X y d sy sm sd mi ti sL bL mD mT p1 (((f_X1_firstOfMonth (f_X1_monthIndex ((p2).toInt64) ((p3).toInt64))) + (p4).toInt64) - 1) (vpS6 h1)) q_X2_keepDate rfl rfl rfl gX2_date_X2_keepDate ⟨rfl, rfl⟩ rfl rfl (Nat.le_of_ble_eq_true rfl) ⟨Nat.le_of_ble_eq_true rfl, Nat.le_of_ble_eq_true rfl⟩ ⟨Nat.le_of_ble_eq_true rfl, Nat.le_of_ble_eq_true rfl⟩ dX2_date_64 (fun h5 => ?_) (fun E h5 h5_E => ?_)
          · exact z_lret C ⟨by rw [k_X2_date, if_pos h1, if_pos h2, if_pos h3, if_pos h4, if_pos h5], congrArg (fun v => some (Value.long v)) (by rw [f_X2_date, if_pos h1, if_pos h2, if_pos h3, if_pos h4, if_pos h5] : (f_X2_keepDate (((f_X1_firstOfMonth (f_X1_monthIndex ((p2).toInt64) ((p3).toInt64))) + (p4).toInt64) - 1)) = (f_X2_date p1 p2 p3 p4)), by rw [s_X2_date_d, if_pos h1, if_pos h2, if_pos h3, if_pos h4, if_pos h5]⟩ (by decide) (by decide) dX2_date_67
          · exact z_tout C hno ⟨rfl, by rw [k_X2_date, if_pos h1, if_pos h2, if_pos h3, if_pos h4, if_neg h5]; exact h5_E⟩ (by decide) (by decide)
        · exact z_tout C hno ⟨rfl, by rw [k_X2_date, if_pos h1, if_pos h2, if_pos h3, if_neg h4]; exact h4_E⟩ (by decide) (by decide)
      · exact z_tout C hno ⟨rfl, by rw [k_X2_date, if_pos h1, if_pos h2, if_neg h3]; exact h3_E⟩ (by decide) (by decide)
    · exact z_tout C hno ⟨rfl, by rw [k_X2_date, if_pos h1, if_neg h2]; exact h2_E⟩ (by decide) (by decide)
  · exact z_tout C hno ⟨rfl, by rw [k_X2_date, if_neg h1]; exact h1_E⟩ (by decide) (by decide)
def f_X2_ofDay (p1 : Int32) (p2 : Int64) : Int32 := (if k_X2_checkSlot p1 6 = 0 then (if k_X2_keepDate p2 = 0 then ((f_X1_yearOfDay (f_X2_keepDate p2))).toInt32 else 0) else 0)
def s_X2_ofDay_d (d : Nat → Int64) (p1 : Int32) (p2 : Int64) : Nat → Int64 := (if k_X2_checkSlot p1 6 = 0 then (if k_X2_keepDate p2 = 0 then (s_X2_keepDate_d d p1 p2) else d) else d)
def k_X2_ofDay (p1 : Int32) (p2 : Int64) : Int32 := (if k_X2_checkSlot p1 6 = 0 then (if k_X2_keepDate p2 = 0 then 0 else k_X2_keepDate p2) else k_X2_checkSlot p1 6)
theorem q_X2_ofDay : ZY yX2_ofDay wsX2_ofDay cX2_ofDay 4 (some .int) 2 := ⟨⟨_, rfl⟩, by decide +kernel, by decide +kernel, by decide +kernel⟩
set_option maxHeartbeats 4000000 in
set_option maxRecDepth 100000 in
theorem c_X2_ofDay (l : Launch) (hfl : l.stackTraces = false) (D : va_G) (cI cJ : ClassId) (X : va_W) (y : Nat → Nat) (d : Nat → Int64) (sy : Nat → Int32) (sm : Nat → Int32) (sd : Nat → Int32) (mi : Nat → Int32) (ti : Nat → Int64) (sL : Nat → Int64) (bL : Nat → Int64) (mD : Nat → Int64) (mT : Nat → Int64) (p1 : Int32) (p2 : Int64)  : ZM l yX2_ofDay wsX2_ofDay { frames := 8, cells := 2, slots := 12, locals := 125 } [.ref (y 0), .int p1, .long p2] D (zTys cI cJ) (wY cI cJ y d sy sm sd mi ti sL bL mD mT X) 2 12 (fun v w => k_X2_ofDay p1 p2 = 0 ∧ v = some (.int (f_X2_ofDay p1 p2)) ∧ w = (wY cI cJ y (s_X2_ofDay_d d p1 p2) sy sm sd mi ti sL bL mD mT X)) (fun E w => w = (wY cI cJ y d sy sm sd mi ti sL bL mD mT X) ∧ zEx E (k_X2_ofDay p1 p2)) := by
  refine z_open (own := RX2) hfl (cc := cX2_ofDay) (maxL := 4) (ret := (some .int)) (lv := [(0, .ref (y 0)), (1, .int p1), (2, .long p2)]) rfl (by decide) rfl rfl (Nat.le_of_ble_eq_true rfl) ?_
  intro p e s m args below meth c A C hno hnm hargs
  have hin : ∀ w ∈ wsX20, w ∈ wsX2_ofDay := by decide +kernel
  refine z_iload_n C dX2_ofDay_0 rfl 1 rfl ?_
  refine z_bipush (v := 6) C dX2_ofDay_1 (by decide) ?_
  refine z_xsv (rest := []) C (c_X2_checkSlot l hfl D cI cJ _ p1 (6 : Int32) ) q_X2_checkSlot gX2_ofDay_X2_checkSlot ⟨rfl, rfl⟩ rfl rfl (Nat.le_of_ble_eq_true rfl) ⟨Nat.le_of_ble_eq_true rfl, Nat.le_of_ble_eq_true rfl⟩ ⟨Nat.le_of_ble_eq_true rfl, Nat.le_of_ble_eq_true rfl⟩ dX2_ofDay_3 (fun h1 => ?_) (fun E h1 h1_E => ?_)
  · refine z_aload_n C dX2_ofDay_6 rfl 0 rfl ?_
    refine z_iload_n C dX2_ofDay_7 rfl 1 rfl ?_
    refine z_lload_n C dX2_ofDay_8 rfl 2 rfl ?_
    refine z_xwl (ws' := (wY cI cJ y (s_X2_keepDate_d d p1 p2) sy sm sd mi ti sL bL mD mT X)) (rest := []) (ci := 2) (q0 := 0) C (c_X2_keepDate l hfl D cI cJ X y d sy sm sd mi ti sL bL mD mT p1 p2 (vpS6 h1)) q_X2_keepDate rfl rfl rfl gX2_ofDay_X2_keepDate ⟨rfl, rfl⟩ rfl rfl (Nat.le_of_ble_eq_true rfl) ⟨Nat.le_of_ble_eq_true rfl, Nat.le_of_ble_eq_true rfl⟩ ⟨Nat.le_of_ble_eq_true rfl, Nat.le_of_ble_eq_true rfl⟩ dX2_ofDay_9 (fun h2 => ?_) (fun E h2 h2_E => ?_)
    · refine z_sl (rest := []) C (c_X1_yearOfDay l hfl D cI cJ _ (f_X2_keepDate p2) ) q_X1_yearOfDay gX2_ofDay_X1_yearOfDay ⟨rfl, rfl⟩ rfl rfl (Nat.le_of_ble_eq_true rfl) ⟨Nat.le_of_ble_eq_true rfl, Nat.le_of_ble_eq_true rfl⟩ ⟨Nat.le_of_ble_eq_true rfl, Nat.le_of_ble_eq_true rfl⟩ dX2_ofDay_12 ?_
      refine z_l2i (v := ((f_X1_yearOfDay (f_X2_keepDate p2))).toInt32) C dX2_ofDay_15 rfl ?_
      exact z_iret C ⟨by rw [k_X2_ofDay, if_pos h1, if_pos h2], congrArg (fun v => some (Value.int v)) (by rw [f_X2_ofDay, if_pos h1, if_pos h2] : ((f_X1_yearOfDay (f_X2_keepDate p2))).toInt32 = (f_X2_ofDay p1 p2)), by rw [s_X2_ofDay_d, if_pos h1, if_pos h2]⟩ (by decide) (by decide) dX2_ofDay_16
    · exact z_tout C hno ⟨rfl, by rw [k_X2_ofDay, if_pos h1, if_neg h2]; exact h2_E⟩ (by decide) (by decide)
  · exact z_tout C hno ⟨rfl, by rw [k_X2_ofDay, if_neg h1]; exact h1_E⟩ (by decide) (by decide)
def f_X2_day (d : Nat → Int64) (p1 : Int32) : Int64 := (if k_X2_checkSlot p1 6 = 0 then (d p1.toNatClampNeg) else 0)
def k_X2_day (p1 : Int32) : Int32 := (if k_X2_checkSlot p1 6 = 0 then 0 else k_X2_checkSlot p1 6)
theorem q_X2_day : ZY yX2_day wsX2_day cX2_day 2 (some .long) 1 := ⟨⟨_, rfl⟩, by decide +kernel, by decide +kernel, by decide +kernel⟩
set_option maxHeartbeats 4000000 in
set_option maxRecDepth 100000 in
theorem c_X2_day (l : Launch) (hfl : l.stackTraces = false) (D : va_G) (cI cJ : ClassId) (X : va_W) (y : Nat → Nat) (d : Nat → Int64) (sy : Nat → Int32) (sm : Nat → Int32) (sd : Nat → Int32) (mi : Nat → Int32) (ti : Nat → Int64) (sL : Nat → Int64) (bL : Nat → Int64) (mD : Nat → Int64) (mT : Nat → Int64) (p1 : Int32)  : ZM l yX2_day wsX2_day { frames := 7, cells := 1, slots := 6, locals := 103 } [.ref (y 0), .int p1] D (zTys cI cJ) (wY cI cJ y d sy sm sd mi ti sL bL mD mT X) 1 6 (fun v w => k_X2_day p1 = 0 ∧ v = some (.long (f_X2_day d p1)) ∧ w = (wY cI cJ y d sy sm sd mi ti sL bL mD mT X)) (fun E w => w = (wY cI cJ y d sy sm sd mi ti sL bL mD mT X) ∧ zEx E (k_X2_day p1)) := by
  refine z_open (own := RX2) hfl (cc := cX2_day) (maxL := 2) (ret := (some .long)) (lv := [(0, .ref (y 0)), (1, .int p1)]) rfl (by decide) rfl rfl (Nat.le_of_ble_eq_true rfl) ?_
  intro p e s m args below meth c A C hno hnm hargs
  have hin : ∀ w ∈ wsX20, w ∈ wsX2_day := by decide +kernel
  have w1 := C.1.2.2.2.2 (.fieldLink RX2 9 "Yearwheel" "dates" "[J") (by decide +kernel)
  refine z_iload_n C dX2_day_0 rfl 1 rfl ?_
  refine z_bipush (v := 6) C dX2_day_1 (by decide) ?_
  refine z_xsv (rest := []) C (c_X2_checkSlot l hfl D cI cJ _ p1 (6 : Int32) ) q_X2_checkSlot gX2_day_X2_checkSlot ⟨rfl, rfl⟩ rfl rfl (Nat.le_of_ble_eq_true rfl) ⟨Nat.le_of_ble_eq_true rfl, Nat.le_of_ble_eq_true rfl⟩ ⟨Nat.le_of_ble_eq_true rfl, Nat.le_of_ble_eq_true rfl⟩ dX2_day_3 (fun h1 => ?_) (fun E h1 h1_E => ?_)
  · refine z_aload_n C dX2_day_6 rfl 0 rfl ?_
    refine z_get (CC := RX2) (T := TX2) (N := 10) (ci := 2) C hin 0 rfl rfl 0 (by decide) w1 rfl rfl dX2_day_7 ?_
    refine z_iload_n C dX2_day_10 rfl 1 rfl ?_
    refine z_lald C 1 1 rfl rfl (vpS6 h1) dX2_day_11 ?_
    exact z_lret C ⟨by rw [k_X2_day, if_pos h1], congrArg (fun v => some (Value.long v)) (by rw [f_X2_day, if_pos h1] : (d p1.toNatClampNeg) = (f_X2_day d p1)), rfl⟩ (by decide) (by decide) dX2_day_12
  · exact z_tout C hno ⟨rfl, by rw [k_X2_day, if_neg h1]; exact h1_E⟩ (by decide) (by decide)
def f_X2_part (d : Nat → Int64) (p1 : Int32) (p2 : Int32) : Int32 := (if k_X2_checkSlot p1 6 = 0 then (if p2 = 76 then (f_X1_lengthOfYear (f_X1_yearOfDay (d p1.toNatClampNeg))) else (if p2 = 98 then (if (f_X1_isLongYear (f_X1_yearOfDay (d p1.toNatClampNeg))) = 0 then 0 else 1) else (if p2 = 100 then (f_X1_dayInMonth (d p1.toNatClampNeg)) else (if p2 = 108 then (f_X1_lengthOfMonth (f_X1_monthOfDay (d p1.toNatClampNeg))) else (if p2 = 109 then (f_X1_monthInYear (f_X1_monthOfDay (d p1.toNatClampNeg))) else (if p2 = 110 then ((((d p1.toNatClampNeg) - (f_X1_firstOfYear (f_X1_yearOfDay (d p1.toNatClampNeg))))).toInt32 + 1) else (if p2 = 119 then (f_X1_weekdayOf (d p1.toNatClampNeg)) else (if p2 = 121 then ((f_X1_yearOfDay (d p1.toNatClampNeg))).toInt32 else 0)))))))) else 0)
def k_X2_part (d : Nat → Int64) (p1 : Int32) (p2 : Int32) : Int32 := (if k_X2_checkSlot p1 6 = 0 then (if p2 = 76 then 0 else (if p2 = 98 then (if (f_X1_isLongYear (f_X1_yearOfDay (d p1.toNatClampNeg))) = 0 then 0 else 0) else (if p2 = 100 then 0 else (if p2 = 108 then 0 else (if p2 = 109 then 0 else (if p2 = 110 then 0 else (if p2 = 119 then 0 else (if p2 = 121 then 0 else 2)))))))) else k_X2_checkSlot p1 6)
theorem q_X2_part : ZY yX2_part wsX2_part cX2_part 7 (some .int) 2 := ⟨⟨_, rfl⟩, by decide +kernel, by decide +kernel, by decide +kernel⟩
set_option maxHeartbeats 4000000 in
set_option maxRecDepth 100000 in
theorem c_X2_part (l : Launch) (hfl : l.stackTraces = false) (D : va_G) (cI cJ : ClassId) (X : va_W) (y : Nat → Nat) (d : Nat → Int64) (sy : Nat → Int32) (sm : Nat → Int32) (sd : Nat → Int32) (mi : Nat → Int32) (ti : Nat → Int64) (sL : Nat → Int64) (bL : Nat → Int64) (mD : Nat → Int64) (mT : Nat → Int64) (p1 : Int32) (p2 : Int32)  : ZM l yX2_part wsX2_part { frames := 7, cells := 2, slots := 12, locals := 118 } [.ref (y 0), .int p1, .int p2] D (zTys cI cJ) (wY cI cJ y d sy sm sd mi ti sL bL mD mT X) 2 12 (fun v w => k_X2_part d p1 p2 = 0 ∧ v = some (.int (f_X2_part d p1 p2)) ∧ w = (wY cI cJ y d sy sm sd mi ti sL bL mD mT X)) (fun E w => w = (wY cI cJ y d sy sm sd mi ti sL bL mD mT X) ∧ zEx E (k_X2_part d p1 p2)) := by
  refine z_open (own := RX2) hfl (cc := cX2_part) (maxL := 7) (ret := (some .int)) (lv := [(0, .ref (y 0)), (1, .int p1), (2, .int p2)]) rfl (by decide) rfl rfl (Nat.le_of_ble_eq_true rfl) ?_
  intro p e s m args below meth c A C hno hnm hargs
  have hin : ∀ w ∈ wsX20, w ∈ wsX2_part := by decide +kernel
  have w1 := C.1.2.2.2.2 (.fieldLink RX2 9 "Yearwheel" "dates" "[J") (by decide +kernel)
  have w2 := C.1.2.2.2.2 (.classLink RX2 101 "java/lang/IllegalArgumentException") (by decide +kernel)
  have w3 := C.1.2.2.2.2 (.initialized "java/lang/IllegalArgumentException") (by decide +kernel)
  refine z_iload_n C dX2_part_0 rfl 1 rfl ?_
  refine z_bipush (v := 6) C dX2_part_1 (by decide) ?_
  refine z_xsv (rest := []) C (c_X2_checkSlot l hfl D cI cJ _ p1 (6 : Int32) ) q_X2_checkSlot gX2_part_X2_checkSlot ⟨rfl, rfl⟩ rfl rfl (Nat.le_of_ble_eq_true rfl) ⟨Nat.le_of_ble_eq_true rfl, Nat.le_of_ble_eq_true rfl⟩ ⟨Nat.le_of_ble_eq_true rfl, Nat.le_of_ble_eq_true rfl⟩ dX2_part_3 (fun h1 => ?_) (fun E h1 h1_E => ?_)
  · refine z_aload_n C dX2_part_6 rfl 0 rfl ?_
    refine z_get (CC := RX2) (T := TX2) (N := 10) (ci := 2) C hin 0 rfl rfl 0 (by decide) w1 rfl rfl dX2_part_7 ?_
    refine z_iload_n C dX2_part_10 rfl 1 rfl ?_
    refine z_lald C 1 1 rfl rfl (vpS6 h1) dX2_part_11 ?_
    refine z_lstore_n (lv' := [(3, .long (d p1.toNatClampNeg)), (0, .ref (y 0)), (1, .int p1), (2, .int p2)]) C dX2_part_12 rfl (by decide) rfl ?_
    refine z_lload_n C dX2_part_13 rfl 0 rfl ?_
    refine z_sl (rest := []) C (c_X1_yearOfDay l hfl D cI cJ _ (d p1.toNatClampNeg) ) q_X1_yearOfDay gX2_part_X1_yearOfDay ⟨rfl, rfl⟩ rfl rfl (Nat.le_of_ble_eq_true rfl) ⟨Nat.le_of_ble_eq_true rfl, Nat.le_of_ble_eq_true rfl⟩ ⟨Nat.le_of_ble_eq_true rfl, Nat.le_of_ble_eq_true rfl⟩ dX2_part_14 ?_
    refine z_lstore (lv' := [(5, .long (f_X1_yearOfDay (d p1.toNatClampNeg))), (3, .long (d p1.toNatClampNeg)), (0, .ref (y 0)), (1, .int p1), (2, .int p2)]) C dX2_part_17 (by decide) rfl ?_
    refine z_iload_n C dX2_part_19 rfl 4 rfl ?_
    refine zcases (p2 = 76) (fun h2 => ?_) (fun h2 => ?_)
    · refine z_lookup (off := 117) (tgt := 137) C dX2_part_20 (by decide) (by rw [h2]; decide) (by decide) ?_
      refine z_lload C dX2_part_137 0 rfl ?_
      refine z_si (rest := []) C (c_X1_lengthOfYear l hfl D cI cJ _ (f_X1_yearOfDay (d p1.toNatClampNeg)) ) q_X1_lengthOfYear gX2_part_X1_lengthOfYear ⟨rfl, rfl⟩ rfl rfl (Nat.le_of_ble_eq_true rfl) ⟨Nat.le_of_ble_eq_true rfl, Nat.le_of_ble_eq_true rfl⟩ ⟨Nat.le_of_ble_eq_true rfl, Nat.le_of_ble_eq_true rfl⟩ dX2_part_139 ?_
      exact z_iret C ⟨by rw [k_X2_part, if_pos h1, if_pos h2], congrArg (fun v => some (Value.int v)) (by rw [f_X2_part, if_pos h1, if_pos h2] : (f_X1_lengthOfYear (f_X1_yearOfDay (d p1.toNatClampNeg))) = (f_X2_part d p1 p2)), rfl⟩ (by decide) (by decide) dX2_part_142
    · refine zcases (p2 = 98) (fun h3 => ?_) (fun h3 => ?_)
      · refine z_lookup (off := 123) (tgt := 143) C dX2_part_20 (by decide) (by rw [h3]; decide) (by decide) ?_
        refine z_lload C dX2_part_143 0 rfl ?_
        refine z_si (rest := []) C (c_X1_isLongYear l hfl D cI cJ _ (f_X1_yearOfDay (d p1.toNatClampNeg)) ) q_X1_isLongYear gX2_part_X1_isLongYear ⟨rfl, rfl⟩ rfl rfl (Nat.le_of_ble_eq_true rfl) ⟨Nat.le_of_ble_eq_true rfl, Nat.le_of_ble_eq_true rfl⟩ ⟨Nat.le_of_ble_eq_true rfl, Nat.le_of_ble_eq_true rfl⟩ dX2_part_145 ?_
        refine z_if_eq (tgt := 155) C dX2_part_148 (by decide) (fun h4 => ?_) (fun h4 => ?_)
        · refine z_iconst (v := 0) C dX2_part_155 (by decide) ?_
          exact z_iret C ⟨by rw [k_X2_part, if_pos h1, if_neg h2, if_pos h3, if_pos h4], congrArg (fun v => some (Value.int v)) (by rw [f_X2_part, if_pos h1, if_neg h2, if_pos h3, if_pos h4] : (0 : Int32) = (f_X2_part d p1 p2)), rfl⟩ (by decide) (by decide) dX2_part_156
        · refine z_iconst (v := 1) C dX2_part_151 (by decide) ?_
          refine z_goto (tgt := 156) C dX2_part_152 (by decide) ?_
          exact z_iret C ⟨by rw [k_X2_part, if_pos h1, if_neg h2, if_pos h3, if_neg h4], congrArg (fun v => some (Value.int v)) (by rw [f_X2_part, if_pos h1, if_neg h2, if_pos h3, if_neg h4] : (1 : Int32) = (f_X2_part d p1 p2)), rfl⟩ (by decide) (by decide) dX2_part_156
      · refine zcases (p2 = 100) (fun h5 => ?_) (fun h5 => ?_)
        · refine z_lookup (off := 88) (tgt := 108) C dX2_part_20 (by decide) (by rw [h5]; decide) (by decide) ?_
          refine z_lload_n C dX2_part_108 rfl 1 rfl ?_
          refine z_si (rest := []) C (c_X1_dayInMonth l hfl D cI cJ _ (d p1.toNatClampNeg) ) q_X1_dayInMonth gX2_part_X1_dayInMonth ⟨rfl, rfl⟩ rfl rfl (Nat.le_of_ble_eq_true rfl) ⟨Nat.le_of_ble_eq_true rfl, Nat.le_of_ble_eq_true rfl⟩ ⟨Nat.le_of_ble_eq_true rfl, Nat.le_of_ble_eq_true rfl⟩ dX2_part_109 ?_
          exact z_iret C ⟨by rw [k_X2_part, if_pos h1, if_neg h2, if_neg h3, if_pos h5], congrArg (fun v => some (Value.int v)) (by rw [f_X2_part, if_pos h1, if_neg h2, if_neg h3, if_pos h5] : (f_X1_dayInMonth (d p1.toNatClampNeg)) = (f_X2_part d p1 p2)), rfl⟩ (by decide) (by decide) dX2_part_112
        · refine zcases (p2 = 108) (fun h6 => ?_) (fun h6 => ?_)
          · refine z_lookup (off := 109) (tgt := 129) C dX2_part_20 (by decide) (by rw [h6]; decide) (by decide) ?_
            refine z_lload_n C dX2_part_129 rfl 1 rfl ?_
            refine z_sl (rest := []) C (c_X1_monthOfDay l hfl D cI cJ _ (d p1.toNatClampNeg) ) q_X1_monthOfDay gX2_part_X1_monthOfDay ⟨rfl, rfl⟩ rfl rfl (Nat.le_of_ble_eq_true rfl) ⟨Nat.le_of_ble_eq_true rfl, Nat.le_of_ble_eq_true rfl⟩ ⟨Nat.le_of_ble_eq_true rfl, Nat.le_of_ble_eq_true rfl⟩ dX2_part_130 ?_
            refine z_si (rest := []) C (c_X1_lengthOfMonth l hfl D cI cJ _ (f_X1_monthOfDay (d p1.toNatClampNeg)) ) q_X1_lengthOfMonth gX2_part_X1_lengthOfMonth ⟨rfl, rfl⟩ rfl rfl (Nat.le_of_ble_eq_true rfl) ⟨Nat.le_of_ble_eq_true rfl, Nat.le_of_ble_eq_true rfl⟩ ⟨Nat.le_of_ble_eq_true rfl, Nat.le_of_ble_eq_true rfl⟩ dX2_part_133 ?_
            exact z_iret C ⟨by rw [k_X2_part, if_pos h1, if_neg h2, if_neg h3, if_neg h5, if_pos h6], congrArg (fun v => some (Value.int v)) (by rw [f_X2_part, if_pos h1, if_neg h2, if_neg h3, if_neg h5, if_pos h6] : (f_X1_lengthOfMonth (f_X1_monthOfDay (d p1.toNatClampNeg))) = (f_X2_part d p1 p2)), rfl⟩ (by decide) (by decide) dX2_part_136
          · refine zcases (p2 = 109) (fun h7 => ?_) (fun h7 => ?_)
            · refine z_lookup (off := 80) (tgt := 100) C dX2_part_20 (by decide) (by rw [h7]; decide) (by decide) ?_
              refine z_lload_n C dX2_part_100 rfl 1 rfl ?_
              refine z_sl (rest := []) C (c_X1_monthOfDay l hfl D cI cJ _ (d p1.toNatClampNeg) ) q_X1_monthOfDay gX2_part_X1_monthOfDay ⟨rfl, rfl⟩ rfl rfl (Nat.le_of_ble_eq_true rfl) ⟨Nat.le_of_ble_eq_true rfl, Nat.le_of_ble_eq_true rfl⟩ ⟨Nat.le_of_ble_eq_true rfl, Nat.le_of_ble_eq_true rfl⟩ dX2_part_101 ?_
              refine z_si (rest := []) C (c_X1_monthInYear l hfl D cI cJ _ (f_X1_monthOfDay (d p1.toNatClampNeg)) ) q_X1_monthInYear gX2_part_X1_monthInYear ⟨rfl, rfl⟩ rfl rfl (Nat.le_of_ble_eq_true rfl) ⟨Nat.le_of_ble_eq_true rfl, Nat.le_of_ble_eq_true rfl⟩ ⟨Nat.le_of_ble_eq_true rfl, Nat.le_of_ble_eq_true rfl⟩ dX2_part_104 ?_
              exact z_iret C ⟨by rw [k_X2_part, if_pos h1, if_neg h2, if_neg h3, if_neg h5, if_neg h6, if_pos h7], congrArg (fun v => some (Value.int v)) (by rw [f_X2_part, if_pos h1, if_neg h2, if_neg h3, if_neg h5, if_neg h6, if_pos h7] : (f_X1_monthInYear (f_X1_monthOfDay (d p1.toNatClampNeg))) = (f_X2_part d p1 p2)), rfl⟩ (by decide) (by decide) dX2_part_107
            · refine zcases (p2 = 110) (fun h8 => ?_) (fun h8 => ?_)
              · refine z_lookup (off := 93) (tgt := 113) C dX2_part_20 (by decide) (by rw [h8]; decide) (by decide) ?_
                refine z_lload_n C dX2_part_113 rfl 1 rfl ?_
                refine z_lload C dX2_part_114 0 rfl ?_
                refine z_sl (rest := [.long (d p1.toNatClampNeg)]) C (c_X1_firstOfYear l hfl D cI cJ _ (f_X1_yearOfDay (d p1.toNatClampNeg)) ) q_X1_firstOfYear gX2_part_X1_firstOfYear ⟨rfl, rfl⟩ rfl rfl (Nat.le_of_ble_eq_true rfl) ⟨Nat.le_of_ble_eq_true rfl, Nat.le_of_ble_eq_true rfl⟩ ⟨Nat.le_of_ble_eq_true rfl, Nat.le_of_ble_eq_true rfl⟩ dX2_part_116 ?_
                refine z_lsub C dX2_part_119 ?_
                refine z_l2i (v := (((d p1.toNatClampNeg) - (f_X1_firstOfYear (f_X1_yearOfDay (d p1.toNatClampNeg))))).toInt32) C dX2_part_120 rfl ?_
                refine z_iconst (v := 1) C dX2_part_121 (by decide) ?_
                refine z_iadd C dX2_part_122 ?_
                exact z_iret C ⟨by rw [k_X2_part, if_pos h1, if_neg h2, if_neg h3, if_neg h5, if_neg h6, if_neg h7, if_pos h8], congrArg (fun v => some (Value.int v)) (by rw [f_X2_part, if_pos h1, if_neg h2, if_neg h3, if_neg h5, if_neg h6, if_neg h7, if_pos h8] : ((((d p1.toNatClampNeg) - (f_X1_firstOfYear (f_X1_yearOfDay (d p1.toNatClampNeg))))).toInt32 + 1) = (f_X2_part d p1 p2)), rfl⟩ (by decide) (by decide) dX2_part_123
              · refine zcases (p2 = 119) (fun h9 => ?_) (fun h9 => ?_)
                · refine z_lookup (off := 104) (tgt := 124) C dX2_part_20 (by decide) (by rw [h9]; decide) (by decide) ?_
                  refine z_lload_n C dX2_part_124 rfl 1 rfl ?_
                  refine z_si (rest := []) C (c_X1_weekdayOf l hfl D cI cJ _ (d p1.toNatClampNeg) ) q_X1_weekdayOf gX2_part_X1_weekdayOf ⟨rfl, rfl⟩ rfl rfl (Nat.le_of_ble_eq_true rfl) ⟨Nat.le_of_ble_eq_true rfl, Nat.le_of_ble_eq_true rfl⟩ ⟨Nat.le_of_ble_eq_true rfl, Nat.le_of_ble_eq_true rfl⟩ dX2_part_125 ?_
                  exact z_iret C ⟨by rw [k_X2_part, if_pos h1, if_neg h2, if_neg h3, if_neg h5, if_neg h6, if_neg h7, if_neg h8, if_pos h9], congrArg (fun v => some (Value.int v)) (by rw [f_X2_part, if_pos h1, if_neg h2, if_neg h3, if_neg h5, if_neg h6, if_neg h7, if_neg h8, if_pos h9] : (f_X1_weekdayOf (d p1.toNatClampNeg)) = (f_X2_part d p1 p2)), rfl⟩ (by decide) (by decide) dX2_part_128
                · refine zcases (p2 = 121) (fun h10 => ?_) (fun h10 => ?_)
                  · refine z_lookup (off := 76) (tgt := 96) C dX2_part_20 (by decide) (by rw [h10]; decide) (by decide) ?_
                    refine z_lload C dX2_part_96 0 rfl ?_
                    refine z_l2i (v := ((f_X1_yearOfDay (d p1.toNatClampNeg))).toInt32) C dX2_part_98 rfl ?_
                    exact z_iret C ⟨by rw [k_X2_part, if_pos h1, if_neg h2, if_neg h3, if_neg h5, if_neg h6, if_neg h7, if_neg h8, if_neg h9, if_pos h10], congrArg (fun v => some (Value.int v)) (by rw [f_X2_part, if_pos h1, if_neg h2, if_neg h3, if_neg h5, if_neg h6, if_neg h7, if_neg h8, if_neg h9, if_pos h10] : ((f_X1_yearOfDay (d p1.toNatClampNeg))).toInt32 = (f_X2_part d p1 p2)), rfl⟩ (by decide) (by decide) dX2_part_99
                  · refine z_lookup (off := 137) (tgt := 157) C dX2_part_20 (by decide) (zlk8 h2 h3 h5 h6 h7 h8 h9 h10) (by decide) ?_
                    obtain ⟨sa, hsa⟩ := C.2.2.2.2.2.1.1 (103, _) (List.mem_of_getElem? (i := 0) rfl)
                    exact z_throwS C hno (cls := "java/lang/IllegalArgumentException") (names := ["java/lang/RuntimeException", "java/lang/Exception"]) (by decide +kernel) (by decide +kernel) w2 w3 hsa (z_hat RX2 105 "java/lang/IllegalArgumentException" ["java/lang/RuntimeException", "java/lang/Exception"] zg_105 (fun w hw => C.1.2.2.2.2 w ((by decide +kernel : ∀ w ∈ (vx_atS RX2 105 "java/lang/IllegalArgumentException" ["java/lang/RuntimeException", "java/lang/Exception"]).filter goodWord, w ∈ wsX2_part) w hw)) C.2.2.2.2.2.1 (by decide : "java/lang/IllegalArgumentException" ∈ zCs)) zo_105 dX2_part_157 dX2_part_160 dX2_part_161 dX2_part_163 dX2_part_166 (by decide) (Nat.le_of_ble_eq_true rfl) (Nat.le_of_ble_eq_true rfl) (Nat.le_of_ble_eq_true rfl) (Nat.le_of_ble_eq_true rfl) (Nat.le_of_ble_eq_true rfl) ⟨rfl, by rw [k_X2_part, if_pos h1, if_neg h2, if_neg h3, if_neg h5, if_neg h6, if_neg h7, if_neg h8, if_neg h9, if_neg h10]; exact zEx2⟩
  · exact z_tout C hno ⟨rfl, by rw [k_X2_part, if_neg h1]; exact h1_E⟩ (by decide) (by decide)
def f_X2_move (d : Nat → Int64) (p1 : Int32) (p2 : Int32) (p3 : Int32) (p4 : Int32) : Int64 := (if k_X2_checkSlot p1 6 = 0 then (if k_X2_checkSlot p4 6 = 0 then (if k_X2_checkArgument (f_X1_isUnit p2) = 0 then (if k_X2_checkArgument (f_X2_isIn ((p3).toInt64) (-1000000) 1000000) = 0 then (if k_X2_keepDate (f_X1_moved (d p1.toNatClampNeg) p2 ((p3).toInt64)) = 0 then (f_X2_keepDate (f_X1_moved (d p1.toNatClampNeg) p2 ((p3).toInt64))) else 0) else 0) else 0) else 0) else 0)
def s_X2_move_d (d : Nat → Int64) (p1 : Int32) (p2 : Int32) (p3 : Int32) (p4 : Int32) : Nat → Int64 := (if k_X2_checkSlot p1 6 = 0 then (if k_X2_checkSlot p4 6 = 0 then (if k_X2_checkArgument (f_X1_isUnit p2) = 0 then (if k_X2_checkArgument (f_X2_isIn ((p3).toInt64) (-1000000) 1000000) = 0 then (if k_X2_keepDate (f_X1_moved (d p1.toNatClampNeg) p2 ((p3).toInt64)) = 0 then (s_X2_keepDate_d d p4 (f_X1_moved (d p1.toNatClampNeg) p2 ((p3).toInt64))) else d) else d) else d) else d) else d)
def k_X2_move (d : Nat → Int64) (p1 : Int32) (p2 : Int32) (p3 : Int32) (p4 : Int32) : Int32 := (if k_X2_checkSlot p1 6 = 0 then (if k_X2_checkSlot p4 6 = 0 then (if k_X2_checkArgument (f_X1_isUnit p2) = 0 then (if k_X2_checkArgument (f_X2_isIn ((p3).toInt64) (-1000000) 1000000) = 0 then (if k_X2_keepDate (f_X1_moved (d p1.toNatClampNeg) p2 ((p3).toInt64)) = 0 then 0 else k_X2_keepDate (f_X1_moved (d p1.toNatClampNeg) p2 ((p3).toInt64))) else k_X2_checkArgument (f_X2_isIn ((p3).toInt64) (-1000000) 1000000)) else k_X2_checkArgument (f_X1_isUnit p2)) else k_X2_checkSlot p4 6) else k_X2_checkSlot p1 6)
theorem q_X2_move : ZY yX2_move wsX2_move cX2_move 5 (some .long) 4 := ⟨⟨_, rfl⟩, by decide +kernel, by decide +kernel, by decide +kernel⟩
set_option maxHeartbeats 4000000 in
set_option maxRecDepth 100000 in
theorem c_X2_move (l : Launch) (hfl : l.stackTraces = false) (D : va_G) (cI cJ : ClassId) (X : va_W) (y : Nat → Nat) (d : Nat → Int64) (sy : Nat → Int32) (sm : Nat → Int32) (sd : Nat → Int32) (mi : Nat → Int32) (ti : Nat → Int64) (sL : Nat → Int64) (bL : Nat → Int64) (mD : Nat → Int64) (mT : Nat → Int64) (p1 : Int32) (p2 : Int32) (p3 : Int32) (p4 : Int32)  : ZM l yX2_move wsX2_move { frames := 8, cells := 5, slots := 30, locals := 146 } [.ref (y 0), .int p1, .int p2, .int p3, .int p4] D (zTys cI cJ) (wY cI cJ y d sy sm sd mi ti sL bL mD mT X) 5 30 (fun v w => k_X2_move d p1 p2 p3 p4 = 0 ∧ v = some (.long (f_X2_move d p1 p2 p3 p4)) ∧ w = (wY cI cJ y (s_X2_move_d d p1 p2 p3 p4) sy sm sd mi ti sL bL mD mT X)) (fun E w => w = (wY cI cJ y d sy sm sd mi ti sL bL mD mT X) ∧ zEx E (k_X2_move d p1 p2 p3 p4)) := by
  refine z_open (own := RX2) hfl (cc := cX2_move) (maxL := 5) (ret := (some .long)) (lv := [(0, .ref (y 0)), (1, .int p1), (2, .int p2), (3, .int p3), (4, .int p4)]) rfl (by decide) rfl rfl (Nat.le_of_ble_eq_true rfl) ?_
  intro p e s m args below meth c A C hno hnm hargs
  have hin : ∀ w ∈ wsX20, w ∈ wsX2_move := by decide +kernel
  have w1 := C.1.2.2.2.2 (.constantLong RX2 112 (-1000000)) (by decide +kernel)
  have w2 := C.1.2.2.2.2 (.constantLong RX2 114 (1000000)) (by decide +kernel)
  have w3 := C.1.2.2.2.2 (.fieldLink RX2 9 "Yearwheel" "dates" "[J") (by decide +kernel)
  refine z_iload_n C dX2_move_0 rfl 1 rfl ?_
  refine z_bipush (v := 6) C dX2_move_1 (by decide) ?_
  refine z_xsv (rest := []) C (c_X2_checkSlot l hfl D cI cJ _ p1 (6 : Int32) ) q_X2_checkSlot gX2_move_X2_checkSlot ⟨rfl, rfl⟩ rfl rfl (Nat.le_of_ble_eq_true rfl) ⟨Nat.le_of_ble_eq_true rfl, Nat.le_of_ble_eq_true rfl⟩ ⟨Nat.le_of_ble_eq_true rfl, Nat.le_of_ble_eq_true rfl⟩ dX2_move_3 (fun h1 => ?_) (fun E h1 h1_E => ?_)
  · refine z_iload C dX2_move_6 4 rfl ?_
    refine z_bipush (v := 6) C dX2_move_8 (by decide) ?_
    refine z_xsv (rest := []) C (c_X2_checkSlot l hfl D cI cJ _ p4 (6 : Int32) ) q_X2_checkSlot gX2_move_X2_checkSlot ⟨rfl, rfl⟩ rfl rfl (Nat.le_of_ble_eq_true rfl) ⟨Nat.le_of_ble_eq_true rfl, Nat.le_of_ble_eq_true rfl⟩ ⟨Nat.le_of_ble_eq_true rfl, Nat.le_of_ble_eq_true rfl⟩ dX2_move_10 (fun h2 => ?_) (fun E h2 h2_E => ?_)
    · refine z_iload_n C dX2_move_13 rfl 2 rfl ?_
      refine z_si (rest := []) C (c_X1_isUnit l hfl D cI cJ _ p2 ) q_X1_isUnit gX2_move_X1_isUnit ⟨rfl, rfl⟩ rfl rfl (Nat.le_of_ble_eq_true rfl) ⟨Nat.le_of_ble_eq_true rfl, Nat.le_of_ble_eq_true rfl⟩ ⟨Nat.le_of_ble_eq_true rfl, Nat.le_of_ble_eq_true rfl⟩ dX2_move_14 ?_
      refine z_xsv (rest := []) C (c_X2_checkArgument l hfl D cI cJ _ (f_X1_isUnit p2) ) q_X2_checkArgument gX2_move_X2_checkArgument ⟨rfl, rfl⟩ rfl rfl (Nat.le_of_ble_eq_true rfl) ⟨Nat.le_of_ble_eq_true rfl, Nat.le_of_ble_eq_true rfl⟩ ⟨Nat.le_of_ble_eq_true rfl, Nat.le_of_ble_eq_true rfl⟩ dX2_move_17 (fun h3 => ?_) (fun E h3 h3_E => ?_)
      · refine z_iload_n C dX2_move_20 rfl 3 rfl ?_
        refine z_i2l (v := (p3).toInt64) C dX2_move_21 rfl ?_
        refine z_ldc2 (v := (-1000000)) C w1 dX2_move_22 ?_
        refine z_ldc2 (v := 1000000) C w2 dX2_move_25 ?_
        refine z_si (rest := []) C (c_X2_isIn l hfl D cI cJ _ ((p3).toInt64) ((-1000000) : Int64) (1000000 : Int64) ) q_X2_isIn gX2_move_X2_isIn ⟨rfl, rfl⟩ rfl rfl (Nat.le_of_ble_eq_true rfl) ⟨Nat.le_of_ble_eq_true rfl, Nat.le_of_ble_eq_true rfl⟩ ⟨Nat.le_of_ble_eq_true rfl, Nat.le_of_ble_eq_true rfl⟩ dX2_move_28 ?_
        refine z_xsv (rest := []) C (c_X2_checkArgument l hfl D cI cJ _ (f_X2_isIn ((p3).toInt64) (-1000000) 1000000) ) q_X2_checkArgument gX2_move_X2_checkArgument ⟨rfl, rfl⟩ rfl rfl (Nat.le_of_ble_eq_true rfl) ⟨Nat.le_of_ble_eq_true rfl, Nat.le_of_ble_eq_true rfl⟩ ⟨Nat.le_of_ble_eq_true rfl, Nat.le_of_ble_eq_true rfl⟩ dX2_move_31 (fun h4 => ?_) (fun E h4 h4_E => ?_)
        · refine z_aload_n C dX2_move_34 rfl 0 rfl ?_
          refine z_iload C dX2_move_35 4 rfl ?_
          refine z_aload_n C dX2_move_37 rfl 0 rfl ?_
          refine z_get (CC := RX2) (T := TX2) (N := 10) (ci := 2) C hin 0 rfl rfl 0 (by decide) w3 rfl rfl dX2_move_38 ?_
          refine z_iload_n C dX2_move_41 rfl 1 rfl ?_
          refine z_lald C 1 1 rfl rfl (vpS6 h1) dX2_move_42 ?_
          refine z_iload_n C dX2_move_43 rfl 2 rfl ?_
          refine z_iload_n C dX2_move_44 rfl 3 rfl ?_
          refine z_i2l (v := (p3).toInt64) C dX2_move_45 rfl ?_
          refine z_sl (rest := [.int p4, .ref (y 0)]) C (c_X1_moved l hfl D cI cJ _ (d p1.toNatClampNeg) p2 ((p3).toInt64) ) q_X1_moved gX2_move_X1_moved ⟨rfl, rfl⟩ rfl rfl (Nat.le_of_ble_eq_true rfl) ⟨Nat.le_of_ble_eq_true rfl, Nat.le_of_ble_eq_true rfl⟩ ⟨Nat.le_of_ble_eq_true rfl, Nat.le_of_ble_eq_true rfl⟩ dX2_move_46 ?_
          refine z_xwl (ws' := (wY cI cJ y (s_X2_keepDate_d d p4 (f_X1_moved (d p1.toNatClampNeg) p2 ((p3).toInt64))) sy sm sd mi ti sL bL mD mT X)) (rest := []) (ci := 2) (q0 := 0) C (c_X2_keepDate l hfl D cI cJ X y d sy sm sd mi ti sL bL mD mT p4 (f_X1_moved (d p1.toNatClampNeg) p2 ((p3).toInt64)) (vpS6 h2)) q_X2_keepDate rfl rfl rfl gX2_move_X2_keepDate ⟨rfl, rfl⟩ rfl rfl (Nat.le_of_ble_eq_true rfl) ⟨Nat.le_of_ble_eq_true rfl, Nat.le_of_ble_eq_true rfl⟩ ⟨Nat.le_of_ble_eq_true rfl, Nat.le_of_ble_eq_true rfl⟩ dX2_move_49 (fun h5 => ?_) (fun E h5 h5_E => ?_)
          · exact z_lret C ⟨by rw [k_X2_move, if_pos h1, if_pos h2, if_pos h3, if_pos h4, if_pos h5], congrArg (fun v => some (Value.long v)) (by rw [f_X2_move, if_pos h1, if_pos h2, if_pos h3, if_pos h4, if_pos h5] : (f_X2_keepDate (f_X1_moved (d p1.toNatClampNeg) p2 ((p3).toInt64))) = (f_X2_move d p1 p2 p3 p4)), by rw [s_X2_move_d, if_pos h1, if_pos h2, if_pos h3, if_pos h4, if_pos h5]⟩ (by decide) (by decide) dX2_move_52
          · exact z_tout C hno ⟨rfl, by rw [k_X2_move, if_pos h1, if_pos h2, if_pos h3, if_pos h4, if_neg h5]; exact h5_E⟩ (by decide) (by decide)
        · exact z_tout C hno ⟨rfl, by rw [k_X2_move, if_pos h1, if_pos h2, if_pos h3, if_neg h4]; exact h4_E⟩ (by decide) (by decide)
      · exact z_tout C hno ⟨rfl, by rw [k_X2_move, if_pos h1, if_pos h2, if_neg h3]; exact h3_E⟩ (by decide) (by decide)
    · exact z_tout C hno ⟨rfl, by rw [k_X2_move, if_pos h1, if_neg h2]; exact h2_E⟩ (by decide) (by decide)
  · exact z_tout C hno ⟨rfl, by rw [k_X2_move, if_neg h1]; exact h1_E⟩ (by decide) (by decide)
def f_X2_with (d : Nat → Int64) (p1 : Int32) (p2 : Int32) (p3 : Int32) (p4 : Int32) : Int64 := (if k_X2_checkSlot p1 6 = 0 then (if k_X2_checkSlot p4 6 = 0 then (if p2 = 100 then (if k_X2_checkArgument (f_X2_isIn ((p3).toInt64) 1 (((f_X1_lengthOfMonth (f_X1_monthOfDay (d p1.toNatClampNeg)))).toInt64)) = 0 then (if k_X2_keepDate (((f_X1_firstOfMonth (f_X1_monthOfDay (d p1.toNatClampNeg))) + (p3).toInt64) - 1) = 0 then (f_X2_keepDate (((f_X1_firstOfMonth (f_X1_monthOfDay (d p1.toNatClampNeg))) + (p3).toInt64) - 1)) else 0) else 0) else (if p2 = 109 then (if k_X2_checkArgument (f_X2_isIn ((p3).toInt64) 1 12) = 0 then (if k_X2_keepDate (f_X1_plusMonths (d p1.toNatClampNeg) (((p3 - (f_X1_monthInYear (f_X1_monthOfDay (d p1.toNatClampNeg))))).toInt64)) = 0 then (f_X2_keepDate (f_X1_plusMonths (d p1.toNatClampNeg) (((p3 - (f_X1_monthInYear (f_X1_monthOfDay (d p1.toNatClampNeg))))).toInt64))) else 0) else 0) else (if p2 = 110 then (if k_X2_checkArgument (f_X2_isIn ((p3).toInt64) 1 (((f_X1_lengthOfYear (f_X1_yearOfMonth (f_X1_monthOfDay (d p1.toNatClampNeg))))).toInt64)) = 0 then (if k_X2_keepDate (((f_X1_firstOfYear (f_X1_yearOfMonth (f_X1_monthOfDay (d p1.toNatClampNeg)))) + (p3).toInt64) - 1) = 0 then (f_X2_keepDate (((f_X1_firstOfYear (f_X1_yearOfMonth (f_X1_monthOfDay (d p1.toNatClampNeg)))) + (p3).toInt64) - 1)) else 0) else 0) else (if p2 = 121 then (if k_X2_checkArgument (f_X2_isYear ((p3).toInt64)) = 0 then (if k_X2_keepDate (f_X1_plusMonths (d p1.toNatClampNeg) (12 * ((p3).toInt64 - (f_X1_yearOfMonth (f_X1_monthOfDay (d p1.toNatClampNeg)))))) = 0 then (f_X2_keepDate (f_X1_plusMonths (d p1.toNatClampNeg) (12 * ((p3).toInt64 - (f_X1_yearOfMonth (f_X1_monthOfDay (d p1.toNatClampNeg))))))) else 0) else 0) else 0)))) else 0) else 0)
def s_X2_with_d (d : Nat → Int64) (p1 : Int32) (p2 : Int32) (p3 : Int32) (p4 : Int32) : Nat → Int64 := (if k_X2_checkSlot p1 6 = 0 then (if k_X2_checkSlot p4 6 = 0 then (if p2 = 100 then (if k_X2_checkArgument (f_X2_isIn ((p3).toInt64) 1 (((f_X1_lengthOfMonth (f_X1_monthOfDay (d p1.toNatClampNeg)))).toInt64)) = 0 then (if k_X2_keepDate (((f_X1_firstOfMonth (f_X1_monthOfDay (d p1.toNatClampNeg))) + (p3).toInt64) - 1) = 0 then (s_X2_keepDate_d d p4 (((f_X1_firstOfMonth (f_X1_monthOfDay (d p1.toNatClampNeg))) + (p3).toInt64) - 1)) else d) else d) else (if p2 = 109 then (if k_X2_checkArgument (f_X2_isIn ((p3).toInt64) 1 12) = 0 then (if k_X2_keepDate (f_X1_plusMonths (d p1.toNatClampNeg) (((p3 - (f_X1_monthInYear (f_X1_monthOfDay (d p1.toNatClampNeg))))).toInt64)) = 0 then (s_X2_keepDate_d d p4 (f_X1_plusMonths (d p1.toNatClampNeg) (((p3 - (f_X1_monthInYear (f_X1_monthOfDay (d p1.toNatClampNeg))))).toInt64))) else d) else d) else (if p2 = 110 then (if k_X2_checkArgument (f_X2_isIn ((p3).toInt64) 1 (((f_X1_lengthOfYear (f_X1_yearOfMonth (f_X1_monthOfDay (d p1.toNatClampNeg))))).toInt64)) = 0 then (if k_X2_keepDate (((f_X1_firstOfYear (f_X1_yearOfMonth (f_X1_monthOfDay (d p1.toNatClampNeg)))) + (p3).toInt64) - 1) = 0 then (s_X2_keepDate_d d p4 (((f_X1_firstOfYear (f_X1_yearOfMonth (f_X1_monthOfDay (d p1.toNatClampNeg)))) + (p3).toInt64) - 1)) else d) else d) else (if p2 = 121 then (if k_X2_checkArgument (f_X2_isYear ((p3).toInt64)) = 0 then (if k_X2_keepDate (f_X1_plusMonths (d p1.toNatClampNeg) (12 * ((p3).toInt64 - (f_X1_yearOfMonth (f_X1_monthOfDay (d p1.toNatClampNeg)))))) = 0 then (s_X2_keepDate_d d p4 (f_X1_plusMonths (d p1.toNatClampNeg) (12 * ((p3).toInt64 - (f_X1_yearOfMonth (f_X1_monthOfDay (d p1.toNatClampNeg))))))) else d) else d) else d)))) else d) else d)
def k_X2_with (d : Nat → Int64) (p1 : Int32) (p2 : Int32) (p3 : Int32) (p4 : Int32) : Int32 := (if k_X2_checkSlot p1 6 = 0 then (if k_X2_checkSlot p4 6 = 0 then (if p2 = 100 then (if k_X2_checkArgument (f_X2_isIn ((p3).toInt64) 1 (((f_X1_lengthOfMonth (f_X1_monthOfDay (d p1.toNatClampNeg)))).toInt64)) = 0 then (if k_X2_keepDate (((f_X1_firstOfMonth (f_X1_monthOfDay (d p1.toNatClampNeg))) + (p3).toInt64) - 1) = 0 then 0 else k_X2_keepDate (((f_X1_firstOfMonth (f_X1_monthOfDay (d p1.toNatClampNeg))) + (p3).toInt64) - 1)) else k_X2_checkArgument (f_X2_isIn ((p3).toInt64) 1 (((f_X1_lengthOfMonth (f_X1_monthOfDay (d p1.toNatClampNeg)))).toInt64))) else (if p2 = 109 then (if k_X2_checkArgument (f_X2_isIn ((p3).toInt64) 1 12) = 0 then (if k_X2_keepDate (f_X1_plusMonths (d p1.toNatClampNeg) (((p3 - (f_X1_monthInYear (f_X1_monthOfDay (d p1.toNatClampNeg))))).toInt64)) = 0 then 0 else k_X2_keepDate (f_X1_plusMonths (d p1.toNatClampNeg) (((p3 - (f_X1_monthInYear (f_X1_monthOfDay (d p1.toNatClampNeg))))).toInt64))) else k_X2_checkArgument (f_X2_isIn ((p3).toInt64) 1 12)) else (if p2 = 110 then (if k_X2_checkArgument (f_X2_isIn ((p3).toInt64) 1 (((f_X1_lengthOfYear (f_X1_yearOfMonth (f_X1_monthOfDay (d p1.toNatClampNeg))))).toInt64)) = 0 then (if k_X2_keepDate (((f_X1_firstOfYear (f_X1_yearOfMonth (f_X1_monthOfDay (d p1.toNatClampNeg)))) + (p3).toInt64) - 1) = 0 then 0 else k_X2_keepDate (((f_X1_firstOfYear (f_X1_yearOfMonth (f_X1_monthOfDay (d p1.toNatClampNeg)))) + (p3).toInt64) - 1)) else k_X2_checkArgument (f_X2_isIn ((p3).toInt64) 1 (((f_X1_lengthOfYear (f_X1_yearOfMonth (f_X1_monthOfDay (d p1.toNatClampNeg))))).toInt64))) else (if p2 = 121 then (if k_X2_checkArgument (f_X2_isYear ((p3).toInt64)) = 0 then (if k_X2_keepDate (f_X1_plusMonths (d p1.toNatClampNeg) (12 * ((p3).toInt64 - (f_X1_yearOfMonth (f_X1_monthOfDay (d p1.toNatClampNeg)))))) = 0 then 0 else k_X2_keepDate (f_X1_plusMonths (d p1.toNatClampNeg) (12 * ((p3).toInt64 - (f_X1_yearOfMonth (f_X1_monthOfDay (d p1.toNatClampNeg))))))) else k_X2_checkArgument (f_X2_isYear ((p3).toInt64))) else 2)))) else k_X2_checkSlot p4 6) else k_X2_checkSlot p1 6)
theorem q_X2_with : ZY yX2_with wsX2_with cX2_with 11 (some .long) 4 := ⟨⟨_, rfl⟩, by decide +kernel, by decide +kernel, by decide +kernel⟩
set_option maxHeartbeats 4000000 in
set_option maxRecDepth 100000 in
theorem c_X2_with (l : Launch) (hfl : l.stackTraces = false) (D : va_G) (cI cJ : ClassId) (X : va_W) (y : Nat → Nat) (d : Nat → Int64) (sy : Nat → Int32) (sm : Nat → Int32) (sd : Nat → Int32) (mi : Nat → Int32) (ti : Nat → Int64) (sL : Nat → Int64) (bL : Nat → Int64) (mD : Nat → Int64) (mT : Nat → Int64) (p1 : Int32) (p2 : Int32) (p3 : Int32) (p4 : Int32)  : ZM l yX2_with wsX2_with { frames := 8, cells := 4, slots := 24, locals := 125 } [.ref (y 0), .int p1, .int p2, .int p3, .int p4] D (zTys cI cJ) (wY cI cJ y d sy sm sd mi ti sL bL mD mT X) 4 24 (fun v w => k_X2_with d p1 p2 p3 p4 = 0 ∧ v = some (.long (f_X2_with d p1 p2 p3 p4)) ∧ w = (wY cI cJ y (s_X2_with_d d p1 p2 p3 p4) sy sm sd mi ti sL bL mD mT X)) (fun E w => w = (wY cI cJ y d sy sm sd mi ti sL bL mD mT X) ∧ zEx E (k_X2_with d p1 p2 p3 p4)) := by
  refine z_open (own := RX2) hfl (cc := cX2_with) (maxL := 11) (ret := (some .long)) (lv := [(0, .ref (y 0)), (1, .int p1), (2, .int p2), (3, .int p3), (4, .int p4)]) rfl (by decide) rfl rfl (Nat.le_of_ble_eq_true rfl) ?_
  intro p e s m args below meth c A C hno hnm hargs
  have hin : ∀ w ∈ wsX20, w ∈ wsX2_with := by decide +kernel
  have w1 := C.1.2.2.2.2 (.fieldLink RX2 9 "Yearwheel" "dates" "[J") (by decide +kernel)
  have w2 := C.1.2.2.2.2 (.constantLong RX2 53 (12)) (by decide +kernel)
  have w3 := C.1.2.2.2.2 (.classLink RX2 101 "java/lang/IllegalArgumentException") (by decide +kernel)
  have w4 := C.1.2.2.2.2 (.initialized "java/lang/IllegalArgumentException") (by decide +kernel)
  refine z_iload_n C dX2_with_0 rfl 1 rfl ?_
  refine z_bipush (v := 6) C dX2_with_1 (by decide) ?_
  refine z_xsv (rest := []) C (c_X2_checkSlot l hfl D cI cJ _ p1 (6 : Int32) ) q_X2_checkSlot gX2_with_X2_checkSlot ⟨rfl, rfl⟩ rfl rfl (Nat.le_of_ble_eq_true rfl) ⟨Nat.le_of_ble_eq_true rfl, Nat.le_of_ble_eq_true rfl⟩ ⟨Nat.le_of_ble_eq_true rfl, Nat.le_of_ble_eq_true rfl⟩ dX2_with_3 (fun h1 => ?_) (fun E h1 h1_E => ?_)
  · refine z_iload C dX2_with_6 4 rfl ?_
    refine z_bipush (v := 6) C dX2_with_8 (by decide) ?_
    refine z_xsv (rest := []) C (c_X2_checkSlot l hfl D cI cJ _ p4 (6 : Int32) ) q_X2_checkSlot gX2_with_X2_checkSlot ⟨rfl, rfl⟩ rfl rfl (Nat.le_of_ble_eq_true rfl) ⟨Nat.le_of_ble_eq_true rfl, Nat.le_of_ble_eq_true rfl⟩ ⟨Nat.le_of_ble_eq_true rfl, Nat.le_of_ble_eq_true rfl⟩ dX2_with_10 (fun h2 => ?_) (fun E h2 h2_E => ?_)
    · refine z_aload_n C dX2_with_13 rfl 0 rfl ?_
      refine z_get (CC := RX2) (T := TX2) (N := 10) (ci := 2) C hin 0 rfl rfl 0 (by decide) w1 rfl rfl dX2_with_14 ?_
      refine z_iload_n C dX2_with_17 rfl 1 rfl ?_
      refine z_lald C 1 1 rfl rfl (vpS6 h1) dX2_with_18 ?_
      refine z_lstore (lv' := [(5, .long (d p1.toNatClampNeg)), (0, .ref (y 0)), (1, .int p1), (2, .int p2), (3, .int p3), (4, .int p4)]) C dX2_with_19 (by decide) rfl ?_
      refine z_lload C dX2_with_21 0 rfl ?_
      refine z_sl (rest := []) C (c_X1_monthOfDay l hfl D cI cJ _ (d p1.toNatClampNeg) ) q_X1_monthOfDay gX2_with_X1_monthOfDay ⟨rfl, rfl⟩ rfl rfl (Nat.le_of_ble_eq_true rfl) ⟨Nat.le_of_ble_eq_true rfl, Nat.le_of_ble_eq_true rfl⟩ ⟨Nat.le_of_ble_eq_true rfl, Nat.le_of_ble_eq_true rfl⟩ dX2_with_23 ?_
      refine z_lstore (lv' := [(7, .long (f_X1_monthOfDay (d p1.toNatClampNeg))), (5, .long (d p1.toNatClampNeg)), (0, .ref (y 0)), (1, .int p1), (2, .int p2), (3, .int p3), (4, .int p4)]) C dX2_with_26 (by decide) rfl ?_
      refine z_lload C dX2_with_28 0 rfl ?_
      refine z_sl (rest := []) C (c_X1_yearOfMonth l hfl D cI cJ _ (f_X1_monthOfDay (d p1.toNatClampNeg)) ) q_X1_yearOfMonth gX2_with_X1_yearOfMonth ⟨rfl, rfl⟩ rfl rfl (Nat.le_of_ble_eq_true rfl) ⟨Nat.le_of_ble_eq_true rfl, Nat.le_of_ble_eq_true rfl⟩ ⟨Nat.le_of_ble_eq_true rfl, Nat.le_of_ble_eq_true rfl⟩ dX2_with_30 ?_
      refine z_lstore (lv' := [(9, .long (f_X1_yearOfMonth (f_X1_monthOfDay (d p1.toNatClampNeg)))), (7, .long (f_X1_monthOfDay (d p1.toNatClampNeg))), (5, .long (d p1.toNatClampNeg)), (0, .ref (y 0)), (1, .int p1), (2, .int p2), (3, .int p3), (4, .int p4)]) C dX2_with_33 (by decide) rfl ?_
      refine z_iload_n C dX2_with_35 rfl 5 rfl ?_
      refine zcases (p2 = 100) (fun h3 => ?_) (fun h3 => ?_)
      · refine z_lookup (off := 44) (tgt := 80) C dX2_with_36 (by decide) (by rw [h3]; decide) (by decide) ?_
        refine z_iload_n C dX2_with_80 rfl 6 rfl ?_
        refine z_i2l (v := (p3).toInt64) C dX2_with_81 rfl ?_
        refine z_lconst (v := 1) C dX2_with_82 (by decide) ?_
        refine z_lload C dX2_with_83 1 rfl ?_
        refine z_si (rest := [.long 1, .long (p3).toInt64]) C (c_X1_lengthOfMonth l hfl D cI cJ _ (f_X1_monthOfDay (d p1.toNatClampNeg)) ) q_X1_lengthOfMonth gX2_with_X1_lengthOfMonth ⟨rfl, rfl⟩ rfl rfl (Nat.le_of_ble_eq_true rfl) ⟨Nat.le_of_ble_eq_true rfl, Nat.le_of_ble_eq_true rfl⟩ ⟨Nat.le_of_ble_eq_true rfl, Nat.le_of_ble_eq_true rfl⟩ dX2_with_85 ?_
        refine z_i2l (v := ((f_X1_lengthOfMonth (f_X1_monthOfDay (d p1.toNatClampNeg)))).toInt64) C dX2_with_88 rfl ?_
        refine z_si (rest := []) C (c_X2_isIn l hfl D cI cJ _ ((p3).toInt64) (1 : Int64) (((f_X1_lengthOfMonth (f_X1_monthOfDay (d p1.toNatClampNeg)))).toInt64) ) q_X2_isIn gX2_with_X2_isIn ⟨rfl, rfl⟩ rfl rfl (Nat.le_of_ble_eq_true rfl) ⟨Nat.le_of_ble_eq_true rfl, Nat.le_of_ble_eq_true rfl⟩ ⟨Nat.le_of_ble_eq_true rfl, Nat.le_of_ble_eq_true rfl⟩ dX2_with_89 ?_
        refine z_xsv (rest := []) C (c_X2_checkArgument l hfl D cI cJ _ (f_X2_isIn ((p3).toInt64) 1 (((f_X1_lengthOfMonth (f_X1_monthOfDay (d p1.toNatClampNeg)))).toInt64)) ) q_X2_checkArgument gX2_with_X2_checkArgument ⟨rfl, rfl⟩ rfl rfl (Nat.le_of_ble_eq_true rfl) ⟨Nat.le_of_ble_eq_true rfl, Nat.le_of_ble_eq_true rfl⟩ ⟨Nat.le_of_ble_eq_true rfl, Nat.le_of_ble_eq_true rfl⟩ dX2_with_92 (fun h4 => ?_) (fun E h4 h4_E => ?_)
        · refine z_aload_n C dX2_with_95 rfl 3 rfl ?_
          refine z_iload C dX2_with_96 7 rfl ?_
          refine z_lload C dX2_with_98 1 rfl ?_
          refine z_sl (rest := [.int p4, .ref (y 0)]) C (c_X1_firstOfMonth l hfl D cI cJ _ (f_X1_monthOfDay (d p1.toNatClampNeg)) ) q_X1_firstOfMonth gX2_with_X1_firstOfMonth ⟨rfl, rfl⟩ rfl rfl (Nat.le_of_ble_eq_true rfl) ⟨Nat.le_of_ble_eq_true rfl, Nat.le_of_ble_eq_true rfl⟩ ⟨Nat.le_of_ble_eq_true rfl, Nat.le_of_ble_eq_true rfl⟩ dX2_with_100 ?_
          refine z_iload_n C dX2_with_103 rfl 6 rfl ?_
          refine z_i2l (v := (p3).toInt64) C dX2_with_104 rfl ?_
          refine z_ladd C dX2_with_105 ?_
          refine z_lconst (v := 1) C dX2_with_106 (by decide) ?_
          refine z_lsub C dX2_with_107 ?_
          refine z_xwl (ws' := (wY cI cJ y (s_X2_keepDate_d d p4 (((f_X1_firstOfMonth (f_X1_monthOfDay (d p1.toNatClampNeg))) + (p3).toInt64) - 1)) sy sm sd mi ti sL bL mD mT X)) (rest := []) (ci := 2) (q0 := 0) C (c_X2_keepDate l hfl D cI cJ X y d sy sm sd mi ti sL bL mD mT p4 (((f_X1_firstOfMonth (f_X1_monthOfDay (d p1.toNatClampNeg))) + (p3).toInt64) - 1) (vpS6 h2)) q_X2_keepDate rfl rfl rfl gX2_with_X2_keepDate ⟨rfl, rfl⟩ rfl rfl (Nat.le_of_ble_eq_true rfl) ⟨Nat.le_of_ble_eq_true rfl, Nat.le_of_ble_eq_true rfl⟩ ⟨Nat.le_of_ble_eq_true rfl, Nat.le_of_ble_eq_true rfl⟩ dX2_with_108 (fun h5 => ?_) (fun E h5 h5_E => ?_)
          · exact z_lret C ⟨by rw [k_X2_with, if_pos h1, if_pos h2, if_pos h3, if_pos h4, if_pos h5], congrArg (fun v => some (Value.long v)) (by rw [f_X2_with, if_pos h1, if_pos h2, if_pos h3, if_pos h4, if_pos h5] : (f_X2_keepDate (((f_X1_firstOfMonth (f_X1_monthOfDay (d p1.toNatClampNeg))) + (p3).toInt64) - 1)) = (f_X2_with d p1 p2 p3 p4)), by rw [s_X2_with_d, if_pos h1, if_pos h2, if_pos h3, if_pos h4, if_pos h5]⟩ (by decide) (by decide) dX2_with_111
          · exact z_tout C hno ⟨rfl, by rw [k_X2_with, if_pos h1, if_pos h2, if_pos h3, if_pos h4, if_neg h5]; exact h5_E⟩ (by decide) (by decide)
        · exact z_tout C hno ⟨rfl, by rw [k_X2_with, if_pos h1, if_pos h2, if_pos h3, if_neg h4]; exact h4_E⟩ (by decide) (by decide)
      · refine zcases (p2 = 109) (fun h6 => ?_) (fun h6 => ?_)
        · refine z_lookup (off := 108) (tgt := 144) C dX2_with_36 (by decide) (by rw [h6]; decide) (by decide) ?_
          refine z_iload_n C dX2_with_144 rfl 6 rfl ?_
          refine z_i2l (v := (p3).toInt64) C dX2_with_145 rfl ?_
          refine z_lconst (v := 1) C dX2_with_146 (by decide) ?_
          refine z_ldc2 (v := 12) C w2 dX2_with_147 ?_
          refine z_si (rest := []) C (c_X2_isIn l hfl D cI cJ _ ((p3).toInt64) (1 : Int64) (12 : Int64) ) q_X2_isIn gX2_with_X2_isIn ⟨rfl, rfl⟩ rfl rfl (Nat.le_of_ble_eq_true rfl) ⟨Nat.le_of_ble_eq_true rfl, Nat.le_of_ble_eq_true rfl⟩ ⟨Nat.le_of_ble_eq_true rfl, Nat.le_of_ble_eq_true rfl⟩ dX2_with_150 ?_
          refine z_xsv (rest := []) C (c_X2_checkArgument l hfl D cI cJ _ (f_X2_isIn ((p3).toInt64) 1 12) ) q_X2_checkArgument gX2_with_X2_checkArgument ⟨rfl, rfl⟩ rfl rfl (Nat.le_of_ble_eq_true rfl) ⟨Nat.le_of_ble_eq_true rfl, Nat.le_of_ble_eq_true rfl⟩ ⟨Nat.le_of_ble_eq_true rfl, Nat.le_of_ble_eq_true rfl⟩ dX2_with_153 (fun h7 => ?_) (fun E h7 h7_E => ?_)
          · refine z_aload_n C dX2_with_156 rfl 3 rfl ?_
            refine z_iload C dX2_with_157 7 rfl ?_
            refine z_lload C dX2_with_159 2 rfl ?_
            refine z_iload_n C dX2_with_161 rfl 6 rfl ?_
            refine z_lload C dX2_with_162 1 rfl ?_
            refine z_si (rest := [.int p3, .long (d p1.toNatClampNeg), .int p4, .ref (y 0)]) C (c_X1_monthInYear l hfl D cI cJ _ (f_X1_monthOfDay (d p1.toNatClampNeg)) ) q_X1_monthInYear gX2_with_X1_monthInYear ⟨rfl, rfl⟩ rfl rfl (Nat.le_of_ble_eq_true rfl) ⟨Nat.le_of_ble_eq_true rfl, Nat.le_of_ble_eq_true rfl⟩ ⟨Nat.le_of_ble_eq_true rfl, Nat.le_of_ble_eq_true rfl⟩ dX2_with_164 ?_
            refine z_isub C dX2_with_167 ?_
            refine z_i2l (v := ((p3 - (f_X1_monthInYear (f_X1_monthOfDay (d p1.toNatClampNeg))))).toInt64) C dX2_with_168 rfl ?_
            refine z_sl (rest := [.int p4, .ref (y 0)]) C (c_X1_plusMonths l hfl D cI cJ _ (d p1.toNatClampNeg) (((p3 - (f_X1_monthInYear (f_X1_monthOfDay (d p1.toNatClampNeg))))).toInt64) ) q_X1_plusMonths gX2_with_X1_plusMonths ⟨rfl, rfl⟩ rfl rfl (Nat.le_of_ble_eq_true rfl) ⟨Nat.le_of_ble_eq_true rfl, Nat.le_of_ble_eq_true rfl⟩ ⟨Nat.le_of_ble_eq_true rfl, Nat.le_of_ble_eq_true rfl⟩ dX2_with_169 ?_
            refine z_xwl (ws' := (wY cI cJ y (s_X2_keepDate_d d p4 (f_X1_plusMonths (d p1.toNatClampNeg) (((p3 - (f_X1_monthInYear (f_X1_monthOfDay (d p1.toNatClampNeg))))).toInt64))) sy sm sd mi ti sL bL mD mT X)) (rest := []) (ci := 2) (q0 := 0) C (c_X2_keepDate l hfl D cI cJ X y d sy sm sd mi ti sL bL mD mT p4 (f_X1_plusMonths (d p1.toNatClampNeg) (((p3 - (f_X1_monthInYear (f_X1_monthOfDay (d p1.toNatClampNeg))))).toInt64)) (vpS6 h2)) q_X2_keepDate rfl rfl rfl gX2_with_X2_keepDate ⟨rfl, rfl⟩ rfl rfl (Nat.le_of_ble_eq_true rfl) ⟨Nat.le_of_ble_eq_true rfl, Nat.le_of_ble_eq_true rfl⟩ ⟨Nat.le_of_ble_eq_true rfl, Nat.le_of_ble_eq_true rfl⟩ dX2_with_172 (fun h8 => ?_) (fun E h8 h8_E => ?_)
            · exact z_lret C ⟨by rw [k_X2_with, if_pos h1, if_pos h2, if_neg h3, if_pos h6, if_pos h7, if_pos h8], congrArg (fun v => some (Value.long v)) (by rw [f_X2_with, if_pos h1, if_pos h2, if_neg h3, if_pos h6, if_pos h7, if_pos h8] : (f_X2_keepDate (f_X1_plusMonths (d p1.toNatClampNeg) (((p3 - (f_X1_monthInYear (f_X1_monthOfDay (d p1.toNatClampNeg))))).toInt64))) = (f_X2_with d p1 p2 p3 p4)), by rw [s_X2_with_d, if_pos h1, if_pos h2, if_neg h3, if_pos h6, if_pos h7, if_pos h8]⟩ (by decide) (by decide) dX2_with_175
            · exact z_tout C hno ⟨rfl, by rw [k_X2_with, if_pos h1, if_pos h2, if_neg h3, if_pos h6, if_pos h7, if_neg h8]; exact h8_E⟩ (by decide) (by decide)
          · exact z_tout C hno ⟨rfl, by rw [k_X2_with, if_pos h1, if_pos h2, if_neg h3, if_pos h6, if_neg h7]; exact h7_E⟩ (by decide) (by decide)
        · refine zcases (p2 = 110) (fun h9 => ?_) (fun h9 => ?_)
          · refine z_lookup (off := 76) (tgt := 112) C dX2_with_36 (by decide) (by rw [h9]; decide) (by decide) ?_
            refine z_iload_n C dX2_with_112 rfl 6 rfl ?_
            refine z_i2l (v := (p3).toInt64) C dX2_with_113 rfl ?_
            refine z_lconst (v := 1) C dX2_with_114 (by decide) ?_
            refine z_lload C dX2_with_115 0 rfl ?_
            refine z_si (rest := [.long 1, .long (p3).toInt64]) C (c_X1_lengthOfYear l hfl D cI cJ _ (f_X1_yearOfMonth (f_X1_monthOfDay (d p1.toNatClampNeg))) ) q_X1_lengthOfYear gX2_with_X1_lengthOfYear ⟨rfl, rfl⟩ rfl rfl (Nat.le_of_ble_eq_true rfl) ⟨Nat.le_of_ble_eq_true rfl, Nat.le_of_ble_eq_true rfl⟩ ⟨Nat.le_of_ble_eq_true rfl, Nat.le_of_ble_eq_true rfl⟩ dX2_with_117 ?_
            refine z_i2l (v := ((f_X1_lengthOfYear (f_X1_yearOfMonth (f_X1_monthOfDay (d p1.toNatClampNeg))))).toInt64) C dX2_with_120 rfl ?_
            refine z_si (rest := []) C (c_X2_isIn l hfl D cI cJ _ ((p3).toInt64) (1 : Int64) (((f_X1_lengthOfYear (f_X1_yearOfMonth (f_X1_monthOfDay (d p1.toNatClampNeg))))).toInt64) ) q_X2_isIn gX2_with_X2_isIn ⟨rfl, rfl⟩ rfl rfl (Nat.le_of_ble_eq_true rfl) ⟨Nat.le_of_ble_eq_true rfl, Nat.le_of_ble_eq_true rfl⟩ ⟨Nat.le_of_ble_eq_true rfl, Nat.le_of_ble_eq_true rfl⟩ dX2_with_121 ?_
            refine z_xsv (rest := []) C (c_X2_checkArgument l hfl D cI cJ _ (f_X2_isIn ((p3).toInt64) 1 (((f_X1_lengthOfYear (f_X1_yearOfMonth (f_X1_monthOfDay (d p1.toNatClampNeg))))).toInt64)) ) q_X2_checkArgument gX2_with_X2_checkArgument ⟨rfl, rfl⟩ rfl rfl (Nat.le_of_ble_eq_true rfl) ⟨Nat.le_of_ble_eq_true rfl, Nat.le_of_ble_eq_true rfl⟩ ⟨Nat.le_of_ble_eq_true rfl, Nat.le_of_ble_eq_true rfl⟩ dX2_with_124 (fun h10 => ?_) (fun E h10 h10_E => ?_)
            · refine z_aload_n C dX2_with_127 rfl 3 rfl ?_
              refine z_iload C dX2_with_128 7 rfl ?_
              refine z_lload C dX2_with_130 0 rfl ?_
              refine z_sl (rest := [.int p4, .ref (y 0)]) C (c_X1_firstOfYear l hfl D cI cJ _ (f_X1_yearOfMonth (f_X1_monthOfDay (d p1.toNatClampNeg))) ) q_X1_firstOfYear gX2_with_X1_firstOfYear ⟨rfl, rfl⟩ rfl rfl (Nat.le_of_ble_eq_true rfl) ⟨Nat.le_of_ble_eq_true rfl, Nat.le_of_ble_eq_true rfl⟩ ⟨Nat.le_of_ble_eq_true rfl, Nat.le_of_ble_eq_true rfl⟩ dX2_with_132 ?_
              refine z_iload_n C dX2_with_135 rfl 6 rfl ?_
              refine z_i2l (v := (p3).toInt64) C dX2_with_136 rfl ?_
              refine z_ladd C dX2_with_137 ?_
              refine z_lconst (v := 1) C dX2_with_138 (by decide) ?_
              refine z_lsub C dX2_with_139 ?_
              refine z_xwl (ws' := (wY cI cJ y (s_X2_keepDate_d d p4 (((f_X1_firstOfYear (f_X1_yearOfMonth (f_X1_monthOfDay (d p1.toNatClampNeg)))) + (p3).toInt64) - 1)) sy sm sd mi ti sL bL mD mT X)) (rest := []) (ci := 2) (q0 := 0) C (c_X2_keepDate l hfl D cI cJ X y d sy sm sd mi ti sL bL mD mT p4 (((f_X1_firstOfYear (f_X1_yearOfMonth (f_X1_monthOfDay (d p1.toNatClampNeg)))) + (p3).toInt64) - 1) (vpS6 h2)) q_X2_keepDate rfl rfl rfl gX2_with_X2_keepDate ⟨rfl, rfl⟩ rfl rfl (Nat.le_of_ble_eq_true rfl) ⟨Nat.le_of_ble_eq_true rfl, Nat.le_of_ble_eq_true rfl⟩ ⟨Nat.le_of_ble_eq_true rfl, Nat.le_of_ble_eq_true rfl⟩ dX2_with_140 (fun h11 => ?_) (fun E h11 h11_E => ?_)
              · exact z_lret C ⟨by rw [k_X2_with, if_pos h1, if_pos h2, if_neg h3, if_neg h6, if_pos h9, if_pos h10, if_pos h11], congrArg (fun v => some (Value.long v)) (by rw [f_X2_with, if_pos h1, if_pos h2, if_neg h3, if_neg h6, if_pos h9, if_pos h10, if_pos h11] : (f_X2_keepDate (((f_X1_firstOfYear (f_X1_yearOfMonth (f_X1_monthOfDay (d p1.toNatClampNeg)))) + (p3).toInt64) - 1)) = (f_X2_with d p1 p2 p3 p4)), by rw [s_X2_with_d, if_pos h1, if_pos h2, if_neg h3, if_neg h6, if_pos h9, if_pos h10, if_pos h11]⟩ (by decide) (by decide) dX2_with_143
              · exact z_tout C hno ⟨rfl, by rw [k_X2_with, if_pos h1, if_pos h2, if_neg h3, if_neg h6, if_pos h9, if_pos h10, if_neg h11]; exact h11_E⟩ (by decide) (by decide)
            · exact z_tout C hno ⟨rfl, by rw [k_X2_with, if_pos h1, if_pos h2, if_neg h3, if_neg h6, if_pos h9, if_neg h10]; exact h10_E⟩ (by decide) (by decide)
          · refine zcases (p2 = 121) (fun h12 => ?_) (fun h12 => ?_)
            · refine z_lookup (off := 140) (tgt := 176) C dX2_with_36 (by decide) (by rw [h12]; decide) (by decide) ?_
              refine z_iload_n C dX2_with_176 rfl 6 rfl ?_
              refine z_i2l (v := (p3).toInt64) C dX2_with_177 rfl ?_
              refine z_si (rest := []) C (c_X2_isYear l hfl D cI cJ _ ((p3).toInt64) ) q_X2_isYear gX2_with_X2_isYear ⟨rfl, rfl⟩ rfl rfl (Nat.le_of_ble_eq_true rfl) ⟨Nat.le_of_ble_eq_true rfl, Nat.le_of_ble_eq_true rfl⟩ ⟨Nat.le_of_ble_eq_true rfl, Nat.le_of_ble_eq_true rfl⟩ dX2_with_178 ?_
              refine z_xsv (rest := []) C (c_X2_checkArgument l hfl D cI cJ _ (f_X2_isYear ((p3).toInt64)) ) q_X2_checkArgument gX2_with_X2_checkArgument ⟨rfl, rfl⟩ rfl rfl (Nat.le_of_ble_eq_true rfl) ⟨Nat.le_of_ble_eq_true rfl, Nat.le_of_ble_eq_true rfl⟩ ⟨Nat.le_of_ble_eq_true rfl, Nat.le_of_ble_eq_true rfl⟩ dX2_with_181 (fun h13 => ?_) (fun E h13 h13_E => ?_)
              · refine z_aload_n C dX2_with_184 rfl 3 rfl ?_
                refine z_iload C dX2_with_185 7 rfl ?_
                refine z_lload C dX2_with_187 2 rfl ?_
                refine z_ldc2 (v := 12) C w2 dX2_with_189 ?_
                refine z_iload_n C dX2_with_192 rfl 6 rfl ?_
                refine z_i2l (v := (p3).toInt64) C dX2_with_193 rfl ?_
                refine z_lload C dX2_with_194 0 rfl ?_
                refine z_lsub C dX2_with_196 ?_
                refine z_lmul C dX2_with_197 ?_
                refine z_sl (rest := [.int p4, .ref (y 0)]) C (c_X1_plusMonths l hfl D cI cJ _ (d p1.toNatClampNeg) (12 * ((p3).toInt64 - (f_X1_yearOfMonth (f_X1_monthOfDay (d p1.toNatClampNeg))))) ) q_X1_plusMonths gX2_with_X1_plusMonths ⟨rfl, rfl⟩ rfl rfl (Nat.le_of_ble_eq_true rfl) ⟨Nat.le_of_ble_eq_true rfl, Nat.le_of_ble_eq_true rfl⟩ ⟨Nat.le_of_ble_eq_true rfl, Nat.le_of_ble_eq_true rfl⟩ dX2_with_198 ?_
                refine z_xwl (ws' := (wY cI cJ y (s_X2_keepDate_d d p4 (f_X1_plusMonths (d p1.toNatClampNeg) (12 * ((p3).toInt64 - (f_X1_yearOfMonth (f_X1_monthOfDay (d p1.toNatClampNeg))))))) sy sm sd mi ti sL bL mD mT X)) (rest := []) (ci := 2) (q0 := 0) C (c_X2_keepDate l hfl D cI cJ X y d sy sm sd mi ti sL bL mD mT p4 (f_X1_plusMonths (d p1.toNatClampNeg) (12 * ((p3).toInt64 - (f_X1_yearOfMonth (f_X1_monthOfDay (d p1.toNatClampNeg)))))) (vpS6 h2)) q_X2_keepDate rfl rfl rfl gX2_with_X2_keepDate ⟨rfl, rfl⟩ rfl rfl (Nat.le_of_ble_eq_true rfl) ⟨Nat.le_of_ble_eq_true rfl, Nat.le_of_ble_eq_true rfl⟩ ⟨Nat.le_of_ble_eq_true rfl, Nat.le_of_ble_eq_true rfl⟩ dX2_with_201 (fun h14 => ?_) (fun E h14 h14_E => ?_)
                · exact z_lret C ⟨by rw [k_X2_with, if_pos h1, if_pos h2, if_neg h3, if_neg h6, if_neg h9, if_pos h12, if_pos h13, if_pos h14], congrArg (fun v => some (Value.long v)) (by rw [f_X2_with, if_pos h1, if_pos h2, if_neg h3, if_neg h6, if_neg h9, if_pos h12, if_pos h13, if_pos h14] : (f_X2_keepDate (f_X1_plusMonths (d p1.toNatClampNeg) (12 * ((p3).toInt64 - (f_X1_yearOfMonth (f_X1_monthOfDay (d p1.toNatClampNeg))))))) = (f_X2_with d p1 p2 p3 p4)), by rw [s_X2_with_d, if_pos h1, if_pos h2, if_neg h3, if_neg h6, if_neg h9, if_pos h12, if_pos h13, if_pos h14]⟩ (by decide) (by decide) dX2_with_204
                · exact z_tout C hno ⟨rfl, by rw [k_X2_with, if_pos h1, if_pos h2, if_neg h3, if_neg h6, if_neg h9, if_pos h12, if_pos h13, if_neg h14]; exact h14_E⟩ (by decide) (by decide)
              · exact z_tout C hno ⟨rfl, by rw [k_X2_with, if_pos h1, if_pos h2, if_neg h3, if_neg h6, if_neg h9, if_pos h12, if_neg h13]; exact h13_E⟩ (by decide) (by decide)
            · refine z_lookup (off := 169) (tgt := 205) C dX2_with_36 (by decide) (zlk4 h3 h6 h9 h12) (by decide) ?_
              obtain ⟨sa, hsa⟩ := C.2.2.2.2.2.1.1 (126, _) (List.mem_of_getElem? (i := 1) rfl)
              exact z_throwS C hno (cls := "java/lang/IllegalArgumentException") (names := ["java/lang/RuntimeException", "java/lang/Exception"]) (by decide +kernel) (by decide +kernel) w3 w4 hsa (z_hat RX2 105 "java/lang/IllegalArgumentException" ["java/lang/RuntimeException", "java/lang/Exception"] zg_105 (fun w hw => C.1.2.2.2.2 w ((by decide +kernel : ∀ w ∈ (vx_atS RX2 105 "java/lang/IllegalArgumentException" ["java/lang/RuntimeException", "java/lang/Exception"]).filter goodWord, w ∈ wsX2_with) w hw)) C.2.2.2.2.2.1 (by decide : "java/lang/IllegalArgumentException" ∈ zCs)) zo_105 dX2_with_205 dX2_with_208 dX2_with_209 dX2_with_211 dX2_with_214 (by decide) (Nat.le_of_ble_eq_true rfl) (Nat.le_of_ble_eq_true rfl) (Nat.le_of_ble_eq_true rfl) (Nat.le_of_ble_eq_true rfl) (Nat.le_of_ble_eq_true rfl) ⟨rfl, by rw [k_X2_with, if_pos h1, if_pos h2, if_neg h3, if_neg h6, if_neg h9, if_neg h12]; exact zEx2⟩
    · exact z_tout C hno ⟨rfl, by rw [k_X2_with, if_pos h1, if_neg h2]; exact h2_E⟩ (by decide) (by decide)
  · exact z_tout C hno ⟨rfl, by rw [k_X2_with, if_neg h1]; exact h1_E⟩ (by decide) (by decide)
def f_X2_adjust (d : Nat → Int64) (p1 : Int32) (p2 : Int32) (p3 : Int32) : Int64 := (if k_X2_checkSlot p1 6 = 0 then (if k_X2_checkSlot p3 6 = 0 then (if p2 = 70 then (if k_X2_keepDate (f_X1_firstOfYear (f_X1_yearOfMonth (f_X1_monthOfDay (d p1.toNatClampNeg)))) = 0 then (f_X2_keepDate (f_X1_firstOfYear (f_X1_yearOfMonth (f_X1_monthOfDay (d p1.toNatClampNeg))))) else 0) else (if p2 = 76 then (if k_X2_keepDate ((f_X1_firstOfYear ((f_X1_yearOfMonth (f_X1_monthOfDay (d p1.toNatClampNeg))) + 1)) - 1) = 0 then (f_X2_keepDate ((f_X1_firstOfYear ((f_X1_yearOfMonth (f_X1_monthOfDay (d p1.toNatClampNeg))) + 1)) - 1)) else 0) else (if p2 = 78 then (if k_X2_keepDate (f_X1_firstOfYear ((f_X1_yearOfMonth (f_X1_monthOfDay (d p1.toNatClampNeg))) + 1)) = 0 then (f_X2_keepDate (f_X1_firstOfYear ((f_X1_yearOfMonth (f_X1_monthOfDay (d p1.toNatClampNeg))) + 1))) else 0) else (if p2 = 102 then (if k_X2_keepDate (f_X1_firstOfMonth (f_X1_monthOfDay (d p1.toNatClampNeg))) = 0 then (f_X2_keepDate (f_X1_firstOfMonth (f_X1_monthOfDay (d p1.toNatClampNeg)))) else 0) else (if p2 = 108 then (if k_X2_keepDate ((f_X1_firstOfMonth ((f_X1_monthOfDay (d p1.toNatClampNeg)) + 1)) - 1) = 0 then (f_X2_keepDate ((f_X1_firstOfMonth ((f_X1_monthOfDay (d p1.toNatClampNeg)) + 1)) - 1)) else 0) else (if p2 = 110 then (if k_X2_keepDate (f_X1_firstOfMonth ((f_X1_monthOfDay (d p1.toNatClampNeg)) + 1)) = 0 then (f_X2_keepDate (f_X1_firstOfMonth ((f_X1_monthOfDay (d p1.toNatClampNeg)) + 1))) else 0) else 0)))))) else 0) else 0)
def s_X2_adjust_d (d : Nat → Int64) (p1 : Int32) (p2 : Int32) (p3 : Int32) : Nat → Int64 := (if k_X2_checkSlot p1 6 = 0 then (if k_X2_checkSlot p3 6 = 0 then (if p2 = 70 then (if k_X2_keepDate (f_X1_firstOfYear (f_X1_yearOfMonth (f_X1_monthOfDay (d p1.toNatClampNeg)))) = 0 then (s_X2_keepDate_d d p3 (f_X1_firstOfYear (f_X1_yearOfMonth (f_X1_monthOfDay (d p1.toNatClampNeg))))) else d) else (if p2 = 76 then (if k_X2_keepDate ((f_X1_firstOfYear ((f_X1_yearOfMonth (f_X1_monthOfDay (d p1.toNatClampNeg))) + 1)) - 1) = 0 then (s_X2_keepDate_d d p3 ((f_X1_firstOfYear ((f_X1_yearOfMonth (f_X1_monthOfDay (d p1.toNatClampNeg))) + 1)) - 1)) else d) else (if p2 = 78 then (if k_X2_keepDate (f_X1_firstOfYear ((f_X1_yearOfMonth (f_X1_monthOfDay (d p1.toNatClampNeg))) + 1)) = 0 then (s_X2_keepDate_d d p3 (f_X1_firstOfYear ((f_X1_yearOfMonth (f_X1_monthOfDay (d p1.toNatClampNeg))) + 1))) else d) else (if p2 = 102 then (if k_X2_keepDate (f_X1_firstOfMonth (f_X1_monthOfDay (d p1.toNatClampNeg))) = 0 then (s_X2_keepDate_d d p3 (f_X1_firstOfMonth (f_X1_monthOfDay (d p1.toNatClampNeg)))) else d) else (if p2 = 108 then (if k_X2_keepDate ((f_X1_firstOfMonth ((f_X1_monthOfDay (d p1.toNatClampNeg)) + 1)) - 1) = 0 then (s_X2_keepDate_d d p3 ((f_X1_firstOfMonth ((f_X1_monthOfDay (d p1.toNatClampNeg)) + 1)) - 1)) else d) else (if p2 = 110 then (if k_X2_keepDate (f_X1_firstOfMonth ((f_X1_monthOfDay (d p1.toNatClampNeg)) + 1)) = 0 then (s_X2_keepDate_d d p3 (f_X1_firstOfMonth ((f_X1_monthOfDay (d p1.toNatClampNeg)) + 1))) else d) else d)))))) else d) else d)
def k_X2_adjust (d : Nat → Int64) (p1 : Int32) (p2 : Int32) (p3 : Int32) : Int32 := (if k_X2_checkSlot p1 6 = 0 then (if k_X2_checkSlot p3 6 = 0 then (if p2 = 70 then (if k_X2_keepDate (f_X1_firstOfYear (f_X1_yearOfMonth (f_X1_monthOfDay (d p1.toNatClampNeg)))) = 0 then 0 else k_X2_keepDate (f_X1_firstOfYear (f_X1_yearOfMonth (f_X1_monthOfDay (d p1.toNatClampNeg))))) else (if p2 = 76 then (if k_X2_keepDate ((f_X1_firstOfYear ((f_X1_yearOfMonth (f_X1_monthOfDay (d p1.toNatClampNeg))) + 1)) - 1) = 0 then 0 else k_X2_keepDate ((f_X1_firstOfYear ((f_X1_yearOfMonth (f_X1_monthOfDay (d p1.toNatClampNeg))) + 1)) - 1)) else (if p2 = 78 then (if k_X2_keepDate (f_X1_firstOfYear ((f_X1_yearOfMonth (f_X1_monthOfDay (d p1.toNatClampNeg))) + 1)) = 0 then 0 else k_X2_keepDate (f_X1_firstOfYear ((f_X1_yearOfMonth (f_X1_monthOfDay (d p1.toNatClampNeg))) + 1))) else (if p2 = 102 then (if k_X2_keepDate (f_X1_firstOfMonth (f_X1_monthOfDay (d p1.toNatClampNeg))) = 0 then 0 else k_X2_keepDate (f_X1_firstOfMonth (f_X1_monthOfDay (d p1.toNatClampNeg)))) else (if p2 = 108 then (if k_X2_keepDate ((f_X1_firstOfMonth ((f_X1_monthOfDay (d p1.toNatClampNeg)) + 1)) - 1) = 0 then 0 else k_X2_keepDate ((f_X1_firstOfMonth ((f_X1_monthOfDay (d p1.toNatClampNeg)) + 1)) - 1)) else (if p2 = 110 then (if k_X2_keepDate (f_X1_firstOfMonth ((f_X1_monthOfDay (d p1.toNatClampNeg)) + 1)) = 0 then 0 else k_X2_keepDate (f_X1_firstOfMonth ((f_X1_monthOfDay (d p1.toNatClampNeg)) + 1))) else 2)))))) else k_X2_checkSlot p3 6) else k_X2_checkSlot p1 6)
theorem q_X2_adjust : ZY yX2_adjust wsX2_adjust cX2_adjust 8 (some .long) 3 := ⟨⟨_, rfl⟩, by decide +kernel, by decide +kernel, by decide +kernel⟩
set_option maxHeartbeats 4000000 in
set_option maxRecDepth 100000 in
theorem c_X2_adjust (l : Launch) (hfl : l.stackTraces = false) (D : va_G) (cI cJ : ClassId) (X : va_W) (y : Nat → Nat) (d : Nat → Int64) (sy : Nat → Int32) (sm : Nat → Int32) (sd : Nat → Int32) (mi : Nat → Int32) (ti : Nat → Int64) (sL : Nat → Int64) (bL : Nat → Int64) (mD : Nat → Int64) (mT : Nat → Int64) (p1 : Int32) (p2 : Int32) (p3 : Int32)  : ZM l yX2_adjust wsX2_adjust { frames := 8, cells := 3, slots := 18, locals := 125 } [.ref (y 0), .int p1, .int p2, .int p3] D (zTys cI cJ) (wY cI cJ y d sy sm sd mi ti sL bL mD mT X) 3 18 (fun v w => k_X2_adjust d p1 p2 p3 = 0 ∧ v = some (.long (f_X2_adjust d p1 p2 p3)) ∧ w = (wY cI cJ y (s_X2_adjust_d d p1 p2 p3) sy sm sd mi ti sL bL mD mT X)) (fun E w => w = (wY cI cJ y d sy sm sd mi ti sL bL mD mT X) ∧ zEx E (k_X2_adjust d p1 p2 p3)) := by
  refine z_open (own := RX2) hfl (cc := cX2_adjust) (maxL := 8) (ret := (some .long)) (lv := [(0, .ref (y 0)), (1, .int p1), (2, .int p2), (3, .int p3)]) rfl (by decide) rfl rfl (Nat.le_of_ble_eq_true rfl) ?_
  intro p e s m args below meth c A C hno hnm hargs
  have hin : ∀ w ∈ wsX20, w ∈ wsX2_adjust := by decide +kernel
  have w1 := C.1.2.2.2.2 (.fieldLink RX2 9 "Yearwheel" "dates" "[J") (by decide +kernel)
  have w2 := C.1.2.2.2.2 (.classLink RX2 101 "java/lang/IllegalArgumentException") (by decide +kernel)
  have w3 := C.1.2.2.2.2 (.initialized "java/lang/IllegalArgumentException") (by decide +kernel)
  refine z_iload_n C dX2_adjust_0 rfl 1 rfl ?_
  refine z_bipush (v := 6) C dX2_adjust_1 (by decide) ?_
  refine z_xsv (rest := []) C (c_X2_checkSlot l hfl D cI cJ _ p1 (6 : Int32) ) q_X2_checkSlot gX2_adjust_X2_checkSlot ⟨rfl, rfl⟩ rfl rfl (Nat.le_of_ble_eq_true rfl) ⟨Nat.le_of_ble_eq_true rfl, Nat.le_of_ble_eq_true rfl⟩ ⟨Nat.le_of_ble_eq_true rfl, Nat.le_of_ble_eq_true rfl⟩ dX2_adjust_3 (fun h1 => ?_) (fun E h1 h1_E => ?_)
  · refine z_iload_n C dX2_adjust_6 rfl 3 rfl ?_
    refine z_bipush (v := 6) C dX2_adjust_7 (by decide) ?_
    refine z_xsv (rest := []) C (c_X2_checkSlot l hfl D cI cJ _ p3 (6 : Int32) ) q_X2_checkSlot gX2_adjust_X2_checkSlot ⟨rfl, rfl⟩ rfl rfl (Nat.le_of_ble_eq_true rfl) ⟨Nat.le_of_ble_eq_true rfl, Nat.le_of_ble_eq_true rfl⟩ ⟨Nat.le_of_ble_eq_true rfl, Nat.le_of_ble_eq_true rfl⟩ dX2_adjust_9 (fun h2 => ?_) (fun E h2 h2_E => ?_)
    · refine z_aload_n C dX2_adjust_12 rfl 0 rfl ?_
      refine z_get (CC := RX2) (T := TX2) (N := 10) (ci := 2) C hin 0 rfl rfl 0 (by decide) w1 rfl rfl dX2_adjust_13 ?_
      refine z_iload_n C dX2_adjust_16 rfl 1 rfl ?_
      refine z_lald C 1 1 rfl rfl (vpS6 h1) dX2_adjust_17 ?_
      refine z_sl (rest := []) C (c_X1_monthOfDay l hfl D cI cJ _ (d p1.toNatClampNeg) ) q_X1_monthOfDay gX2_adjust_X1_monthOfDay ⟨rfl, rfl⟩ rfl rfl (Nat.le_of_ble_eq_true rfl) ⟨Nat.le_of_ble_eq_true rfl, Nat.le_of_ble_eq_true rfl⟩ ⟨Nat.le_of_ble_eq_true rfl, Nat.le_of_ble_eq_true rfl⟩ dX2_adjust_18 ?_
      refine z_lstore (lv' := [(4, .long (f_X1_monthOfDay (d p1.toNatClampNeg))), (0, .ref (y 0)), (1, .int p1), (2, .int p2), (3, .int p3)]) C dX2_adjust_21 (by decide) rfl ?_
      refine z_lload C dX2_adjust_23 0 rfl ?_
      refine z_sl (rest := []) C (c_X1_yearOfMonth l hfl D cI cJ _ (f_X1_monthOfDay (d p1.toNatClampNeg)) ) q_X1_yearOfMonth gX2_adjust_X1_yearOfMonth ⟨rfl, rfl⟩ rfl rfl (Nat.le_of_ble_eq_true rfl) ⟨Nat.le_of_ble_eq_true rfl, Nat.le_of_ble_eq_true rfl⟩ ⟨Nat.le_of_ble_eq_true rfl, Nat.le_of_ble_eq_true rfl⟩ dX2_adjust_25 ?_
      refine z_lstore (lv' := [(6, .long (f_X1_yearOfMonth (f_X1_monthOfDay (d p1.toNatClampNeg)))), (4, .long (f_X1_monthOfDay (d p1.toNatClampNeg))), (0, .ref (y 0)), (1, .int p1), (2, .int p2), (3, .int p3)]) C dX2_adjust_28 (by decide) rfl ?_
      refine z_iload_n C dX2_adjust_30 rfl 4 rfl ?_
      refine zcases (p2 = 70) (fun h3 => ?_) (fun h3 => ?_)
      · refine z_lookup (off := 96) (tgt := 127) C dX2_adjust_31 (by decide) (by rw [h3]; decide) (by decide) ?_
        refine z_aload_n C dX2_adjust_127 rfl 2 rfl ?_
        refine z_iload_n C dX2_adjust_128 rfl 5 rfl ?_
        refine z_lload C dX2_adjust_129 0 rfl ?_
        refine z_sl (rest := [.int p3, .ref (y 0)]) C (c_X1_firstOfYear l hfl D cI cJ _ (f_X1_yearOfMonth (f_X1_monthOfDay (d p1.toNatClampNeg))) ) q_X1_firstOfYear gX2_adjust_X1_firstOfYear ⟨rfl, rfl⟩ rfl rfl (Nat.le_of_ble_eq_true rfl) ⟨Nat.le_of_ble_eq_true rfl, Nat.le_of_ble_eq_true rfl⟩ ⟨Nat.le_of_ble_eq_true rfl, Nat.le_of_ble_eq_true rfl⟩ dX2_adjust_131 ?_
        refine z_xwl (ws' := (wY cI cJ y (s_X2_keepDate_d d p3 (f_X1_firstOfYear (f_X1_yearOfMonth (f_X1_monthOfDay (d p1.toNatClampNeg))))) sy sm sd mi ti sL bL mD mT X)) (rest := []) (ci := 2) (q0 := 0) C (c_X2_keepDate l hfl D cI cJ X y d sy sm sd mi ti sL bL mD mT p3 (f_X1_firstOfYear (f_X1_yearOfMonth (f_X1_monthOfDay (d p1.toNatClampNeg)))) (vpS6 h2)) q_X2_keepDate rfl rfl rfl gX2_adjust_X2_keepDate ⟨rfl, rfl⟩ rfl rfl (Nat.le_of_ble_eq_true rfl) ⟨Nat.le_of_ble_eq_true rfl, Nat.le_of_ble_eq_true rfl⟩ ⟨Nat.le_of_ble_eq_true rfl, Nat.le_of_ble_eq_true rfl⟩ dX2_adjust_134 (fun h4 => ?_) (fun E h4 h4_E => ?_)
        · exact z_lret C ⟨by rw [k_X2_adjust, if_pos h1, if_pos h2, if_pos h3, if_pos h4], congrArg (fun v => some (Value.long v)) (by rw [f_X2_adjust, if_pos h1, if_pos h2, if_pos h3, if_pos h4] : (f_X2_keepDate (f_X1_firstOfYear (f_X1_yearOfMonth (f_X1_monthOfDay (d p1.toNatClampNeg))))) = (f_X2_adjust d p1 p2 p3)), by rw [s_X2_adjust_d, if_pos h1, if_pos h2, if_pos h3, if_pos h4]⟩ (by decide) (by decide) dX2_adjust_137
        · exact z_tout C hno ⟨rfl, by rw [k_X2_adjust, if_pos h1, if_pos h2, if_pos h3, if_neg h4]; exact h4_E⟩ (by decide) (by decide)
      · refine zcases (p2 = 76) (fun h5 => ?_) (fun h5 => ?_)
        · refine z_lookup (off := 107) (tgt := 138) C dX2_adjust_31 (by decide) (by rw [h5]; decide) (by decide) ?_
          refine z_aload_n C dX2_adjust_138 rfl 2 rfl ?_
          refine z_iload_n C dX2_adjust_139 rfl 5 rfl ?_
          refine z_lload C dX2_adjust_140 0 rfl ?_
          refine z_lconst (v := 1) C dX2_adjust_142 (by decide) ?_
          refine z_ladd C dX2_adjust_143 ?_
          refine z_sl (rest := [.int p3, .ref (y 0)]) C (c_X1_firstOfYear l hfl D cI cJ _ ((f_X1_yearOfMonth (f_X1_monthOfDay (d p1.toNatClampNeg))) + 1) ) q_X1_firstOfYear gX2_adjust_X1_firstOfYear ⟨rfl, rfl⟩ rfl rfl (Nat.le_of_ble_eq_true rfl) ⟨Nat.le_of_ble_eq_true rfl, Nat.le_of_ble_eq_true rfl⟩ ⟨Nat.le_of_ble_eq_true rfl, Nat.le_of_ble_eq_true rfl⟩ dX2_adjust_144 ?_
          refine z_lconst (v := 1) C dX2_adjust_147 (by decide) ?_
          refine z_lsub C dX2_adjust_148 ?_
          refine z_xwl (ws' := (wY cI cJ y (s_X2_keepDate_d d p3 ((f_X1_firstOfYear ((f_X1_yearOfMonth (f_X1_monthOfDay (d p1.toNatClampNeg))) + 1)) - 1)) sy sm sd mi ti sL bL mD mT X)) (rest := []) (ci := 2) (q0 := 0) C (c_X2_keepDate l hfl D cI cJ X y d sy sm sd mi ti sL bL mD mT p3 ((f_X1_firstOfYear ((f_X1_yearOfMonth (f_X1_monthOfDay (d p1.toNatClampNeg))) + 1)) - 1) (vpS6 h2)) q_X2_keepDate rfl rfl rfl gX2_adjust_X2_keepDate ⟨rfl, rfl⟩ rfl rfl (Nat.le_of_ble_eq_true rfl) ⟨Nat.le_of_ble_eq_true rfl, Nat.le_of_ble_eq_true rfl⟩ ⟨Nat.le_of_ble_eq_true rfl, Nat.le_of_ble_eq_true rfl⟩ dX2_adjust_149 (fun h6 => ?_) (fun E h6 h6_E => ?_)
          · exact z_lret C ⟨by rw [k_X2_adjust, if_pos h1, if_pos h2, if_neg h3, if_pos h5, if_pos h6], congrArg (fun v => some (Value.long v)) (by rw [f_X2_adjust, if_pos h1, if_pos h2, if_neg h3, if_pos h5, if_pos h6] : (f_X2_keepDate ((f_X1_firstOfYear ((f_X1_yearOfMonth (f_X1_monthOfDay (d p1.toNatClampNeg))) + 1)) - 1)) = (f_X2_adjust d p1 p2 p3)), by rw [s_X2_adjust_d, if_pos h1, if_pos h2, if_neg h3, if_pos h5, if_pos h6]⟩ (by decide) (by decide) dX2_adjust_152
          · exact z_tout C hno ⟨rfl, by rw [k_X2_adjust, if_pos h1, if_pos h2, if_neg h3, if_pos h5, if_neg h6]; exact h6_E⟩ (by decide) (by decide)
        · refine zcases (p2 = 78) (fun h7 => ?_) (fun h7 => ?_)
          · refine z_lookup (off := 122) (tgt := 153) C dX2_adjust_31 (by decide) (by rw [h7]; decide) (by decide) ?_
            refine z_aload_n C dX2_adjust_153 rfl 2 rfl ?_
            refine z_iload_n C dX2_adjust_154 rfl 5 rfl ?_
            refine z_lload C dX2_adjust_155 0 rfl ?_
            refine z_lconst (v := 1) C dX2_adjust_157 (by decide) ?_
            refine z_ladd C dX2_adjust_158 ?_
            refine z_sl (rest := [.int p3, .ref (y 0)]) C (c_X1_firstOfYear l hfl D cI cJ _ ((f_X1_yearOfMonth (f_X1_monthOfDay (d p1.toNatClampNeg))) + 1) ) q_X1_firstOfYear gX2_adjust_X1_firstOfYear ⟨rfl, rfl⟩ rfl rfl (Nat.le_of_ble_eq_true rfl) ⟨Nat.le_of_ble_eq_true rfl, Nat.le_of_ble_eq_true rfl⟩ ⟨Nat.le_of_ble_eq_true rfl, Nat.le_of_ble_eq_true rfl⟩ dX2_adjust_159 ?_
            refine z_xwl (ws' := (wY cI cJ y (s_X2_keepDate_d d p3 (f_X1_firstOfYear ((f_X1_yearOfMonth (f_X1_monthOfDay (d p1.toNatClampNeg))) + 1))) sy sm sd mi ti sL bL mD mT X)) (rest := []) (ci := 2) (q0 := 0) C (c_X2_keepDate l hfl D cI cJ X y d sy sm sd mi ti sL bL mD mT p3 (f_X1_firstOfYear ((f_X1_yearOfMonth (f_X1_monthOfDay (d p1.toNatClampNeg))) + 1)) (vpS6 h2)) q_X2_keepDate rfl rfl rfl gX2_adjust_X2_keepDate ⟨rfl, rfl⟩ rfl rfl (Nat.le_of_ble_eq_true rfl) ⟨Nat.le_of_ble_eq_true rfl, Nat.le_of_ble_eq_true rfl⟩ ⟨Nat.le_of_ble_eq_true rfl, Nat.le_of_ble_eq_true rfl⟩ dX2_adjust_162 (fun h8 => ?_) (fun E h8 h8_E => ?_)
            · exact z_lret C ⟨by rw [k_X2_adjust, if_pos h1, if_pos h2, if_neg h3, if_neg h5, if_pos h7, if_pos h8], congrArg (fun v => some (Value.long v)) (by rw [f_X2_adjust, if_pos h1, if_pos h2, if_neg h3, if_neg h5, if_pos h7, if_pos h8] : (f_X2_keepDate (f_X1_firstOfYear ((f_X1_yearOfMonth (f_X1_monthOfDay (d p1.toNatClampNeg))) + 1))) = (f_X2_adjust d p1 p2 p3)), by rw [s_X2_adjust_d, if_pos h1, if_pos h2, if_neg h3, if_neg h5, if_pos h7, if_pos h8]⟩ (by decide) (by decide) dX2_adjust_165
            · exact z_tout C hno ⟨rfl, by rw [k_X2_adjust, if_pos h1, if_pos h2, if_neg h3, if_neg h5, if_pos h7, if_neg h8]; exact h8_E⟩ (by decide) (by decide)
          · refine zcases (p2 = 102) (fun h9 => ?_) (fun h9 => ?_)
            · refine z_lookup (off := 57) (tgt := 88) C dX2_adjust_31 (by decide) (by rw [h9]; decide) (by decide) ?_
              refine z_aload_n C dX2_adjust_88 rfl 2 rfl ?_
              refine z_iload_n C dX2_adjust_89 rfl 5 rfl ?_
              refine z_lload C dX2_adjust_90 1 rfl ?_
              refine z_sl (rest := [.int p3, .ref (y 0)]) C (c_X1_firstOfMonth l hfl D cI cJ _ (f_X1_monthOfDay (d p1.toNatClampNeg)) ) q_X1_firstOfMonth gX2_adjust_X1_firstOfMonth ⟨rfl, rfl⟩ rfl rfl (Nat.le_of_ble_eq_true rfl) ⟨Nat.le_of_ble_eq_true rfl, Nat.le_of_ble_eq_true rfl⟩ ⟨Nat.le_of_ble_eq_true rfl, Nat.le_of_ble_eq_true rfl⟩ dX2_adjust_92 ?_
              refine z_xwl (ws' := (wY cI cJ y (s_X2_keepDate_d d p3 (f_X1_firstOfMonth (f_X1_monthOfDay (d p1.toNatClampNeg)))) sy sm sd mi ti sL bL mD mT X)) (rest := []) (ci := 2) (q0 := 0) C (c_X2_keepDate l hfl D cI cJ X y d sy sm sd mi ti sL bL mD mT p3 (f_X1_firstOfMonth (f_X1_monthOfDay (d p1.toNatClampNeg))) (vpS6 h2)) q_X2_keepDate rfl rfl rfl gX2_adjust_X2_keepDate ⟨rfl, rfl⟩ rfl rfl (Nat.le_of_ble_eq_true rfl) ⟨Nat.le_of_ble_eq_true rfl, Nat.le_of_ble_eq_true rfl⟩ ⟨Nat.le_of_ble_eq_true rfl, Nat.le_of_ble_eq_true rfl⟩ dX2_adjust_95 (fun h10 => ?_) (fun E h10 h10_E => ?_)
              · exact z_lret C ⟨by rw [k_X2_adjust, if_pos h1, if_pos h2, if_neg h3, if_neg h5, if_neg h7, if_pos h9, if_pos h10], congrArg (fun v => some (Value.long v)) (by rw [f_X2_adjust, if_pos h1, if_pos h2, if_neg h3, if_neg h5, if_neg h7, if_pos h9, if_pos h10] : (f_X2_keepDate (f_X1_firstOfMonth (f_X1_monthOfDay (d p1.toNatClampNeg)))) = (f_X2_adjust d p1 p2 p3)), by rw [s_X2_adjust_d, if_pos h1, if_pos h2, if_neg h3, if_neg h5, if_neg h7, if_pos h9, if_pos h10]⟩ (by decide) (by decide) dX2_adjust_98
              · exact z_tout C hno ⟨rfl, by rw [k_X2_adjust, if_pos h1, if_pos h2, if_neg h3, if_neg h5, if_neg h7, if_pos h9, if_neg h10]; exact h10_E⟩ (by decide) (by decide)
            · refine zcases (p2 = 108) (fun h11 => ?_) (fun h11 => ?_)
              · refine z_lookup (off := 68) (tgt := 99) C dX2_adjust_31 (by decide) (by rw [h11]; decide) (by decide) ?_
                refine z_aload_n C dX2_adjust_99 rfl 2 rfl ?_
                refine z_iload_n C dX2_adjust_100 rfl 5 rfl ?_
                refine z_lload C dX2_adjust_101 1 rfl ?_
                refine z_lconst (v := 1) C dX2_adjust_103 (by decide) ?_
                refine z_ladd C dX2_adjust_104 ?_
                refine z_sl (rest := [.int p3, .ref (y 0)]) C (c_X1_firstOfMonth l hfl D cI cJ _ ((f_X1_monthOfDay (d p1.toNatClampNeg)) + 1) ) q_X1_firstOfMonth gX2_adjust_X1_firstOfMonth ⟨rfl, rfl⟩ rfl rfl (Nat.le_of_ble_eq_true rfl) ⟨Nat.le_of_ble_eq_true rfl, Nat.le_of_ble_eq_true rfl⟩ ⟨Nat.le_of_ble_eq_true rfl, Nat.le_of_ble_eq_true rfl⟩ dX2_adjust_105 ?_
                refine z_lconst (v := 1) C dX2_adjust_108 (by decide) ?_
                refine z_lsub C dX2_adjust_109 ?_
                refine z_xwl (ws' := (wY cI cJ y (s_X2_keepDate_d d p3 ((f_X1_firstOfMonth ((f_X1_monthOfDay (d p1.toNatClampNeg)) + 1)) - 1)) sy sm sd mi ti sL bL mD mT X)) (rest := []) (ci := 2) (q0 := 0) C (c_X2_keepDate l hfl D cI cJ X y d sy sm sd mi ti sL bL mD mT p3 ((f_X1_firstOfMonth ((f_X1_monthOfDay (d p1.toNatClampNeg)) + 1)) - 1) (vpS6 h2)) q_X2_keepDate rfl rfl rfl gX2_adjust_X2_keepDate ⟨rfl, rfl⟩ rfl rfl (Nat.le_of_ble_eq_true rfl) ⟨Nat.le_of_ble_eq_true rfl, Nat.le_of_ble_eq_true rfl⟩ ⟨Nat.le_of_ble_eq_true rfl, Nat.le_of_ble_eq_true rfl⟩ dX2_adjust_110 (fun h12 => ?_) (fun E h12 h12_E => ?_)
                · exact z_lret C ⟨by rw [k_X2_adjust, if_pos h1, if_pos h2, if_neg h3, if_neg h5, if_neg h7, if_neg h9, if_pos h11, if_pos h12], congrArg (fun v => some (Value.long v)) (by rw [f_X2_adjust, if_pos h1, if_pos h2, if_neg h3, if_neg h5, if_neg h7, if_neg h9, if_pos h11, if_pos h12] : (f_X2_keepDate ((f_X1_firstOfMonth ((f_X1_monthOfDay (d p1.toNatClampNeg)) + 1)) - 1)) = (f_X2_adjust d p1 p2 p3)), by rw [s_X2_adjust_d, if_pos h1, if_pos h2, if_neg h3, if_neg h5, if_neg h7, if_neg h9, if_pos h11, if_pos h12]⟩ (by decide) (by decide) dX2_adjust_113
                · exact z_tout C hno ⟨rfl, by rw [k_X2_adjust, if_pos h1, if_pos h2, if_neg h3, if_neg h5, if_neg h7, if_neg h9, if_pos h11, if_neg h12]; exact h12_E⟩ (by decide) (by decide)
              · refine zcases (p2 = 110) (fun h13 => ?_) (fun h13 => ?_)
                · refine z_lookup (off := 83) (tgt := 114) C dX2_adjust_31 (by decide) (by rw [h13]; decide) (by decide) ?_
                  refine z_aload_n C dX2_adjust_114 rfl 2 rfl ?_
                  refine z_iload_n C dX2_adjust_115 rfl 5 rfl ?_
                  refine z_lload C dX2_adjust_116 1 rfl ?_
                  refine z_lconst (v := 1) C dX2_adjust_118 (by decide) ?_
                  refine z_ladd C dX2_adjust_119 ?_
                  refine z_sl (rest := [.int p3, .ref (y 0)]) C (c_X1_firstOfMonth l hfl D cI cJ _ ((f_X1_monthOfDay (d p1.toNatClampNeg)) + 1) ) q_X1_firstOfMonth gX2_adjust_X1_firstOfMonth ⟨rfl, rfl⟩ rfl rfl (Nat.le_of_ble_eq_true rfl) ⟨Nat.le_of_ble_eq_true rfl, Nat.le_of_ble_eq_true rfl⟩ ⟨Nat.le_of_ble_eq_true rfl, Nat.le_of_ble_eq_true rfl⟩ dX2_adjust_120 ?_
                  refine z_xwl (ws' := (wY cI cJ y (s_X2_keepDate_d d p3 (f_X1_firstOfMonth ((f_X1_monthOfDay (d p1.toNatClampNeg)) + 1))) sy sm sd mi ti sL bL mD mT X)) (rest := []) (ci := 2) (q0 := 0) C (c_X2_keepDate l hfl D cI cJ X y d sy sm sd mi ti sL bL mD mT p3 (f_X1_firstOfMonth ((f_X1_monthOfDay (d p1.toNatClampNeg)) + 1)) (vpS6 h2)) q_X2_keepDate rfl rfl rfl gX2_adjust_X2_keepDate ⟨rfl, rfl⟩ rfl rfl (Nat.le_of_ble_eq_true rfl) ⟨Nat.le_of_ble_eq_true rfl, Nat.le_of_ble_eq_true rfl⟩ ⟨Nat.le_of_ble_eq_true rfl, Nat.le_of_ble_eq_true rfl⟩ dX2_adjust_123 (fun h14 => ?_) (fun E h14 h14_E => ?_)
                  · exact z_lret C ⟨by rw [k_X2_adjust, if_pos h1, if_pos h2, if_neg h3, if_neg h5, if_neg h7, if_neg h9, if_neg h11, if_pos h13, if_pos h14], congrArg (fun v => some (Value.long v)) (by rw [f_X2_adjust, if_pos h1, if_pos h2, if_neg h3, if_neg h5, if_neg h7, if_neg h9, if_neg h11, if_pos h13, if_pos h14] : (f_X2_keepDate (f_X1_firstOfMonth ((f_X1_monthOfDay (d p1.toNatClampNeg)) + 1))) = (f_X2_adjust d p1 p2 p3)), by rw [s_X2_adjust_d, if_pos h1, if_pos h2, if_neg h3, if_neg h5, if_neg h7, if_neg h9, if_neg h11, if_pos h13, if_pos h14]⟩ (by decide) (by decide) dX2_adjust_126
                  · exact z_tout C hno ⟨rfl, by rw [k_X2_adjust, if_pos h1, if_pos h2, if_neg h3, if_neg h5, if_neg h7, if_neg h9, if_neg h11, if_pos h13, if_neg h14]; exact h14_E⟩ (by decide) (by decide)
                · refine z_lookup (off := 135) (tgt := 166) C dX2_adjust_31 (by decide) (zlk6 h3 h5 h7 h9 h11 h13) (by decide) ?_
                  obtain ⟨sa, hsa⟩ := C.2.2.2.2.2.1.1 (128, _) (List.mem_of_getElem? (i := 2) rfl)
                  exact z_throwS C hno (cls := "java/lang/IllegalArgumentException") (names := ["java/lang/RuntimeException", "java/lang/Exception"]) (by decide +kernel) (by decide +kernel) w2 w3 hsa (z_hat RX2 105 "java/lang/IllegalArgumentException" ["java/lang/RuntimeException", "java/lang/Exception"] zg_105 (fun w hw => C.1.2.2.2.2 w ((by decide +kernel : ∀ w ∈ (vx_atS RX2 105 "java/lang/IllegalArgumentException" ["java/lang/RuntimeException", "java/lang/Exception"]).filter goodWord, w ∈ wsX2_adjust) w hw)) C.2.2.2.2.2.1 (by decide : "java/lang/IllegalArgumentException" ∈ zCs)) zo_105 dX2_adjust_166 dX2_adjust_169 dX2_adjust_170 dX2_adjust_172 dX2_adjust_175 (by decide) (Nat.le_of_ble_eq_true rfl) (Nat.le_of_ble_eq_true rfl) (Nat.le_of_ble_eq_true rfl) (Nat.le_of_ble_eq_true rfl) (Nat.le_of_ble_eq_true rfl) ⟨rfl, by rw [k_X2_adjust, if_pos h1, if_pos h2, if_neg h3, if_neg h5, if_neg h7, if_neg h9, if_neg h11, if_neg h13]; exact zEx2⟩
    · exact z_tout C hno ⟨rfl, by rw [k_X2_adjust, if_pos h1, if_neg h2]; exact h2_E⟩ (by decide) (by decide)
  · exact z_tout C hno ⟨rfl, by rw [k_X2_adjust, if_neg h1]; exact h1_E⟩ (by decide) (by decide)
def f_X2_weekday (d : Nat → Int64) (p1 : Int32) (p2 : Int32) (p3 : Int32) (p4 : Int32) : Int64 := (if k_X2_checkSlot p1 6 = 0 then (if k_X2_checkSlot p4 6 = 0 then (if k_X2_checkArgument (f_X2_isIn ((p3).toInt64) 1 7) = 0 then (if p2 = 78 then (if k_X2_keepDate (f_X1_weekdayFrom (d p1.toNatClampNeg) p3) = 0 then (f_X2_keepDate (f_X1_weekdayFrom (d p1.toNatClampNeg) p3)) else 0) else (if p2 = 80 then (if k_X2_keepDate (f_X1_weekdayUpTo (d p1.toNatClampNeg) p3) = 0 then (f_X2_keepDate (f_X1_weekdayUpTo (d p1.toNatClampNeg) p3)) else 0) else (if p2 = 102 then (if k_X2_keepDate (f_X1_weekdayFrom (f_X1_firstOfMonth (f_X1_monthOfDay (d p1.toNatClampNeg))) p3) = 0 then (f_X2_keepDate (f_X1_weekdayFrom (f_X1_firstOfMonth (f_X1_monthOfDay (d p1.toNatClampNeg))) p3)) else 0) else (if p2 = 108 then (if k_X2_keepDate (f_X1_weekdayUpTo ((f_X1_firstOfMonth ((f_X1_monthOfDay (d p1.toNatClampNeg)) + 1)) - 1) p3) = 0 then (f_X2_keepDate (f_X1_weekdayUpTo ((f_X1_firstOfMonth ((f_X1_monthOfDay (d p1.toNatClampNeg)) + 1)) - 1) p3)) else 0) else (if p2 = 110 then (if k_X2_keepDate (f_X1_weekdayFrom ((d p1.toNatClampNeg) + 1) p3) = 0 then (f_X2_keepDate (f_X1_weekdayFrom ((d p1.toNatClampNeg) + 1) p3)) else 0) else (if p2 = 112 then (if k_X2_keepDate (f_X1_weekdayUpTo ((d p1.toNatClampNeg) - 1) p3) = 0 then (f_X2_keepDate (f_X1_weekdayUpTo ((d p1.toNatClampNeg) - 1) p3)) else 0) else 0)))))) else 0) else 0) else 0)
def s_X2_weekday_d (d : Nat → Int64) (p1 : Int32) (p2 : Int32) (p3 : Int32) (p4 : Int32) : Nat → Int64 := (if k_X2_checkSlot p1 6 = 0 then (if k_X2_checkSlot p4 6 = 0 then (if k_X2_checkArgument (f_X2_isIn ((p3).toInt64) 1 7) = 0 then (if p2 = 78 then (if k_X2_keepDate (f_X1_weekdayFrom (d p1.toNatClampNeg) p3) = 0 then (s_X2_keepDate_d d p4 (f_X1_weekdayFrom (d p1.toNatClampNeg) p3)) else d) else (if p2 = 80 then (if k_X2_keepDate (f_X1_weekdayUpTo (d p1.toNatClampNeg) p3) = 0 then (s_X2_keepDate_d d p4 (f_X1_weekdayUpTo (d p1.toNatClampNeg) p3)) else d) else (if p2 = 102 then (if k_X2_keepDate (f_X1_weekdayFrom (f_X1_firstOfMonth (f_X1_monthOfDay (d p1.toNatClampNeg))) p3) = 0 then (s_X2_keepDate_d d p4 (f_X1_weekdayFrom (f_X1_firstOfMonth (f_X1_monthOfDay (d p1.toNatClampNeg))) p3)) else d) else (if p2 = 108 then (if k_X2_keepDate (f_X1_weekdayUpTo ((f_X1_firstOfMonth ((f_X1_monthOfDay (d p1.toNatClampNeg)) + 1)) - 1) p3) = 0 then (s_X2_keepDate_d d p4 (f_X1_weekdayUpTo ((f_X1_firstOfMonth ((f_X1_monthOfDay (d p1.toNatClampNeg)) + 1)) - 1) p3)) else d) else (if p2 = 110 then (if k_X2_keepDate (f_X1_weekdayFrom ((d p1.toNatClampNeg) + 1) p3) = 0 then (s_X2_keepDate_d d p4 (f_X1_weekdayFrom ((d p1.toNatClampNeg) + 1) p3)) else d) else (if p2 = 112 then (if k_X2_keepDate (f_X1_weekdayUpTo ((d p1.toNatClampNeg) - 1) p3) = 0 then (s_X2_keepDate_d d p4 (f_X1_weekdayUpTo ((d p1.toNatClampNeg) - 1) p3)) else d) else d)))))) else d) else d) else d)
def k_X2_weekday (d : Nat → Int64) (p1 : Int32) (p2 : Int32) (p3 : Int32) (p4 : Int32) : Int32 := (if k_X2_checkSlot p1 6 = 0 then (if k_X2_checkSlot p4 6 = 0 then (if k_X2_checkArgument (f_X2_isIn ((p3).toInt64) 1 7) = 0 then (if p2 = 78 then (if k_X2_keepDate (f_X1_weekdayFrom (d p1.toNatClampNeg) p3) = 0 then 0 else k_X2_keepDate (f_X1_weekdayFrom (d p1.toNatClampNeg) p3)) else (if p2 = 80 then (if k_X2_keepDate (f_X1_weekdayUpTo (d p1.toNatClampNeg) p3) = 0 then 0 else k_X2_keepDate (f_X1_weekdayUpTo (d p1.toNatClampNeg) p3)) else (if p2 = 102 then (if k_X2_keepDate (f_X1_weekdayFrom (f_X1_firstOfMonth (f_X1_monthOfDay (d p1.toNatClampNeg))) p3) = 0 then 0 else k_X2_keepDate (f_X1_weekdayFrom (f_X1_firstOfMonth (f_X1_monthOfDay (d p1.toNatClampNeg))) p3)) else (if p2 = 108 then (if k_X2_keepDate (f_X1_weekdayUpTo ((f_X1_firstOfMonth ((f_X1_monthOfDay (d p1.toNatClampNeg)) + 1)) - 1) p3) = 0 then 0 else k_X2_keepDate (f_X1_weekdayUpTo ((f_X1_firstOfMonth ((f_X1_monthOfDay (d p1.toNatClampNeg)) + 1)) - 1) p3)) else (if p2 = 110 then (if k_X2_keepDate (f_X1_weekdayFrom ((d p1.toNatClampNeg) + 1) p3) = 0 then 0 else k_X2_keepDate (f_X1_weekdayFrom ((d p1.toNatClampNeg) + 1) p3)) else (if p2 = 112 then (if k_X2_keepDate (f_X1_weekdayUpTo ((d p1.toNatClampNeg) - 1) p3) = 0 then 0 else k_X2_keepDate (f_X1_weekdayUpTo ((d p1.toNatClampNeg) - 1) p3)) else 2)))))) else k_X2_checkArgument (f_X2_isIn ((p3).toInt64) 1 7)) else k_X2_checkSlot p4 6) else k_X2_checkSlot p1 6)
theorem q_X2_weekday : ZY yX2_weekday wsX2_weekday cX2_weekday 9 (some .long) 4 := ⟨⟨_, rfl⟩, by decide +kernel, by decide +kernel, by decide +kernel⟩
set_option maxHeartbeats 4000000 in
set_option maxRecDepth 100000 in
theorem c_X2_weekday (l : Launch) (hfl : l.stackTraces = false) (D : va_G) (cI cJ : ClassId) (X : va_W) (y : Nat → Nat) (d : Nat → Int64) (sy : Nat → Int32) (sm : Nat → Int32) (sd : Nat → Int32) (mi : Nat → Int32) (ti : Nat → Int64) (sL : Nat → Int64) (bL : Nat → Int64) (mD : Nat → Int64) (mT : Nat → Int64) (p1 : Int32) (p2 : Int32) (p3 : Int32) (p4 : Int32)  : ZM l yX2_weekday wsX2_weekday { frames := 8, cells := 4, slots := 24, locals := 125 } [.ref (y 0), .int p1, .int p2, .int p3, .int p4] D (zTys cI cJ) (wY cI cJ y d sy sm sd mi ti sL bL mD mT X) 4 24 (fun v w => k_X2_weekday d p1 p2 p3 p4 = 0 ∧ v = some (.long (f_X2_weekday d p1 p2 p3 p4)) ∧ w = (wY cI cJ y (s_X2_weekday_d d p1 p2 p3 p4) sy sm sd mi ti sL bL mD mT X)) (fun E w => w = (wY cI cJ y d sy sm sd mi ti sL bL mD mT X) ∧ zEx E (k_X2_weekday d p1 p2 p3 p4)) := by
  refine z_open (own := RX2) hfl (cc := cX2_weekday) (maxL := 9) (ret := (some .long)) (lv := [(0, .ref (y 0)), (1, .int p1), (2, .int p2), (3, .int p3), (4, .int p4)]) rfl (by decide) rfl rfl (Nat.le_of_ble_eq_true rfl) ?_
  intro p e s m args below meth c A C hno hnm hargs
  have hin : ∀ w ∈ wsX20, w ∈ wsX2_weekday := by decide +kernel
  have w1 := C.1.2.2.2.2 (.constantLong RX2 130 (7)) (by decide +kernel)
  have w2 := C.1.2.2.2.2 (.fieldLink RX2 9 "Yearwheel" "dates" "[J") (by decide +kernel)
  have w3 := C.1.2.2.2.2 (.classLink RX2 101 "java/lang/IllegalArgumentException") (by decide +kernel)
  have w4 := C.1.2.2.2.2 (.initialized "java/lang/IllegalArgumentException") (by decide +kernel)
  refine z_iload_n C dX2_weekday_0 rfl 1 rfl ?_
  refine z_bipush (v := 6) C dX2_weekday_1 (by decide) ?_
  refine z_xsv (rest := []) C (c_X2_checkSlot l hfl D cI cJ _ p1 (6 : Int32) ) q_X2_checkSlot gX2_weekday_X2_checkSlot ⟨rfl, rfl⟩ rfl rfl (Nat.le_of_ble_eq_true rfl) ⟨Nat.le_of_ble_eq_true rfl, Nat.le_of_ble_eq_true rfl⟩ ⟨Nat.le_of_ble_eq_true rfl, Nat.le_of_ble_eq_true rfl⟩ dX2_weekday_3 (fun h1 => ?_) (fun E h1 h1_E => ?_)
  · refine z_iload C dX2_weekday_6 4 rfl ?_
    refine z_bipush (v := 6) C dX2_weekday_8 (by decide) ?_
    refine z_xsv (rest := []) C (c_X2_checkSlot l hfl D cI cJ _ p4 (6 : Int32) ) q_X2_checkSlot gX2_weekday_X2_checkSlot ⟨rfl, rfl⟩ rfl rfl (Nat.le_of_ble_eq_true rfl) ⟨Nat.le_of_ble_eq_true rfl, Nat.le_of_ble_eq_true rfl⟩ ⟨Nat.le_of_ble_eq_true rfl, Nat.le_of_ble_eq_true rfl⟩ dX2_weekday_10 (fun h2 => ?_) (fun E h2 h2_E => ?_)
    · refine z_iload_n C dX2_weekday_13 rfl 3 rfl ?_
      refine z_i2l (v := (p3).toInt64) C dX2_weekday_14 rfl ?_
      refine z_lconst (v := 1) C dX2_weekday_15 (by decide) ?_
      refine z_ldc2 (v := 7) C w1 dX2_weekday_16 ?_
      refine z_si (rest := []) C (c_X2_isIn l hfl D cI cJ _ ((p3).toInt64) (1 : Int64) (7 : Int64) ) q_X2_isIn gX2_weekday_X2_isIn ⟨rfl, rfl⟩ rfl rfl (Nat.le_of_ble_eq_true rfl) ⟨Nat.le_of_ble_eq_true rfl, Nat.le_of_ble_eq_true rfl⟩ ⟨Nat.le_of_ble_eq_true rfl, Nat.le_of_ble_eq_true rfl⟩ dX2_weekday_19 ?_
      refine z_xsv (rest := []) C (c_X2_checkArgument l hfl D cI cJ _ (f_X2_isIn ((p3).toInt64) 1 7) ) q_X2_checkArgument gX2_weekday_X2_checkArgument ⟨rfl, rfl⟩ rfl rfl (Nat.le_of_ble_eq_true rfl) ⟨Nat.le_of_ble_eq_true rfl, Nat.le_of_ble_eq_true rfl⟩ ⟨Nat.le_of_ble_eq_true rfl, Nat.le_of_ble_eq_true rfl⟩ dX2_weekday_22 (fun h3 => ?_) (fun E h3 h3_E => ?_)
      · refine z_aload_n C dX2_weekday_25 rfl 0 rfl ?_
        refine z_get (CC := RX2) (T := TX2) (N := 10) (ci := 2) C hin 0 rfl rfl 0 (by decide) w2 rfl rfl dX2_weekday_26 ?_
        refine z_iload_n C dX2_weekday_29 rfl 1 rfl ?_
        refine z_lald C 1 1 rfl rfl (vpS6 h1) dX2_weekday_30 ?_
        refine z_lstore (lv' := [(5, .long (d p1.toNatClampNeg)), (0, .ref (y 0)), (1, .int p1), (2, .int p2), (3, .int p3), (4, .int p4)]) C dX2_weekday_31 (by decide) rfl ?_
        refine z_lload C dX2_weekday_33 0 rfl ?_
        refine z_sl (rest := []) C (c_X1_monthOfDay l hfl D cI cJ _ (d p1.toNatClampNeg) ) q_X1_monthOfDay gX2_weekday_X1_monthOfDay ⟨rfl, rfl⟩ rfl rfl (Nat.le_of_ble_eq_true rfl) ⟨Nat.le_of_ble_eq_true rfl, Nat.le_of_ble_eq_true rfl⟩ ⟨Nat.le_of_ble_eq_true rfl, Nat.le_of_ble_eq_true rfl⟩ dX2_weekday_35 ?_
        refine z_lstore (lv' := [(7, .long (f_X1_monthOfDay (d p1.toNatClampNeg))), (5, .long (d p1.toNatClampNeg)), (0, .ref (y 0)), (1, .int p1), (2, .int p2), (3, .int p3), (4, .int p4)]) C dX2_weekday_38 (by decide) rfl ?_
        refine z_iload_n C dX2_weekday_40 rfl 4 rfl ?_
        refine zcases (p2 = 78) (fun h4 => ?_) (fun h4 => ?_)
        · refine z_lookup (off := 89) (tgt := 130) C dX2_weekday_41 (by decide) (by rw [h4]; decide) (by decide) ?_
          refine z_aload_n C dX2_weekday_130 rfl 2 rfl ?_
          refine z_iload C dX2_weekday_131 6 rfl ?_
          refine z_lload C dX2_weekday_133 1 rfl ?_
          refine z_iload_n C dX2_weekday_135 rfl 5 rfl ?_
          refine z_sl (rest := [.int p4, .ref (y 0)]) C (c_X1_weekdayFrom l hfl D cI cJ _ (d p1.toNatClampNeg) p3 ) q_X1_weekdayFrom gX2_weekday_X1_weekdayFrom ⟨rfl, rfl⟩ rfl rfl (Nat.le_of_ble_eq_true rfl) ⟨Nat.le_of_ble_eq_true rfl, Nat.le_of_ble_eq_true rfl⟩ ⟨Nat.le_of_ble_eq_true rfl, Nat.le_of_ble_eq_true rfl⟩ dX2_weekday_136 ?_
          refine z_xwl (ws' := (wY cI cJ y (s_X2_keepDate_d d p4 (f_X1_weekdayFrom (d p1.toNatClampNeg) p3)) sy sm sd mi ti sL bL mD mT X)) (rest := []) (ci := 2) (q0 := 0) C (c_X2_keepDate l hfl D cI cJ X y d sy sm sd mi ti sL bL mD mT p4 (f_X1_weekdayFrom (d p1.toNatClampNeg) p3) (vpS6 h2)) q_X2_keepDate rfl rfl rfl gX2_weekday_X2_keepDate ⟨rfl, rfl⟩ rfl rfl (Nat.le_of_ble_eq_true rfl) ⟨Nat.le_of_ble_eq_true rfl, Nat.le_of_ble_eq_true rfl⟩ ⟨Nat.le_of_ble_eq_true rfl, Nat.le_of_ble_eq_true rfl⟩ dX2_weekday_139 (fun h5 => ?_) (fun E h5 h5_E => ?_)
          · exact z_lret C ⟨by rw [k_X2_weekday, if_pos h1, if_pos h2, if_pos h3, if_pos h4, if_pos h5], congrArg (fun v => some (Value.long v)) (by rw [f_X2_weekday, if_pos h1, if_pos h2, if_pos h3, if_pos h4, if_pos h5] : (f_X2_keepDate (f_X1_weekdayFrom (d p1.toNatClampNeg) p3)) = (f_X2_weekday d p1 p2 p3 p4)), by rw [s_X2_weekday_d, if_pos h1, if_pos h2, if_pos h3, if_pos h4, if_pos h5]⟩ (by decide) (by decide) dX2_weekday_142
          · exact z_tout C hno ⟨rfl, by rw [k_X2_weekday, if_pos h1, if_pos h2, if_pos h3, if_pos h4, if_neg h5]; exact h5_E⟩ (by decide) (by decide)
        · refine zcases (p2 = 80) (fun h6 => ?_) (fun h6 => ?_)
          · refine z_lookup (off := 102) (tgt := 143) C dX2_weekday_41 (by decide) (by rw [h6]; decide) (by decide) ?_
            refine z_aload_n C dX2_weekday_143 rfl 2 rfl ?_
            refine z_iload C dX2_weekday_144 6 rfl ?_
            refine z_lload C dX2_weekday_146 1 rfl ?_
            refine z_iload_n C dX2_weekday_148 rfl 5 rfl ?_
            refine z_sl (rest := [.int p4, .ref (y 0)]) C (c_X1_weekdayUpTo l hfl D cI cJ _ (d p1.toNatClampNeg) p3 ) q_X1_weekdayUpTo gX2_weekday_X1_weekdayUpTo ⟨rfl, rfl⟩ rfl rfl (Nat.le_of_ble_eq_true rfl) ⟨Nat.le_of_ble_eq_true rfl, Nat.le_of_ble_eq_true rfl⟩ ⟨Nat.le_of_ble_eq_true rfl, Nat.le_of_ble_eq_true rfl⟩ dX2_weekday_149 ?_
            refine z_xwl (ws' := (wY cI cJ y (s_X2_keepDate_d d p4 (f_X1_weekdayUpTo (d p1.toNatClampNeg) p3)) sy sm sd mi ti sL bL mD mT X)) (rest := []) (ci := 2) (q0 := 0) C (c_X2_keepDate l hfl D cI cJ X y d sy sm sd mi ti sL bL mD mT p4 (f_X1_weekdayUpTo (d p1.toNatClampNeg) p3) (vpS6 h2)) q_X2_keepDate rfl rfl rfl gX2_weekday_X2_keepDate ⟨rfl, rfl⟩ rfl rfl (Nat.le_of_ble_eq_true rfl) ⟨Nat.le_of_ble_eq_true rfl, Nat.le_of_ble_eq_true rfl⟩ ⟨Nat.le_of_ble_eq_true rfl, Nat.le_of_ble_eq_true rfl⟩ dX2_weekday_152 (fun h7 => ?_) (fun E h7 h7_E => ?_)
            · exact z_lret C ⟨by rw [k_X2_weekday, if_pos h1, if_pos h2, if_pos h3, if_neg h4, if_pos h6, if_pos h7], congrArg (fun v => some (Value.long v)) (by rw [f_X2_weekday, if_pos h1, if_pos h2, if_pos h3, if_neg h4, if_pos h6, if_pos h7] : (f_X2_keepDate (f_X1_weekdayUpTo (d p1.toNatClampNeg) p3)) = (f_X2_weekday d p1 p2 p3 p4)), by rw [s_X2_weekday_d, if_pos h1, if_pos h2, if_pos h3, if_neg h4, if_pos h6, if_pos h7]⟩ (by decide) (by decide) dX2_weekday_155
            · exact z_tout C hno ⟨rfl, by rw [k_X2_weekday, if_pos h1, if_pos h2, if_pos h3, if_neg h4, if_pos h6, if_neg h7]; exact h7_E⟩ (by decide) (by decide)
          · refine zcases (p2 = 102) (fun h8 => ?_) (fun h8 => ?_)
            · refine z_lookup (off := 115) (tgt := 156) C dX2_weekday_41 (by decide) (by rw [h8]; decide) (by decide) ?_
              refine z_aload_n C dX2_weekday_156 rfl 2 rfl ?_
              refine z_iload C dX2_weekday_157 6 rfl ?_
              refine z_lload C dX2_weekday_159 0 rfl ?_
              refine z_sl (rest := [.int p4, .ref (y 0)]) C (c_X1_firstOfMonth l hfl D cI cJ _ (f_X1_monthOfDay (d p1.toNatClampNeg)) ) q_X1_firstOfMonth gX2_weekday_X1_firstOfMonth ⟨rfl, rfl⟩ rfl rfl (Nat.le_of_ble_eq_true rfl) ⟨Nat.le_of_ble_eq_true rfl, Nat.le_of_ble_eq_true rfl⟩ ⟨Nat.le_of_ble_eq_true rfl, Nat.le_of_ble_eq_true rfl⟩ dX2_weekday_161 ?_
              refine z_iload_n C dX2_weekday_164 rfl 5 rfl ?_
              refine z_sl (rest := [.int p4, .ref (y 0)]) C (c_X1_weekdayFrom l hfl D cI cJ _ (f_X1_firstOfMonth (f_X1_monthOfDay (d p1.toNatClampNeg))) p3 ) q_X1_weekdayFrom gX2_weekday_X1_weekdayFrom ⟨rfl, rfl⟩ rfl rfl (Nat.le_of_ble_eq_true rfl) ⟨Nat.le_of_ble_eq_true rfl, Nat.le_of_ble_eq_true rfl⟩ ⟨Nat.le_of_ble_eq_true rfl, Nat.le_of_ble_eq_true rfl⟩ dX2_weekday_165 ?_
              refine z_xwl (ws' := (wY cI cJ y (s_X2_keepDate_d d p4 (f_X1_weekdayFrom (f_X1_firstOfMonth (f_X1_monthOfDay (d p1.toNatClampNeg))) p3)) sy sm sd mi ti sL bL mD mT X)) (rest := []) (ci := 2) (q0 := 0) C (c_X2_keepDate l hfl D cI cJ X y d sy sm sd mi ti sL bL mD mT p4 (f_X1_weekdayFrom (f_X1_firstOfMonth (f_X1_monthOfDay (d p1.toNatClampNeg))) p3) (vpS6 h2)) q_X2_keepDate rfl rfl rfl gX2_weekday_X2_keepDate ⟨rfl, rfl⟩ rfl rfl (Nat.le_of_ble_eq_true rfl) ⟨Nat.le_of_ble_eq_true rfl, Nat.le_of_ble_eq_true rfl⟩ ⟨Nat.le_of_ble_eq_true rfl, Nat.le_of_ble_eq_true rfl⟩ dX2_weekday_168 (fun h9 => ?_) (fun E h9 h9_E => ?_)
              · exact z_lret C ⟨by rw [k_X2_weekday, if_pos h1, if_pos h2, if_pos h3, if_neg h4, if_neg h6, if_pos h8, if_pos h9], congrArg (fun v => some (Value.long v)) (by rw [f_X2_weekday, if_pos h1, if_pos h2, if_pos h3, if_neg h4, if_neg h6, if_pos h8, if_pos h9] : (f_X2_keepDate (f_X1_weekdayFrom (f_X1_firstOfMonth (f_X1_monthOfDay (d p1.toNatClampNeg))) p3)) = (f_X2_weekday d p1 p2 p3 p4)), by rw [s_X2_weekday_d, if_pos h1, if_pos h2, if_pos h3, if_neg h4, if_neg h6, if_pos h8, if_pos h9]⟩ (by decide) (by decide) dX2_weekday_171
              · exact z_tout C hno ⟨rfl, by rw [k_X2_weekday, if_pos h1, if_pos h2, if_pos h3, if_neg h4, if_neg h6, if_pos h8, if_neg h9]; exact h9_E⟩ (by decide) (by decide)
            · refine zcases (p2 = 108) (fun h10 => ?_) (fun h10 => ?_)
              · refine z_lookup (off := 131) (tgt := 172) C dX2_weekday_41 (by decide) (by rw [h10]; decide) (by decide) ?_
                refine z_aload_n C dX2_weekday_172 rfl 2 rfl ?_
                refine z_iload C dX2_weekday_173 6 rfl ?_
                refine z_lload C dX2_weekday_175 0 rfl ?_
                refine z_lconst (v := 1) C dX2_weekday_177 (by decide) ?_
                refine z_ladd C dX2_weekday_178 ?_
                refine z_sl (rest := [.int p4, .ref (y 0)]) C (c_X1_firstOfMonth l hfl D cI cJ _ ((f_X1_monthOfDay (d p1.toNatClampNeg)) + 1) ) q_X1_firstOfMonth gX2_weekday_X1_firstOfMonth ⟨rfl, rfl⟩ rfl rfl (Nat.le_of_ble_eq_true rfl) ⟨Nat.le_of_ble_eq_true rfl, Nat.le_of_ble_eq_true rfl⟩ ⟨Nat.le_of_ble_eq_true rfl, Nat.le_of_ble_eq_true rfl⟩ dX2_weekday_179 ?_
                refine z_lconst (v := 1) C dX2_weekday_182 (by decide) ?_
                refine z_lsub C dX2_weekday_183 ?_
                refine z_iload_n C dX2_weekday_184 rfl 5 rfl ?_
                refine z_sl (rest := [.int p4, .ref (y 0)]) C (c_X1_weekdayUpTo l hfl D cI cJ _ ((f_X1_firstOfMonth ((f_X1_monthOfDay (d p1.toNatClampNeg)) + 1)) - 1) p3 ) q_X1_weekdayUpTo gX2_weekday_X1_weekdayUpTo ⟨rfl, rfl⟩ rfl rfl (Nat.le_of_ble_eq_true rfl) ⟨Nat.le_of_ble_eq_true rfl, Nat.le_of_ble_eq_true rfl⟩ ⟨Nat.le_of_ble_eq_true rfl, Nat.le_of_ble_eq_true rfl⟩ dX2_weekday_185 ?_
                refine z_xwl (ws' := (wY cI cJ y (s_X2_keepDate_d d p4 (f_X1_weekdayUpTo ((f_X1_firstOfMonth ((f_X1_monthOfDay (d p1.toNatClampNeg)) + 1)) - 1) p3)) sy sm sd mi ti sL bL mD mT X)) (rest := []) (ci := 2) (q0 := 0) C (c_X2_keepDate l hfl D cI cJ X y d sy sm sd mi ti sL bL mD mT p4 (f_X1_weekdayUpTo ((f_X1_firstOfMonth ((f_X1_monthOfDay (d p1.toNatClampNeg)) + 1)) - 1) p3) (vpS6 h2)) q_X2_keepDate rfl rfl rfl gX2_weekday_X2_keepDate ⟨rfl, rfl⟩ rfl rfl (Nat.le_of_ble_eq_true rfl) ⟨Nat.le_of_ble_eq_true rfl, Nat.le_of_ble_eq_true rfl⟩ ⟨Nat.le_of_ble_eq_true rfl, Nat.le_of_ble_eq_true rfl⟩ dX2_weekday_188 (fun h11 => ?_) (fun E h11 h11_E => ?_)
                · exact z_lret C ⟨by rw [k_X2_weekday, if_pos h1, if_pos h2, if_pos h3, if_neg h4, if_neg h6, if_neg h8, if_pos h10, if_pos h11], congrArg (fun v => some (Value.long v)) (by rw [f_X2_weekday, if_pos h1, if_pos h2, if_pos h3, if_neg h4, if_neg h6, if_neg h8, if_pos h10, if_pos h11] : (f_X2_keepDate (f_X1_weekdayUpTo ((f_X1_firstOfMonth ((f_X1_monthOfDay (d p1.toNatClampNeg)) + 1)) - 1) p3)) = (f_X2_weekday d p1 p2 p3 p4)), by rw [s_X2_weekday_d, if_pos h1, if_pos h2, if_pos h3, if_neg h4, if_neg h6, if_neg h8, if_pos h10, if_pos h11]⟩ (by decide) (by decide) dX2_weekday_191
                · exact z_tout C hno ⟨rfl, by rw [k_X2_weekday, if_pos h1, if_pos h2, if_pos h3, if_neg h4, if_neg h6, if_neg h8, if_pos h10, if_neg h11]; exact h11_E⟩ (by decide) (by decide)
              · refine zcases (p2 = 110) (fun h12 => ?_) (fun h12 => ?_)
                · refine z_lookup (off := 59) (tgt := 100) C dX2_weekday_41 (by decide) (by rw [h12]; decide) (by decide) ?_
                  refine z_aload_n C dX2_weekday_100 rfl 2 rfl ?_
                  refine z_iload C dX2_weekday_101 6 rfl ?_
                  refine z_lload C dX2_weekday_103 1 rfl ?_
                  refine z_lconst (v := 1) C dX2_weekday_105 (by decide) ?_
                  refine z_ladd C dX2_weekday_106 ?_
                  refine z_iload_n C dX2_weekday_107 rfl 5 rfl ?_
                  refine z_sl (rest := [.int p4, .ref (y 0)]) C (c_X1_weekdayFrom l hfl D cI cJ _ ((d p1.toNatClampNeg) + 1) p3 ) q_X1_weekdayFrom gX2_weekday_X1_weekdayFrom ⟨rfl, rfl⟩ rfl rfl (Nat.le_of_ble_eq_true rfl) ⟨Nat.le_of_ble_eq_true rfl, Nat.le_of_ble_eq_true rfl⟩ ⟨Nat.le_of_ble_eq_true rfl, Nat.le_of_ble_eq_true rfl⟩ dX2_weekday_108 ?_
                  refine z_xwl (ws' := (wY cI cJ y (s_X2_keepDate_d d p4 (f_X1_weekdayFrom ((d p1.toNatClampNeg) + 1) p3)) sy sm sd mi ti sL bL mD mT X)) (rest := []) (ci := 2) (q0 := 0) C (c_X2_keepDate l hfl D cI cJ X y d sy sm sd mi ti sL bL mD mT p4 (f_X1_weekdayFrom ((d p1.toNatClampNeg) + 1) p3) (vpS6 h2)) q_X2_keepDate rfl rfl rfl gX2_weekday_X2_keepDate ⟨rfl, rfl⟩ rfl rfl (Nat.le_of_ble_eq_true rfl) ⟨Nat.le_of_ble_eq_true rfl, Nat.le_of_ble_eq_true rfl⟩ ⟨Nat.le_of_ble_eq_true rfl, Nat.le_of_ble_eq_true rfl⟩ dX2_weekday_111 (fun h13 => ?_) (fun E h13 h13_E => ?_)
                  · exact z_lret C ⟨by rw [k_X2_weekday, if_pos h1, if_pos h2, if_pos h3, if_neg h4, if_neg h6, if_neg h8, if_neg h10, if_pos h12, if_pos h13], congrArg (fun v => some (Value.long v)) (by rw [f_X2_weekday, if_pos h1, if_pos h2, if_pos h3, if_neg h4, if_neg h6, if_neg h8, if_neg h10, if_pos h12, if_pos h13] : (f_X2_keepDate (f_X1_weekdayFrom ((d p1.toNatClampNeg) + 1) p3)) = (f_X2_weekday d p1 p2 p3 p4)), by rw [s_X2_weekday_d, if_pos h1, if_pos h2, if_pos h3, if_neg h4, if_neg h6, if_neg h8, if_neg h10, if_pos h12, if_pos h13]⟩ (by decide) (by decide) dX2_weekday_114
                  · exact z_tout C hno ⟨rfl, by rw [k_X2_weekday, if_pos h1, if_pos h2, if_pos h3, if_neg h4, if_neg h6, if_neg h8, if_neg h10, if_pos h12, if_neg h13]; exact h13_E⟩ (by decide) (by decide)
                · refine zcases (p2 = 112) (fun h14 => ?_) (fun h14 => ?_)
                  · refine z_lookup (off := 74) (tgt := 115) C dX2_weekday_41 (by decide) (by rw [h14]; decide) (by decide) ?_
                    refine z_aload_n C dX2_weekday_115 rfl 2 rfl ?_
                    refine z_iload C dX2_weekday_116 6 rfl ?_
                    refine z_lload C dX2_weekday_118 1 rfl ?_
                    refine z_lconst (v := 1) C dX2_weekday_120 (by decide) ?_
                    refine z_lsub C dX2_weekday_121 ?_
                    refine z_iload_n C dX2_weekday_122 rfl 5 rfl ?_
                    refine z_sl (rest := [.int p4, .ref (y 0)]) C (c_X1_weekdayUpTo l hfl D cI cJ _ ((d p1.toNatClampNeg) - 1) p3 ) q_X1_weekdayUpTo gX2_weekday_X1_weekdayUpTo ⟨rfl, rfl⟩ rfl rfl (Nat.le_of_ble_eq_true rfl) ⟨Nat.le_of_ble_eq_true rfl, Nat.le_of_ble_eq_true rfl⟩ ⟨Nat.le_of_ble_eq_true rfl, Nat.le_of_ble_eq_true rfl⟩ dX2_weekday_123 ?_
                    refine z_xwl (ws' := (wY cI cJ y (s_X2_keepDate_d d p4 (f_X1_weekdayUpTo ((d p1.toNatClampNeg) - 1) p3)) sy sm sd mi ti sL bL mD mT X)) (rest := []) (ci := 2) (q0 := 0) C (c_X2_keepDate l hfl D cI cJ X y d sy sm sd mi ti sL bL mD mT p4 (f_X1_weekdayUpTo ((d p1.toNatClampNeg) - 1) p3) (vpS6 h2)) q_X2_keepDate rfl rfl rfl gX2_weekday_X2_keepDate ⟨rfl, rfl⟩ rfl rfl (Nat.le_of_ble_eq_true rfl) ⟨Nat.le_of_ble_eq_true rfl, Nat.le_of_ble_eq_true rfl⟩ ⟨Nat.le_of_ble_eq_true rfl, Nat.le_of_ble_eq_true rfl⟩ dX2_weekday_126 (fun h15 => ?_) (fun E h15 h15_E => ?_)
                    · exact z_lret C ⟨by rw [k_X2_weekday, if_pos h1, if_pos h2, if_pos h3, if_neg h4, if_neg h6, if_neg h8, if_neg h10, if_neg h12, if_pos h14, if_pos h15], congrArg (fun v => some (Value.long v)) (by rw [f_X2_weekday, if_pos h1, if_pos h2, if_pos h3, if_neg h4, if_neg h6, if_neg h8, if_neg h10, if_neg h12, if_pos h14, if_pos h15] : (f_X2_keepDate (f_X1_weekdayUpTo ((d p1.toNatClampNeg) - 1) p3)) = (f_X2_weekday d p1 p2 p3 p4)), by rw [s_X2_weekday_d, if_pos h1, if_pos h2, if_pos h3, if_neg h4, if_neg h6, if_neg h8, if_neg h10, if_neg h12, if_pos h14, if_pos h15]⟩ (by decide) (by decide) dX2_weekday_129
                    · exact z_tout C hno ⟨rfl, by rw [k_X2_weekday, if_pos h1, if_pos h2, if_pos h3, if_neg h4, if_neg h6, if_neg h8, if_neg h10, if_neg h12, if_pos h14, if_neg h15]; exact h15_E⟩ (by decide) (by decide)
                  · refine z_lookup (off := 151) (tgt := 192) C dX2_weekday_41 (by decide) (zlk6 h4 h6 h8 h10 h12 h14) (by decide) ?_
                    obtain ⟨sa, hsa⟩ := C.2.2.2.2.2.1.1 (139, _) (List.mem_of_getElem? (i := 3) rfl)
                    exact z_throwS C hno (cls := "java/lang/IllegalArgumentException") (names := ["java/lang/RuntimeException", "java/lang/Exception"]) (by decide +kernel) (by decide +kernel) w3 w4 hsa (z_hat RX2 105 "java/lang/IllegalArgumentException" ["java/lang/RuntimeException", "java/lang/Exception"] zg_105 (fun w hw => C.1.2.2.2.2 w ((by decide +kernel : ∀ w ∈ (vx_atS RX2 105 "java/lang/IllegalArgumentException" ["java/lang/RuntimeException", "java/lang/Exception"]).filter goodWord, w ∈ wsX2_weekday) w hw)) C.2.2.2.2.2.1 (by decide : "java/lang/IllegalArgumentException" ∈ zCs)) zo_105 dX2_weekday_192 dX2_weekday_195 dX2_weekday_196 dX2_weekday_198 dX2_weekday_201 (by decide) (Nat.le_of_ble_eq_true rfl) (Nat.le_of_ble_eq_true rfl) (Nat.le_of_ble_eq_true rfl) (Nat.le_of_ble_eq_true rfl) (Nat.le_of_ble_eq_true rfl) ⟨rfl, by rw [k_X2_weekday, if_pos h1, if_pos h2, if_pos h3, if_neg h4, if_neg h6, if_neg h8, if_neg h10, if_neg h12, if_neg h14]; exact zEx2⟩
      · exact z_tout C hno ⟨rfl, by rw [k_X2_weekday, if_pos h1, if_pos h2, if_neg h3]; exact h3_E⟩ (by decide) (by decide)
    · exact z_tout C hno ⟨rfl, by rw [k_X2_weekday, if_pos h1, if_neg h2]; exact h2_E⟩ (by decide) (by decide)
  · exact z_tout C hno ⟨rfl, by rw [k_X2_weekday, if_neg h1]; exact h1_E⟩ (by decide) (by decide)
def f_X2_inMonth (d : Nat → Int64) (p1 : Int32) (p2 : Int32) (p3 : Int32) (p4 : Int32) : Int64 := (if k_X2_checkSlot p1 6 = 0 then (if k_X2_checkSlot p4 6 = 0 then (if k_X2_checkArgument (f_X2_isIn ((p2).toInt64) (-6) 6) = 0 then (if k_X2_checkArgument (f_X2_isIn ((p3).toInt64) 1 7) = 0 then (if 0 ≤ p2 then (if k_X2_keepDate ((f_X1_weekdayFrom (f_X1_firstOfMonth (f_X1_monthOfDay (d p1.toNatClampNeg))) p3) + ((7 * (p2 - 1))).toInt64) = 0 then (f_X2_keepDate ((f_X1_weekdayFrom (f_X1_firstOfMonth (f_X1_monthOfDay (d p1.toNatClampNeg))) p3) + ((7 * (p2 - 1))).toInt64)) else 0) else (if k_X2_keepDate ((f_X1_weekdayUpTo ((f_X1_firstOfMonth ((f_X1_monthOfDay (d p1.toNatClampNeg)) + 1)) - 1) p3) + ((7 * (p2 + 1))).toInt64) = 0 then (f_X2_keepDate ((f_X1_weekdayUpTo ((f_X1_firstOfMonth ((f_X1_monthOfDay (d p1.toNatClampNeg)) + 1)) - 1) p3) + ((7 * (p2 + 1))).toInt64)) else 0)) else 0) else 0) else 0) else 0)
def s_X2_inMonth_d (d : Nat → Int64) (p1 : Int32) (p2 : Int32) (p3 : Int32) (p4 : Int32) : Nat → Int64 := (if k_X2_checkSlot p1 6 = 0 then (if k_X2_checkSlot p4 6 = 0 then (if k_X2_checkArgument (f_X2_isIn ((p2).toInt64) (-6) 6) = 0 then (if k_X2_checkArgument (f_X2_isIn ((p3).toInt64) 1 7) = 0 then (if 0 ≤ p2 then (if k_X2_keepDate ((f_X1_weekdayFrom (f_X1_firstOfMonth (f_X1_monthOfDay (d p1.toNatClampNeg))) p3) + ((7 * (p2 - 1))).toInt64) = 0 then (s_X2_keepDate_d d p4 ((f_X1_weekdayFrom (f_X1_firstOfMonth (f_X1_monthOfDay (d p1.toNatClampNeg))) p3) + ((7 * (p2 - 1))).toInt64)) else d) else (if k_X2_keepDate ((f_X1_weekdayUpTo ((f_X1_firstOfMonth ((f_X1_monthOfDay (d p1.toNatClampNeg)) + 1)) - 1) p3) + ((7 * (p2 + 1))).toInt64) = 0 then (s_X2_keepDate_d d p4 ((f_X1_weekdayUpTo ((f_X1_firstOfMonth ((f_X1_monthOfDay (d p1.toNatClampNeg)) + 1)) - 1) p3) + ((7 * (p2 + 1))).toInt64)) else d)) else d) else d) else d) else d)
def k_X2_inMonth (d : Nat → Int64) (p1 : Int32) (p2 : Int32) (p3 : Int32) (p4 : Int32) : Int32 := (if k_X2_checkSlot p1 6 = 0 then (if k_X2_checkSlot p4 6 = 0 then (if k_X2_checkArgument (f_X2_isIn ((p2).toInt64) (-6) 6) = 0 then (if k_X2_checkArgument (f_X2_isIn ((p3).toInt64) 1 7) = 0 then (if 0 ≤ p2 then (if k_X2_keepDate ((f_X1_weekdayFrom (f_X1_firstOfMonth (f_X1_monthOfDay (d p1.toNatClampNeg))) p3) + ((7 * (p2 - 1))).toInt64) = 0 then 0 else k_X2_keepDate ((f_X1_weekdayFrom (f_X1_firstOfMonth (f_X1_monthOfDay (d p1.toNatClampNeg))) p3) + ((7 * (p2 - 1))).toInt64)) else (if k_X2_keepDate ((f_X1_weekdayUpTo ((f_X1_firstOfMonth ((f_X1_monthOfDay (d p1.toNatClampNeg)) + 1)) - 1) p3) + ((7 * (p2 + 1))).toInt64) = 0 then 0 else k_X2_keepDate ((f_X1_weekdayUpTo ((f_X1_firstOfMonth ((f_X1_monthOfDay (d p1.toNatClampNeg)) + 1)) - 1) p3) + ((7 * (p2 + 1))).toInt64))) else k_X2_checkArgument (f_X2_isIn ((p3).toInt64) 1 7)) else k_X2_checkArgument (f_X2_isIn ((p2).toInt64) (-6) 6)) else k_X2_checkSlot p4 6) else k_X2_checkSlot p1 6)
theorem q_X2_inMonth : ZY yX2_inMonth wsX2_inMonth cX2_inMonth 9 (some .long) 4 := ⟨⟨_, rfl⟩, by decide +kernel, by decide +kernel, by decide +kernel⟩
set_option maxHeartbeats 4000000 in
set_option maxRecDepth 100000 in
theorem c_X2_inMonth (l : Launch) (hfl : l.stackTraces = false) (D : va_G) (cI cJ : ClassId) (X : va_W) (y : Nat → Nat) (d : Nat → Int64) (sy : Nat → Int32) (sm : Nat → Int32) (sd : Nat → Int32) (mi : Nat → Int32) (ti : Nat → Int64) (sL : Nat → Int64) (bL : Nat → Int64) (mD : Nat → Int64) (mT : Nat → Int64) (p1 : Int32) (p2 : Int32) (p3 : Int32) (p4 : Int32)  : ZM l yX2_inMonth wsX2_inMonth { frames := 8, cells := 5, slots := 30, locals := 125 } [.ref (y 0), .int p1, .int p2, .int p3, .int p4] D (zTys cI cJ) (wY cI cJ y d sy sm sd mi ti sL bL mD mT X) 5 30 (fun v w => k_X2_inMonth d p1 p2 p3 p4 = 0 ∧ v = some (.long (f_X2_inMonth d p1 p2 p3 p4)) ∧ w = (wY cI cJ y (s_X2_inMonth_d d p1 p2 p3 p4) sy sm sd mi ti sL bL mD mT X)) (fun E w => w = (wY cI cJ y d sy sm sd mi ti sL bL mD mT X) ∧ zEx E (k_X2_inMonth d p1 p2 p3 p4)) := by
  refine z_open (own := RX2) hfl (cc := cX2_inMonth) (maxL := 9) (ret := (some .long)) (lv := [(0, .ref (y 0)), (1, .int p1), (2, .int p2), (3, .int p3), (4, .int p4)]) rfl (by decide) rfl rfl (Nat.le_of_ble_eq_true rfl) ?_
  intro p e s m args below meth c A C hno hnm hargs
  have hin : ∀ w ∈ wsX20, w ∈ wsX2_inMonth := by decide +kernel
  have w1 := C.1.2.2.2.2 (.constantLong RX2 141 (-6)) (by decide +kernel)
  have w2 := C.1.2.2.2.2 (.constantLong RX2 143 (6)) (by decide +kernel)
  have w3 := C.1.2.2.2.2 (.constantLong RX2 130 (7)) (by decide +kernel)
  have w4 := C.1.2.2.2.2 (.fieldLink RX2 9 "Yearwheel" "dates" "[J") (by decide +kernel)
  refine z_iload_n C dX2_inMonth_0 rfl 1 rfl ?_
  refine z_bipush (v := 6) C dX2_inMonth_1 (by decide) ?_
  refine z_xsv (rest := []) C (c_X2_checkSlot l hfl D cI cJ _ p1 (6 : Int32) ) q_X2_checkSlot gX2_inMonth_X2_checkSlot ⟨rfl, rfl⟩ rfl rfl (Nat.le_of_ble_eq_true rfl) ⟨Nat.le_of_ble_eq_true rfl, Nat.le_of_ble_eq_true rfl⟩ ⟨Nat.le_of_ble_eq_true rfl, Nat.le_of_ble_eq_true rfl⟩ dX2_inMonth_3 (fun h1 => ?_) (fun E h1 h1_E => ?_)
  · refine z_iload C dX2_inMonth_6 4 rfl ?_
    refine z_bipush (v := 6) C dX2_inMonth_8 (by decide) ?_
    refine z_xsv (rest := []) C (c_X2_checkSlot l hfl D cI cJ _ p4 (6 : Int32) ) q_X2_checkSlot gX2_inMonth_X2_checkSlot ⟨rfl, rfl⟩ rfl rfl (Nat.le_of_ble_eq_true rfl) ⟨Nat.le_of_ble_eq_true rfl, Nat.le_of_ble_eq_true rfl⟩ ⟨Nat.le_of_ble_eq_true rfl, Nat.le_of_ble_eq_true rfl⟩ dX2_inMonth_10 (fun h2 => ?_) (fun E h2 h2_E => ?_)
    · refine z_iload_n C dX2_inMonth_13 rfl 2 rfl ?_
      refine z_i2l (v := (p2).toInt64) C dX2_inMonth_14 rfl ?_
      refine z_ldc2 (v := (-6)) C w1 dX2_inMonth_15 ?_
      refine z_ldc2 (v := 6) C w2 dX2_inMonth_18 ?_
      refine z_si (rest := []) C (c_X2_isIn l hfl D cI cJ _ ((p2).toInt64) ((-6) : Int64) (6 : Int64) ) q_X2_isIn gX2_inMonth_X2_isIn ⟨rfl, rfl⟩ rfl rfl (Nat.le_of_ble_eq_true rfl) ⟨Nat.le_of_ble_eq_true rfl, Nat.le_of_ble_eq_true rfl⟩ ⟨Nat.le_of_ble_eq_true rfl, Nat.le_of_ble_eq_true rfl⟩ dX2_inMonth_21 ?_
      refine z_xsv (rest := []) C (c_X2_checkArgument l hfl D cI cJ _ (f_X2_isIn ((p2).toInt64) (-6) 6) ) q_X2_checkArgument gX2_inMonth_X2_checkArgument ⟨rfl, rfl⟩ rfl rfl (Nat.le_of_ble_eq_true rfl) ⟨Nat.le_of_ble_eq_true rfl, Nat.le_of_ble_eq_true rfl⟩ ⟨Nat.le_of_ble_eq_true rfl, Nat.le_of_ble_eq_true rfl⟩ dX2_inMonth_24 (fun h3 => ?_) (fun E h3 h3_E => ?_)
      · refine z_iload_n C dX2_inMonth_27 rfl 3 rfl ?_
        refine z_i2l (v := (p3).toInt64) C dX2_inMonth_28 rfl ?_
        refine z_lconst (v := 1) C dX2_inMonth_29 (by decide) ?_
        refine z_ldc2 (v := 7) C w3 dX2_inMonth_30 ?_
        refine z_si (rest := []) C (c_X2_isIn l hfl D cI cJ _ ((p3).toInt64) (1 : Int64) (7 : Int64) ) q_X2_isIn gX2_inMonth_X2_isIn ⟨rfl, rfl⟩ rfl rfl (Nat.le_of_ble_eq_true rfl) ⟨Nat.le_of_ble_eq_true rfl, Nat.le_of_ble_eq_true rfl⟩ ⟨Nat.le_of_ble_eq_true rfl, Nat.le_of_ble_eq_true rfl⟩ dX2_inMonth_33 ?_
        refine z_xsv (rest := []) C (c_X2_checkArgument l hfl D cI cJ _ (f_X2_isIn ((p3).toInt64) 1 7) ) q_X2_checkArgument gX2_inMonth_X2_checkArgument ⟨rfl, rfl⟩ rfl rfl (Nat.le_of_ble_eq_true rfl) ⟨Nat.le_of_ble_eq_true rfl, Nat.le_of_ble_eq_true rfl⟩ ⟨Nat.le_of_ble_eq_true rfl, Nat.le_of_ble_eq_true rfl⟩ dX2_inMonth_36 (fun h4 => ?_) (fun E h4 h4_E => ?_)
        · refine z_aload_n C dX2_inMonth_39 rfl 0 rfl ?_
          refine z_get (CC := RX2) (T := TX2) (N := 10) (ci := 2) C hin 0 rfl rfl 0 (by decide) w4 rfl rfl dX2_inMonth_40 ?_
          refine z_iload_n C dX2_inMonth_43 rfl 1 rfl ?_
          refine z_lald C 1 1 rfl rfl (vpS6 h1) dX2_inMonth_44 ?_
          refine z_sl (rest := []) C (c_X1_monthOfDay l hfl D cI cJ _ (d p1.toNatClampNeg) ) q_X1_monthOfDay gX2_inMonth_X1_monthOfDay ⟨rfl, rfl⟩ rfl rfl (Nat.le_of_ble_eq_true rfl) ⟨Nat.le_of_ble_eq_true rfl, Nat.le_of_ble_eq_true rfl⟩ ⟨Nat.le_of_ble_eq_true rfl, Nat.le_of_ble_eq_true rfl⟩ dX2_inMonth_45 ?_
          refine z_lstore (lv' := [(5, .long (f_X1_monthOfDay (d p1.toNatClampNeg))), (0, .ref (y 0)), (1, .int p1), (2, .int p2), (3, .int p3), (4, .int p4)]) C dX2_inMonth_48 (by decide) rfl ?_
          refine z_iload_n C dX2_inMonth_50 rfl 3 rfl ?_
          refine z_if_ge (tgt := 86) C dX2_inMonth_51 (by decide) (fun h5 => ?_) (fun h5 => ?_)
          · refine z_aload_n C dX2_inMonth_86 rfl 1 rfl ?_
            refine z_iload C dX2_inMonth_87 5 rfl ?_
            refine z_lload C dX2_inMonth_89 0 rfl ?_
            refine z_sl (rest := [.int p4, .ref (y 0)]) C (c_X1_firstOfMonth l hfl D cI cJ _ (f_X1_monthOfDay (d p1.toNatClampNeg)) ) q_X1_firstOfMonth gX2_inMonth_X1_firstOfMonth ⟨rfl, rfl⟩ rfl rfl (Nat.le_of_ble_eq_true rfl) ⟨Nat.le_of_ble_eq_true rfl, Nat.le_of_ble_eq_true rfl⟩ ⟨Nat.le_of_ble_eq_true rfl, Nat.le_of_ble_eq_true rfl⟩ dX2_inMonth_91 ?_
            refine z_iload_n C dX2_inMonth_94 rfl 4 rfl ?_
            refine z_sl (rest := [.int p4, .ref (y 0)]) C (c_X1_weekdayFrom l hfl D cI cJ _ (f_X1_firstOfMonth (f_X1_monthOfDay (d p1.toNatClampNeg))) p3 ) q_X1_weekdayFrom gX2_inMonth_X1_weekdayFrom ⟨rfl, rfl⟩ rfl rfl (Nat.le_of_ble_eq_true rfl) ⟨Nat.le_of_ble_eq_true rfl, Nat.le_of_ble_eq_true rfl⟩ ⟨Nat.le_of_ble_eq_true rfl, Nat.le_of_ble_eq_true rfl⟩ dX2_inMonth_95 ?_
            refine z_bipush (v := 7) C dX2_inMonth_98 (by decide) ?_
            refine z_iload_n C dX2_inMonth_100 rfl 3 rfl ?_
            refine z_iconst (v := 1) C dX2_inMonth_101 (by decide) ?_
            refine z_isub C dX2_inMonth_102 ?_
            refine z_imul C dX2_inMonth_103 ?_
            refine z_i2l (v := ((7 * (p2 - 1))).toInt64) C dX2_inMonth_104 rfl ?_
            refine z_ladd C dX2_inMonth_105 ?_
            refine z_xwl (ws' := (wY cI cJ y (s_X2_keepDate_d d p4 ((f_X1_weekdayFrom (f_X1_firstOfMonth (f_X1_monthOfDay (d p1.toNatClampNeg))) p3) + ((7 * (p2 - 1))).toInt64)) sy sm sd mi ti sL bL mD mT X)) (rest := []) (ci := 2) (q0 := 0) C (c_X2_keepDate l hfl D cI cJ X y d sy sm sd mi ti sL bL mD mT p4 ((f_X1_weekdayFrom (f_X1_firstOfMonth (f_X1_monthOfDay (d p1.toNatClampNeg))) p3) + ((7 * (p2 - 1))).toInt64) (vpS6 h2)) q_X2_keepDate rfl rfl rfl gX2_inMonth_X2_keepDate ⟨rfl, rfl⟩ rfl rfl (Nat.le_of_ble_eq_true rfl) ⟨Nat.le_of_ble_eq_true rfl, Nat.le_of_ble_eq_true rfl⟩ ⟨Nat.le_of_ble_eq_true rfl, Nat.le_of_ble_eq_true rfl⟩ dX2_inMonth_106 (fun h6 => ?_) (fun E h6 h6_E => ?_)
            · exact z_lret C ⟨by rw [k_X2_inMonth, if_pos h1, if_pos h2, if_pos h3, if_pos h4, if_pos h5, if_pos h6], congrArg (fun v => some (Value.long v)) (by rw [f_X2_inMonth, if_pos h1, if_pos h2, if_pos h3, if_pos h4, if_pos h5, if_pos h6] : (f_X2_keepDate ((f_X1_weekdayFrom (f_X1_firstOfMonth (f_X1_monthOfDay (d p1.toNatClampNeg))) p3) + ((7 * (p2 - 1))).toInt64)) = (f_X2_inMonth d p1 p2 p3 p4)), by rw [s_X2_inMonth_d, if_pos h1, if_pos h2, if_pos h3, if_pos h4, if_pos h5, if_pos h6]⟩ (by decide) (by decide) dX2_inMonth_109
            · exact z_tout C hno ⟨rfl, by rw [k_X2_inMonth, if_pos h1, if_pos h2, if_pos h3, if_pos h4, if_pos h5, if_neg h6]; exact h6_E⟩ (by decide) (by decide)
          · refine z_lload C dX2_inMonth_54 0 rfl ?_
            refine z_lconst (v := 1) C dX2_inMonth_56 (by decide) ?_
            refine z_ladd C dX2_inMonth_57 ?_
            refine z_sl (rest := []) C (c_X1_firstOfMonth l hfl D cI cJ _ ((f_X1_monthOfDay (d p1.toNatClampNeg)) + 1) ) q_X1_firstOfMonth gX2_inMonth_X1_firstOfMonth ⟨rfl, rfl⟩ rfl rfl (Nat.le_of_ble_eq_true rfl) ⟨Nat.le_of_ble_eq_true rfl, Nat.le_of_ble_eq_true rfl⟩ ⟨Nat.le_of_ble_eq_true rfl, Nat.le_of_ble_eq_true rfl⟩ dX2_inMonth_58 ?_
            refine z_lconst (v := 1) C dX2_inMonth_61 (by decide) ?_
            refine z_lsub C dX2_inMonth_62 ?_
            refine z_iload_n C dX2_inMonth_63 rfl 4 rfl ?_
            refine z_sl (rest := []) C (c_X1_weekdayUpTo l hfl D cI cJ _ ((f_X1_firstOfMonth ((f_X1_monthOfDay (d p1.toNatClampNeg)) + 1)) - 1) p3 ) q_X1_weekdayUpTo gX2_inMonth_X1_weekdayUpTo ⟨rfl, rfl⟩ rfl rfl (Nat.le_of_ble_eq_true rfl) ⟨Nat.le_of_ble_eq_true rfl, Nat.le_of_ble_eq_true rfl⟩ ⟨Nat.le_of_ble_eq_true rfl, Nat.le_of_ble_eq_true rfl⟩ dX2_inMonth_64 ?_
            refine z_lstore (lv' := [(7, .long (f_X1_weekdayUpTo ((f_X1_firstOfMonth ((f_X1_monthOfDay (d p1.toNatClampNeg)) + 1)) - 1) p3)), (5, .long (f_X1_monthOfDay (d p1.toNatClampNeg))), (0, .ref (y 0)), (1, .int p1), (2, .int p2), (3, .int p3), (4, .int p4)]) C dX2_inMonth_67 (by decide) rfl ?_
            refine z_aload_n C dX2_inMonth_69 rfl 2 rfl ?_
            refine z_iload C dX2_inMonth_70 6 rfl ?_
            refine z_lload C dX2_inMonth_72 0 rfl ?_
            refine z_bipush (v := 7) C dX2_inMonth_74 (by decide) ?_
            refine z_iload_n C dX2_inMonth_76 rfl 4 rfl ?_
            refine z_iconst (v := 1) C dX2_inMonth_77 (by decide) ?_
            refine z_iadd C dX2_inMonth_78 ?_
            refine z_imul C dX2_inMonth_79 ?_
            refine z_i2l (v := ((7 * (p2 + 1))).toInt64) C dX2_inMonth_80 rfl ?_
            refine z_ladd C dX2_inMonth_81 ?_
            refine z_xwl (ws' := (wY cI cJ y (s_X2_keepDate_d d p4 ((f_X1_weekdayUpTo ((f_X1_firstOfMonth ((f_X1_monthOfDay (d p1.toNatClampNeg)) + 1)) - 1) p3) + ((7 * (p2 + 1))).toInt64)) sy sm sd mi ti sL bL mD mT X)) (rest := []) (ci := 2) (q0 := 0) C (c_X2_keepDate l hfl D cI cJ X y d sy sm sd mi ti sL bL mD mT p4 ((f_X1_weekdayUpTo ((f_X1_firstOfMonth ((f_X1_monthOfDay (d p1.toNatClampNeg)) + 1)) - 1) p3) + ((7 * (p2 + 1))).toInt64) (vpS6 h2)) q_X2_keepDate rfl rfl rfl gX2_inMonth_X2_keepDate ⟨rfl, rfl⟩ rfl rfl (Nat.le_of_ble_eq_true rfl) ⟨Nat.le_of_ble_eq_true rfl, Nat.le_of_ble_eq_true rfl⟩ ⟨Nat.le_of_ble_eq_true rfl, Nat.le_of_ble_eq_true rfl⟩ dX2_inMonth_82 (fun h7 => ?_) (fun E h7 h7_E => ?_)
            · exact z_lret C ⟨by rw [k_X2_inMonth, if_pos h1, if_pos h2, if_pos h3, if_pos h4, if_neg h5, if_pos h7], congrArg (fun v => some (Value.long v)) (by rw [f_X2_inMonth, if_pos h1, if_pos h2, if_pos h3, if_pos h4, if_neg h5, if_pos h7] : (f_X2_keepDate ((f_X1_weekdayUpTo ((f_X1_firstOfMonth ((f_X1_monthOfDay (d p1.toNatClampNeg)) + 1)) - 1) p3) + ((7 * (p2 + 1))).toInt64)) = (f_X2_inMonth d p1 p2 p3 p4)), by rw [s_X2_inMonth_d, if_pos h1, if_pos h2, if_pos h3, if_pos h4, if_neg h5, if_pos h7]⟩ (by decide) (by decide) dX2_inMonth_85
            · exact z_tout C hno ⟨rfl, by rw [k_X2_inMonth, if_pos h1, if_pos h2, if_pos h3, if_pos h4, if_neg h5, if_neg h7]; exact h7_E⟩ (by decide) (by decide)
        · exact z_tout C hno ⟨rfl, by rw [k_X2_inMonth, if_pos h1, if_pos h2, if_pos h3, if_neg h4]; exact h4_E⟩ (by decide) (by decide)
      · exact z_tout C hno ⟨rfl, by rw [k_X2_inMonth, if_pos h1, if_pos h2, if_neg h3]; exact h3_E⟩ (by decide) (by decide)
    · exact z_tout C hno ⟨rfl, by rw [k_X2_inMonth, if_pos h1, if_neg h2]; exact h2_E⟩ (by decide) (by decide)
  · exact z_tout C hno ⟨rfl, by rw [k_X2_inMonth, if_neg h1]; exact h1_E⟩ (by decide) (by decide)
def f_X2_atYear (p1 : Int32) (p2 : Int32) (p3 : Int32) (p4 : Int32) : Int64 := (if k_X2_checkSlot p4 6 = 0 then (if k_X2_checkArgument (f_X2_isIn ((p1).toInt64) 1 12) = 0 then (if k_X2_checkArgument (f_X2_isIn ((p2).toInt64) 1 (((f_X1_lengthOfMonth (f_X1_monthIndex 0 ((p1).toInt64)))).toInt64)) = 0 then (if k_X2_checkArgument (f_X2_isYear ((p3).toInt64)) = 0 then (if k_X2_keepDate (f_X1_dayOrLast (f_X1_monthIndex ((p3).toInt64) ((p1).toInt64)) ((p2).toInt64)) = 0 then (f_X2_keepDate (f_X1_dayOrLast (f_X1_monthIndex ((p3).toInt64) ((p1).toInt64)) ((p2).toInt64))) else 0) else 0) else 0) else 0) else 0)
def s_X2_atYear_d (d : Nat → Int64) (p1 : Int32) (p2 : Int32) (p3 : Int32) (p4 : Int32) : Nat → Int64 := (if k_X2_checkSlot p4 6 = 0 then (if k_X2_checkArgument (f_X2_isIn ((p1).toInt64) 1 12) = 0 then (if k_X2_checkArgument (f_X2_isIn ((p2).toInt64) 1 (((f_X1_lengthOfMonth (f_X1_monthIndex 0 ((p1).toInt64)))).toInt64)) = 0 then (if k_X2_checkArgument (f_X2_isYear ((p3).toInt64)) = 0 then (if k_X2_keepDate (f_X1_dayOrLast (f_X1_monthIndex ((p3).toInt64) ((p1).toInt64)) ((p2).toInt64)) = 0 then (s_X2_keepDate_d d p4 (f_X1_dayOrLast (f_X1_monthIndex ((p3).toInt64) ((p1).toInt64)) ((p2).toInt64))) else d) else d) else d) else d) else d)
def k_X2_atYear (p1 : Int32) (p2 : Int32) (p3 : Int32) (p4 : Int32) : Int32 := (if k_X2_checkSlot p4 6 = 0 then (if k_X2_checkArgument (f_X2_isIn ((p1).toInt64) 1 12) = 0 then (if k_X2_checkArgument (f_X2_isIn ((p2).toInt64) 1 (((f_X1_lengthOfMonth (f_X1_monthIndex 0 ((p1).toInt64)))).toInt64)) = 0 then (if k_X2_checkArgument (f_X2_isYear ((p3).toInt64)) = 0 then (if k_X2_keepDate (f_X1_dayOrLast (f_X1_monthIndex ((p3).toInt64) ((p1).toInt64)) ((p2).toInt64)) = 0 then 0 else k_X2_keepDate (f_X1_dayOrLast (f_X1_monthIndex ((p3).toInt64) ((p1).toInt64)) ((p2).toInt64))) else k_X2_checkArgument (f_X2_isYear ((p3).toInt64))) else k_X2_checkArgument (f_X2_isIn ((p2).toInt64) 1 (((f_X1_lengthOfMonth (f_X1_monthIndex 0 ((p1).toInt64)))).toInt64))) else k_X2_checkArgument (f_X2_isIn ((p1).toInt64) 1 12)) else k_X2_checkSlot p4 6)
theorem q_X2_atYear : ZY yX2_atYear wsX2_atYear cX2_atYear 5 (some .long) 4 := ⟨⟨_, rfl⟩, by decide +kernel, by decide +kernel, by decide +kernel⟩
set_option maxHeartbeats 4000000 in
set_option maxRecDepth 100000 in
theorem c_X2_atYear (l : Launch) (hfl : l.stackTraces = false) (D : va_G) (cI cJ : ClassId) (X : va_W) (y : Nat → Nat) (d : Nat → Int64) (sy : Nat → Int32) (sm : Nat → Int32) (sd : Nat → Int32) (mi : Nat → Int32) (ti : Nat → Int64) (sL : Nat → Int64) (bL : Nat → Int64) (mD : Nat → Int64) (mT : Nat → Int64) (p1 : Int32) (p2 : Int32) (p3 : Int32) (p4 : Int32)  : ZM l yX2_atYear wsX2_atYear { frames := 8, cells := 5, slots := 30, locals := 125 } [.ref (y 0), .int p1, .int p2, .int p3, .int p4] D (zTys cI cJ) (wY cI cJ y d sy sm sd mi ti sL bL mD mT X) 5 30 (fun v w => k_X2_atYear p1 p2 p3 p4 = 0 ∧ v = some (.long (f_X2_atYear p1 p2 p3 p4)) ∧ w = (wY cI cJ y (s_X2_atYear_d d p1 p2 p3 p4) sy sm sd mi ti sL bL mD mT X)) (fun E w => w = (wY cI cJ y d sy sm sd mi ti sL bL mD mT X) ∧ zEx E (k_X2_atYear p1 p2 p3 p4)) := by
  refine z_open (own := RX2) hfl (cc := cX2_atYear) (maxL := 5) (ret := (some .long)) (lv := [(0, .ref (y 0)), (1, .int p1), (2, .int p2), (3, .int p3), (4, .int p4)]) rfl (by decide) rfl rfl (Nat.le_of_ble_eq_true rfl) ?_
  intro p e s m args below meth c A C hno hnm hargs
  have hin : ∀ w ∈ wsX20, w ∈ wsX2_atYear := by decide +kernel
  have w1 := C.1.2.2.2.2 (.constantLong RX2 53 (12)) (by decide +kernel)
  refine z_iload C dX2_atYear_0 4 rfl ?_
  refine z_bipush (v := 6) C dX2_atYear_2 (by decide) ?_
  refine z_xsv (rest := []) C (c_X2_checkSlot l hfl D cI cJ _ p4 (6 : Int32) ) q_X2_checkSlot gX2_atYear_X2_checkSlot ⟨rfl, rfl⟩ rfl rfl (Nat.le_of_ble_eq_true rfl) ⟨Nat.le_of_ble_eq_true rfl, Nat.le_of_ble_eq_true rfl⟩ ⟨Nat.le_of_ble_eq_true rfl, Nat.le_of_ble_eq_true rfl⟩ dX2_atYear_4 (fun h1 => ?_) (fun E h1 h1_E => ?_)
  · refine z_iload_n C dX2_atYear_7 rfl 1 rfl ?_
    refine z_i2l (v := (p1).toInt64) C dX2_atYear_8 rfl ?_
    refine z_lconst (v := 1) C dX2_atYear_9 (by decide) ?_
    refine z_ldc2 (v := 12) C w1 dX2_atYear_10 ?_
    refine z_si (rest := []) C (c_X2_isIn l hfl D cI cJ _ ((p1).toInt64) (1 : Int64) (12 : Int64) ) q_X2_isIn gX2_atYear_X2_isIn ⟨rfl, rfl⟩ rfl rfl (Nat.le_of_ble_eq_true rfl) ⟨Nat.le_of_ble_eq_true rfl, Nat.le_of_ble_eq_true rfl⟩ ⟨Nat.le_of_ble_eq_true rfl, Nat.le_of_ble_eq_true rfl⟩ dX2_atYear_13 ?_
    refine z_xsv (rest := []) C (c_X2_checkArgument l hfl D cI cJ _ (f_X2_isIn ((p1).toInt64) 1 12) ) q_X2_checkArgument gX2_atYear_X2_checkArgument ⟨rfl, rfl⟩ rfl rfl (Nat.le_of_ble_eq_true rfl) ⟨Nat.le_of_ble_eq_true rfl, Nat.le_of_ble_eq_true rfl⟩ ⟨Nat.le_of_ble_eq_true rfl, Nat.le_of_ble_eq_true rfl⟩ dX2_atYear_16 (fun h2 => ?_) (fun E h2 h2_E => ?_)
    · refine z_iload_n C dX2_atYear_19 rfl 2 rfl ?_
      refine z_i2l (v := (p2).toInt64) C dX2_atYear_20 rfl ?_
      refine z_lconst (v := 1) C dX2_atYear_21 (by decide) ?_
      refine z_lconst (v := 0) C dX2_atYear_22 (by decide) ?_
      refine z_iload_n C dX2_atYear_23 rfl 1 rfl ?_
      refine z_i2l (v := (p1).toInt64) C dX2_atYear_24 rfl ?_
      refine z_sl (rest := [.long 1, .long (p2).toInt64]) C (c_X1_monthIndex l hfl D cI cJ _ (0 : Int64) ((p1).toInt64) ) q_X1_monthIndex gX2_atYear_X1_monthIndex ⟨rfl, rfl⟩ rfl rfl (Nat.le_of_ble_eq_true rfl) ⟨Nat.le_of_ble_eq_true rfl, Nat.le_of_ble_eq_true rfl⟩ ⟨Nat.le_of_ble_eq_true rfl, Nat.le_of_ble_eq_true rfl⟩ dX2_atYear_25 ?_
      refine z_si (rest := [.long 1, .long (p2).toInt64]) C (c_X1_lengthOfMonth l hfl D cI cJ _ (f_X1_monthIndex 0 ((p1).toInt64)) ) q_X1_lengthOfMonth gX2_atYear_X1_lengthOfMonth ⟨rfl, rfl⟩ rfl rfl (Nat.le_of_ble_eq_true rfl) ⟨Nat.le_of_ble_eq_true rfl, Nat.le_of_ble_eq_true rfl⟩ ⟨Nat.le_of_ble_eq_true rfl, Nat.le_of_ble_eq_true rfl⟩ dX2_atYear_28 ?_
      refine z_i2l (v := ((f_X1_lengthOfMonth (f_X1_monthIndex 0 ((p1).toInt64)))).toInt64) C dX2_atYear_31 rfl ?_
      refine z_si (rest := []) C (c_X2_isIn l hfl D cI cJ _ ((p2).toInt64) (1 : Int64) (((f_X1_lengthOfMonth (f_X1_monthIndex 0 ((p1).toInt64)))).toInt64) ) q_X2_isIn gX2_atYear_X2_isIn ⟨rfl, rfl⟩ rfl rfl (Nat.le_of_ble_eq_true rfl) ⟨Nat.le_of_ble_eq_true rfl, Nat.le_of_ble_eq_true rfl⟩ ⟨Nat.le_of_ble_eq_true rfl, Nat.le_of_ble_eq_true rfl⟩ dX2_atYear_32 ?_
      refine z_xsv (rest := []) C (c_X2_checkArgument l hfl D cI cJ _ (f_X2_isIn ((p2).toInt64) 1 (((f_X1_lengthOfMonth (f_X1_monthIndex 0 ((p1).toInt64)))).toInt64)) ) q_X2_checkArgument gX2_atYear_X2_checkArgument ⟨rfl, rfl⟩ rfl rfl (Nat.le_of_ble_eq_true rfl) ⟨Nat.le_of_ble_eq_true rfl, Nat.le_of_ble_eq_true rfl⟩ ⟨Nat.le_of_ble_eq_true rfl, Nat.le_of_ble_eq_true rfl⟩ dX2_atYear_35 (fun h3 => ?_) (fun E h3 h3_E => ?_)
      · refine z_iload_n C dX2_atYear_38 rfl 3 rfl ?_
        refine z_i2l (v := (p3).toInt64) C dX2_atYear_39 rfl ?_
        refine z_si (rest := []) C (c_X2_isYear l hfl D cI cJ _ ((p3).toInt64) ) q_X2_isYear gX2_atYear_X2_isYear ⟨rfl, rfl⟩ rfl rfl (Nat.le_of_ble_eq_true rfl) ⟨Nat.le_of_ble_eq_true rfl, Nat.le_of_ble_eq_true rfl⟩ ⟨Nat.le_of_ble_eq_true rfl, Nat.le_of_ble_eq_true rfl⟩ dX2_atYear_40 ?_
        refine z_xsv (rest := []) C (c_X2_checkArgument l hfl D cI cJ _ (f_X2_isYear ((p3).toInt64)) ) q_X2_checkArgument gX2_atYear_X2_checkArgument ⟨rfl, rfl⟩ rfl rfl (Nat.le_of_ble_eq_true rfl) ⟨Nat.le_of_ble_eq_true rfl, Nat.le_of_ble_eq_true rfl⟩ ⟨Nat.le_of_ble_eq_true rfl, Nat.le_of_ble_eq_true rfl⟩ dX2_atYear_43 (fun h4 => ?_) (fun E h4 h4_E => ?_)
        · refine z_aload_n C dX2_atYear_46 rfl 0 rfl ?_
          refine z_iload C dX2_atYear_47 4 rfl ?_
          refine z_iload_n C dX2_atYear_49 rfl 3 rfl ?_
          refine z_i2l (v := (p3).toInt64) C dX2_atYear_50 rfl ?_
          refine z_iload_n C dX2_atYear_51 rfl 1 rfl ?_
          refine z_i2l (v := (p1).toInt64) C dX2_atYear_52 rfl ?_
          refine z_sl (rest := [.int p4, .ref (y 0)]) C (c_X1_monthIndex l hfl D cI cJ _ ((p3).toInt64) ((p1).toInt64) ) q_X1_monthIndex gX2_atYear_X1_monthIndex ⟨rfl, rfl⟩ rfl rfl (Nat.le_of_ble_eq_true rfl) ⟨Nat.le_of_ble_eq_true rfl, Nat.le_of_ble_eq_true rfl⟩ ⟨Nat.le_of_ble_eq_true rfl, Nat.le_of_ble_eq_true rfl⟩ dX2_atYear_53 ?_
          refine z_iload_n C dX2_atYear_56 rfl 2 rfl ?_
          refine z_i2l (v := (p2).toInt64) C dX2_atYear_57 rfl ?_
          refine z_sl (rest := [.int p4, .ref (y 0)]) C (c_X1_dayOrLast l hfl D cI cJ _ (f_X1_monthIndex ((p3).toInt64) ((p1).toInt64)) ((p2).toInt64) ) q_X1_dayOrLast gX2_atYear_X1_dayOrLast ⟨rfl, rfl⟩ rfl rfl (Nat.le_of_ble_eq_true rfl) ⟨Nat.le_of_ble_eq_true rfl, Nat.le_of_ble_eq_true rfl⟩ ⟨Nat.le_of_ble_eq_true rfl, Nat.le_of_ble_eq_true rfl⟩ dX2_atYear_58 ?_
          refine z_xwl (ws' := (wY cI cJ y (s_X2_keepDate_d d p4 (f_X1_dayOrLast (f_X1_monthIndex ((p3).toInt64) ((p1).toInt64)) ((p2).toInt64))) sy sm sd mi ti sL bL mD mT X)) (rest := []) (ci := 2) (q0 := 0) C (c_X2_keepDate l hfl D cI cJ X y d sy sm sd mi ti sL bL mD mT p4 (f_X1_dayOrLast (f_X1_monthIndex ((p3).toInt64) ((p1).toInt64)) ((p2).toInt64)) (vpS6 h1)) q_X2_keepDate rfl rfl rfl gX2_atYear_X2_keepDate ⟨rfl, rfl⟩ rfl rfl (Nat.le_of_ble_eq_true rfl) ⟨Nat.le_of_ble_eq_true rfl, Nat.le_of_ble_eq_true rfl⟩ ⟨Nat.le_of_ble_eq_true rfl, Nat.le_of_ble_eq_true rfl⟩ dX2_atYear_61 (fun h5 => ?_) (fun E h5 h5_E => ?_)
          · exact z_lret C ⟨by rw [k_X2_atYear, if_pos h1, if_pos h2, if_pos h3, if_pos h4, if_pos h5], congrArg (fun v => some (Value.long v)) (by rw [f_X2_atYear, if_pos h1, if_pos h2, if_pos h3, if_pos h4, if_pos h5] : (f_X2_keepDate (f_X1_dayOrLast (f_X1_monthIndex ((p3).toInt64) ((p1).toInt64)) ((p2).toInt64))) = (f_X2_atYear p1 p2 p3 p4)), by rw [s_X2_atYear_d, if_pos h1, if_pos h2, if_pos h3, if_pos h4, if_pos h5]⟩ (by decide) (by decide) dX2_atYear_64
          · exact z_tout C hno ⟨rfl, by rw [k_X2_atYear, if_pos h1, if_pos h2, if_pos h3, if_pos h4, if_neg h5]; exact h5_E⟩ (by decide) (by decide)
        · exact z_tout C hno ⟨rfl, by rw [k_X2_atYear, if_pos h1, if_pos h2, if_pos h3, if_neg h4]; exact h4_E⟩ (by decide) (by decide)
      · exact z_tout C hno ⟨rfl, by rw [k_X2_atYear, if_pos h1, if_pos h2, if_neg h3]; exact h3_E⟩ (by decide) (by decide)
    · exact z_tout C hno ⟨rfl, by rw [k_X2_atYear, if_pos h1, if_neg h2]; exact h2_E⟩ (by decide) (by decide)
  · exact z_tout C hno ⟨rfl, by rw [k_X2_atYear, if_neg h1]; exact h1_E⟩ (by decide) (by decide)
def f_X2_order (d : Nat → Int64) (p1 : Int32) (p2 : Int32) : Int32 := (if k_X2_checkSlot p1 6 = 0 then (if k_X2_checkSlot p2 6 = 0 then (f_X2_sign (d p1.toNatClampNeg) (d p2.toNatClampNeg)) else 0) else 0)
def k_X2_order (p1 : Int32) (p2 : Int32) : Int32 := (if k_X2_checkSlot p1 6 = 0 then (if k_X2_checkSlot p2 6 = 0 then 0 else k_X2_checkSlot p2 6) else k_X2_checkSlot p1 6)
theorem q_X2_order : ZY yX2_order wsX2_order cX2_order 3 (some .int) 2 := ⟨⟨_, rfl⟩, by decide +kernel, by decide +kernel, by decide +kernel⟩
set_option maxHeartbeats 4000000 in
set_option maxRecDepth 100000 in
theorem c_X2_order (l : Launch) (hfl : l.stackTraces = false) (D : va_G) (cI cJ : ClassId) (X : va_W) (y : Nat → Nat) (d : Nat → Int64) (sy : Nat → Int32) (sm : Nat → Int32) (sd : Nat → Int32) (mi : Nat → Int32) (ti : Nat → Int64) (sL : Nat → Int64) (bL : Nat → Int64) (mD : Nat → Int64) (mT : Nat → Int64) (p1 : Int32) (p2 : Int32)  : ZM l yX2_order wsX2_order { frames := 7, cells := 2, slots := 12, locals := 103 } [.ref (y 0), .int p1, .int p2] D (zTys cI cJ) (wY cI cJ y d sy sm sd mi ti sL bL mD mT X) 2 12 (fun v w => k_X2_order p1 p2 = 0 ∧ v = some (.int (f_X2_order d p1 p2)) ∧ w = (wY cI cJ y d sy sm sd mi ti sL bL mD mT X)) (fun E w => w = (wY cI cJ y d sy sm sd mi ti sL bL mD mT X) ∧ zEx E (k_X2_order p1 p2)) := by
  refine z_open (own := RX2) hfl (cc := cX2_order) (maxL := 3) (ret := (some .int)) (lv := [(0, .ref (y 0)), (1, .int p1), (2, .int p2)]) rfl (by decide) rfl rfl (Nat.le_of_ble_eq_true rfl) ?_
  intro p e s m args below meth c A C hno hnm hargs
  have hin : ∀ w ∈ wsX20, w ∈ wsX2_order := by decide +kernel
  have w1 := C.1.2.2.2.2 (.fieldLink RX2 9 "Yearwheel" "dates" "[J") (by decide +kernel)
  refine z_iload_n C dX2_order_0 rfl 1 rfl ?_
  refine z_bipush (v := 6) C dX2_order_1 (by decide) ?_
  refine z_xsv (rest := []) C (c_X2_checkSlot l hfl D cI cJ _ p1 (6 : Int32) ) q_X2_checkSlot gX2_order_X2_checkSlot ⟨rfl, rfl⟩ rfl rfl (Nat.le_of_ble_eq_true rfl) ⟨Nat.le_of_ble_eq_true rfl, Nat.le_of_ble_eq_true rfl⟩ ⟨Nat.le_of_ble_eq_true rfl, Nat.le_of_ble_eq_true rfl⟩ dX2_order_3 (fun h1 => ?_) (fun E h1 h1_E => ?_)
  · refine z_iload_n C dX2_order_6 rfl 2 rfl ?_
    refine z_bipush (v := 6) C dX2_order_7 (by decide) ?_
    refine z_xsv (rest := []) C (c_X2_checkSlot l hfl D cI cJ _ p2 (6 : Int32) ) q_X2_checkSlot gX2_order_X2_checkSlot ⟨rfl, rfl⟩ rfl rfl (Nat.le_of_ble_eq_true rfl) ⟨Nat.le_of_ble_eq_true rfl, Nat.le_of_ble_eq_true rfl⟩ ⟨Nat.le_of_ble_eq_true rfl, Nat.le_of_ble_eq_true rfl⟩ dX2_order_9 (fun h2 => ?_) (fun E h2 h2_E => ?_)
    · refine z_aload_n C dX2_order_12 rfl 0 rfl ?_
      refine z_get (CC := RX2) (T := TX2) (N := 10) (ci := 2) C hin 0 rfl rfl 0 (by decide) w1 rfl rfl dX2_order_13 ?_
      refine z_iload_n C dX2_order_16 rfl 1 rfl ?_
      refine z_lald C 1 1 rfl rfl (vpS6 h1) dX2_order_17 ?_
      refine z_aload_n C dX2_order_18 rfl 0 rfl ?_
      refine z_get (CC := RX2) (T := TX2) (N := 10) (ci := 2) C hin 0 rfl rfl 0 (by decide) w1 rfl rfl dX2_order_19 ?_
      refine z_iload_n C dX2_order_22 rfl 2 rfl ?_
      refine z_lald C 1 1 rfl rfl (vpS6 h2) dX2_order_23 ?_
      refine z_si (rest := []) C (c_X2_sign l hfl D cI cJ _ (d p1.toNatClampNeg) (d p2.toNatClampNeg) ) q_X2_sign gX2_order_X2_sign ⟨rfl, rfl⟩ rfl rfl (Nat.le_of_ble_eq_true rfl) ⟨Nat.le_of_ble_eq_true rfl, Nat.le_of_ble_eq_true rfl⟩ ⟨Nat.le_of_ble_eq_true rfl, Nat.le_of_ble_eq_true rfl⟩ dX2_order_24 ?_
      exact z_iret C ⟨by rw [k_X2_order, if_pos h1, if_pos h2], congrArg (fun v => some (Value.int v)) (by rw [f_X2_order, if_pos h1, if_pos h2] : (f_X2_sign (d p1.toNatClampNeg) (d p2.toNatClampNeg)) = (f_X2_order d p1 p2)), rfl⟩ (by decide) (by decide) dX2_order_27
    · exact z_tout C hno ⟨rfl, by rw [k_X2_order, if_pos h1, if_neg h2]; exact h2_E⟩ (by decide) (by decide)
  · exact z_tout C hno ⟨rfl, by rw [k_X2_order, if_neg h1]; exact h1_E⟩ (by decide) (by decide)
def f_X2_between (d : Nat → Int64) (p1 : Int32) (p2 : Int32) (p3 : Int32) : Int64 := (if k_X2_checkSlot p1 6 = 0 then (if k_X2_checkSlot p2 6 = 0 then (if p3 = 100 then ((d p2.toNatClampNeg) - (d p1.toNatClampNeg)) else (if p3 = 109 then (f_X1_wholeMonths (d p1.toNatClampNeg) (d p2.toNatClampNeg)) else (if p3 = 119 then (((d p2.toNatClampNeg) - (d p1.toNatClampNeg)) / 7) else (if p3 = 121 then ((f_X1_wholeMonths (d p1.toNatClampNeg) (d p2.toNatClampNeg)) / 12) else 0)))) else 0) else 0)
def k_X2_between (p1 : Int32) (p2 : Int32) (p3 : Int32) : Int32 := (if k_X2_checkSlot p1 6 = 0 then (if k_X2_checkSlot p2 6 = 0 then (if p3 = 100 then 0 else (if p3 = 109 then 0 else (if p3 = 119 then 0 else (if p3 = 121 then 0 else 2)))) else k_X2_checkSlot p2 6) else k_X2_checkSlot p1 6)
theorem q_X2_between : ZY yX2_between wsX2_between cX2_between 8 (some .long) 3 := ⟨⟨_, rfl⟩, by decide +kernel, by decide +kernel, by decide +kernel⟩
set_option maxHeartbeats 4000000 in
set_option maxRecDepth 100000 in
theorem c_X2_between (l : Launch) (hfl : l.stackTraces = false) (D : va_G) (cI cJ : ClassId) (X : va_W) (y : Nat → Nat) (d : Nat → Int64) (sy : Nat → Int32) (sm : Nat → Int32) (sd : Nat → Int32) (mi : Nat → Int32) (ti : Nat → Int64) (sL : Nat → Int64) (bL : Nat → Int64) (mD : Nat → Int64) (mT : Nat → Int64) (p1 : Int32) (p2 : Int32) (p3 : Int32)  : ZM l yX2_between wsX2_between { frames := 7, cells := 3, slots := 18, locals := 130 } [.ref (y 0), .int p1, .int p2, .int p3] D (zTys cI cJ) (wY cI cJ y d sy sm sd mi ti sL bL mD mT X) 3 18 (fun v w => k_X2_between p1 p2 p3 = 0 ∧ v = some (.long (f_X2_between d p1 p2 p3)) ∧ w = (wY cI cJ y d sy sm sd mi ti sL bL mD mT X)) (fun E w => w = (wY cI cJ y d sy sm sd mi ti sL bL mD mT X) ∧ zEx E (k_X2_between p1 p2 p3)) := by
  refine z_open (own := RX2) hfl (cc := cX2_between) (maxL := 8) (ret := (some .long)) (lv := [(0, .ref (y 0)), (1, .int p1), (2, .int p2), (3, .int p3)]) rfl (by decide) rfl rfl (Nat.le_of_ble_eq_true rfl) ?_
  intro p e s m args below meth c A C hno hnm hargs
  have hin : ∀ w ∈ wsX20, w ∈ wsX2_between := by decide +kernel
  have w1 := C.1.2.2.2.2 (.fieldLink RX2 9 "Yearwheel" "dates" "[J") (by decide +kernel)
  have w2 := C.1.2.2.2.2 (.constantLong RX2 130 (7)) (by decide +kernel)
  have w3 := C.1.2.2.2.2 (.constantLong RX2 53 (12)) (by decide +kernel)
  have w4 := C.1.2.2.2.2 (.classLink RX2 101 "java/lang/IllegalArgumentException") (by decide +kernel)
  have w5 := C.1.2.2.2.2 (.initialized "java/lang/IllegalArgumentException") (by decide +kernel)
  refine z_iload_n C dX2_between_0 rfl 1 rfl ?_
  refine z_bipush (v := 6) C dX2_between_1 (by decide) ?_
  refine z_xsv (rest := []) C (c_X2_checkSlot l hfl D cI cJ _ p1 (6 : Int32) ) q_X2_checkSlot gX2_between_X2_checkSlot ⟨rfl, rfl⟩ rfl rfl (Nat.le_of_ble_eq_true rfl) ⟨Nat.le_of_ble_eq_true rfl, Nat.le_of_ble_eq_true rfl⟩ ⟨Nat.le_of_ble_eq_true rfl, Nat.le_of_ble_eq_true rfl⟩ dX2_between_3 (fun h1 => ?_) (fun E h1 h1_E => ?_)
  · refine z_iload_n C dX2_between_6 rfl 2 rfl ?_
    refine z_bipush (v := 6) C dX2_between_7 (by decide) ?_
    refine z_xsv (rest := []) C (c_X2_checkSlot l hfl D cI cJ _ p2 (6 : Int32) ) q_X2_checkSlot gX2_between_X2_checkSlot ⟨rfl, rfl⟩ rfl rfl (Nat.le_of_ble_eq_true rfl) ⟨Nat.le_of_ble_eq_true rfl, Nat.le_of_ble_eq_true rfl⟩ ⟨Nat.le_of_ble_eq_true rfl, Nat.le_of_ble_eq_true rfl⟩ dX2_between_9 (fun h2 => ?_) (fun E h2 h2_E => ?_)
    · refine z_aload_n C dX2_between_12 rfl 0 rfl ?_
      refine z_get (CC := RX2) (T := TX2) (N := 10) (ci := 2) C hin 0 rfl rfl 0 (by decide) w1 rfl rfl dX2_between_13 ?_
      refine z_iload_n C dX2_between_16 rfl 1 rfl ?_
      refine z_lald C 1 1 rfl rfl (vpS6 h1) dX2_between_17 ?_
      refine z_lstore (lv' := [(4, .long (d p1.toNatClampNeg)), (0, .ref (y 0)), (1, .int p1), (2, .int p2), (3, .int p3)]) C dX2_between_18 (by decide) rfl ?_
      refine z_aload_n C dX2_between_20 rfl 1 rfl ?_
      refine z_get (CC := RX2) (T := TX2) (N := 10) (ci := 2) C hin 0 rfl rfl 0 (by decide) w1 rfl rfl dX2_between_21 ?_
      refine z_iload_n C dX2_between_24 rfl 3 rfl ?_
      refine z_lald C 1 1 rfl rfl (vpS6 h2) dX2_between_25 ?_
      refine z_lstore (lv' := [(6, .long (d p2.toNatClampNeg)), (4, .long (d p1.toNatClampNeg)), (0, .ref (y 0)), (1, .int p1), (2, .int p2), (3, .int p3)]) C dX2_between_26 (by decide) rfl ?_
      refine z_iload_n C dX2_between_28 rfl 5 rfl ?_
      refine zcases (p3 = 100) (fun h3 => ?_) (fun h3 => ?_)
      · refine z_lookup (off := 43) (tgt := 72) C dX2_between_29 (by decide) (by rw [h3]; decide) (by decide) ?_
        refine z_lload C dX2_between_72 0 rfl ?_
        refine z_lload C dX2_between_74 1 rfl ?_
        refine z_lsub C dX2_between_76 ?_
        exact z_lret C ⟨by rw [k_X2_between, if_pos h1, if_pos h2, if_pos h3], congrArg (fun v => some (Value.long v)) (by rw [f_X2_between, if_pos h1, if_pos h2, if_pos h3] : ((d p2.toNatClampNeg) - (d p1.toNatClampNeg)) = (f_X2_between d p1 p2 p3)), rfl⟩ (by decide) (by decide) dX2_between_77
      · refine zcases (p3 = 109) (fun h4 => ?_) (fun h4 => ?_)
        · refine z_lookup (off := 59) (tgt := 88) C dX2_between_29 (by decide) (by rw [h4]; decide) (by decide) ?_
          refine z_lload C dX2_between_88 1 rfl ?_
          refine z_lload C dX2_between_90 0 rfl ?_
          refine z_sl (rest := []) C (c_X1_wholeMonths l hfl D cI cJ _ (d p1.toNatClampNeg) (d p2.toNatClampNeg) ) q_X1_wholeMonths gX2_between_X1_wholeMonths ⟨rfl, rfl⟩ rfl rfl (Nat.le_of_ble_eq_true rfl) ⟨Nat.le_of_ble_eq_true rfl, Nat.le_of_ble_eq_true rfl⟩ ⟨Nat.le_of_ble_eq_true rfl, Nat.le_of_ble_eq_true rfl⟩ dX2_between_92 ?_
          exact z_lret C ⟨by rw [k_X2_between, if_pos h1, if_pos h2, if_neg h3, if_pos h4], congrArg (fun v => some (Value.long v)) (by rw [f_X2_between, if_pos h1, if_pos h2, if_neg h3, if_pos h4] : (f_X1_wholeMonths (d p1.toNatClampNeg) (d p2.toNatClampNeg)) = (f_X2_between d p1 p2 p3)), rfl⟩ (by decide) (by decide) dX2_between_95
        · refine zcases (p3 = 119) (fun h5 => ?_) (fun h5 => ?_)
          · refine z_lookup (off := 49) (tgt := 78) C dX2_between_29 (by decide) (by rw [h5]; decide) (by decide) ?_
            refine z_lload C dX2_between_78 0 rfl ?_
            refine z_lload C dX2_between_80 1 rfl ?_
            refine z_lsub C dX2_between_82 ?_
            refine z_ldc2 (v := 7) C w2 dX2_between_83 ?_
            refine z_ldiv C dX2_between_86 (by decide) ?_
            exact z_lret C ⟨by rw [k_X2_between, if_pos h1, if_pos h2, if_neg h3, if_neg h4, if_pos h5], congrArg (fun v => some (Value.long v)) (by rw [f_X2_between, if_pos h1, if_pos h2, if_neg h3, if_neg h4, if_pos h5] : (((d p2.toNatClampNeg) - (d p1.toNatClampNeg)) / 7) = (f_X2_between d p1 p2 p3)), rfl⟩ (by decide) (by decide) dX2_between_87
          · refine zcases (p3 = 121) (fun h6 => ?_) (fun h6 => ?_)
            · refine z_lookup (off := 67) (tgt := 96) C dX2_between_29 (by decide) (by rw [h6]; decide) (by decide) ?_
              refine z_lload C dX2_between_96 1 rfl ?_
              refine z_lload C dX2_between_98 0 rfl ?_
              refine z_sl (rest := []) C (c_X1_wholeMonths l hfl D cI cJ _ (d p1.toNatClampNeg) (d p2.toNatClampNeg) ) q_X1_wholeMonths gX2_between_X1_wholeMonths ⟨rfl, rfl⟩ rfl rfl (Nat.le_of_ble_eq_true rfl) ⟨Nat.le_of_ble_eq_true rfl, Nat.le_of_ble_eq_true rfl⟩ ⟨Nat.le_of_ble_eq_true rfl, Nat.le_of_ble_eq_true rfl⟩ dX2_between_100 ?_
              refine z_ldc2 (v := 12) C w3 dX2_between_103 ?_
              refine z_ldiv C dX2_between_106 (by decide) ?_
              exact z_lret C ⟨by rw [k_X2_between, if_pos h1, if_pos h2, if_neg h3, if_neg h4, if_neg h5, if_pos h6], congrArg (fun v => some (Value.long v)) (by rw [f_X2_between, if_pos h1, if_pos h2, if_neg h3, if_neg h4, if_neg h5, if_pos h6] : ((f_X1_wholeMonths (d p1.toNatClampNeg) (d p2.toNatClampNeg)) / 12) = (f_X2_between d p1 p2 p3)), rfl⟩ (by decide) (by decide) dX2_between_107
            · refine z_lookup (off := 79) (tgt := 108) C dX2_between_29 (by decide) (zlk4 h3 h4 h5 h6) (by decide) ?_
              obtain ⟨sa, hsa⟩ := C.2.2.2.2.2.1.1 (155, _) (List.mem_of_getElem? (i := 4) rfl)
              exact z_throwS C hno (cls := "java/lang/IllegalArgumentException") (names := ["java/lang/RuntimeException", "java/lang/Exception"]) (by decide +kernel) (by decide +kernel) w4 w5 hsa (z_hat RX2 105 "java/lang/IllegalArgumentException" ["java/lang/RuntimeException", "java/lang/Exception"] zg_105 (fun w hw => C.1.2.2.2.2 w ((by decide +kernel : ∀ w ∈ (vx_atS RX2 105 "java/lang/IllegalArgumentException" ["java/lang/RuntimeException", "java/lang/Exception"]).filter goodWord, w ∈ wsX2_between) w hw)) C.2.2.2.2.2.1 (by decide : "java/lang/IllegalArgumentException" ∈ zCs)) zo_105 dX2_between_108 dX2_between_111 dX2_between_112 dX2_between_114 dX2_between_117 (by decide) (Nat.le_of_ble_eq_true rfl) (Nat.le_of_ble_eq_true rfl) (Nat.le_of_ble_eq_true rfl) (Nat.le_of_ble_eq_true rfl) (Nat.le_of_ble_eq_true rfl) ⟨rfl, by rw [k_X2_between, if_pos h1, if_pos h2, if_neg h3, if_neg h4, if_neg h5, if_neg h6]; exact zEx2⟩
    · exact z_tout C hno ⟨rfl, by rw [k_X2_between, if_pos h1, if_neg h2]; exact h2_E⟩ (by decide) (by decide)
  · exact z_tout C hno ⟨rfl, by rw [k_X2_between, if_neg h1]; exact h1_E⟩ (by decide) (by decide)
