def f_X2_time (ti : Nat → Int64) (p1 : Int32) (p2 : Int32) (p3 : Int32) (p4 : Int32) (p5 : Int32) : Int64 := (if k_X2_checkSlot p1 4 = 0 then (if k_X2_checkArgument (f_X2_isIn ((p2).toInt64) 0 23) = 0 then (if k_X2_checkArgument (f_X2_isIn ((p3).toInt64) 0 59) = 0 then (if k_X2_checkArgument (f_X2_isIn ((p4).toInt64) 0 59) = 0 then (if k_X2_checkArgument (f_X2_isIn ((p5).toInt64) 0 999999999) = 0 then ((vp_updL ti p1.toNatClampNeg (((((p2).toInt64 * 3600000000000) + ((p3).toInt64 * 60000000000)) + ((p4).toInt64 * 1000000000)) + (p5).toInt64)) p1.toNatClampNeg) else 0) else 0) else 0) else 0) else 0)
def s_X2_time_ti (ti : Nat → Int64) (p1 : Int32) (p2 : Int32) (p3 : Int32) (p4 : Int32) (p5 : Int32) : Nat → Int64 := (if k_X2_checkSlot p1 4 = 0 then (if k_X2_checkArgument (f_X2_isIn ((p2).toInt64) 0 23) = 0 then (if k_X2_checkArgument (f_X2_isIn ((p3).toInt64) 0 59) = 0 then (if k_X2_checkArgument (f_X2_isIn ((p4).toInt64) 0 59) = 0 then (if k_X2_checkArgument (f_X2_isIn ((p5).toInt64) 0 999999999) = 0 then (vp_updL ti p1.toNatClampNeg (((((p2).toInt64 * 3600000000000) + ((p3).toInt64 * 60000000000)) + ((p4).toInt64 * 1000000000)) + (p5).toInt64)) else ti) else ti) else ti) else ti) else ti)
def k_X2_time (p1 : Int32) (p2 : Int32) (p3 : Int32) (p4 : Int32) (p5 : Int32) : Int32 := (if k_X2_checkSlot p1 4 = 0 then (if k_X2_checkArgument (f_X2_isIn ((p2).toInt64) 0 23) = 0 then (if k_X2_checkArgument (f_X2_isIn ((p3).toInt64) 0 59) = 0 then (if k_X2_checkArgument (f_X2_isIn ((p4).toInt64) 0 59) = 0 then (if k_X2_checkArgument (f_X2_isIn ((p5).toInt64) 0 999999999) = 0 then 0 else k_X2_checkArgument (f_X2_isIn ((p5).toInt64) 0 999999999)) else k_X2_checkArgument (f_X2_isIn ((p4).toInt64) 0 59)) else k_X2_checkArgument (f_X2_isIn ((p3).toInt64) 0 59)) else k_X2_checkArgument (f_X2_isIn ((p2).toInt64) 0 23)) else k_X2_checkSlot p1 4)
theorem q_X2_time : ZY yX2_time wsX2_time cX2_time 6 (some .long) 5 := ⟨⟨_, rfl⟩, by decide +kernel, by decide +kernel, by decide +kernel⟩
set_option maxHeartbeats 4000000 in
set_option maxRecDepth 100000 in
theorem c_X2_time (l : Launch) (hfl : l.stackTraces = false) (D : va_G) (cI cJ : ClassId) (X : va_W) (y : Nat → Nat) (d : Nat → Int64) (sy : Nat → Int32) (sm : Nat → Int32) (sd : Nat → Int32) (mi : Nat → Int32) (ti : Nat → Int64) (sL : Nat → Int64) (bL : Nat → Int64) (mD : Nat → Int64) (mT : Nat → Int64) (p1 : Int32) (p2 : Int32) (p3 : Int32) (p4 : Int32) (p5 : Int32)  : ZM l yX2_time wsX2_time { frames := 7, cells := 5, slots := 30, locals := 103 } [.ref (y 0), .int p1, .int p2, .int p3, .int p4, .int p5] D (zTys cI cJ) (wY cI cJ y d sy sm sd mi ti sL bL mD mT X) 5 30 (fun v w => k_X2_time p1 p2 p3 p4 p5 = 0 ∧ v = some (.long (f_X2_time ti p1 p2 p3 p4 p5)) ∧ w = (wY cI cJ y d sy sm sd mi (s_X2_time_ti ti p1 p2 p3 p4 p5) sL bL mD mT X)) (fun E w => w = (wY cI cJ y d sy sm sd mi ti sL bL mD mT X) ∧ zEx E (k_X2_time p1 p2 p3 p4 p5)) := by
  refine z_open (own := RX2) hfl (cc := cX2_time) (maxL := 6) (ret := (some .long)) (lv := [(0, .ref (y 0)), (1, .int p1), (2, .int p2), (3, .int p3), (4, .int p4), (5, .int p5)]) rfl (by decide) rfl rfl (Nat.le_of_ble_eq_true rfl) ?_
  intro p e s m args below meth c A C hno hnm hargs
  have hin : ∀ w ∈ wsX20, w ∈ wsX2_time := by decide +kernel
  have w1 := C.1.2.2.2.2 (.constantLong RX2 185 (23)) (by decide +kernel)
  have w2 := C.1.2.2.2.2 (.constantLong RX2 187 (59)) (by decide +kernel)
  have w3 := C.1.2.2.2.2 (.constantLong RX2 191 (999999999)) (by decide +kernel)
  have w4 := C.1.2.2.2.2 (.fieldLink RX2 26 "Yearwheel" "times" "[J") (by decide +kernel)
  have w5 := C.1.2.2.2.2 (.constantLong RX2 193 (3600000000000)) (by decide +kernel)
  have w6 := C.1.2.2.2.2 (.constantLong RX2 195 (60000000000)) (by decide +kernel)
  have w7 := C.1.2.2.2.2 (.constantLong RX2 197 (1000000000)) (by decide +kernel)
  refine z_iload_n C dX2_time_0 rfl 1 rfl ?_
  refine z_iconst (v := 4) C dX2_time_1 (by decide) ?_
  refine z_xsv (rest := []) C (c_X2_checkSlot l hfl D cI cJ _ p1 (4 : Int32) ) q_X2_checkSlot gX2_time_X2_checkSlot ⟨rfl, rfl⟩ rfl rfl (Nat.le_of_ble_eq_true rfl) ⟨Nat.le_of_ble_eq_true rfl, Nat.le_of_ble_eq_true rfl⟩ ⟨Nat.le_of_ble_eq_true rfl, Nat.le_of_ble_eq_true rfl⟩ dX2_time_2 (fun h1 => ?_) (fun E h1 h1_E => ?_)
  · refine z_iload_n C dX2_time_5 rfl 2 rfl ?_
    refine z_i2l (v := (p2).toInt64) C dX2_time_6 rfl ?_
    refine z_lconst (v := 0) C dX2_time_7 (by decide) ?_
    refine z_ldc2 (v := 23) C w1 dX2_time_8 ?_
    refine z_si (rest := []) C (c_X2_isIn l hfl D cI cJ _ ((p2).toInt64) (0 : Int64) (23 : Int64) ) q_X2_isIn gX2_time_X2_isIn ⟨rfl, rfl⟩ rfl rfl (Nat.le_of_ble_eq_true rfl) ⟨Nat.le_of_ble_eq_true rfl, Nat.le_of_ble_eq_true rfl⟩ ⟨Nat.le_of_ble_eq_true rfl, Nat.le_of_ble_eq_true rfl⟩ dX2_time_11 ?_
    refine z_xsv (rest := []) C (c_X2_checkArgument l hfl D cI cJ _ (f_X2_isIn ((p2).toInt64) 0 23) ) q_X2_checkArgument gX2_time_X2_checkArgument ⟨rfl, rfl⟩ rfl rfl (Nat.le_of_ble_eq_true rfl) ⟨Nat.le_of_ble_eq_true rfl, Nat.le_of_ble_eq_true rfl⟩ ⟨Nat.le_of_ble_eq_true rfl, Nat.le_of_ble_eq_true rfl⟩ dX2_time_14 (fun h2 => ?_) (fun E h2 h2_E => ?_)
    · refine z_iload_n C dX2_time_17 rfl 3 rfl ?_
      refine z_i2l (v := (p3).toInt64) C dX2_time_18 rfl ?_
      refine z_lconst (v := 0) C dX2_time_19 (by decide) ?_
      refine z_ldc2 (v := 59) C w2 dX2_time_20 ?_
      refine z_si (rest := []) C (c_X2_isIn l hfl D cI cJ _ ((p3).toInt64) (0 : Int64) (59 : Int64) ) q_X2_isIn gX2_time_X2_isIn ⟨rfl, rfl⟩ rfl rfl (Nat.le_of_ble_eq_true rfl) ⟨Nat.le_of_ble_eq_true rfl, Nat.le_of_ble_eq_true rfl⟩ ⟨Nat.le_of_ble_eq_true rfl, Nat.le_of_ble_eq_true rfl⟩ dX2_time_23 ?_
      refine z_xsv (rest := []) C (c_X2_checkArgument l hfl D cI cJ _ (f_X2_isIn ((p3).toInt64) 0 59) ) q_X2_checkArgument gX2_time_X2_checkArgument ⟨rfl, rfl⟩ rfl rfl (Nat.le_of_ble_eq_true rfl) ⟨Nat.le_of_ble_eq_true rfl, Nat.le_of_ble_eq_true rfl⟩ ⟨Nat.le_of_ble_eq_true rfl, Nat.le_of_ble_eq_true rfl⟩ dX2_time_26 (fun h3 => ?_) (fun E h3 h3_E => ?_)
      · refine z_iload C dX2_time_29 4 rfl ?_
        refine z_i2l (v := (p4).toInt64) C dX2_time_31 rfl ?_
        refine z_lconst (v := 0) C dX2_time_32 (by decide) ?_
        refine z_ldc2 (v := 59) C w2 dX2_time_33 ?_
        refine z_si (rest := []) C (c_X2_isIn l hfl D cI cJ _ ((p4).toInt64) (0 : Int64) (59 : Int64) ) q_X2_isIn gX2_time_X2_isIn ⟨rfl, rfl⟩ rfl rfl (Nat.le_of_ble_eq_true rfl) ⟨Nat.le_of_ble_eq_true rfl, Nat.le_of_ble_eq_true rfl⟩ ⟨Nat.le_of_ble_eq_true rfl, Nat.le_of_ble_eq_true rfl⟩ dX2_time_36 ?_
        refine z_xsv (rest := []) C (c_X2_checkArgument l hfl D cI cJ _ (f_X2_isIn ((p4).toInt64) 0 59) ) q_X2_checkArgument gX2_time_X2_checkArgument ⟨rfl, rfl⟩ rfl rfl (Nat.le_of_ble_eq_true rfl) ⟨Nat.le_of_ble_eq_true rfl, Nat.le_of_ble_eq_true rfl⟩ ⟨Nat.le_of_ble_eq_true rfl, Nat.le_of_ble_eq_true rfl⟩ dX2_time_39 (fun h4 => ?_) (fun E h4 h4_E => ?_)
        · refine z_iload C dX2_time_42 5 rfl ?_
          refine z_i2l (v := (p5).toInt64) C dX2_time_44 rfl ?_
          refine z_lconst (v := 0) C dX2_time_45 (by decide) ?_
          refine z_ldc2 (v := 999999999) C w3 dX2_time_46 ?_
          refine z_si (rest := []) C (c_X2_isIn l hfl D cI cJ _ ((p5).toInt64) (0 : Int64) (999999999 : Int64) ) q_X2_isIn gX2_time_X2_isIn ⟨rfl, rfl⟩ rfl rfl (Nat.le_of_ble_eq_true rfl) ⟨Nat.le_of_ble_eq_true rfl, Nat.le_of_ble_eq_true rfl⟩ ⟨Nat.le_of_ble_eq_true rfl, Nat.le_of_ble_eq_true rfl⟩ dX2_time_49 ?_
          refine z_xsv (rest := []) C (c_X2_checkArgument l hfl D cI cJ _ (f_X2_isIn ((p5).toInt64) 0 999999999) ) q_X2_checkArgument gX2_time_X2_checkArgument ⟨rfl, rfl⟩ rfl rfl (Nat.le_of_ble_eq_true rfl) ⟨Nat.le_of_ble_eq_true rfl, Nat.le_of_ble_eq_true rfl⟩ ⟨Nat.le_of_ble_eq_true rfl, Nat.le_of_ble_eq_true rfl⟩ dX2_time_52 (fun h5 => ?_) (fun E h5 h5_E => ?_)
          · refine z_aload_n C dX2_time_55 rfl 0 rfl ?_
            refine z_get (CC := RX2) (T := TX2) (N := 10) (ci := 2) C hin 0 rfl rfl 5 (by decide) w4 rfl rfl dX2_time_56 ?_
            refine z_iload_n C dX2_time_59 rfl 1 rfl ?_
            refine z_iload_n C dX2_time_60 rfl 2 rfl ?_
            refine z_i2l (v := (p2).toInt64) C dX2_time_61 rfl ?_
            refine z_ldc2 (v := 3600000000000) C w5 dX2_time_62 ?_
            refine z_lmul C dX2_time_65 ?_
            refine z_iload_n C dX2_time_66 rfl 3 rfl ?_
            refine z_i2l (v := (p3).toInt64) C dX2_time_67 rfl ?_
            refine z_ldc2 (v := 60000000000) C w6 dX2_time_68 ?_
            refine z_lmul C dX2_time_71 ?_
            refine z_ladd C dX2_time_72 ?_
            refine z_iload C dX2_time_73 4 rfl ?_
            refine z_i2l (v := (p4).toInt64) C dX2_time_75 rfl ?_
            refine z_ldc2 (v := 1000000000) C w7 dX2_time_76 ?_
            refine z_lmul C dX2_time_79 ?_
            refine z_ladd C dX2_time_80 ?_
            refine z_iload C dX2_time_81 5 rfl ?_
            refine z_i2l (v := (p5).toInt64) C dX2_time_83 rfl ?_
            refine z_ladd C dX2_time_84 ?_
            refine z_last C 6 1 rfl rfl (vpS4 h1) (ws' := (wY cI cJ y d sy sm sd mi (vp_updL ti p1.toNatClampNeg (((((p2).toInt64 * 3600000000000) + ((p3).toInt64 * 60000000000)) + ((p4).toInt64 * 1000000000)) + (p5).toInt64)) sL bL mD mT X)) rfl dX2_time_85 ?_
            refine z_aload_n C dX2_time_86 rfl 0 rfl ?_
            refine z_get (CC := RX2) (T := TX2) (N := 10) (ci := 2) C hin 0 rfl rfl 5 (by decide) w4 rfl rfl dX2_time_87 ?_
            refine z_iload_n C dX2_time_90 rfl 1 rfl ?_
            refine z_lald C 6 1 rfl rfl (vpS4 h1) dX2_time_91 ?_
            exact z_lret C ⟨by rw [k_X2_time, if_pos h1, if_pos h2, if_pos h3, if_pos h4, if_pos h5], congrArg (fun v => some (Value.long v)) (by rw [f_X2_time, if_pos h1, if_pos h2, if_pos h3, if_pos h4, if_pos h5] : ((vp_updL ti p1.toNatClampNeg (((((p2).toInt64 * 3600000000000) + ((p3).toInt64 * 60000000000)) + ((p4).toInt64 * 1000000000)) + (p5).toInt64)) p1.toNatClampNeg) = (f_X2_time ti p1 p2 p3 p4 p5)), by rw [s_X2_time_ti, if_pos h1, if_pos h2, if_pos h3, if_pos h4, if_pos h5]⟩ (by decide) (by decide) dX2_time_92
          · exact z_tout C hno ⟨rfl, by rw [k_X2_time, if_pos h1, if_pos h2, if_pos h3, if_pos h4, if_neg h5]; exact h5_E⟩ (by decide) (by decide)
        · exact z_tout C hno ⟨rfl, by rw [k_X2_time, if_pos h1, if_pos h2, if_pos h3, if_neg h4]; exact h4_E⟩ (by decide) (by decide)
      · exact z_tout C hno ⟨rfl, by rw [k_X2_time, if_pos h1, if_pos h2, if_neg h3]; exact h3_E⟩ (by decide) (by decide)
    · exact z_tout C hno ⟨rfl, by rw [k_X2_time, if_pos h1, if_neg h2]; exact h2_E⟩ (by decide) (by decide)
  · exact z_tout C hno ⟨rfl, by rw [k_X2_time, if_neg h1]; exact h1_E⟩ (by decide) (by decide)
def f_X2_ofBillionths (p1 : Int32) (p2 : Int64) : Int32 := (if k_X2_checkSlot p1 4 = 0 then (if k_X2_checkArgument (f_X2_isIn p2 0 86399999999999) = 0 then ((p2 / 3600000000000)).toInt32 else 0) else 0)
def s_X2_ofBillionths_ti (ti : Nat → Int64) (p1 : Int32) (p2 : Int64) : Nat → Int64 := (if k_X2_checkSlot p1 4 = 0 then (if k_X2_checkArgument (f_X2_isIn p2 0 86399999999999) = 0 then (vp_updL ti p1.toNatClampNeg p2) else ti) else ti)
def k_X2_ofBillionths (p1 : Int32) (p2 : Int64) : Int32 := (if k_X2_checkSlot p1 4 = 0 then (if k_X2_checkArgument (f_X2_isIn p2 0 86399999999999) = 0 then 0 else k_X2_checkArgument (f_X2_isIn p2 0 86399999999999)) else k_X2_checkSlot p1 4)
theorem q_X2_ofBillionths : ZY yX2_ofBillionths wsX2_ofBillionths cX2_ofBillionths 4 (some .int) 2 := ⟨⟨_, rfl⟩, by decide +kernel, by decide +kernel, by decide +kernel⟩
set_option maxHeartbeats 4000000 in
set_option maxRecDepth 100000 in
theorem c_X2_ofBillionths (l : Launch) (hfl : l.stackTraces = false) (D : va_G) (cI cJ : ClassId) (X : va_W) (y : Nat → Nat) (d : Nat → Int64) (sy : Nat → Int32) (sm : Nat → Int32) (sd : Nat → Int32) (mi : Nat → Int32) (ti : Nat → Int64) (sL : Nat → Int64) (bL : Nat → Int64) (mD : Nat → Int64) (mT : Nat → Int64) (p1 : Int32) (p2 : Int64)  : ZM l yX2_ofBillionths wsX2_ofBillionths { frames := 7, cells := 2, slots := 12, locals := 103 } [.ref (y 0), .int p1, .long p2] D (zTys cI cJ) (wY cI cJ y d sy sm sd mi ti sL bL mD mT X) 2 12 (fun v w => k_X2_ofBillionths p1 p2 = 0 ∧ v = some (.int (f_X2_ofBillionths p1 p2)) ∧ w = (wY cI cJ y d sy sm sd mi (s_X2_ofBillionths_ti ti p1 p2) sL bL mD mT X)) (fun E w => w = (wY cI cJ y d sy sm sd mi ti sL bL mD mT X) ∧ zEx E (k_X2_ofBillionths p1 p2)) := by
  refine z_open (own := RX2) hfl (cc := cX2_ofBillionths) (maxL := 4) (ret := (some .int)) (lv := [(0, .ref (y 0)), (1, .int p1), (2, .long p2)]) rfl (by decide) rfl rfl (Nat.le_of_ble_eq_true rfl) ?_
  intro p e s m args below meth c A C hno hnm hargs
  have hin : ∀ w ∈ wsX20, w ∈ wsX2_ofBillionths := by decide +kernel
  have w1 := C.1.2.2.2.2 (.constantLong RX2 199 (86399999999999)) (by decide +kernel)
  have w2 := C.1.2.2.2.2 (.fieldLink RX2 26 "Yearwheel" "times" "[J") (by decide +kernel)
  have w3 := C.1.2.2.2.2 (.constantLong RX2 193 (3600000000000)) (by decide +kernel)
  refine z_iload_n C dX2_ofBillionths_0 rfl 1 rfl ?_
  refine z_iconst (v := 4) C dX2_ofBillionths_1 (by decide) ?_
  refine z_xsv (rest := []) C (c_X2_checkSlot l hfl D cI cJ _ p1 (4 : Int32) ) q_X2_checkSlot gX2_ofBillionths_X2_checkSlot ⟨rfl, rfl⟩ rfl rfl (Nat.le_of_ble_eq_true rfl) ⟨Nat.le_of_ble_eq_true rfl, Nat.le_of_ble_eq_true rfl⟩ ⟨Nat.le_of_ble_eq_true rfl, Nat.le_of_ble_eq_true rfl⟩ dX2_ofBillionths_2 (fun h1 => ?_) (fun E h1 h1_E => ?_)
  · refine z_lload_n C dX2_ofBillionths_5 rfl 2 rfl ?_
    refine z_lconst (v := 0) C dX2_ofBillionths_6 (by decide) ?_
    refine z_ldc2 (v := 86399999999999) C w1 dX2_ofBillionths_7 ?_
    refine z_si (rest := []) C (c_X2_isIn l hfl D cI cJ _ p2 (0 : Int64) (86399999999999 : Int64) ) q_X2_isIn gX2_ofBillionths_X2_isIn ⟨rfl, rfl⟩ rfl rfl (Nat.le_of_ble_eq_true rfl) ⟨Nat.le_of_ble_eq_true rfl, Nat.le_of_ble_eq_true rfl⟩ ⟨Nat.le_of_ble_eq_true rfl, Nat.le_of_ble_eq_true rfl⟩ dX2_ofBillionths_10 ?_
    refine z_xsv (rest := []) C (c_X2_checkArgument l hfl D cI cJ _ (f_X2_isIn p2 0 86399999999999) ) q_X2_checkArgument gX2_ofBillionths_X2_checkArgument ⟨rfl, rfl⟩ rfl rfl (Nat.le_of_ble_eq_true rfl) ⟨Nat.le_of_ble_eq_true rfl, Nat.le_of_ble_eq_true rfl⟩ ⟨Nat.le_of_ble_eq_true rfl, Nat.le_of_ble_eq_true rfl⟩ dX2_ofBillionths_13 (fun h2 => ?_) (fun E h2 h2_E => ?_)
    · refine z_aload_n C dX2_ofBillionths_16 rfl 0 rfl ?_
      refine z_get (CC := RX2) (T := TX2) (N := 10) (ci := 2) C hin 0 rfl rfl 5 (by decide) w2 rfl rfl dX2_ofBillionths_17 ?_
      refine z_iload_n C dX2_ofBillionths_20 rfl 1 rfl ?_
      refine z_lload_n C dX2_ofBillionths_21 rfl 2 rfl ?_
      refine z_last C 6 1 rfl rfl (vpS4 h1) (ws' := (wY cI cJ y d sy sm sd mi (vp_updL ti p1.toNatClampNeg p2) sL bL mD mT X)) rfl dX2_ofBillionths_22 ?_
      refine z_lload_n C dX2_ofBillionths_23 rfl 2 rfl ?_
      refine z_ldc2 (v := 3600000000000) C w3 dX2_ofBillionths_24 ?_
      refine z_ldiv C dX2_ofBillionths_27 (by decide) ?_
      refine z_l2i (v := ((p2 / 3600000000000)).toInt32) C dX2_ofBillionths_28 rfl ?_
      exact z_iret C ⟨by rw [k_X2_ofBillionths, if_pos h1, if_pos h2], congrArg (fun v => some (Value.int v)) (by rw [f_X2_ofBillionths, if_pos h1, if_pos h2] : ((p2 / 3600000000000)).toInt32 = (f_X2_ofBillionths p1 p2)), by rw [s_X2_ofBillionths_ti, if_pos h1, if_pos h2]⟩ (by decide) (by decide) dX2_ofBillionths_29
    · exact z_tout C hno ⟨rfl, by rw [k_X2_ofBillionths, if_pos h1, if_neg h2]; exact h2_E⟩ (by decide) (by decide)
  · exact z_tout C hno ⟨rfl, by rw [k_X2_ofBillionths, if_neg h1]; exact h1_E⟩ (by decide) (by decide)
def f_X2_timePart (ti : Nat → Int64) (p1 : Int32) (p2 : Int32) : Int32 := (if k_X2_checkSlot p1 4 = 0 then (if p2 = 104 then (((ti p1.toNatClampNeg) / 3600000000000)).toInt32 else (if p2 = 109 then ((((ti p1.toNatClampNeg) / 60000000000) - ((ti p1.toNatClampNeg) / 60000000000) / 60 * 60)).toInt32 else (if p2 = 110 then (((ti p1.toNatClampNeg) - (ti p1.toNatClampNeg) / 1000000000 * 1000000000)).toInt32 else (if p2 = 115 then ((((ti p1.toNatClampNeg) / 1000000000) - ((ti p1.toNatClampNeg) / 1000000000) / 60 * 60)).toInt32 else 0)))) else 0)
def k_X2_timePart (p1 : Int32) (p2 : Int32) : Int32 := (if k_X2_checkSlot p1 4 = 0 then (if p2 = 104 then 0 else (if p2 = 109 then 0 else (if p2 = 110 then 0 else (if p2 = 115 then 0 else 2)))) else k_X2_checkSlot p1 4)
theorem q_X2_timePart : ZY yX2_timePart wsX2_timePart cX2_timePart 5 (some .int) 2 := ⟨⟨_, rfl⟩, by decide +kernel, by decide +kernel, by decide +kernel⟩
set_option maxHeartbeats 4000000 in
set_option maxRecDepth 100000 in
theorem c_X2_timePart (l : Launch) (hfl : l.stackTraces = false) (D : va_G) (cI cJ : ClassId) (X : va_W) (y : Nat → Nat) (d : Nat → Int64) (sy : Nat → Int32) (sm : Nat → Int32) (sd : Nat → Int32) (mi : Nat → Int32) (ti : Nat → Int64) (sL : Nat → Int64) (bL : Nat → Int64) (mD : Nat → Int64) (mT : Nat → Int64) (p1 : Int32) (p2 : Int32)  : ZM l yX2_timePart wsX2_timePart { frames := 7, cells := 2, slots := 12, locals := 103 } [.ref (y 0), .int p1, .int p2] D (zTys cI cJ) (wY cI cJ y d sy sm sd mi ti sL bL mD mT X) 2 12 (fun v w => k_X2_timePart p1 p2 = 0 ∧ v = some (.int (f_X2_timePart ti p1 p2)) ∧ w = (wY cI cJ y d sy sm sd mi ti sL bL mD mT X)) (fun E w => w = (wY cI cJ y d sy sm sd mi ti sL bL mD mT X) ∧ zEx E (k_X2_timePart p1 p2)) := by
  refine z_open (own := RX2) hfl (cc := cX2_timePart) (maxL := 5) (ret := (some .int)) (lv := [(0, .ref (y 0)), (1, .int p1), (2, .int p2)]) rfl (by decide) rfl rfl (Nat.le_of_ble_eq_true rfl) ?_
  intro p e s m args below meth c A C hno hnm hargs
  have hin : ∀ w ∈ wsX20, w ∈ wsX2_timePart := by decide +kernel
  have w1 := C.1.2.2.2.2 (.fieldLink RX2 26 "Yearwheel" "times" "[J") (by decide +kernel)
  have w2 := C.1.2.2.2.2 (.constantLong RX2 193 (3600000000000)) (by decide +kernel)
  have w3 := C.1.2.2.2.2 (.constantLong RX2 195 (60000000000)) (by decide +kernel)
  have w4 := C.1.2.2.2.2 (.constantLong RX2 201 (60)) (by decide +kernel)
  have w5 := C.1.2.2.2.2 (.constantLong RX2 197 (1000000000)) (by decide +kernel)
  have w6 := C.1.2.2.2.2 (.classLink RX2 101 "java/lang/IllegalArgumentException") (by decide +kernel)
  have w7 := C.1.2.2.2.2 (.initialized "java/lang/IllegalArgumentException") (by decide +kernel)
  refine z_iload_n C dX2_timePart_0 rfl 1 rfl ?_
  refine z_iconst (v := 4) C dX2_timePart_1 (by decide) ?_
  refine z_xsv (rest := []) C (c_X2_checkSlot l hfl D cI cJ _ p1 (4 : Int32) ) q_X2_checkSlot gX2_timePart_X2_checkSlot ⟨rfl, rfl⟩ rfl rfl (Nat.le_of_ble_eq_true rfl) ⟨Nat.le_of_ble_eq_true rfl, Nat.le_of_ble_eq_true rfl⟩ ⟨Nat.le_of_ble_eq_true rfl, Nat.le_of_ble_eq_true rfl⟩ dX2_timePart_2 (fun h1 => ?_) (fun E h1 h1_E => ?_)
  · refine z_aload_n C dX2_timePart_5 rfl 0 rfl ?_
    refine z_get (CC := RX2) (T := TX2) (N := 10) (ci := 2) C hin 0 rfl rfl 5 (by decide) w1 rfl rfl dX2_timePart_6 ?_
    refine z_iload_n C dX2_timePart_9 rfl 1 rfl ?_
    refine z_lald C 6 1 rfl rfl (vpS4 h1) dX2_timePart_10 ?_
    refine z_lstore_n (lv' := [(3, .long (ti p1.toNatClampNeg)), (0, .ref (y 0)), (1, .int p1), (2, .int p2)]) C dX2_timePart_11 rfl (by decide) rfl ?_
    refine z_iload_n C dX2_timePart_12 rfl 3 rfl ?_
    refine zcases (p2 = 104) (fun h2 => ?_) (fun h2 => ?_)
    · refine z_lookup (off := 43) (tgt := 56) C dX2_timePart_13 (by decide) (by rw [h2]; decide) (by decide) ?_
      refine z_lload_n C dX2_timePart_56 rfl 0 rfl ?_
      refine z_ldc2 (v := 3600000000000) C w2 dX2_timePart_57 ?_
      refine z_ldiv C dX2_timePart_60 (by decide) ?_
      refine z_l2i (v := (((ti p1.toNatClampNeg) / 3600000000000)).toInt32) C dX2_timePart_61 rfl ?_
      exact z_iret C ⟨by rw [k_X2_timePart, if_pos h1, if_pos h2], congrArg (fun v => some (Value.int v)) (by rw [f_X2_timePart, if_pos h1, if_pos h2] : (((ti p1.toNatClampNeg) / 3600000000000)).toInt32 = (f_X2_timePart ti p1 p2)), rfl⟩ (by decide) (by decide) dX2_timePart_62
    · refine zcases (p2 = 109) (fun h3 => ?_) (fun h3 => ?_)
      · refine z_lookup (off := 50) (tgt := 63) C dX2_timePart_13 (by decide) (by rw [h3]; decide) (by decide) ?_
        refine z_lload_n C dX2_timePart_63 rfl 0 rfl ?_
        refine z_ldc2 (v := 60000000000) C w3 dX2_timePart_64 ?_
        refine z_ldiv C dX2_timePart_67 (by decide) ?_
        refine z_ldc2 (v := 60) C w4 dX2_timePart_68 ?_
        refine z_lrem C dX2_timePart_71 (by decide) ?_
        refine z_l2i (v := ((((ti p1.toNatClampNeg) / 60000000000) - ((ti p1.toNatClampNeg) / 60000000000) / 60 * 60)).toInt32) C dX2_timePart_72 rfl ?_
        exact z_iret C ⟨by rw [k_X2_timePart, if_pos h1, if_neg h2, if_pos h3], congrArg (fun v => some (Value.int v)) (by rw [f_X2_timePart, if_pos h1, if_neg h2, if_pos h3] : ((((ti p1.toNatClampNeg) / 60000000000) - ((ti p1.toNatClampNeg) / 60000000000) / 60 * 60)).toInt32 = (f_X2_timePart ti p1 p2)), rfl⟩ (by decide) (by decide) dX2_timePart_73
      · refine zcases (p2 = 110) (fun h4 => ?_) (fun h4 => ?_)
        · refine z_lookup (off := 72) (tgt := 85) C dX2_timePart_13 (by decide) (by rw [h4]; decide) (by decide) ?_
          refine z_lload_n C dX2_timePart_85 rfl 0 rfl ?_
          refine z_ldc2 (v := 1000000000) C w5 dX2_timePart_86 ?_
          refine z_lrem C dX2_timePart_89 (by decide) ?_
          refine z_l2i (v := (((ti p1.toNatClampNeg) - (ti p1.toNatClampNeg) / 1000000000 * 1000000000)).toInt32) C dX2_timePart_90 rfl ?_
          exact z_iret C ⟨by rw [k_X2_timePart, if_pos h1, if_neg h2, if_neg h3, if_pos h4], congrArg (fun v => some (Value.int v)) (by rw [f_X2_timePart, if_pos h1, if_neg h2, if_neg h3, if_pos h4] : (((ti p1.toNatClampNeg) - (ti p1.toNatClampNeg) / 1000000000 * 1000000000)).toInt32 = (f_X2_timePart ti p1 p2)), rfl⟩ (by decide) (by decide) dX2_timePart_91
        · refine zcases (p2 = 115) (fun h5 => ?_) (fun h5 => ?_)
          · refine z_lookup (off := 61) (tgt := 74) C dX2_timePart_13 (by decide) (by rw [h5]; decide) (by decide) ?_
            refine z_lload_n C dX2_timePart_74 rfl 0 rfl ?_
            refine z_ldc2 (v := 1000000000) C w5 dX2_timePart_75 ?_
            refine z_ldiv C dX2_timePart_78 (by decide) ?_
            refine z_ldc2 (v := 60) C w4 dX2_timePart_79 ?_
            refine z_lrem C dX2_timePart_82 (by decide) ?_
            refine z_l2i (v := ((((ti p1.toNatClampNeg) / 1000000000) - ((ti p1.toNatClampNeg) / 1000000000) / 60 * 60)).toInt32) C dX2_timePart_83 rfl ?_
            exact z_iret C ⟨by rw [k_X2_timePart, if_pos h1, if_neg h2, if_neg h3, if_neg h4, if_pos h5], congrArg (fun v => some (Value.int v)) (by rw [f_X2_timePart, if_pos h1, if_neg h2, if_neg h3, if_neg h4, if_pos h5] : ((((ti p1.toNatClampNeg) / 1000000000) - ((ti p1.toNatClampNeg) / 1000000000) / 60 * 60)).toInt32 = (f_X2_timePart ti p1 p2)), rfl⟩ (by decide) (by decide) dX2_timePart_84
          · refine z_lookup (off := 79) (tgt := 92) C dX2_timePart_13 (by decide) (zlk4 h2 h3 h4 h5) (by decide) ?_
            obtain ⟨sa, hsa⟩ := C.2.2.2.2.2.1.1 (203, _) (List.mem_of_getElem? (i := 7) rfl)
            exact z_throwS C hno (cls := "java/lang/IllegalArgumentException") (names := ["java/lang/RuntimeException", "java/lang/Exception"]) (by decide +kernel) (by decide +kernel) w6 w7 hsa (z_hat RX2 105 "java/lang/IllegalArgumentException" ["java/lang/RuntimeException", "java/lang/Exception"] zg_105 (fun w hw => C.1.2.2.2.2 w ((by decide +kernel : ∀ w ∈ (vx_atS RX2 105 "java/lang/IllegalArgumentException" ["java/lang/RuntimeException", "java/lang/Exception"]).filter goodWord, w ∈ wsX2_timePart) w hw)) C.2.2.2.2.2.1 (by decide : "java/lang/IllegalArgumentException" ∈ zCs)) zo_105 dX2_timePart_92 dX2_timePart_95 dX2_timePart_96 dX2_timePart_98 dX2_timePart_101 (by decide) (Nat.le_of_ble_eq_true rfl) (Nat.le_of_ble_eq_true rfl) (Nat.le_of_ble_eq_true rfl) (Nat.le_of_ble_eq_true rfl) (Nat.le_of_ble_eq_true rfl) ⟨rfl, by rw [k_X2_timePart, if_pos h1, if_neg h2, if_neg h3, if_neg h4, if_neg h5]; exact zEx2⟩
  · exact z_tout C hno ⟨rfl, by rw [k_X2_timePart, if_neg h1]; exact h1_E⟩ (by decide) (by decide)
def f_X2_moveTime_j1 (p2 : Int32) : Int32 := (if p2 = 105 then 0 else 1)
def f_X2_moveTime_j2 (p2 : Int32) : Int32 := (if p2 = 109 then 105 else p2)
def f_X2_moveTime_j3 (p2 : Int32) : Int32 := (if (f_X0_countInDay (f_X2_moveTime_j2 p2)) ≤ 0 then 0 else 1)
def f_X2_moveTime (ti : Nat → Int64) (p1 : Int32) (p2 : Int32) (p3 : Int64) (p4 : Int32) : Int64 := (if k_X2_checkSlot p1 4 = 0 then (if k_X2_checkSlot p4 4 = 0 then (if f_X2_moveTime_j1 p2 = 0 then 0 else (if f_X2_moveTime_j3 p2 = 0 then 0 else (if k_X2_checkArgument (f_X2_isIn p3 (-1000000000000000) 1000000000000000) = 0 then ((vp_updL ti p4.toNatClampNeg (f_X0_roundDay ((ti p1.toNatClampNeg) + (f_X0_restOfDay p3 (f_X0_countInDay (f_X2_moveTime_j2 p2)))))) p4.toNatClampNeg) else 0))) else 0) else 0)
def s_X2_moveTime_ti (ti : Nat → Int64) (p1 : Int32) (p2 : Int32) (p3 : Int64) (p4 : Int32) : Nat → Int64 := (if k_X2_checkSlot p1 4 = 0 then (if k_X2_checkSlot p4 4 = 0 then (if f_X2_moveTime_j1 p2 = 0 then ti else (if f_X2_moveTime_j3 p2 = 0 then ti else (if k_X2_checkArgument (f_X2_isIn p3 (-1000000000000000) 1000000000000000) = 0 then (vp_updL ti p4.toNatClampNeg (f_X0_roundDay ((ti p1.toNatClampNeg) + (f_X0_restOfDay p3 (f_X0_countInDay (f_X2_moveTime_j2 p2)))))) else ti))) else ti) else ti)
def k_X2_moveTime (p1 : Int32) (p2 : Int32) (p3 : Int64) (p4 : Int32) : Int32 := (if k_X2_checkSlot p1 4 = 0 then (if k_X2_checkSlot p4 4 = 0 then (if f_X2_moveTime_j1 p2 = 0 then k_X2_checkArgument 0 else (if f_X2_moveTime_j3 p2 = 0 then k_X2_checkArgument 0 else (if k_X2_checkArgument (f_X2_isIn p3 (-1000000000000000) 1000000000000000) = 0 then 0 else k_X2_checkArgument (f_X2_isIn p3 (-1000000000000000) 1000000000000000)))) else k_X2_checkSlot p4 4) else k_X2_checkSlot p1 4)
theorem q_X2_moveTime : ZY yX2_moveTime wsX2_moveTime cX2_moveTime 8 (some .long) 4 := ⟨⟨_, rfl⟩, by decide +kernel, by decide +kernel, by decide +kernel⟩
set_option maxHeartbeats 4000000 in
set_option maxRecDepth 100000 in
theorem c_X2_moveTime (l : Launch) (hfl : l.stackTraces = false) (D : va_G) (cI cJ : ClassId) (X : va_W) (y : Nat → Nat) (d : Nat → Int64) (sy : Nat → Int32) (sm : Nat → Int32) (sd : Nat → Int32) (mi : Nat → Int32) (ti : Nat → Int64) (sL : Nat → Int64) (bL : Nat → Int64) (mD : Nat → Int64) (mT : Nat → Int64) (p1 : Int32) (p2 : Int32) (p3 : Int64) (p4 : Int32)  : ZM l yX2_moveTime wsX2_moveTime { frames := 7, cells := 5, slots := 30, locals := 103 } [.ref (y 0), .int p1, .int p2, .long p3, .int p4] D (zTys cI cJ) (wY cI cJ y d sy sm sd mi ti sL bL mD mT X) 5 30 (fun v w => k_X2_moveTime p1 p2 p3 p4 = 0 ∧ v = some (.long (f_X2_moveTime ti p1 p2 p3 p4)) ∧ w = (wY cI cJ y d sy sm sd mi (s_X2_moveTime_ti ti p1 p2 p3 p4) sL bL mD mT X)) (fun E w => w = (wY cI cJ y d sy sm sd mi ti sL bL mD mT X) ∧ zEx E (k_X2_moveTime p1 p2 p3 p4)) := by
  refine z_open (own := RX2) hfl (cc := cX2_moveTime) (maxL := 8) (ret := (some .long)) (lv := [(0, .ref (y 0)), (1, .int p1), (2, .int p2), (3, .long p3), (5, .int p4)]) rfl (by decide) rfl rfl (Nat.le_of_ble_eq_true rfl) ?_
  intro p e s m args below meth c A C hno hnm hargs
  have hin : ∀ w ∈ wsX20, w ∈ wsX2_moveTime := by decide +kernel
  have w1 := C.1.2.2.2.2 (.constantLong RX2 209 (-1000000000000000)) (by decide +kernel)
  have w2 := C.1.2.2.2.2 (.constantLong RX2 211 (1000000000000000)) (by decide +kernel)
  have w3 := C.1.2.2.2.2 (.fieldLink RX2 26 "Yearwheel" "times" "[J") (by decide +kernel)
  refine z_iload_n C dX2_moveTime_0 rfl 1 rfl ?_
  refine z_iconst (v := 4) C dX2_moveTime_1 (by decide) ?_
  refine z_xsv (rest := []) C (c_X2_checkSlot l hfl D cI cJ _ p1 (4 : Int32) ) q_X2_checkSlot gX2_moveTime_X2_checkSlot ⟨rfl, rfl⟩ rfl rfl (Nat.le_of_ble_eq_true rfl) ⟨Nat.le_of_ble_eq_true rfl, Nat.le_of_ble_eq_true rfl⟩ ⟨Nat.le_of_ble_eq_true rfl, Nat.le_of_ble_eq_true rfl⟩ dX2_moveTime_2 (fun h1 => ?_) (fun E h1 h1_E => ?_)
  · refine z_iload C dX2_moveTime_5 4 rfl ?_
    refine z_iconst (v := 4) C dX2_moveTime_7 (by decide) ?_
    refine z_xsv (rest := []) C (c_X2_checkSlot l hfl D cI cJ _ p4 (4 : Int32) ) q_X2_checkSlot gX2_moveTime_X2_checkSlot ⟨rfl, rfl⟩ rfl rfl (Nat.le_of_ble_eq_true rfl) ⟨Nat.le_of_ble_eq_true rfl, Nat.le_of_ble_eq_true rfl⟩ ⟨Nat.le_of_ble_eq_true rfl, Nat.le_of_ble_eq_true rfl⟩ dX2_moveTime_8 (fun h2 => ?_) (fun E h2 h2_E => ?_)
    · refine z_iload_n C dX2_moveTime_11 rfl 2 rfl ?_
      refine z_bipush (v := 105) C dX2_moveTime_12 (by decide) ?_
      have K1_0 : f_X2_moveTime_j1 p2 = 0 → (p2 = 105) → ZW p l e { frames := 7, cells := 5, slots := 30, locals := 103 } s m args below meth c 8 D (zTys cI cJ) A (zE D (zTys cI cJ) A below args s (fun v w => k_X2_moveTime p1 p2 p3 p4 = 0 ∧ v = some (.long (f_X2_moveTime ti p1 p2 p3 p4)) ∧ w = (wY cI cJ y d sy sm sd mi (s_X2_moveTime_ti ti p1 p2 p3 p4) sL bL mD mT X)) (fun E w => w = (wY cI cJ y d sy sm sd mi ti sL bL mD mT X) ∧ zEx E (k_X2_moveTime p1 p2 p3 p4)) 5 30) 2 12 (wY cI cJ y d sy sm sd mi ti sL bL mD mT X) 22 [(0, .ref (y 0)), (1, .int p1), (2, .int p2), (3, .long p3), (5, .int p4)] [.int 0] := by
        intro h4 h5
        refine z_xsv (rest := []) C (c_X2_checkArgument l hfl D cI cJ _ (0 : Int32) ) q_X2_checkArgument gX2_moveTime_X2_checkArgument ⟨rfl, rfl⟩ rfl rfl (Nat.le_of_ble_eq_true rfl) ⟨Nat.le_of_ble_eq_true rfl, Nat.le_of_ble_eq_true rfl⟩ ⟨Nat.le_of_ble_eq_true rfl, Nat.le_of_ble_eq_true rfl⟩ dX2_moveTime_22 (fun h => absurd h (by decide)) (fun E h6 h6_E => ?_)
        exact z_tout C hno ⟨rfl, by rw [k_X2_moveTime, if_pos h1, if_pos h2, if_pos h4]; exact h6_E⟩ (by decide) (by decide)
      have K1_1 : f_X2_moveTime_j1 p2 = 1 → (¬ p2 = 105) → ZW p l e { frames := 7, cells := 5, slots := 30, locals := 103 } s m args below meth c 8 D (zTys cI cJ) A (zE D (zTys cI cJ) A below args s (fun v w => k_X2_moveTime p1 p2 p3 p4 = 0 ∧ v = some (.long (f_X2_moveTime ti p1 p2 p3 p4)) ∧ w = (wY cI cJ y d sy sm sd mi (s_X2_moveTime_ti ti p1 p2 p3 p4) sL bL mD mT X)) (fun E w => w = (wY cI cJ y d sy sm sd mi ti sL bL mD mT X) ∧ zEx E (k_X2_moveTime p1 p2 p3 p4)) 5 30) 2 12 (wY cI cJ y d sy sm sd mi ti sL bL mD mT X) 22 [(0, .ref (y 0)), (1, .int p1), (2, .int p2), (3, .long p3), (5, .int p4)] [.int 1] := by
        intro h7 h8
        refine z_xsv (rest := []) C (c_X2_checkArgument l hfl D cI cJ _ (1 : Int32) ) q_X2_checkArgument gX2_moveTime_X2_checkArgument ⟨rfl, rfl⟩ rfl rfl (Nat.le_of_ble_eq_true rfl) ⟨Nat.le_of_ble_eq_true rfl, Nat.le_of_ble_eq_true rfl⟩ ⟨Nat.le_of_ble_eq_true rfl, Nat.le_of_ble_eq_true rfl⟩ dX2_moveTime_22 (fun _ => ?_) (fun _ h _ => absurd (by decide) h)
        refine z_iload_n C dX2_moveTime_25 rfl 2 rfl ?_
        refine z_bipush (v := 109) C dX2_moveTime_26 (by decide) ?_
        have K2 : ∀ (v2_0 : Int32), v2_0 = (f_X2_moveTime_j2 p2) → ZW p l e { frames := 7, cells := 5, slots := 30, locals := 103 } s m args below meth c 8 D (zTys cI cJ) A (zE D (zTys cI cJ) A below args s (fun v w => k_X2_moveTime p1 p2 p3 p4 = 0 ∧ v = some (.long (f_X2_moveTime ti p1 p2 p3 p4)) ∧ w = (wY cI cJ y d sy sm sd mi (s_X2_moveTime_ti ti p1 p2 p3 p4) sL bL mD mT X)) (fun E w => w = (wY cI cJ y d sy sm sd mi ti sL bL mD mT X) ∧ zEx E (k_X2_moveTime p1 p2 p3 p4)) 5 30) 3 18 (wY cI cJ y d sy sm sd mi ti sL bL mD mT X) 37 [(0, .ref (y 0)), (1, .int p1), (2, .int p2), (3, .long p3), (5, .int p4)] [.int v2_0] := by
          rintro _ rfl
          refine z_sl (rest := []) C (c_X0_countInDay l hfl D cI cJ _ (f_X2_moveTime_j2 p2) ) q_X0_countInDay gX2_moveTime_X0_countInDay ⟨rfl, rfl⟩ rfl rfl (Nat.le_of_ble_eq_true rfl) ⟨Nat.le_of_ble_eq_true rfl, Nat.le_of_ble_eq_true rfl⟩ ⟨Nat.le_of_ble_eq_true rfl, Nat.le_of_ble_eq_true rfl⟩ dX2_moveTime_37 ?_
          refine z_lstore (lv' := [(6, .long (f_X0_countInDay (f_X2_moveTime_j2 p2))), (0, .ref (y 0)), (1, .int p1), (2, .int p2), (3, .long p3), (5, .int p4)]) C dX2_moveTime_40 (by decide) rfl ?_
          refine z_lload C dX2_moveTime_42 0 rfl ?_
          refine z_lconst (v := 0) C dX2_moveTime_44 (by decide) ?_
          have K3_0 : f_X2_moveTime_j3 p2 = 0 → ((f_X0_countInDay (f_X2_moveTime_j2 p2)) ≤ 0) → ZW p l e { frames := 7, cells := 5, slots := 30, locals := 103 } s m args below meth c 8 D (zTys cI cJ) A (zE D (zTys cI cJ) A below args s (fun v w => k_X2_moveTime p1 p2 p3 p4 = 0 ∧ v = some (.long (f_X2_moveTime ti p1 p2 p3 p4)) ∧ w = (wY cI cJ y d sy sm sd mi (s_X2_moveTime_ti ti p1 p2 p3 p4) sL bL mD mT X)) (fun E w => w = (wY cI cJ y d sy sm sd mi ti sL bL mD mT X) ∧ zEx E (k_X2_moveTime p1 p2 p3 p4)) 5 30) 3 18 (wY cI cJ y d sy sm sd mi ti sL bL mD mT X) 54 [(6, .long (f_X0_countInDay (f_X2_moveTime_j2 p2))), (0, .ref (y 0)), (1, .int p1), (2, .int p2), (3, .long p3), (5, .int p4)] [.int 0] := by
            intro h12 h13
            refine z_xsv (rest := []) C (c_X2_checkArgument l hfl D cI cJ _ (0 : Int32) ) q_X2_checkArgument gX2_moveTime_X2_checkArgument ⟨rfl, rfl⟩ rfl rfl (Nat.le_of_ble_eq_true rfl) ⟨Nat.le_of_ble_eq_true rfl, Nat.le_of_ble_eq_true rfl⟩ ⟨Nat.le_of_ble_eq_true rfl, Nat.le_of_ble_eq_true rfl⟩ dX2_moveTime_54 (fun h => absurd h (by decide)) (fun E h14 h14_E => ?_)
            exact z_tout C hno ⟨rfl, by rw [k_X2_moveTime, if_pos h1, if_pos h2, if_neg (by rw [h7]; decide : ¬ f_X2_moveTime_j1 p2 = 0), if_pos h12]; exact h14_E⟩ (by decide) (by decide)
          have K3_1 : f_X2_moveTime_j3 p2 = 1 → (¬ (f_X0_countInDay (f_X2_moveTime_j2 p2)) ≤ 0) → ZW p l e { frames := 7, cells := 5, slots := 30, locals := 103 } s m args below meth c 8 D (zTys cI cJ) A (zE D (zTys cI cJ) A below args s (fun v w => k_X2_moveTime p1 p2 p3 p4 = 0 ∧ v = some (.long (f_X2_moveTime ti p1 p2 p3 p4)) ∧ w = (wY cI cJ y d sy sm sd mi (s_X2_moveTime_ti ti p1 p2 p3 p4) sL bL mD mT X)) (fun E w => w = (wY cI cJ y d sy sm sd mi ti sL bL mD mT X) ∧ zEx E (k_X2_moveTime p1 p2 p3 p4)) 5 30) 3 18 (wY cI cJ y d sy sm sd mi ti sL bL mD mT X) 54 [(6, .long (f_X0_countInDay (f_X2_moveTime_j2 p2))), (0, .ref (y 0)), (1, .int p1), (2, .int p2), (3, .long p3), (5, .int p4)] [.int 1] := by
            intro h15 h16
            refine z_xsv (rest := []) C (c_X2_checkArgument l hfl D cI cJ _ (1 : Int32) ) q_X2_checkArgument gX2_moveTime_X2_checkArgument ⟨rfl, rfl⟩ rfl rfl (Nat.le_of_ble_eq_true rfl) ⟨Nat.le_of_ble_eq_true rfl, Nat.le_of_ble_eq_true rfl⟩ ⟨Nat.le_of_ble_eq_true rfl, Nat.le_of_ble_eq_true rfl⟩ dX2_moveTime_54 (fun _ => ?_) (fun _ h _ => absurd (by decide) h)
            refine z_lload_n C dX2_moveTime_57 rfl 4 rfl ?_
            refine z_ldc2 (v := (-1000000000000000)) C w1 dX2_moveTime_58 ?_
            refine z_ldc2 (v := 1000000000000000) C w2 dX2_moveTime_61 ?_
            refine z_si (rest := []) C (c_X2_isIn l hfl D cI cJ _ p3 ((-1000000000000000) : Int64) (1000000000000000 : Int64) ) q_X2_isIn gX2_moveTime_X2_isIn ⟨rfl, rfl⟩ rfl rfl (Nat.le_of_ble_eq_true rfl) ⟨Nat.le_of_ble_eq_true rfl, Nat.le_of_ble_eq_true rfl⟩ ⟨Nat.le_of_ble_eq_true rfl, Nat.le_of_ble_eq_true rfl⟩ dX2_moveTime_64 ?_
            refine z_xsv (rest := []) C (c_X2_checkArgument l hfl D cI cJ _ (f_X2_isIn p3 (-1000000000000000) 1000000000000000) ) q_X2_checkArgument gX2_moveTime_X2_checkArgument ⟨rfl, rfl⟩ rfl rfl (Nat.le_of_ble_eq_true rfl) ⟨Nat.le_of_ble_eq_true rfl, Nat.le_of_ble_eq_true rfl⟩ ⟨Nat.le_of_ble_eq_true rfl, Nat.le_of_ble_eq_true rfl⟩ dX2_moveTime_67 (fun h18 => ?_) (fun E h18 h18_E => ?_)
            · refine z_aload_n C dX2_moveTime_70 rfl 1 rfl ?_
              refine z_get (CC := RX2) (T := TX2) (N := 10) (ci := 2) C hin 0 rfl rfl 5 (by decide) w3 rfl rfl dX2_moveTime_71 ?_
              refine z_iload C dX2_moveTime_74 5 rfl ?_
              refine z_aload_n C dX2_moveTime_76 rfl 1 rfl ?_
              refine z_get (CC := RX2) (T := TX2) (N := 10) (ci := 2) C hin 0 rfl rfl 5 (by decide) w3 rfl rfl dX2_moveTime_77 ?_
              refine z_iload_n C dX2_moveTime_80 rfl 2 rfl ?_
              refine z_lald C 6 1 rfl rfl (vpS4 h1) dX2_moveTime_81 ?_
              refine z_lload_n C dX2_moveTime_82 rfl 4 rfl ?_
              refine z_lload C dX2_moveTime_83 0 rfl ?_
              refine z_sl (rest := [.long (ti p1.toNatClampNeg), .int p4, .ref (y 6)]) C (c_X0_restOfDay l hfl D cI cJ _ p3 (f_X0_countInDay (f_X2_moveTime_j2 p2)) ) q_X0_restOfDay gX2_moveTime_X0_restOfDay ⟨rfl, rfl⟩ rfl rfl (Nat.le_of_ble_eq_true rfl) ⟨Nat.le_of_ble_eq_true rfl, Nat.le_of_ble_eq_true rfl⟩ ⟨Nat.le_of_ble_eq_true rfl, Nat.le_of_ble_eq_true rfl⟩ dX2_moveTime_85 ?_
              refine z_ladd C dX2_moveTime_88 ?_
              refine z_sl (rest := [.int p4, .ref (y 6)]) C (c_X0_roundDay l hfl D cI cJ _ ((ti p1.toNatClampNeg) + (f_X0_restOfDay p3 (f_X0_countInDay (f_X2_moveTime_j2 p2)))) ) q_X0_roundDay gX2_moveTime_X0_roundDay ⟨rfl, rfl⟩ rfl rfl (Nat.le_of_ble_eq_true rfl) ⟨Nat.le_of_ble_eq_true rfl, Nat.le_of_ble_eq_true rfl⟩ ⟨Nat.le_of_ble_eq_true rfl, Nat.le_of_ble_eq_true rfl⟩ dX2_moveTime_89 ?_
              refine z_last C 6 1 rfl rfl (vpS4 h2) (ws' := (wY cI cJ y d sy sm sd mi (vp_updL ti p4.toNatClampNeg (f_X0_roundDay ((ti p1.toNatClampNeg) + (f_X0_restOfDay p3 (f_X0_countInDay (f_X2_moveTime_j2 p2)))))) sL bL mD mT X)) rfl dX2_moveTime_92 ?_
              refine z_aload_n C dX2_moveTime_93 rfl 1 rfl ?_
              refine z_get (CC := RX2) (T := TX2) (N := 10) (ci := 2) C hin 0 rfl rfl 5 (by decide) w3 rfl rfl dX2_moveTime_94 ?_
              refine z_iload C dX2_moveTime_97 5 rfl ?_
              refine z_lald C 6 1 rfl rfl (vpS4 h2) dX2_moveTime_99 ?_
              exact z_lret C ⟨by rw [k_X2_moveTime, if_pos h1, if_pos h2, if_neg (by rw [h7]; decide : ¬ f_X2_moveTime_j1 p2 = 0), if_neg (by rw [h15]; decide : ¬ f_X2_moveTime_j3 p2 = 0), if_pos h18], congrArg (fun v => some (Value.long v)) (by rw [f_X2_moveTime, if_pos h1, if_pos h2, if_neg (by rw [h7]; decide : ¬ f_X2_moveTime_j1 p2 = 0), if_neg (by rw [h15]; decide : ¬ f_X2_moveTime_j3 p2 = 0), if_pos h18] : ((vp_updL ti p4.toNatClampNeg (f_X0_roundDay ((ti p1.toNatClampNeg) + (f_X0_restOfDay p3 (f_X0_countInDay (f_X2_moveTime_j2 p2)))))) p4.toNatClampNeg) = (f_X2_moveTime ti p1 p2 p3 p4)), by rw [s_X2_moveTime_ti, if_pos h1, if_pos h2, if_neg (by rw [h7]; decide : ¬ f_X2_moveTime_j1 p2 = 0), if_neg (by rw [h15]; decide : ¬ f_X2_moveTime_j3 p2 = 0), if_pos h18]⟩ (by decide) (by decide) dX2_moveTime_100
            · exact z_tout C hno ⟨rfl, by rw [k_X2_moveTime, if_pos h1, if_pos h2, if_neg (by rw [h7]; decide : ¬ f_X2_moveTime_j1 p2 = 0), if_neg (by rw [h15]; decide : ¬ f_X2_moveTime_j3 p2 = 0), if_neg h18]; exact h18_E⟩ (by decide) (by decide)
          refine z_lcmp_le (tgt := 53) C dX2_moveTime_45 dX2_moveTime_46 (by decide) (fun h11 => ?_) (fun h11 => ?_)
          · refine z_iconst (v := 0) C dX2_moveTime_53 (by decide) ?_
            exact K3_0 (by rw [f_X2_moveTime_j3, if_pos h11]) h11
          · refine z_iconst (v := 1) C dX2_moveTime_49 (by decide) ?_
            refine z_goto (tgt := 54) C dX2_moveTime_50 (by decide) ?_
            exact K3_1 (by rw [f_X2_moveTime_j3, if_neg h11]) h11
        refine z_icmp_ne (tgt := 36) C dX2_moveTime_28 (by decide) (fun h10 => ?_) (fun h10 => ?_)
        · refine z_iload_n C dX2_moveTime_36 rfl 2 rfl ?_
          exact K2 _ (by rw [f_X2_moveTime_j2, if_neg h10])
        · refine z_bipush (v := 105) C dX2_moveTime_31 (by decide) ?_
          refine z_goto (tgt := 37) C dX2_moveTime_33 (by decide) ?_
          exact K2 _ (by rw [f_X2_moveTime_j2, if_pos h10])
      refine z_icmp_eq (tgt := 21) C dX2_moveTime_14 (by decide) (fun h3 => ?_) (fun h3 => ?_)
      · refine z_iconst (v := 0) C dX2_moveTime_21 (by decide) ?_
        exact K1_0 (by rw [f_X2_moveTime_j1, if_pos h3]) h3
      · refine z_iconst (v := 1) C dX2_moveTime_17 (by decide) ?_
        refine z_goto (tgt := 22) C dX2_moveTime_18 (by decide) ?_
        exact K1_1 (by rw [f_X2_moveTime_j1, if_neg h3]) h3
    · exact z_tout C hno ⟨rfl, by rw [k_X2_moveTime, if_pos h1, if_neg h2]; exact h2_E⟩ (by decide) (by decide)
  · exact z_tout C hno ⟨rfl, by rw [k_X2_moveTime, if_neg h1]; exact h1_E⟩ (by decide) (by decide)
def f_X2_cutTime (ti : Nat → Int64) (p1 : Int32) (p2 : Int32) (p3 : Int32) : Int64 := (if k_X2_checkSlot p1 4 = 0 then (if k_X2_checkSlot p3 4 = 0 then (if p2 = 100 then ((vp_updL ti p3.toNatClampNeg 0) p3.toNatClampNeg) else (if p2 = 104 then ((vp_updL ti p3.toNatClampNeg ((ti p1.toNatClampNeg) - ((ti p1.toNatClampNeg) - (ti p1.toNatClampNeg) / 3600000000000 * 3600000000000))) p3.toNatClampNeg) else (if p2 = 109 then ((vp_updL ti p3.toNatClampNeg ((ti p1.toNatClampNeg) - ((ti p1.toNatClampNeg) - (ti p1.toNatClampNeg) / 60000000000 * 60000000000))) p3.toNatClampNeg) else (if p2 = 115 then ((vp_updL ti p3.toNatClampNeg ((ti p1.toNatClampNeg) - ((ti p1.toNatClampNeg) - (ti p1.toNatClampNeg) / 1000000000 * 1000000000))) p3.toNatClampNeg) else 0)))) else 0) else 0)
def s_X2_cutTime_ti (ti : Nat → Int64) (p1 : Int32) (p2 : Int32) (p3 : Int32) : Nat → Int64 := (if k_X2_checkSlot p1 4 = 0 then (if k_X2_checkSlot p3 4 = 0 then (if p2 = 100 then (vp_updL ti p3.toNatClampNeg 0) else (if p2 = 104 then (vp_updL ti p3.toNatClampNeg ((ti p1.toNatClampNeg) - ((ti p1.toNatClampNeg) - (ti p1.toNatClampNeg) / 3600000000000 * 3600000000000))) else (if p2 = 109 then (vp_updL ti p3.toNatClampNeg ((ti p1.toNatClampNeg) - ((ti p1.toNatClampNeg) - (ti p1.toNatClampNeg) / 60000000000 * 60000000000))) else (if p2 = 115 then (vp_updL ti p3.toNatClampNeg ((ti p1.toNatClampNeg) - ((ti p1.toNatClampNeg) - (ti p1.toNatClampNeg) / 1000000000 * 1000000000))) else ti)))) else ti) else ti)
def k_X2_cutTime (p1 : Int32) (p2 : Int32) (p3 : Int32) : Int32 := (if k_X2_checkSlot p1 4 = 0 then (if k_X2_checkSlot p3 4 = 0 then (if p2 = 100 then 0 else (if p2 = 104 then 0 else (if p2 = 109 then 0 else (if p2 = 115 then 0 else 2)))) else k_X2_checkSlot p3 4) else k_X2_checkSlot p1 4)
theorem q_X2_cutTime : ZY yX2_cutTime wsX2_cutTime cX2_cutTime 6 (some .long) 3 := ⟨⟨_, rfl⟩, by decide +kernel, by decide +kernel, by decide +kernel⟩
set_option maxHeartbeats 4000000 in
set_option maxRecDepth 100000 in
theorem c_X2_cutTime (l : Launch) (hfl : l.stackTraces = false) (D : va_G) (cI cJ : ClassId) (X : va_W) (y : Nat → Nat) (d : Nat → Int64) (sy : Nat → Int32) (sm : Nat → Int32) (sd : Nat → Int32) (mi : Nat → Int32) (ti : Nat → Int64) (sL : Nat → Int64) (bL : Nat → Int64) (mD : Nat → Int64) (mT : Nat → Int64) (p1 : Int32) (p2 : Int32) (p3 : Int32)  : ZM l yX2_cutTime wsX2_cutTime { frames := 7, cells := 3, slots := 18, locals := 103 } [.ref (y 0), .int p1, .int p2, .int p3] D (zTys cI cJ) (wY cI cJ y d sy sm sd mi ti sL bL mD mT X) 3 18 (fun v w => k_X2_cutTime p1 p2 p3 = 0 ∧ v = some (.long (f_X2_cutTime ti p1 p2 p3)) ∧ w = (wY cI cJ y d sy sm sd mi (s_X2_cutTime_ti ti p1 p2 p3) sL bL mD mT X)) (fun E w => w = (wY cI cJ y d sy sm sd mi ti sL bL mD mT X) ∧ zEx E (k_X2_cutTime p1 p2 p3)) := by
  refine z_open (own := RX2) hfl (cc := cX2_cutTime) (maxL := 6) (ret := (some .long)) (lv := [(0, .ref (y 0)), (1, .int p1), (2, .int p2), (3, .int p3)]) rfl (by decide) rfl rfl (Nat.le_of_ble_eq_true rfl) ?_
  intro p e s m args below meth c A C hno hnm hargs
  have hin : ∀ w ∈ wsX20, w ∈ wsX2_cutTime := by decide +kernel
  have w1 := C.1.2.2.2.2 (.fieldLink RX2 26 "Yearwheel" "times" "[J") (by decide +kernel)
  have w2 := C.1.2.2.2.2 (.constantLong RX2 193 (3600000000000)) (by decide +kernel)
  have w3 := C.1.2.2.2.2 (.constantLong RX2 195 (60000000000)) (by decide +kernel)
  have w4 := C.1.2.2.2.2 (.constantLong RX2 197 (1000000000)) (by decide +kernel)
  have w5 := C.1.2.2.2.2 (.classLink RX2 101 "java/lang/IllegalArgumentException") (by decide +kernel)
  have w6 := C.1.2.2.2.2 (.initialized "java/lang/IllegalArgumentException") (by decide +kernel)
  refine z_iload_n C dX2_cutTime_0 rfl 1 rfl ?_
  refine z_iconst (v := 4) C dX2_cutTime_1 (by decide) ?_
  refine z_xsv (rest := []) C (c_X2_checkSlot l hfl D cI cJ _ p1 (4 : Int32) ) q_X2_checkSlot gX2_cutTime_X2_checkSlot ⟨rfl, rfl⟩ rfl rfl (Nat.le_of_ble_eq_true rfl) ⟨Nat.le_of_ble_eq_true rfl, Nat.le_of_ble_eq_true rfl⟩ ⟨Nat.le_of_ble_eq_true rfl, Nat.le_of_ble_eq_true rfl⟩ dX2_cutTime_2 (fun h1 => ?_) (fun E h1 h1_E => ?_)
  · refine z_iload_n C dX2_cutTime_5 rfl 3 rfl ?_
    refine z_iconst (v := 4) C dX2_cutTime_6 (by decide) ?_
    refine z_xsv (rest := []) C (c_X2_checkSlot l hfl D cI cJ _ p3 (4 : Int32) ) q_X2_checkSlot gX2_cutTime_X2_checkSlot ⟨rfl, rfl⟩ rfl rfl (Nat.le_of_ble_eq_true rfl) ⟨Nat.le_of_ble_eq_true rfl, Nat.le_of_ble_eq_true rfl⟩ ⟨Nat.le_of_ble_eq_true rfl, Nat.le_of_ble_eq_true rfl⟩ dX2_cutTime_7 (fun h2 => ?_) (fun E h2 h2_E => ?_)
    · refine z_aload_n C dX2_cutTime_10 rfl 0 rfl ?_
      refine z_get (CC := RX2) (T := TX2) (N := 10) (ci := 2) C hin 0 rfl rfl 5 (by decide) w1 rfl rfl dX2_cutTime_11 ?_
      refine z_iload_n C dX2_cutTime_14 rfl 1 rfl ?_
      refine z_lald C 6 1 rfl rfl (vpS4 h1) dX2_cutTime_15 ?_
      refine z_lstore (lv' := [(4, .long (ti p1.toNatClampNeg)), (0, .ref (y 0)), (1, .int p1), (2, .int p2), (3, .int p3)]) C dX2_cutTime_16 (by decide) rfl ?_
      refine z_iload_n C dX2_cutTime_18 rfl 3 rfl ?_
      refine zcases (p2 = 100) (fun h3 => ?_) (fun h3 => ?_)
      · refine z_lookup (off := 95) (tgt := 114) C dX2_cutTime_19 (by decide) (by rw [h3]; decide) (by decide) ?_
        refine z_aload_n C dX2_cutTime_114 rfl 1 rfl ?_
        refine z_get (CC := RX2) (T := TX2) (N := 10) (ci := 2) C hin 0 rfl rfl 5 (by decide) w1 rfl rfl dX2_cutTime_115 ?_
        refine z_iload_n C dX2_cutTime_118 rfl 4 rfl ?_
        refine z_lconst (v := 0) C dX2_cutTime_119 (by decide) ?_
        refine z_last C 6 1 rfl rfl (vpS4 h2) (ws' := (wY cI cJ y d sy sm sd mi (vp_updL ti p3.toNatClampNeg 0) sL bL mD mT X)) rfl dX2_cutTime_120 ?_
        refine z_goto (tgt := 134) C dX2_cutTime_121 (by decide) ?_
        refine z_aload_n C dX2_cutTime_134 rfl 1 rfl ?_
        refine z_get (CC := RX2) (T := TX2) (N := 10) (ci := 2) C hin 0 rfl rfl 5 (by decide) w1 rfl rfl dX2_cutTime_135 ?_
        refine z_iload_n C dX2_cutTime_138 rfl 4 rfl ?_
        refine z_lald C 6 1 rfl rfl (vpS4 h2) dX2_cutTime_139 ?_
        exact z_lret C ⟨by rw [k_X2_cutTime, if_pos h1, if_pos h2, if_pos h3], congrArg (fun v => some (Value.long v)) (by rw [f_X2_cutTime, if_pos h1, if_pos h2, if_pos h3] : ((vp_updL ti p3.toNatClampNeg 0) p3.toNatClampNeg) = (f_X2_cutTime ti p1 p2 p3)), by rw [s_X2_cutTime_ti, if_pos h1, if_pos h2, if_pos h3]⟩ (by decide) (by decide) dX2_cutTime_140
      · refine zcases (p2 = 104) (fun h4 => ?_) (fun h4 => ?_)
        · refine z_lookup (off := 41) (tgt := 60) C dX2_cutTime_19 (by decide) (by rw [h4]; decide) (by decide) ?_
          refine z_aload_n C dX2_cutTime_60 rfl 1 rfl ?_
          refine z_get (CC := RX2) (T := TX2) (N := 10) (ci := 2) C hin 0 rfl rfl 5 (by decide) w1 rfl rfl dX2_cutTime_61 ?_
          refine z_iload_n C dX2_cutTime_64 rfl 4 rfl ?_
          refine z_lload C dX2_cutTime_65 0 rfl ?_
          refine z_lload C dX2_cutTime_67 0 rfl ?_
          refine z_ldc2 (v := 3600000000000) C w2 dX2_cutTime_69 ?_
          refine z_lrem C dX2_cutTime_72 (by decide) ?_
          refine z_lsub C dX2_cutTime_73 ?_
          refine z_last C 6 1 rfl rfl (vpS4 h2) (ws' := (wY cI cJ y d sy sm sd mi (vp_updL ti p3.toNatClampNeg ((ti p1.toNatClampNeg) - ((ti p1.toNatClampNeg) - (ti p1.toNatClampNeg) / 3600000000000 * 3600000000000))) sL bL mD mT X)) rfl dX2_cutTime_74 ?_
          refine z_goto (tgt := 134) C dX2_cutTime_75 (by decide) ?_
          refine z_aload_n C dX2_cutTime_134 rfl 1 rfl ?_
          refine z_get (CC := RX2) (T := TX2) (N := 10) (ci := 2) C hin 0 rfl rfl 5 (by decide) w1 rfl rfl dX2_cutTime_135 ?_
          refine z_iload_n C dX2_cutTime_138 rfl 4 rfl ?_
          refine z_lald C 6 1 rfl rfl (vpS4 h2) dX2_cutTime_139 ?_
          exact z_lret C ⟨by rw [k_X2_cutTime, if_pos h1, if_pos h2, if_neg h3, if_pos h4], congrArg (fun v => some (Value.long v)) (by rw [f_X2_cutTime, if_pos h1, if_pos h2, if_neg h3, if_pos h4] : ((vp_updL ti p3.toNatClampNeg ((ti p1.toNatClampNeg) - ((ti p1.toNatClampNeg) - (ti p1.toNatClampNeg) / 3600000000000 * 3600000000000))) p3.toNatClampNeg) = (f_X2_cutTime ti p1 p2 p3)), by rw [s_X2_cutTime_ti, if_pos h1, if_pos h2, if_neg h3, if_pos h4]⟩ (by decide) (by decide) dX2_cutTime_140
        · refine zcases (p2 = 109) (fun h5 => ?_) (fun h5 => ?_)
          · refine z_lookup (off := 59) (tgt := 78) C dX2_cutTime_19 (by decide) (by rw [h5]; decide) (by decide) ?_
            refine z_aload_n C dX2_cutTime_78 rfl 1 rfl ?_
            refine z_get (CC := RX2) (T := TX2) (N := 10) (ci := 2) C hin 0 rfl rfl 5 (by decide) w1 rfl rfl dX2_cutTime_79 ?_
            refine z_iload_n C dX2_cutTime_82 rfl 4 rfl ?_
            refine z_lload C dX2_cutTime_83 0 rfl ?_
            refine z_lload C dX2_cutTime_85 0 rfl ?_
            refine z_ldc2 (v := 60000000000) C w3 dX2_cutTime_87 ?_
            refine z_lrem C dX2_cutTime_90 (by decide) ?_
            refine z_lsub C dX2_cutTime_91 ?_
            refine z_last C 6 1 rfl rfl (vpS4 h2) (ws' := (wY cI cJ y d sy sm sd mi (vp_updL ti p3.toNatClampNeg ((ti p1.toNatClampNeg) - ((ti p1.toNatClampNeg) - (ti p1.toNatClampNeg) / 60000000000 * 60000000000))) sL bL mD mT X)) rfl dX2_cutTime_92 ?_
            refine z_goto (tgt := 134) C dX2_cutTime_93 (by decide) ?_
            refine z_aload_n C dX2_cutTime_134 rfl 1 rfl ?_
            refine z_get (CC := RX2) (T := TX2) (N := 10) (ci := 2) C hin 0 rfl rfl 5 (by decide) w1 rfl rfl dX2_cutTime_135 ?_
            refine z_iload_n C dX2_cutTime_138 rfl 4 rfl ?_
            refine z_lald C 6 1 rfl rfl (vpS4 h2) dX2_cutTime_139 ?_
            exact z_lret C ⟨by rw [k_X2_cutTime, if_pos h1, if_pos h2, if_neg h3, if_neg h4, if_pos h5], congrArg (fun v => some (Value.long v)) (by rw [f_X2_cutTime, if_pos h1, if_pos h2, if_neg h3, if_neg h4, if_pos h5] : ((vp_updL ti p3.toNatClampNeg ((ti p1.toNatClampNeg) - ((ti p1.toNatClampNeg) - (ti p1.toNatClampNeg) / 60000000000 * 60000000000))) p3.toNatClampNeg) = (f_X2_cutTime ti p1 p2 p3)), by rw [s_X2_cutTime_ti, if_pos h1, if_pos h2, if_neg h3, if_neg h4, if_pos h5]⟩ (by decide) (by decide) dX2_cutTime_140
          · refine zcases (p2 = 115) (fun h6 => ?_) (fun h6 => ?_)
            · refine z_lookup (off := 77) (tgt := 96) C dX2_cutTime_19 (by decide) (by rw [h6]; decide) (by decide) ?_
              refine z_aload_n C dX2_cutTime_96 rfl 1 rfl ?_
              refine z_get (CC := RX2) (T := TX2) (N := 10) (ci := 2) C hin 0 rfl rfl 5 (by decide) w1 rfl rfl dX2_cutTime_97 ?_
              refine z_iload_n C dX2_cutTime_100 rfl 4 rfl ?_
              refine z_lload C dX2_cutTime_101 0 rfl ?_
              refine z_lload C dX2_cutTime_103 0 rfl ?_
              refine z_ldc2 (v := 1000000000) C w4 dX2_cutTime_105 ?_
              refine z_lrem C dX2_cutTime_108 (by decide) ?_
              refine z_lsub C dX2_cutTime_109 ?_
              refine z_last C 6 1 rfl rfl (vpS4 h2) (ws' := (wY cI cJ y d sy sm sd mi (vp_updL ti p3.toNatClampNeg ((ti p1.toNatClampNeg) - ((ti p1.toNatClampNeg) - (ti p1.toNatClampNeg) / 1000000000 * 1000000000))) sL bL mD mT X)) rfl dX2_cutTime_110 ?_
              refine z_goto (tgt := 134) C dX2_cutTime_111 (by decide) ?_
              refine z_aload_n C dX2_cutTime_134 rfl 1 rfl ?_
              refine z_get (CC := RX2) (T := TX2) (N := 10) (ci := 2) C hin 0 rfl rfl 5 (by decide) w1 rfl rfl dX2_cutTime_135 ?_
              refine z_iload_n C dX2_cutTime_138 rfl 4 rfl ?_
              refine z_lald C 6 1 rfl rfl (vpS4 h2) dX2_cutTime_139 ?_
              exact z_lret C ⟨by rw [k_X2_cutTime, if_pos h1, if_pos h2, if_neg h3, if_neg h4, if_neg h5, if_pos h6], congrArg (fun v => some (Value.long v)) (by rw [f_X2_cutTime, if_pos h1, if_pos h2, if_neg h3, if_neg h4, if_neg h5, if_pos h6] : ((vp_updL ti p3.toNatClampNeg ((ti p1.toNatClampNeg) - ((ti p1.toNatClampNeg) - (ti p1.toNatClampNeg) / 1000000000 * 1000000000))) p3.toNatClampNeg) = (f_X2_cutTime ti p1 p2 p3)), by rw [s_X2_cutTime_ti, if_pos h1, if_pos h2, if_neg h3, if_neg h4, if_neg h5, if_pos h6]⟩ (by decide) (by decide) dX2_cutTime_140
            · refine z_lookup (off := 105) (tgt := 124) C dX2_cutTime_19 (by decide) (zlk4 h3 h4 h5 h6) (by decide) ?_
              obtain ⟨sa, hsa⟩ := C.2.2.2.2.2.1.1 (219, _) (List.mem_of_getElem? (i := 8) rfl)
              exact z_throwS C hno (cls := "java/lang/IllegalArgumentException") (names := ["java/lang/RuntimeException", "java/lang/Exception"]) (by decide +kernel) (by decide +kernel) w5 w6 hsa (z_hat RX2 105 "java/lang/IllegalArgumentException" ["java/lang/RuntimeException", "java/lang/Exception"] zg_105 (fun w hw => C.1.2.2.2.2 w ((by decide +kernel : ∀ w ∈ (vx_atS RX2 105 "java/lang/IllegalArgumentException" ["java/lang/RuntimeException", "java/lang/Exception"]).filter goodWord, w ∈ wsX2_cutTime) w hw)) C.2.2.2.2.2.1 (by decide : "java/lang/IllegalArgumentException" ∈ zCs)) zo_105 dX2_cutTime_124 dX2_cutTime_127 dX2_cutTime_128 dX2_cutTime_130 dX2_cutTime_133 (by decide) (Nat.le_of_ble_eq_true rfl) (Nat.le_of_ble_eq_true rfl) (Nat.le_of_ble_eq_true rfl) (Nat.le_of_ble_eq_true rfl) (Nat.le_of_ble_eq_true rfl) ⟨rfl, by rw [k_X2_cutTime, if_pos h1, if_pos h2, if_neg h3, if_neg h4, if_neg h5, if_neg h6]; exact zEx2⟩
    · exact z_tout C hno ⟨rfl, by rw [k_X2_cutTime, if_pos h1, if_neg h2]; exact h2_E⟩ (by decide) (by decide)
  · exact z_tout C hno ⟨rfl, by rw [k_X2_cutTime, if_neg h1]; exact h1_E⟩ (by decide) (by decide)
def f_X2_goTime_j1 (sL : Nat → Int64) (bL : Nat → Int64) (p2 : Int32) (p3 : Int32) : Int64 := (if p3 = 0 then ((f_X0_restOfDay (sL p2.toNatClampNeg) 86400) + (bL p2.toNatClampNeg)) else (-((f_X0_restOfDay (sL p2.toNatClampNeg) 86400) + (bL p2.toNatClampNeg))))
def f_X2_goTime (ti : Nat → Int64) (sL : Nat → Int64) (bL : Nat → Int64) (p1 : Int32) (p2 : Int32) (p3 : Int32) (p4 : Int32) : Int64 := (if k_X2_checkSlot p1 4 = 0 then (if k_X2_checkSlot p2 4 = 0 then (if k_X2_checkSlot p4 4 = 0 then ((vp_updL ti p4.toNatClampNeg (f_X0_roundDay ((ti p1.toNatClampNeg) + (f_X2_goTime_j1 sL bL p2 p3)))) p4.toNatClampNeg) else 0) else 0) else 0)
def s_X2_goTime_ti (ti : Nat → Int64) (sL : Nat → Int64) (bL : Nat → Int64) (p1 : Int32) (p2 : Int32) (p3 : Int32) (p4 : Int32) : Nat → Int64 := (if k_X2_checkSlot p1 4 = 0 then (if k_X2_checkSlot p2 4 = 0 then (if k_X2_checkSlot p4 4 = 0 then (vp_updL ti p4.toNatClampNeg (f_X0_roundDay ((ti p1.toNatClampNeg) + (f_X2_goTime_j1 sL bL p2 p3)))) else ti) else ti) else ti)
def k_X2_goTime (p1 : Int32) (p2 : Int32) (p4 : Int32) : Int32 := (if k_X2_checkSlot p1 4 = 0 then (if k_X2_checkSlot p2 4 = 0 then (if k_X2_checkSlot p4 4 = 0 then 0 else k_X2_checkSlot p4 4) else k_X2_checkSlot p2 4) else k_X2_checkSlot p1 4)
theorem q_X2_goTime : ZY yX2_goTime wsX2_goTime cX2_goTime 7 (some .long) 4 := ⟨⟨_, rfl⟩, by decide +kernel, by decide +kernel, by decide +kernel⟩
set_option maxHeartbeats 4000000 in
set_option maxRecDepth 100000 in
theorem c_X2_goTime (l : Launch) (hfl : l.stackTraces = false) (D : va_G) (cI cJ : ClassId) (X : va_W) (y : Nat → Nat) (d : Nat → Int64) (sy : Nat → Int32) (sm : Nat → Int32) (sd : Nat → Int32) (mi : Nat → Int32) (ti : Nat → Int64) (sL : Nat → Int64) (bL : Nat → Int64) (mD : Nat → Int64) (mT : Nat → Int64) (p1 : Int32) (p2 : Int32) (p3 : Int32) (p4 : Int32)  : ZM l yX2_goTime wsX2_goTime { frames := 7, cells := 3, slots := 18, locals := 103 } [.ref (y 0), .int p1, .int p2, .int p3, .int p4] D (zTys cI cJ) (wY cI cJ y d sy sm sd mi ti sL bL mD mT X) 3 18 (fun v w => k_X2_goTime p1 p2 p4 = 0 ∧ v = some (.long (f_X2_goTime ti sL bL p1 p2 p3 p4)) ∧ w = (wY cI cJ y d sy sm sd mi (s_X2_goTime_ti ti sL bL p1 p2 p3 p4) sL bL mD mT X)) (fun E w => w = (wY cI cJ y d sy sm sd mi ti sL bL mD mT X) ∧ zEx E (k_X2_goTime p1 p2 p4)) := by
  refine z_open (own := RX2) hfl (cc := cX2_goTime) (maxL := 7) (ret := (some .long)) (lv := [(0, .ref (y 0)), (1, .int p1), (2, .int p2), (3, .int p3), (4, .int p4)]) rfl (by decide) rfl rfl (Nat.le_of_ble_eq_true rfl) ?_
  intro p e s m args below meth c A C hno hnm hargs
  have hin : ∀ w ∈ wsX20, w ∈ wsX2_goTime := by decide +kernel
  have w1 := C.1.2.2.2.2 (.fieldLink RX2 29 "Yearwheel" "lengthSeconds" "[J") (by decide +kernel)
  have w2 := C.1.2.2.2.2 (.constantLong RX2 221 (86400)) (by decide +kernel)
  have w3 := C.1.2.2.2.2 (.fieldLink RX2 32 "Yearwheel" "lengthBillionths" "[J") (by decide +kernel)
  have w4 := C.1.2.2.2.2 (.fieldLink RX2 26 "Yearwheel" "times" "[J") (by decide +kernel)
  refine z_iload_n C dX2_goTime_0 rfl 1 rfl ?_
  refine z_iconst (v := 4) C dX2_goTime_1 (by decide) ?_
  refine z_xsv (rest := []) C (c_X2_checkSlot l hfl D cI cJ _ p1 (4 : Int32) ) q_X2_checkSlot gX2_goTime_X2_checkSlot ⟨rfl, rfl⟩ rfl rfl (Nat.le_of_ble_eq_true rfl) ⟨Nat.le_of_ble_eq_true rfl, Nat.le_of_ble_eq_true rfl⟩ ⟨Nat.le_of_ble_eq_true rfl, Nat.le_of_ble_eq_true rfl⟩ dX2_goTime_2 (fun h1 => ?_) (fun E h1 h1_E => ?_)
  · refine z_iload_n C dX2_goTime_5 rfl 2 rfl ?_
    refine z_iconst (v := 4) C dX2_goTime_6 (by decide) ?_
    refine z_xsv (rest := []) C (c_X2_checkSlot l hfl D cI cJ _ p2 (4 : Int32) ) q_X2_checkSlot gX2_goTime_X2_checkSlot ⟨rfl, rfl⟩ rfl rfl (Nat.le_of_ble_eq_true rfl) ⟨Nat.le_of_ble_eq_true rfl, Nat.le_of_ble_eq_true rfl⟩ ⟨Nat.le_of_ble_eq_true rfl, Nat.le_of_ble_eq_true rfl⟩ dX2_goTime_7 (fun h2 => ?_) (fun E h2 h2_E => ?_)
    · refine z_iload C dX2_goTime_10 4 rfl ?_
      refine z_iconst (v := 4) C dX2_goTime_12 (by decide) ?_
      refine z_xsv (rest := []) C (c_X2_checkSlot l hfl D cI cJ _ p4 (4 : Int32) ) q_X2_checkSlot gX2_goTime_X2_checkSlot ⟨rfl, rfl⟩ rfl rfl (Nat.le_of_ble_eq_true rfl) ⟨Nat.le_of_ble_eq_true rfl, Nat.le_of_ble_eq_true rfl⟩ ⟨Nat.le_of_ble_eq_true rfl, Nat.le_of_ble_eq_true rfl⟩ dX2_goTime_13 (fun h3 => ?_) (fun E h3 h3_E => ?_)
      · refine z_aload_n C dX2_goTime_16 rfl 0 rfl ?_
        refine z_get (CC := RX2) (T := TX2) (N := 10) (ci := 2) C hin 0 rfl rfl 6 (by decide) w1 rfl rfl dX2_goTime_17 ?_
        refine z_iload_n C dX2_goTime_20 rfl 2 rfl ?_
        refine z_lald C 7 1 rfl rfl (vpS4 h2) dX2_goTime_21 ?_
        refine z_ldc2 (v := 86400) C w2 dX2_goTime_22 ?_
        refine z_sl (rest := []) C (c_X0_restOfDay l hfl D cI cJ _ (sL p2.toNatClampNeg) (86400 : Int64) ) q_X0_restOfDay gX2_goTime_X0_restOfDay ⟨rfl, rfl⟩ rfl rfl (Nat.le_of_ble_eq_true rfl) ⟨Nat.le_of_ble_eq_true rfl, Nat.le_of_ble_eq_true rfl⟩ ⟨Nat.le_of_ble_eq_true rfl, Nat.le_of_ble_eq_true rfl⟩ dX2_goTime_25 ?_
        refine z_aload_n C dX2_goTime_28 rfl 0 rfl ?_
        refine z_get (CC := RX2) (T := TX2) (N := 10) (ci := 2) C hin 0 rfl rfl 7 (by decide) w3 rfl rfl dX2_goTime_29 ?_
        refine z_iload_n C dX2_goTime_32 rfl 2 rfl ?_
        refine z_lald C 8 1 rfl rfl (vpS4 h2) dX2_goTime_33 ?_
        refine z_ladd C dX2_goTime_34 ?_
        refine z_lstore (lv' := [(5, .long ((f_X0_restOfDay (sL p2.toNatClampNeg) 86400) + (bL p2.toNatClampNeg))), (0, .ref (y 0)), (1, .int p1), (2, .int p2), (3, .int p3), (4, .int p4)]) C dX2_goTime_35 (by decide) rfl ?_
        refine z_aload_n C dX2_goTime_37 rfl 1 rfl ?_
        refine z_get (CC := RX2) (T := TX2) (N := 10) (ci := 2) C hin 0 rfl rfl 5 (by decide) w4 rfl rfl dX2_goTime_38 ?_
        refine z_iload C dX2_goTime_41 5 rfl ?_
        refine z_aload_n C dX2_goTime_43 rfl 1 rfl ?_
        refine z_get (CC := RX2) (T := TX2) (N := 10) (ci := 2) C hin 0 rfl rfl 5 (by decide) w4 rfl rfl dX2_goTime_44 ?_
        refine z_iload_n C dX2_goTime_47 rfl 2 rfl ?_
        refine z_lald C 6 1 rfl rfl (vpS4 h1) dX2_goTime_48 ?_
        refine z_iload_n C dX2_goTime_49 rfl 4 rfl ?_
        have K1 : ∀ (v1_0 : Int64), v1_0 = (f_X2_goTime_j1 sL bL p2 p3) → ZW p l e { frames := 7, cells := 3, slots := 18, locals := 103 } s m args below meth c 7 D (zTys cI cJ) A (zE D (zTys cI cJ) A below args s (fun v w => k_X2_goTime p1 p2 p4 = 0 ∧ v = some (.long (f_X2_goTime ti sL bL p1 p2 p3 p4)) ∧ w = (wY cI cJ y d sy sm sd mi (s_X2_goTime_ti ti sL bL p1 p2 p3 p4) sL bL mD mT X)) (fun E w => w = (wY cI cJ y d sy sm sd mi ti sL bL mD mT X) ∧ zEx E (k_X2_goTime p1 p2 p4)) 3 18) 3 18 (wY cI cJ y d sy sm sd mi ti sL bL mD mT X) 61 [(5, .long ((f_X0_restOfDay (sL p2.toNatClampNeg) 86400) + (bL p2.toNatClampNeg))), (0, .ref (y 0)), (1, .int p1), (2, .int p2), (3, .int p3), (4, .int p4)] [.long v1_0, .long (ti p1.toNatClampNeg), .int p4, .ref (y 6)] := by
          rintro _ rfl
          refine z_ladd C dX2_goTime_61 ?_
          refine z_sl (rest := [.int p4, .ref (y 6)]) C (c_X0_roundDay l hfl D cI cJ _ ((ti p1.toNatClampNeg) + (f_X2_goTime_j1 sL bL p2 p3)) ) q_X0_roundDay gX2_goTime_X0_roundDay ⟨rfl, rfl⟩ rfl rfl (Nat.le_of_ble_eq_true rfl) ⟨Nat.le_of_ble_eq_true rfl, Nat.le_of_ble_eq_true rfl⟩ ⟨Nat.le_of_ble_eq_true rfl, Nat.le_of_ble_eq_true rfl⟩ dX2_goTime_62 ?_
          refine z_last C 6 1 rfl rfl (vpS4 h3) (ws' := (wY cI cJ y d sy sm sd mi (vp_updL ti p4.toNatClampNeg (f_X0_roundDay ((ti p1.toNatClampNeg) + (f_X2_goTime_j1 sL bL p2 p3)))) sL bL mD mT X)) rfl dX2_goTime_65 ?_
          refine z_aload_n C dX2_goTime_66 rfl 1 rfl ?_
          refine z_get (CC := RX2) (T := TX2) (N := 10) (ci := 2) C hin 0 rfl rfl 5 (by decide) w4 rfl rfl dX2_goTime_67 ?_
          refine z_iload C dX2_goTime_70 5 rfl ?_
          refine z_lald C 6 1 rfl rfl (vpS4 h3) dX2_goTime_72 ?_
          exact z_lret C ⟨by rw [k_X2_goTime, if_pos h1, if_pos h2, if_pos h3], congrArg (fun v => some (Value.long v)) (by rw [f_X2_goTime, if_pos h1, if_pos h2, if_pos h3] : ((vp_updL ti p4.toNatClampNeg (f_X0_roundDay ((ti p1.toNatClampNeg) + (f_X2_goTime_j1 sL bL p2 p3)))) p4.toNatClampNeg) = (f_X2_goTime ti sL bL p1 p2 p3 p4)), by rw [s_X2_goTime_ti, if_pos h1, if_pos h2, if_pos h3]⟩ (by decide) (by decide) dX2_goTime_73
        refine z_if_eq (tgt := 59) C dX2_goTime_50 (by decide) (fun h4 => ?_) (fun h4 => ?_)
        · refine z_lload C dX2_goTime_59 0 rfl ?_
          exact K1 _ (by rw [f_X2_goTime_j1, if_pos h4])
        · refine z_lload C dX2_goTime_53 0 rfl ?_
          refine z_lneg C dX2_goTime_55 ?_
          refine z_goto (tgt := 61) C dX2_goTime_56 (by decide) ?_
          exact K1 _ (by rw [f_X2_goTime_j1, if_neg h4])
      · exact z_tout C hno ⟨rfl, by rw [k_X2_goTime, if_pos h1, if_pos h2, if_neg h3]; exact h3_E⟩ (by decide) (by decide)
    · exact z_tout C hno ⟨rfl, by rw [k_X2_goTime, if_pos h1, if_neg h2]; exact h2_E⟩ (by decide) (by decide)
  · exact z_tout C hno ⟨rfl, by rw [k_X2_goTime, if_neg h1]; exact h1_E⟩ (by decide) (by decide)
def f_X2_orderTimes (ti : Nat → Int64) (p1 : Int32) (p2 : Int32) : Int32 := (if k_X2_checkSlot p1 4 = 0 then (if k_X2_checkSlot p2 4 = 0 then (f_X2_sign (ti p1.toNatClampNeg) (ti p2.toNatClampNeg)) else 0) else 0)
def k_X2_orderTimes (p1 : Int32) (p2 : Int32) : Int32 := (if k_X2_checkSlot p1 4 = 0 then (if k_X2_checkSlot p2 4 = 0 then 0 else k_X2_checkSlot p2 4) else k_X2_checkSlot p1 4)
theorem q_X2_orderTimes : ZY yX2_orderTimes wsX2_orderTimes cX2_orderTimes 3 (some .int) 2 := ⟨⟨_, rfl⟩, by decide +kernel, by decide +kernel, by decide +kernel⟩
set_option maxHeartbeats 4000000 in
set_option maxRecDepth 100000 in
theorem c_X2_orderTimes (l : Launch) (hfl : l.stackTraces = false) (D : va_G) (cI cJ : ClassId) (X : va_W) (y : Nat → Nat) (d : Nat → Int64) (sy : Nat → Int32) (sm : Nat → Int32) (sd : Nat → Int32) (mi : Nat → Int32) (ti : Nat → Int64) (sL : Nat → Int64) (bL : Nat → Int64) (mD : Nat → Int64) (mT : Nat → Int64) (p1 : Int32) (p2 : Int32)  : ZM l yX2_orderTimes wsX2_orderTimes { frames := 7, cells := 2, slots := 12, locals := 103 } [.ref (y 0), .int p1, .int p2] D (zTys cI cJ) (wY cI cJ y d sy sm sd mi ti sL bL mD mT X) 2 12 (fun v w => k_X2_orderTimes p1 p2 = 0 ∧ v = some (.int (f_X2_orderTimes ti p1 p2)) ∧ w = (wY cI cJ y d sy sm sd mi ti sL bL mD mT X)) (fun E w => w = (wY cI cJ y d sy sm sd mi ti sL bL mD mT X) ∧ zEx E (k_X2_orderTimes p1 p2)) := by
  refine z_open (own := RX2) hfl (cc := cX2_orderTimes) (maxL := 3) (ret := (some .int)) (lv := [(0, .ref (y 0)), (1, .int p1), (2, .int p2)]) rfl (by decide) rfl rfl (Nat.le_of_ble_eq_true rfl) ?_
  intro p e s m args below meth c A C hno hnm hargs
  have hin : ∀ w ∈ wsX20, w ∈ wsX2_orderTimes := by decide +kernel
  have w1 := C.1.2.2.2.2 (.fieldLink RX2 26 "Yearwheel" "times" "[J") (by decide +kernel)
  refine z_iload_n C dX2_orderTimes_0 rfl 1 rfl ?_
  refine z_iconst (v := 4) C dX2_orderTimes_1 (by decide) ?_
  refine z_xsv (rest := []) C (c_X2_checkSlot l hfl D cI cJ _ p1 (4 : Int32) ) q_X2_checkSlot gX2_orderTimes_X2_checkSlot ⟨rfl, rfl⟩ rfl rfl (Nat.le_of_ble_eq_true rfl) ⟨Nat.le_of_ble_eq_true rfl, Nat.le_of_ble_eq_true rfl⟩ ⟨Nat.le_of_ble_eq_true rfl, Nat.le_of_ble_eq_true rfl⟩ dX2_orderTimes_2 (fun h1 => ?_) (fun E h1 h1_E => ?_)
  · refine z_iload_n C dX2_orderTimes_5 rfl 2 rfl ?_
    refine z_iconst (v := 4) C dX2_orderTimes_6 (by decide) ?_
    refine z_xsv (rest := []) C (c_X2_checkSlot l hfl D cI cJ _ p2 (4 : Int32) ) q_X2_checkSlot gX2_orderTimes_X2_checkSlot ⟨rfl, rfl⟩ rfl rfl (Nat.le_of_ble_eq_true rfl) ⟨Nat.le_of_ble_eq_true rfl, Nat.le_of_ble_eq_true rfl⟩ ⟨Nat.le_of_ble_eq_true rfl, Nat.le_of_ble_eq_true rfl⟩ dX2_orderTimes_7 (fun h2 => ?_) (fun E h2 h2_E => ?_)
    · refine z_aload_n C dX2_orderTimes_10 rfl 0 rfl ?_
      refine z_get (CC := RX2) (T := TX2) (N := 10) (ci := 2) C hin 0 rfl rfl 5 (by decide) w1 rfl rfl dX2_orderTimes_11 ?_
      refine z_iload_n C dX2_orderTimes_14 rfl 1 rfl ?_
      refine z_lald C 6 1 rfl rfl (vpS4 h1) dX2_orderTimes_15 ?_
      refine z_aload_n C dX2_orderTimes_16 rfl 0 rfl ?_
      refine z_get (CC := RX2) (T := TX2) (N := 10) (ci := 2) C hin 0 rfl rfl 5 (by decide) w1 rfl rfl dX2_orderTimes_17 ?_
      refine z_iload_n C dX2_orderTimes_20 rfl 2 rfl ?_
      refine z_lald C 6 1 rfl rfl (vpS4 h2) dX2_orderTimes_21 ?_
      refine z_si (rest := []) C (c_X2_sign l hfl D cI cJ _ (ti p1.toNatClampNeg) (ti p2.toNatClampNeg) ) q_X2_sign gX2_orderTimes_X2_sign ⟨rfl, rfl⟩ rfl rfl (Nat.le_of_ble_eq_true rfl) ⟨Nat.le_of_ble_eq_true rfl, Nat.le_of_ble_eq_true rfl⟩ ⟨Nat.le_of_ble_eq_true rfl, Nat.le_of_ble_eq_true rfl⟩ dX2_orderTimes_22 ?_
      exact z_iret C ⟨by rw [k_X2_orderTimes, if_pos h1, if_pos h2], congrArg (fun v => some (Value.int v)) (by rw [f_X2_orderTimes, if_pos h1, if_pos h2] : (f_X2_sign (ti p1.toNatClampNeg) (ti p2.toNatClampNeg)) = (f_X2_orderTimes ti p1 p2)), rfl⟩ (by decide) (by decide) dX2_orderTimes_25
    · exact z_tout C hno ⟨rfl, by rw [k_X2_orderTimes, if_pos h1, if_neg h2]; exact h2_E⟩ (by decide) (by decide)
  · exact z_tout C hno ⟨rfl, by rw [k_X2_orderTimes, if_neg h1]; exact h1_E⟩ (by decide) (by decide)
def f_X2_length (p1 : Int32) (p2 : Int64) (p3 : Int64) : Int64 := (if k_X2_checkSlot p1 4 = 0 then (if k_X2_checkArgument (f_X2_isIn p2 (-1000000000000) 1000000000000) = 0 then (if k_X2_checkArgument (f_X2_isIn p3 (-1000000000000000) 1000000000000000) = 0 then (if k_X2_keepLength p2 p3 = 0 then (f_X2_keepLength p2 p3) else 0) else 0) else 0) else 0)
def s_X2_length_sL (sL : Nat → Int64) (p1 : Int32) (p2 : Int64) (p3 : Int64) : Nat → Int64 := (if k_X2_checkSlot p1 4 = 0 then (if k_X2_checkArgument (f_X2_isIn p2 (-1000000000000) 1000000000000) = 0 then (if k_X2_checkArgument (f_X2_isIn p3 (-1000000000000000) 1000000000000000) = 0 then (if k_X2_keepLength p2 p3 = 0 then (s_X2_keepLength_sL sL p1 p2 p3) else sL) else sL) else sL) else sL)
def s_X2_length_bL (bL : Nat → Int64) (p1 : Int32) (p2 : Int64) (p3 : Int64) : Nat → Int64 := (if k_X2_checkSlot p1 4 = 0 then (if k_X2_checkArgument (f_X2_isIn p2 (-1000000000000) 1000000000000) = 0 then (if k_X2_checkArgument (f_X2_isIn p3 (-1000000000000000) 1000000000000000) = 0 then (if k_X2_keepLength p2 p3 = 0 then (s_X2_keepLength_bL bL p1 p2 p3) else bL) else bL) else bL) else bL)
def k_X2_length (p1 : Int32) (p2 : Int64) (p3 : Int64) : Int32 := (if k_X2_checkSlot p1 4 = 0 then (if k_X2_checkArgument (f_X2_isIn p2 (-1000000000000) 1000000000000) = 0 then (if k_X2_checkArgument (f_X2_isIn p3 (-1000000000000000) 1000000000000000) = 0 then (if k_X2_keepLength p2 p3 = 0 then 0 else k_X2_keepLength p2 p3) else k_X2_checkArgument (f_X2_isIn p3 (-1000000000000000) 1000000000000000)) else k_X2_checkArgument (f_X2_isIn p2 (-1000000000000) 1000000000000)) else k_X2_checkSlot p1 4)
theorem q_X2_length : ZY yX2_length wsX2_length cX2_length 6 (some .long) 3 := ⟨⟨_, rfl⟩, by decide +kernel, by decide +kernel, by decide +kernel⟩
set_option maxHeartbeats 4000000 in
set_option maxRecDepth 100000 in
theorem c_X2_length (l : Launch) (hfl : l.stackTraces = false) (D : va_G) (cI cJ : ClassId) (X : va_W) (y : Nat → Nat) (d : Nat → Int64) (sy : Nat → Int32) (sm : Nat → Int32) (sd : Nat → Int32) (mi : Nat → Int32) (ti : Nat → Int64) (sL : Nat → Int64) (bL : Nat → Int64) (mD : Nat → Int64) (mT : Nat → Int64) (p1 : Int32) (p2 : Int64) (p3 : Int64)  : ZM l yX2_length wsX2_length { frames := 8, cells := 4, slots := 24, locals := 131 } [.ref (y 0), .int p1, .long p2, .long p3] D (zTys cI cJ) (wY cI cJ y d sy sm sd mi ti sL bL mD mT X) 4 24 (fun v w => k_X2_length p1 p2 p3 = 0 ∧ v = some (.long (f_X2_length p1 p2 p3)) ∧ w = (wY cI cJ y d sy sm sd mi ti (s_X2_length_sL sL p1 p2 p3) (s_X2_length_bL bL p1 p2 p3) mD mT X)) (fun E w => w = (wY cI cJ y d sy sm sd mi ti sL bL mD mT X) ∧ zEx E (k_X2_length p1 p2 p3)) := by
  refine z_open (own := RX2) hfl (cc := cX2_length) (maxL := 6) (ret := (some .long)) (lv := [(0, .ref (y 0)), (1, .int p1), (2, .long p2), (4, .long p3)]) rfl (by decide) rfl rfl (Nat.le_of_ble_eq_true rfl) ?_
  intro p e s m args below meth c A C hno hnm hargs
  have hin : ∀ w ∈ wsX20, w ∈ wsX2_length := by decide +kernel
  have w1 := C.1.2.2.2.2 (.constantLong RX2 223 (-1000000000000)) (by decide +kernel)
  have w2 := C.1.2.2.2.2 (.constantLong RX2 225 (1000000000000)) (by decide +kernel)
  have w3 := C.1.2.2.2.2 (.constantLong RX2 209 (-1000000000000000)) (by decide +kernel)
  have w4 := C.1.2.2.2.2 (.constantLong RX2 211 (1000000000000000)) (by decide +kernel)
  refine z_iload_n C dX2_length_0 rfl 1 rfl ?_
  refine z_iconst (v := 4) C dX2_length_1 (by decide) ?_
  refine z_xsv (rest := []) C (c_X2_checkSlot l hfl D cI cJ _ p1 (4 : Int32) ) q_X2_checkSlot gX2_length_X2_checkSlot ⟨rfl, rfl⟩ rfl rfl (Nat.le_of_ble_eq_true rfl) ⟨Nat.le_of_ble_eq_true rfl, Nat.le_of_ble_eq_true rfl⟩ ⟨Nat.le_of_ble_eq_true rfl, Nat.le_of_ble_eq_true rfl⟩ dX2_length_2 (fun h1 => ?_) (fun E h1 h1_E => ?_)
  · refine z_lload_n C dX2_length_5 rfl 2 rfl ?_
    refine z_ldc2 (v := (-1000000000000)) C w1 dX2_length_6 ?_
    refine z_ldc2 (v := 1000000000000) C w2 dX2_length_9 ?_
    refine z_si (rest := []) C (c_X2_isIn l hfl D cI cJ _ p2 ((-1000000000000) : Int64) (1000000000000 : Int64) ) q_X2_isIn gX2_length_X2_isIn ⟨rfl, rfl⟩ rfl rfl (Nat.le_of_ble_eq_true rfl) ⟨Nat.le_of_ble_eq_true rfl, Nat.le_of_ble_eq_true rfl⟩ ⟨Nat.le_of_ble_eq_true rfl, Nat.le_of_ble_eq_true rfl⟩ dX2_length_12 ?_
    refine z_xsv (rest := []) C (c_X2_checkArgument l hfl D cI cJ _ (f_X2_isIn p2 (-1000000000000) 1000000000000) ) q_X2_checkArgument gX2_length_X2_checkArgument ⟨rfl, rfl⟩ rfl rfl (Nat.le_of_ble_eq_true rfl) ⟨Nat.le_of_ble_eq_true rfl, Nat.le_of_ble_eq_true rfl⟩ ⟨Nat.le_of_ble_eq_true rfl, Nat.le_of_ble_eq_true rfl⟩ dX2_length_15 (fun h2 => ?_) (fun E h2 h2_E => ?_)
    · refine z_lload C dX2_length_18 3 rfl ?_
      refine z_ldc2 (v := (-1000000000000000)) C w3 dX2_length_20 ?_
      refine z_ldc2 (v := 1000000000000000) C w4 dX2_length_23 ?_
      refine z_si (rest := []) C (c_X2_isIn l hfl D cI cJ _ p3 ((-1000000000000000) : Int64) (1000000000000000 : Int64) ) q_X2_isIn gX2_length_X2_isIn ⟨rfl, rfl⟩ rfl rfl (Nat.le_of_ble_eq_true rfl) ⟨Nat.le_of_ble_eq_true rfl, Nat.le_of_ble_eq_true rfl⟩ ⟨Nat.le_of_ble_eq_true rfl, Nat.le_of_ble_eq_true rfl⟩ dX2_length_26 ?_
      refine z_xsv (rest := []) C (c_X2_checkArgument l hfl D cI cJ _ (f_X2_isIn p3 (-1000000000000000) 1000000000000000) ) q_X2_checkArgument gX2_length_X2_checkArgument ⟨rfl, rfl⟩ rfl rfl (Nat.le_of_ble_eq_true rfl) ⟨Nat.le_of_ble_eq_true rfl, Nat.le_of_ble_eq_true rfl⟩ ⟨Nat.le_of_ble_eq_true rfl, Nat.le_of_ble_eq_true rfl⟩ dX2_length_29 (fun h3 => ?_) (fun E h3 h3_E => ?_)
      · refine z_aload_n C dX2_length_32 rfl 0 rfl ?_
        refine z_iload_n C dX2_length_33 rfl 1 rfl ?_
        refine z_lload_n C dX2_length_34 rfl 2 rfl ?_
        refine z_lload C dX2_length_35 3 rfl ?_
        refine z_xwl (ws' := (wY cI cJ y d sy sm sd mi ti (s_X2_keepLength_sL sL p1 p2 p3) (s_X2_keepLength_bL bL p1 p2 p3) mD mT X)) (rest := []) (ci := 2) (q0 := 0) C (c_X2_keepLength l hfl D cI cJ X y d sy sm sd mi ti sL bL mD mT p1 p2 p3 (vpS4 h1)) q_X2_keepLength rfl rfl rfl gX2_length_X2_keepLength ⟨rfl, rfl⟩ rfl rfl (Nat.le_of_ble_eq_true rfl) ⟨Nat.le_of_ble_eq_true rfl, Nat.le_of_ble_eq_true rfl⟩ ⟨Nat.le_of_ble_eq_true rfl, Nat.le_of_ble_eq_true rfl⟩ dX2_length_37 (fun h4 => ?_) (fun E h4 h4_E => ?_)
        · exact z_lret C ⟨by rw [k_X2_length, if_pos h1, if_pos h2, if_pos h3, if_pos h4], congrArg (fun v => some (Value.long v)) (by rw [f_X2_length, if_pos h1, if_pos h2, if_pos h3, if_pos h4] : (f_X2_keepLength p2 p3) = (f_X2_length p1 p2 p3)), by rw [s_X2_length_sL, if_pos h1, if_pos h2, if_pos h3, if_pos h4, s_X2_length_bL, if_pos h1, if_pos h2, if_pos h3, if_pos h4]⟩ (by decide) (by decide) dX2_length_40
        · exact z_tout C hno ⟨rfl, by rw [k_X2_length, if_pos h1, if_pos h2, if_pos h3, if_neg h4]; exact h4_E⟩ (by decide) (by decide)
      · exact z_tout C hno ⟨rfl, by rw [k_X2_length, if_pos h1, if_pos h2, if_neg h3]; exact h3_E⟩ (by decide) (by decide)
    · exact z_tout C hno ⟨rfl, by rw [k_X2_length, if_pos h1, if_neg h2]; exact h2_E⟩ (by decide) (by decide)
  · exact z_tout C hno ⟨rfl, by rw [k_X2_length, if_neg h1]; exact h1_E⟩ (by decide) (by decide)
def f_X2_lengthPart (sL : Nat → Int64) (bL : Nat → Int64) (p1 : Int32) (p2 : Int32) : Int64 := (if k_X2_checkSlot p1 4 = 0 then (if p2 = 110 then (bL p1.toNatClampNeg) else (if p2 = 115 then (sL p1.toNatClampNeg) else 0)) else 0)
def k_X2_lengthPart (p1 : Int32) (p2 : Int32) : Int32 := (if k_X2_checkSlot p1 4 = 0 then (if p2 = 110 then 0 else (if p2 = 115 then 0 else 2)) else k_X2_checkSlot p1 4)
theorem q_X2_lengthPart : ZY yX2_lengthPart wsX2_lengthPart cX2_lengthPart 3 (some .long) 2 := ⟨⟨_, rfl⟩, by decide +kernel, by decide +kernel, by decide +kernel⟩
set_option maxHeartbeats 4000000 in
set_option maxRecDepth 100000 in
theorem c_X2_lengthPart (l : Launch) (hfl : l.stackTraces = false) (D : va_G) (cI cJ : ClassId) (X : va_W) (y : Nat → Nat) (d : Nat → Int64) (sy : Nat → Int32) (sm : Nat → Int32) (sd : Nat → Int32) (mi : Nat → Int32) (ti : Nat → Int64) (sL : Nat → Int64) (bL : Nat → Int64) (mD : Nat → Int64) (mT : Nat → Int64) (p1 : Int32) (p2 : Int32)  : ZM l yX2_lengthPart wsX2_lengthPart { frames := 7, cells := 2, slots := 12, locals := 103 } [.ref (y 0), .int p1, .int p2] D (zTys cI cJ) (wY cI cJ y d sy sm sd mi ti sL bL mD mT X) 2 12 (fun v w => k_X2_lengthPart p1 p2 = 0 ∧ v = some (.long (f_X2_lengthPart sL bL p1 p2)) ∧ w = (wY cI cJ y d sy sm sd mi ti sL bL mD mT X)) (fun E w => w = (wY cI cJ y d sy sm sd mi ti sL bL mD mT X) ∧ zEx E (k_X2_lengthPart p1 p2)) := by
  refine z_open (own := RX2) hfl (cc := cX2_lengthPart) (maxL := 3) (ret := (some .long)) (lv := [(0, .ref (y 0)), (1, .int p1), (2, .int p2)]) rfl (by decide) rfl rfl (Nat.le_of_ble_eq_true rfl) ?_
  intro p e s m args below meth c A C hno hnm hargs
  have hin : ∀ w ∈ wsX20, w ∈ wsX2_lengthPart := by decide +kernel
  have w1 := C.1.2.2.2.2 (.fieldLink RX2 32 "Yearwheel" "lengthBillionths" "[J") (by decide +kernel)
  have w2 := C.1.2.2.2.2 (.fieldLink RX2 29 "Yearwheel" "lengthSeconds" "[J") (by decide +kernel)
  have w3 := C.1.2.2.2.2 (.classLink RX2 101 "java/lang/IllegalArgumentException") (by decide +kernel)
  have w4 := C.1.2.2.2.2 (.initialized "java/lang/IllegalArgumentException") (by decide +kernel)
  refine z_iload_n C dX2_lengthPart_0 rfl 1 rfl ?_
  refine z_iconst (v := 4) C dX2_lengthPart_1 (by decide) ?_
  refine z_xsv (rest := []) C (c_X2_checkSlot l hfl D cI cJ _ p1 (4 : Int32) ) q_X2_checkSlot gX2_lengthPart_X2_checkSlot ⟨rfl, rfl⟩ rfl rfl (Nat.le_of_ble_eq_true rfl) ⟨Nat.le_of_ble_eq_true rfl, Nat.le_of_ble_eq_true rfl⟩ ⟨Nat.le_of_ble_eq_true rfl, Nat.le_of_ble_eq_true rfl⟩ dX2_lengthPart_2 (fun h1 => ?_) (fun E h1 h1_E => ?_)
  · refine z_iload_n C dX2_lengthPart_5 rfl 2 rfl ?_
    refine zcases (p2 = 110) (fun h2 => ?_) (fun h2 => ?_)
    · refine z_lookup (off := 33) (tgt := 39) C dX2_lengthPart_6 (by decide) (by rw [h2]; decide) (by decide) ?_
      refine z_aload_n C dX2_lengthPart_39 rfl 0 rfl ?_
      refine z_get (CC := RX2) (T := TX2) (N := 10) (ci := 2) C hin 0 rfl rfl 7 (by decide) w1 rfl rfl dX2_lengthPart_40 ?_
      refine z_iload_n C dX2_lengthPart_43 rfl 1 rfl ?_
      refine z_lald C 8 1 rfl rfl (vpS4 h1) dX2_lengthPart_44 ?_
      exact z_lret C ⟨by rw [k_X2_lengthPart, if_pos h1, if_pos h2], congrArg (fun v => some (Value.long v)) (by rw [f_X2_lengthPart, if_pos h1, if_pos h2] : (bL p1.toNatClampNeg) = (f_X2_lengthPart sL bL p1 p2)), rfl⟩ (by decide) (by decide) dX2_lengthPart_45
    · refine zcases (p2 = 115) (fun h3 => ?_) (fun h3 => ?_)
      · refine z_lookup (off := 26) (tgt := 32) C dX2_lengthPart_6 (by decide) (by rw [h3]; decide) (by decide) ?_
        refine z_aload_n C dX2_lengthPart_32 rfl 0 rfl ?_
        refine z_get (CC := RX2) (T := TX2) (N := 10) (ci := 2) C hin 0 rfl rfl 6 (by decide) w2 rfl rfl dX2_lengthPart_33 ?_
        refine z_iload_n C dX2_lengthPart_36 rfl 1 rfl ?_
        refine z_lald C 7 1 rfl rfl (vpS4 h1) dX2_lengthPart_37 ?_
        exact z_lret C ⟨by rw [k_X2_lengthPart, if_pos h1, if_neg h2, if_pos h3], congrArg (fun v => some (Value.long v)) (by rw [f_X2_lengthPart, if_pos h1, if_neg h2, if_pos h3] : (sL p1.toNatClampNeg) = (f_X2_lengthPart sL bL p1 p2)), rfl⟩ (by decide) (by decide) dX2_lengthPart_38
      · refine z_lookup (off := 40) (tgt := 46) C dX2_lengthPart_6 (by decide) (zlk2 h2 h3) (by decide) ?_
        obtain ⟨sa, hsa⟩ := C.2.2.2.2.2.1.1 (231, _) (List.mem_of_getElem? (i := 9) rfl)
        exact z_throwS C hno (cls := "java/lang/IllegalArgumentException") (names := ["java/lang/RuntimeException", "java/lang/Exception"]) (by decide +kernel) (by decide +kernel) w3 w4 hsa (z_hat RX2 105 "java/lang/IllegalArgumentException" ["java/lang/RuntimeException", "java/lang/Exception"] zg_105 (fun w hw => C.1.2.2.2.2 w ((by decide +kernel : ∀ w ∈ (vx_atS RX2 105 "java/lang/IllegalArgumentException" ["java/lang/RuntimeException", "java/lang/Exception"]).filter goodWord, w ∈ wsX2_lengthPart) w hw)) C.2.2.2.2.2.1 (by decide : "java/lang/IllegalArgumentException" ∈ zCs)) zo_105 dX2_lengthPart_46 dX2_lengthPart_49 dX2_lengthPart_50 dX2_lengthPart_52 dX2_lengthPart_55 (by decide) (Nat.le_of_ble_eq_true rfl) (Nat.le_of_ble_eq_true rfl) (Nat.le_of_ble_eq_true rfl) (Nat.le_of_ble_eq_true rfl) (Nat.le_of_ble_eq_true rfl) ⟨rfl, by rw [k_X2_lengthPart, if_pos h1, if_neg h2, if_neg h3]; exact zEx2⟩
  · exact z_tout C hno ⟨rfl, by rw [k_X2_lengthPart, if_neg h1]; exact h1_E⟩ (by decide) (by decide)
def f_X2_addLength_j1 (p3 : Int32) : Int32 := (if p3 = 0 then 1 else (-1))
def f_X2_addLength (sL : Nat → Int64) (bL : Nat → Int64) (p1 : Int32) (p2 : Int32) (p3 : Int32) (p4 : Int32) : Int64 := (if k_X2_checkSlot p1 4 = 0 then (if k_X2_checkSlot p2 4 = 0 then (if k_X2_checkSlot p4 4 = 0 then (if f_X2_addLength_j1 p3 = (-1) then (if k_X2_keepLength ((sL p1.toNatClampNeg) + ((-1) * (sL p2.toNatClampNeg))) ((bL p1.toNatClampNeg) + ((-1) * (bL p2.toNatClampNeg))) = 0 then (f_X2_keepLength ((sL p1.toNatClampNeg) + ((-1) * (sL p2.toNatClampNeg))) ((bL p1.toNatClampNeg) + ((-1) * (bL p2.toNatClampNeg)))) else 0) else (if k_X2_keepLength ((sL p1.toNatClampNeg) + (1 * (sL p2.toNatClampNeg))) ((bL p1.toNatClampNeg) + (1 * (bL p2.toNatClampNeg))) = 0 then (f_X2_keepLength ((sL p1.toNatClampNeg) + (1 * (sL p2.toNatClampNeg))) ((bL p1.toNatClampNeg) + (1 * (bL p2.toNatClampNeg)))) else 0)) else 0) else 0) else 0)
def s_X2_addLength_sL (sL : Nat → Int64) (bL : Nat → Int64) (p1 : Int32) (p2 : Int32) (p3 : Int32) (p4 : Int32) : Nat → Int64 := (if k_X2_checkSlot p1 4 = 0 then (if k_X2_checkSlot p2 4 = 0 then (if k_X2_checkSlot p4 4 = 0 then (if f_X2_addLength_j1 p3 = (-1) then (if k_X2_keepLength ((sL p1.toNatClampNeg) + ((-1) * (sL p2.toNatClampNeg))) ((bL p1.toNatClampNeg) + ((-1) * (bL p2.toNatClampNeg))) = 0 then (s_X2_keepLength_sL sL p4 ((sL p1.toNatClampNeg) + ((-1) * (sL p2.toNatClampNeg))) ((bL p1.toNatClampNeg) + ((-1) * (bL p2.toNatClampNeg)))) else sL) else (if k_X2_keepLength ((sL p1.toNatClampNeg) + (1 * (sL p2.toNatClampNeg))) ((bL p1.toNatClampNeg) + (1 * (bL p2.toNatClampNeg))) = 0 then (s_X2_keepLength_sL sL p4 ((sL p1.toNatClampNeg) + (1 * (sL p2.toNatClampNeg))) ((bL p1.toNatClampNeg) + (1 * (bL p2.toNatClampNeg)))) else sL)) else sL) else sL) else sL)
def s_X2_addLength_bL (sL : Nat → Int64) (bL : Nat → Int64) (p1 : Int32) (p2 : Int32) (p3 : Int32) (p4 : Int32) : Nat → Int64 := (if k_X2_checkSlot p1 4 = 0 then (if k_X2_checkSlot p2 4 = 0 then (if k_X2_checkSlot p4 4 = 0 then (if f_X2_addLength_j1 p3 = (-1) then (if k_X2_keepLength ((sL p1.toNatClampNeg) + ((-1) * (sL p2.toNatClampNeg))) ((bL p1.toNatClampNeg) + ((-1) * (bL p2.toNatClampNeg))) = 0 then (s_X2_keepLength_bL bL p4 ((sL p1.toNatClampNeg) + ((-1) * (sL p2.toNatClampNeg))) ((bL p1.toNatClampNeg) + ((-1) * (bL p2.toNatClampNeg)))) else bL) else (if k_X2_keepLength ((sL p1.toNatClampNeg) + (1 * (sL p2.toNatClampNeg))) ((bL p1.toNatClampNeg) + (1 * (bL p2.toNatClampNeg))) = 0 then (s_X2_keepLength_bL bL p4 ((sL p1.toNatClampNeg) + (1 * (sL p2.toNatClampNeg))) ((bL p1.toNatClampNeg) + (1 * (bL p2.toNatClampNeg)))) else bL)) else bL) else bL) else bL)
def k_X2_addLength (sL : Nat → Int64) (bL : Nat → Int64) (p1 : Int32) (p2 : Int32) (p3 : Int32) (p4 : Int32) : Int32 := (if k_X2_checkSlot p1 4 = 0 then (if k_X2_checkSlot p2 4 = 0 then (if k_X2_checkSlot p4 4 = 0 then (if f_X2_addLength_j1 p3 = (-1) then (if k_X2_keepLength ((sL p1.toNatClampNeg) + ((-1) * (sL p2.toNatClampNeg))) ((bL p1.toNatClampNeg) + ((-1) * (bL p2.toNatClampNeg))) = 0 then 0 else k_X2_keepLength ((sL p1.toNatClampNeg) + ((-1) * (sL p2.toNatClampNeg))) ((bL p1.toNatClampNeg) + ((-1) * (bL p2.toNatClampNeg)))) else (if k_X2_keepLength ((sL p1.toNatClampNeg) + (1 * (sL p2.toNatClampNeg))) ((bL p1.toNatClampNeg) + (1 * (bL p2.toNatClampNeg))) = 0 then 0 else k_X2_keepLength ((sL p1.toNatClampNeg) + (1 * (sL p2.toNatClampNeg))) ((bL p1.toNatClampNeg) + (1 * (bL p2.toNatClampNeg))))) else k_X2_checkSlot p4 4) else k_X2_checkSlot p2 4) else k_X2_checkSlot p1 4)
theorem q_X2_addLength : ZY yX2_addLength wsX2_addLength cX2_addLength 8 (some .long) 4 := ⟨⟨_, rfl⟩, by decide +kernel, by decide +kernel, by decide +kernel⟩
set_option maxHeartbeats 4000000 in
set_option maxRecDepth 100000 in
theorem c_X2_addLength (l : Launch) (hfl : l.stackTraces = false) (D : va_G) (cI cJ : ClassId) (X : va_W) (y : Nat → Nat) (d : Nat → Int64) (sy : Nat → Int32) (sm : Nat → Int32) (sd : Nat → Int32) (mi : Nat → Int32) (ti : Nat → Int64) (sL : Nat → Int64) (bL : Nat → Int64) (mD : Nat → Int64) (mT : Nat → Int64) (p1 : Int32) (p2 : Int32) (p3 : Int32) (p4 : Int32)  : ZM l yX2_addLength wsX2_addLength { frames := 8, cells := 4, slots := 24, locals := 131 } [.ref (y 0), .int p1, .int p2, .int p3, .int p4] D (zTys cI cJ) (wY cI cJ y d sy sm sd mi ti sL bL mD mT X) 4 24 (fun v w => k_X2_addLength sL bL p1 p2 p3 p4 = 0 ∧ v = some (.long (f_X2_addLength sL bL p1 p2 p3 p4)) ∧ w = (wY cI cJ y d sy sm sd mi ti (s_X2_addLength_sL sL bL p1 p2 p3 p4) (s_X2_addLength_bL sL bL p1 p2 p3 p4) mD mT X)) (fun E w => w = (wY cI cJ y d sy sm sd mi ti sL bL mD mT X) ∧ zEx E (k_X2_addLength sL bL p1 p2 p3 p4)) := by
  refine z_open (own := RX2) hfl (cc := cX2_addLength) (maxL := 8) (ret := (some .long)) (lv := [(0, .ref (y 0)), (1, .int p1), (2, .int p2), (3, .int p3), (4, .int p4)]) rfl (by decide) rfl rfl (Nat.le_of_ble_eq_true rfl) ?_
  intro p e s m args below meth c A C hno hnm hargs
  have hin : ∀ w ∈ wsX20, w ∈ wsX2_addLength := by decide +kernel
  have w1 := C.1.2.2.2.2 (.fieldLink RX2 29 "Yearwheel" "lengthSeconds" "[J") (by decide +kernel)
  have w2 := C.1.2.2.2.2 (.fieldLink RX2 32 "Yearwheel" "lengthBillionths" "[J") (by decide +kernel)
  refine z_iload_n C dX2_addLength_0 rfl 1 rfl ?_
  refine z_iconst (v := 4) C dX2_addLength_1 (by decide) ?_
  refine z_xsv (rest := []) C (c_X2_checkSlot l hfl D cI cJ _ p1 (4 : Int32) ) q_X2_checkSlot gX2_addLength_X2_checkSlot ⟨rfl, rfl⟩ rfl rfl (Nat.le_of_ble_eq_true rfl) ⟨Nat.le_of_ble_eq_true rfl, Nat.le_of_ble_eq_true rfl⟩ ⟨Nat.le_of_ble_eq_true rfl, Nat.le_of_ble_eq_true rfl⟩ dX2_addLength_2 (fun h1 => ?_) (fun E h1 h1_E => ?_)
  · refine z_iload_n C dX2_addLength_5 rfl 2 rfl ?_
    refine z_iconst (v := 4) C dX2_addLength_6 (by decide) ?_
    refine z_xsv (rest := []) C (c_X2_checkSlot l hfl D cI cJ _ p2 (4 : Int32) ) q_X2_checkSlot gX2_addLength_X2_checkSlot ⟨rfl, rfl⟩ rfl rfl (Nat.le_of_ble_eq_true rfl) ⟨Nat.le_of_ble_eq_true rfl, Nat.le_of_ble_eq_true rfl⟩ ⟨Nat.le_of_ble_eq_true rfl, Nat.le_of_ble_eq_true rfl⟩ dX2_addLength_7 (fun h2 => ?_) (fun E h2 h2_E => ?_)
    · refine z_iload C dX2_addLength_10 4 rfl ?_
      refine z_iconst (v := 4) C dX2_addLength_12 (by decide) ?_
      refine z_xsv (rest := []) C (c_X2_checkSlot l hfl D cI cJ _ p4 (4 : Int32) ) q_X2_checkSlot gX2_addLength_X2_checkSlot ⟨rfl, rfl⟩ rfl rfl (Nat.le_of_ble_eq_true rfl) ⟨Nat.le_of_ble_eq_true rfl, Nat.le_of_ble_eq_true rfl⟩ ⟨Nat.le_of_ble_eq_true rfl, Nat.le_of_ble_eq_true rfl⟩ dX2_addLength_13 (fun h3 => ?_) (fun E h3 h3_E => ?_)
      · refine z_iload_n C dX2_addLength_16 rfl 3 rfl ?_
        have K1_m1 : f_X2_addLength_j1 p3 = (-1) → (¬ p3 = 0) → ZW p l e { frames := 8, cells := 4, slots := 24, locals := 131 } s m args below meth c 8 D (zTys cI cJ) A (zE D (zTys cI cJ) A below args s (fun v w => k_X2_addLength sL bL p1 p2 p3 p4 = 0 ∧ v = some (.long (f_X2_addLength sL bL p1 p2 p3 p4)) ∧ w = (wY cI cJ y d sy sm sd mi ti (s_X2_addLength_sL sL bL p1 p2 p3 p4) (s_X2_addLength_bL sL bL p1 p2 p3 p4) mD mT X)) (fun E w => w = (wY cI cJ y d sy sm sd mi ti sL bL mD mT X) ∧ zEx E (k_X2_addLength sL bL p1 p2 p3 p4)) 4 24) 3 18 (wY cI cJ y d sy sm sd mi ti sL bL mD mT X) 25 [(0, .ref (y 0)), (1, .int p1), (2, .int p2), (3, .int p3), (4, .int p4)] [.int (-1)] := by
          intro h5 h6
          refine z_istore (lv' := [(5, .int (-1)), (0, .ref (y 0)), (1, .int p1), (2, .int p2), (3, .int p3), (4, .int p4)]) C dX2_addLength_25 (by decide) rfl ?_
          refine z_aload_n C dX2_addLength_27 rfl 1 rfl ?_
          refine z_get (CC := RX2) (T := TX2) (N := 10) (ci := 2) C hin 0 rfl rfl 6 (by decide) w1 rfl rfl dX2_addLength_28 ?_
          refine z_iload_n C dX2_addLength_31 rfl 2 rfl ?_
          refine z_lald C 7 1 rfl rfl (vpS4 h1) dX2_addLength_32 ?_
          refine z_iload C dX2_addLength_33 0 rfl ?_
          refine z_i2l (v := (-1)) C dX2_addLength_35 (by decide) ?_
          refine z_aload_n C dX2_addLength_36 rfl 1 rfl ?_
          refine z_get (CC := RX2) (T := TX2) (N := 10) (ci := 2) C hin 0 rfl rfl 6 (by decide) w1 rfl rfl dX2_addLength_37 ?_
          refine z_iload_n C dX2_addLength_40 rfl 3 rfl ?_
          refine z_lald C 7 1 rfl rfl (vpS4 h2) dX2_addLength_41 ?_
          refine z_lmul C dX2_addLength_42 ?_
          refine z_ladd C dX2_addLength_43 ?_
          refine z_lstore (lv' := [(6, .long ((sL p1.toNatClampNeg) + ((-1) * (sL p2.toNatClampNeg)))), (5, .int (-1)), (0, .ref (y 0)), (1, .int p1), (2, .int p2), (3, .int p3), (4, .int p4)]) C dX2_addLength_44 (by decide) rfl ?_
          refine z_aload_n C dX2_addLength_46 rfl 2 rfl ?_
          refine z_iload C dX2_addLength_47 6 rfl ?_
          refine z_lload C dX2_addLength_49 0 rfl ?_
          refine z_aload_n C dX2_addLength_51 rfl 2 rfl ?_
          refine z_get (CC := RX2) (T := TX2) (N := 10) (ci := 2) C hin 0 rfl rfl 7 (by decide) w2 rfl rfl dX2_addLength_52 ?_
          refine z_iload_n C dX2_addLength_55 rfl 3 rfl ?_
          refine z_lald C 8 1 rfl rfl (vpS4 h1) dX2_addLength_56 ?_
          refine z_iload C dX2_addLength_57 1 rfl ?_
          refine z_i2l (v := (-1)) C dX2_addLength_59 (by decide) ?_
          refine z_aload_n C dX2_addLength_60 rfl 2 rfl ?_
          refine z_get (CC := RX2) (T := TX2) (N := 10) (ci := 2) C hin 0 rfl rfl 7 (by decide) w2 rfl rfl dX2_addLength_61 ?_
          refine z_iload_n C dX2_addLength_64 rfl 4 rfl ?_
          refine z_lald C 8 1 rfl rfl (vpS4 h2) dX2_addLength_65 ?_
          refine z_lmul C dX2_addLength_66 ?_
          refine z_ladd C dX2_addLength_67 ?_
          refine z_xwl (ws' := (wY cI cJ y d sy sm sd mi ti (s_X2_keepLength_sL sL p4 ((sL p1.toNatClampNeg) + ((-1) * (sL p2.toNatClampNeg))) ((bL p1.toNatClampNeg) + ((-1) * (bL p2.toNatClampNeg)))) (s_X2_keepLength_bL bL p4 ((sL p1.toNatClampNeg) + ((-1) * (sL p2.toNatClampNeg))) ((bL p1.toNatClampNeg) + ((-1) * (bL p2.toNatClampNeg)))) mD mT X)) (rest := []) (ci := 2) (q0 := 0) C (c_X2_keepLength l hfl D cI cJ X y d sy sm sd mi ti sL bL mD mT p4 ((sL p1.toNatClampNeg) + ((-1) * (sL p2.toNatClampNeg))) ((bL p1.toNatClampNeg) + ((-1) * (bL p2.toNatClampNeg))) (vpS4 h3)) q_X2_keepLength rfl rfl rfl gX2_addLength_X2_keepLength ⟨rfl, rfl⟩ rfl rfl (Nat.le_of_ble_eq_true rfl) ⟨Nat.le_of_ble_eq_true rfl, Nat.le_of_ble_eq_true rfl⟩ ⟨Nat.le_of_ble_eq_true rfl, Nat.le_of_ble_eq_true rfl⟩ dX2_addLength_68 (fun h7 => ?_) (fun E h7 h7_E => ?_)
          · exact z_lret C ⟨by rw [k_X2_addLength, if_pos h1, if_pos h2, if_pos h3, if_pos h5, if_pos h7], congrArg (fun v => some (Value.long v)) (by rw [f_X2_addLength, if_pos h1, if_pos h2, if_pos h3, if_pos h5, if_pos h7] : (f_X2_keepLength ((sL p1.toNatClampNeg) + ((-1) * (sL p2.toNatClampNeg))) ((bL p1.toNatClampNeg) + ((-1) * (bL p2.toNatClampNeg)))) = (f_X2_addLength sL bL p1 p2 p3 p4)), by rw [s_X2_addLength_sL, if_pos h1, if_pos h2, if_pos h3, if_pos h5, if_pos h7, s_X2_addLength_bL, if_pos h1, if_pos h2, if_pos h3, if_pos h5, if_pos h7]⟩ (by decide) (by decide) dX2_addLength_71
          · exact z_tout C hno ⟨rfl, by rw [k_X2_addLength, if_pos h1, if_pos h2, if_pos h3, if_pos h5, if_neg h7]; exact h7_E⟩ (by decide) (by decide)
        have K1_1 : f_X2_addLength_j1 p3 = 1 → (p3 = 0) → ZW p l e { frames := 8, cells := 4, slots := 24, locals := 131 } s m args below meth c 8 D (zTys cI cJ) A (zE D (zTys cI cJ) A below args s (fun v w => k_X2_addLength sL bL p1 p2 p3 p4 = 0 ∧ v = some (.long (f_X2_addLength sL bL p1 p2 p3 p4)) ∧ w = (wY cI cJ y d sy sm sd mi ti (s_X2_addLength_sL sL bL p1 p2 p3 p4) (s_X2_addLength_bL sL bL p1 p2 p3 p4) mD mT X)) (fun E w => w = (wY cI cJ y d sy sm sd mi ti sL bL mD mT X) ∧ zEx E (k_X2_addLength sL bL p1 p2 p3 p4)) 4 24) 3 18 (wY cI cJ y d sy sm sd mi ti sL bL mD mT X) 25 [(0, .ref (y 0)), (1, .int p1), (2, .int p2), (3, .int p3), (4, .int p4)] [.int 1] := by
          intro h8 h9
          refine z_istore (lv' := [(5, .int 1), (0, .ref (y 0)), (1, .int p1), (2, .int p2), (3, .int p3), (4, .int p4)]) C dX2_addLength_25 (by decide) rfl ?_
          refine z_aload_n C dX2_addLength_27 rfl 1 rfl ?_
          refine z_get (CC := RX2) (T := TX2) (N := 10) (ci := 2) C hin 0 rfl rfl 6 (by decide) w1 rfl rfl dX2_addLength_28 ?_
          refine z_iload_n C dX2_addLength_31 rfl 2 rfl ?_
          refine z_lald C 7 1 rfl rfl (vpS4 h1) dX2_addLength_32 ?_
          refine z_iload C dX2_addLength_33 0 rfl ?_
          refine z_i2l (v := 1) C dX2_addLength_35 (by decide) ?_
          refine z_aload_n C dX2_addLength_36 rfl 1 rfl ?_
          refine z_get (CC := RX2) (T := TX2) (N := 10) (ci := 2) C hin 0 rfl rfl 6 (by decide) w1 rfl rfl dX2_addLength_37 ?_
          refine z_iload_n C dX2_addLength_40 rfl 3 rfl ?_
          refine z_lald C 7 1 rfl rfl (vpS4 h2) dX2_addLength_41 ?_
          refine z_lmul C dX2_addLength_42 ?_
          refine z_ladd C dX2_addLength_43 ?_
          refine z_lstore (lv' := [(6, .long ((sL p1.toNatClampNeg) + (1 * (sL p2.toNatClampNeg)))), (5, .int 1), (0, .ref (y 0)), (1, .int p1), (2, .int p2), (3, .int p3), (4, .int p4)]) C dX2_addLength_44 (by decide) rfl ?_
          refine z_aload_n C dX2_addLength_46 rfl 2 rfl ?_
          refine z_iload C dX2_addLength_47 6 rfl ?_
          refine z_lload C dX2_addLength_49 0 rfl ?_
          refine z_aload_n C dX2_addLength_51 rfl 2 rfl ?_
          refine z_get (CC := RX2) (T := TX2) (N := 10) (ci := 2) C hin 0 rfl rfl 7 (by decide) w2 rfl rfl dX2_addLength_52 ?_
          refine z_iload_n C dX2_addLength_55 rfl 3 rfl ?_
          refine z_lald C 8 1 rfl rfl (vpS4 h1) dX2_addLength_56 ?_
          refine z_iload C dX2_addLength_57 1 rfl ?_
          refine z_i2l (v := 1) C dX2_addLength_59 (by decide) ?_
          refine z_aload_n C dX2_addLength_60 rfl 2 rfl ?_
          refine z_get (CC := RX2) (T := TX2) (N := 10) (ci := 2) C hin 0 rfl rfl 7 (by decide) w2 rfl rfl dX2_addLength_61 ?_
          refine z_iload_n C dX2_addLength_64 rfl 4 rfl ?_
          refine z_lald C 8 1 rfl rfl (vpS4 h2) dX2_addLength_65 ?_
          refine z_lmul C dX2_addLength_66 ?_
          refine z_ladd C dX2_addLength_67 ?_
          refine z_xwl (ws' := (wY cI cJ y d sy sm sd mi ti (s_X2_keepLength_sL sL p4 ((sL p1.toNatClampNeg) + (1 * (sL p2.toNatClampNeg))) ((bL p1.toNatClampNeg) + (1 * (bL p2.toNatClampNeg)))) (s_X2_keepLength_bL bL p4 ((sL p1.toNatClampNeg) + (1 * (sL p2.toNatClampNeg))) ((bL p1.toNatClampNeg) + (1 * (bL p2.toNatClampNeg)))) mD mT X)) (rest := []) (ci := 2) (q0 := 0) C (c_X2_keepLength l hfl D cI cJ X y d sy sm sd mi ti sL bL mD mT p4 ((sL p1.toNatClampNeg) + (1 * (sL p2.toNatClampNeg))) ((bL p1.toNatClampNeg) + (1 * (bL p2.toNatClampNeg))) (vpS4 h3)) q_X2_keepLength rfl rfl rfl gX2_addLength_X2_keepLength ⟨rfl, rfl⟩ rfl rfl (Nat.le_of_ble_eq_true rfl) ⟨Nat.le_of_ble_eq_true rfl, Nat.le_of_ble_eq_true rfl⟩ ⟨Nat.le_of_ble_eq_true rfl, Nat.le_of_ble_eq_true rfl⟩ dX2_addLength_68 (fun h10 => ?_) (fun E h10 h10_E => ?_)
          · exact z_lret C ⟨by rw [k_X2_addLength, if_pos h1, if_pos h2, if_pos h3, if_neg (by rw [h8]; decide : ¬ f_X2_addLength_j1 p3 = (-1)), if_pos h10], congrArg (fun v => some (Value.long v)) (by rw [f_X2_addLength, if_pos h1, if_pos h2, if_pos h3, if_neg (by rw [h8]; decide : ¬ f_X2_addLength_j1 p3 = (-1)), if_pos h10] : (f_X2_keepLength ((sL p1.toNatClampNeg) + (1 * (sL p2.toNatClampNeg))) ((bL p1.toNatClampNeg) + (1 * (bL p2.toNatClampNeg)))) = (f_X2_addLength sL bL p1 p2 p3 p4)), by rw [s_X2_addLength_sL, if_pos h1, if_pos h2, if_pos h3, if_neg (by rw [h8]; decide : ¬ f_X2_addLength_j1 p3 = (-1)), if_pos h10, s_X2_addLength_bL, if_pos h1, if_pos h2, if_pos h3, if_neg (by rw [h8]; decide : ¬ f_X2_addLength_j1 p3 = (-1)), if_pos h10]⟩ (by decide) (by decide) dX2_addLength_71
          · exact z_tout C hno ⟨rfl, by rw [k_X2_addLength, if_pos h1, if_pos h2, if_pos h3, if_neg (by rw [h8]; decide : ¬ f_X2_addLength_j1 p3 = (-1)), if_neg h10]; exact h10_E⟩ (by decide) (by decide)
        refine z_if_eq (tgt := 24) C dX2_addLength_17 (by decide) (fun h4 => ?_) (fun h4 => ?_)
        · refine z_iconst (v := 1) C dX2_addLength_24 (by decide) ?_
          exact K1_1 (by rw [f_X2_addLength_j1, if_pos h4]) h4
        · refine z_iconst (v := (-1)) C dX2_addLength_20 (by decide) ?_
          refine z_goto (tgt := 25) C dX2_addLength_21 (by decide) ?_
          exact K1_m1 (by rw [f_X2_addLength_j1, if_neg h4]) h4
      · exact z_tout C hno ⟨rfl, by rw [k_X2_addLength, if_pos h1, if_pos h2, if_neg h3]; exact h3_E⟩ (by decide) (by decide)
    · exact z_tout C hno ⟨rfl, by rw [k_X2_addLength, if_pos h1, if_neg h2]; exact h2_E⟩ (by decide) (by decide)
  · exact z_tout C hno ⟨rfl, by rw [k_X2_addLength, if_neg h1]; exact h1_E⟩ (by decide) (by decide)
def f_X2_timesLength (sL : Nat → Int64) (bL : Nat → Int64) (p1 : Int32) (p2 : Int32) (p3 : Int32) : Int64 := (if k_X2_checkSlot p1 4 = 0 then (if k_X2_checkSlot p3 4 = 0 then (if k_X2_checkArgument (f_X2_isIn ((p2).toInt64) (-1000) 1000) = 0 then (if k_X2_keepLength ((p2).toInt64 * (sL p1.toNatClampNeg)) ((p2).toInt64 * (bL p1.toNatClampNeg)) = 0 then (f_X2_keepLength ((p2).toInt64 * (sL p1.toNatClampNeg)) ((p2).toInt64 * (bL p1.toNatClampNeg))) else 0) else 0) else 0) else 0)
def s_X2_timesLength_sL (sL : Nat → Int64) (bL : Nat → Int64) (p1 : Int32) (p2 : Int32) (p3 : Int32) : Nat → Int64 := (if k_X2_checkSlot p1 4 = 0 then (if k_X2_checkSlot p3 4 = 0 then (if k_X2_checkArgument (f_X2_isIn ((p2).toInt64) (-1000) 1000) = 0 then (if k_X2_keepLength ((p2).toInt64 * (sL p1.toNatClampNeg)) ((p2).toInt64 * (bL p1.toNatClampNeg)) = 0 then (s_X2_keepLength_sL sL p3 ((p2).toInt64 * (sL p1.toNatClampNeg)) ((p2).toInt64 * (bL p1.toNatClampNeg))) else sL) else sL) else sL) else sL)
def s_X2_timesLength_bL (sL : Nat → Int64) (bL : Nat → Int64) (p1 : Int32) (p2 : Int32) (p3 : Int32) : Nat → Int64 := (if k_X2_checkSlot p1 4 = 0 then (if k_X2_checkSlot p3 4 = 0 then (if k_X2_checkArgument (f_X2_isIn ((p2).toInt64) (-1000) 1000) = 0 then (if k_X2_keepLength ((p2).toInt64 * (sL p1.toNatClampNeg)) ((p2).toInt64 * (bL p1.toNatClampNeg)) = 0 then (s_X2_keepLength_bL bL p3 ((p2).toInt64 * (sL p1.toNatClampNeg)) ((p2).toInt64 * (bL p1.toNatClampNeg))) else bL) else bL) else bL) else bL)
def k_X2_timesLength (sL : Nat → Int64) (bL : Nat → Int64) (p1 : Int32) (p2 : Int32) (p3 : Int32) : Int32 := (if k_X2_checkSlot p1 4 = 0 then (if k_X2_checkSlot p3 4 = 0 then (if k_X2_checkArgument (f_X2_isIn ((p2).toInt64) (-1000) 1000) = 0 then (if k_X2_keepLength ((p2).toInt64 * (sL p1.toNatClampNeg)) ((p2).toInt64 * (bL p1.toNatClampNeg)) = 0 then 0 else k_X2_keepLength ((p2).toInt64 * (sL p1.toNatClampNeg)) ((p2).toInt64 * (bL p1.toNatClampNeg))) else k_X2_checkArgument (f_X2_isIn ((p2).toInt64) (-1000) 1000)) else k_X2_checkSlot p3 4) else k_X2_checkSlot p1 4)
theorem q_X2_timesLength : ZY yX2_timesLength wsX2_timesLength cX2_timesLength 4 (some .long) 3 := ⟨⟨_, rfl⟩, by decide +kernel, by decide +kernel, by decide +kernel⟩
set_option maxHeartbeats 4000000 in
set_option maxRecDepth 100000 in
theorem c_X2_timesLength (l : Launch) (hfl : l.stackTraces = false) (D : va_G) (cI cJ : ClassId) (X : va_W) (y : Nat → Nat) (d : Nat → Int64) (sy : Nat → Int32) (sm : Nat → Int32) (sd : Nat → Int32) (mi : Nat → Int32) (ti : Nat → Int64) (sL : Nat → Int64) (bL : Nat → Int64) (mD : Nat → Int64) (mT : Nat → Int64) (p1 : Int32) (p2 : Int32) (p3 : Int32)  : ZM l yX2_timesLength wsX2_timesLength { frames := 8, cells := 4, slots := 24, locals := 131 } [.ref (y 0), .int p1, .int p2, .int p3] D (zTys cI cJ) (wY cI cJ y d sy sm sd mi ti sL bL mD mT X) 4 24 (fun v w => k_X2_timesLength sL bL p1 p2 p3 = 0 ∧ v = some (.long (f_X2_timesLength sL bL p1 p2 p3)) ∧ w = (wY cI cJ y d sy sm sd mi ti (s_X2_timesLength_sL sL bL p1 p2 p3) (s_X2_timesLength_bL sL bL p1 p2 p3) mD mT X)) (fun E w => w = (wY cI cJ y d sy sm sd mi ti sL bL mD mT X) ∧ zEx E (k_X2_timesLength sL bL p1 p2 p3)) := by
  refine z_open (own := RX2) hfl (cc := cX2_timesLength) (maxL := 4) (ret := (some .long)) (lv := [(0, .ref (y 0)), (1, .int p1), (2, .int p2), (3, .int p3)]) rfl (by decide) rfl rfl (Nat.le_of_ble_eq_true rfl) ?_
  intro p e s m args below meth c A C hno hnm hargs
  have hin : ∀ w ∈ wsX20, w ∈ wsX2_timesLength := by decide +kernel
  have w1 := C.1.2.2.2.2 (.constantLong RX2 233 (-1000)) (by decide +kernel)
  have w2 := C.1.2.2.2.2 (.constantLong RX2 235 (1000)) (by decide +kernel)
  have w3 := C.1.2.2.2.2 (.fieldLink RX2 29 "Yearwheel" "lengthSeconds" "[J") (by decide +kernel)
  have w4 := C.1.2.2.2.2 (.fieldLink RX2 32 "Yearwheel" "lengthBillionths" "[J") (by decide +kernel)
  refine z_iload_n C dX2_timesLength_0 rfl 1 rfl ?_
  refine z_iconst (v := 4) C dX2_timesLength_1 (by decide) ?_
  refine z_xsv (rest := []) C (c_X2_checkSlot l hfl D cI cJ _ p1 (4 : Int32) ) q_X2_checkSlot gX2_timesLength_X2_checkSlot ⟨rfl, rfl⟩ rfl rfl (Nat.le_of_ble_eq_true rfl) ⟨Nat.le_of_ble_eq_true rfl, Nat.le_of_ble_eq_true rfl⟩ ⟨Nat.le_of_ble_eq_true rfl, Nat.le_of_ble_eq_true rfl⟩ dX2_timesLength_2 (fun h1 => ?_) (fun E h1 h1_E => ?_)
  · refine z_iload_n C dX2_timesLength_5 rfl 3 rfl ?_
    refine z_iconst (v := 4) C dX2_timesLength_6 (by decide) ?_
    refine z_xsv (rest := []) C (c_X2_checkSlot l hfl D cI cJ _ p3 (4 : Int32) ) q_X2_checkSlot gX2_timesLength_X2_checkSlot ⟨rfl, rfl⟩ rfl rfl (Nat.le_of_ble_eq_true rfl) ⟨Nat.le_of_ble_eq_true rfl, Nat.le_of_ble_eq_true rfl⟩ ⟨Nat.le_of_ble_eq_true rfl, Nat.le_of_ble_eq_true rfl⟩ dX2_timesLength_7 (fun h2 => ?_) (fun E h2 h2_E => ?_)
    · refine z_iload_n C dX2_timesLength_10 rfl 2 rfl ?_
      refine z_i2l (v := (p2).toInt64) C dX2_timesLength_11 rfl ?_
      refine z_ldc2 (v := (-1000)) C w1 dX2_timesLength_12 ?_
      refine z_ldc2 (v := 1000) C w2 dX2_timesLength_15 ?_
      refine z_si (rest := []) C (c_X2_isIn l hfl D cI cJ _ ((p2).toInt64) ((-1000) : Int64) (1000 : Int64) ) q_X2_isIn gX2_timesLength_X2_isIn ⟨rfl, rfl⟩ rfl rfl (Nat.le_of_ble_eq_true rfl) ⟨Nat.le_of_ble_eq_true rfl, Nat.le_of_ble_eq_true rfl⟩ ⟨Nat.le_of_ble_eq_true rfl, Nat.le_of_ble_eq_true rfl⟩ dX2_timesLength_18 ?_
      refine z_xsv (rest := []) C (c_X2_checkArgument l hfl D cI cJ _ (f_X2_isIn ((p2).toInt64) (-1000) 1000) ) q_X2_checkArgument gX2_timesLength_X2_checkArgument ⟨rfl, rfl⟩ rfl rfl (Nat.le_of_ble_eq_true rfl) ⟨Nat.le_of_ble_eq_true rfl, Nat.le_of_ble_eq_true rfl⟩ ⟨Nat.le_of_ble_eq_true rfl, Nat.le_of_ble_eq_true rfl⟩ dX2_timesLength_21 (fun h3 => ?_) (fun E h3 h3_E => ?_)
      · refine z_aload_n C dX2_timesLength_24 rfl 0 rfl ?_
        refine z_iload_n C dX2_timesLength_25 rfl 3 rfl ?_
        refine z_iload_n C dX2_timesLength_26 rfl 2 rfl ?_
        refine z_i2l (v := (p2).toInt64) C dX2_timesLength_27 rfl ?_
        refine z_aload_n C dX2_timesLength_28 rfl 0 rfl ?_
        refine z_get (CC := RX2) (T := TX2) (N := 10) (ci := 2) C hin 0 rfl rfl 6 (by decide) w3 rfl rfl dX2_timesLength_29 ?_
        refine z_iload_n C dX2_timesLength_32 rfl 1 rfl ?_
        refine z_lald C 7 1 rfl rfl (vpS4 h1) dX2_timesLength_33 ?_
        refine z_lmul C dX2_timesLength_34 ?_
        refine z_iload_n C dX2_timesLength_35 rfl 2 rfl ?_
        refine z_i2l (v := (p2).toInt64) C dX2_timesLength_36 rfl ?_
        refine z_aload_n C dX2_timesLength_37 rfl 0 rfl ?_
        refine z_get (CC := RX2) (T := TX2) (N := 10) (ci := 2) C hin 0 rfl rfl 7 (by decide) w4 rfl rfl dX2_timesLength_38 ?_
        refine z_iload_n C dX2_timesLength_41 rfl 1 rfl ?_
        refine z_lald C 8 1 rfl rfl (vpS4 h1) dX2_timesLength_42 ?_
        refine z_lmul C dX2_timesLength_43 ?_
        refine z_xwl (ws' := (wY cI cJ y d sy sm sd mi ti (s_X2_keepLength_sL sL p3 ((p2).toInt64 * (sL p1.toNatClampNeg)) ((p2).toInt64 * (bL p1.toNatClampNeg))) (s_X2_keepLength_bL bL p3 ((p2).toInt64 * (sL p1.toNatClampNeg)) ((p2).toInt64 * (bL p1.toNatClampNeg))) mD mT X)) (rest := []) (ci := 2) (q0 := 0) C (c_X2_keepLength l hfl D cI cJ X y d sy sm sd mi ti sL bL mD mT p3 ((p2).toInt64 * (sL p1.toNatClampNeg)) ((p2).toInt64 * (bL p1.toNatClampNeg)) (vpS4 h2)) q_X2_keepLength rfl rfl rfl gX2_timesLength_X2_keepLength ⟨rfl, rfl⟩ rfl rfl (Nat.le_of_ble_eq_true rfl) ⟨Nat.le_of_ble_eq_true rfl, Nat.le_of_ble_eq_true rfl⟩ ⟨Nat.le_of_ble_eq_true rfl, Nat.le_of_ble_eq_true rfl⟩ dX2_timesLength_44 (fun h4 => ?_) (fun E h4 h4_E => ?_)
        · exact z_lret C ⟨by rw [k_X2_timesLength, if_pos h1, if_pos h2, if_pos h3, if_pos h4], congrArg (fun v => some (Value.long v)) (by rw [f_X2_timesLength, if_pos h1, if_pos h2, if_pos h3, if_pos h4] : (f_X2_keepLength ((p2).toInt64 * (sL p1.toNatClampNeg)) ((p2).toInt64 * (bL p1.toNatClampNeg))) = (f_X2_timesLength sL bL p1 p2 p3)), by rw [s_X2_timesLength_sL, if_pos h1, if_pos h2, if_pos h3, if_pos h4, s_X2_timesLength_bL, if_pos h1, if_pos h2, if_pos h3, if_pos h4]⟩ (by decide) (by decide) dX2_timesLength_47
        · exact z_tout C hno ⟨rfl, by rw [k_X2_timesLength, if_pos h1, if_pos h2, if_pos h3, if_neg h4]; exact h4_E⟩ (by decide) (by decide)
      · exact z_tout C hno ⟨rfl, by rw [k_X2_timesLength, if_pos h1, if_pos h2, if_neg h3]; exact h3_E⟩ (by decide) (by decide)
    · exact z_tout C hno ⟨rfl, by rw [k_X2_timesLength, if_pos h1, if_neg h2]; exact h2_E⟩ (by decide) (by decide)
  · exact z_tout C hno ⟨rfl, by rw [k_X2_timesLength, if_neg h1]; exact h1_E⟩ (by decide) (by decide)
def f_X2_lengthOfTimes (ti : Nat → Int64) (p1 : Int32) (p2 : Int32) (p3 : Int32) : Int64 := (if k_X2_checkSlot p1 4 = 0 then (if k_X2_checkSlot p2 4 = 0 then (if k_X2_checkSlot p3 4 = 0 then (if k_X2_keepLength 0 ((ti p2.toNatClampNeg) - (ti p1.toNatClampNeg)) = 0 then (f_X2_keepLength 0 ((ti p2.toNatClampNeg) - (ti p1.toNatClampNeg))) else 0) else 0) else 0) else 0)
def s_X2_lengthOfTimes_sL (ti : Nat → Int64) (sL : Nat → Int64) (p1 : Int32) (p2 : Int32) (p3 : Int32) : Nat → Int64 := (if k_X2_checkSlot p1 4 = 0 then (if k_X2_checkSlot p2 4 = 0 then (if k_X2_checkSlot p3 4 = 0 then (if k_X2_keepLength 0 ((ti p2.toNatClampNeg) - (ti p1.toNatClampNeg)) = 0 then (s_X2_keepLength_sL sL p3 0 ((ti p2.toNatClampNeg) - (ti p1.toNatClampNeg))) else sL) else sL) else sL) else sL)
def s_X2_lengthOfTimes_bL (ti : Nat → Int64) (bL : Nat → Int64) (p1 : Int32) (p2 : Int32) (p3 : Int32) : Nat → Int64 := (if k_X2_checkSlot p1 4 = 0 then (if k_X2_checkSlot p2 4 = 0 then (if k_X2_checkSlot p3 4 = 0 then (if k_X2_keepLength 0 ((ti p2.toNatClampNeg) - (ti p1.toNatClampNeg)) = 0 then (s_X2_keepLength_bL bL p3 0 ((ti p2.toNatClampNeg) - (ti p1.toNatClampNeg))) else bL) else bL) else bL) else bL)
def k_X2_lengthOfTimes (ti : Nat → Int64) (p1 : Int32) (p2 : Int32) (p3 : Int32) : Int32 := (if k_X2_checkSlot p1 4 = 0 then (if k_X2_checkSlot p2 4 = 0 then (if k_X2_checkSlot p3 4 = 0 then (if k_X2_keepLength 0 ((ti p2.toNatClampNeg) - (ti p1.toNatClampNeg)) = 0 then 0 else k_X2_keepLength 0 ((ti p2.toNatClampNeg) - (ti p1.toNatClampNeg))) else k_X2_checkSlot p3 4) else k_X2_checkSlot p2 4) else k_X2_checkSlot p1 4)
theorem q_X2_lengthOfTimes : ZY yX2_lengthOfTimes wsX2_lengthOfTimes cX2_lengthOfTimes 4 (some .long) 3 := ⟨⟨_, rfl⟩, by decide +kernel, by decide +kernel, by decide +kernel⟩
set_option maxHeartbeats 4000000 in
set_option maxRecDepth 100000 in
theorem c_X2_lengthOfTimes (l : Launch) (hfl : l.stackTraces = false) (D : va_G) (cI cJ : ClassId) (X : va_W) (y : Nat → Nat) (d : Nat → Int64) (sy : Nat → Int32) (sm : Nat → Int32) (sd : Nat → Int32) (mi : Nat → Int32) (ti : Nat → Int64) (sL : Nat → Int64) (bL : Nat → Int64) (mD : Nat → Int64) (mT : Nat → Int64) (p1 : Int32) (p2 : Int32) (p3 : Int32)  : ZM l yX2_lengthOfTimes wsX2_lengthOfTimes { frames := 8, cells := 4, slots := 24, locals := 131 } [.ref (y 0), .int p1, .int p2, .int p3] D (zTys cI cJ) (wY cI cJ y d sy sm sd mi ti sL bL mD mT X) 4 24 (fun v w => k_X2_lengthOfTimes ti p1 p2 p3 = 0 ∧ v = some (.long (f_X2_lengthOfTimes ti p1 p2 p3)) ∧ w = (wY cI cJ y d sy sm sd mi ti (s_X2_lengthOfTimes_sL ti sL p1 p2 p3) (s_X2_lengthOfTimes_bL ti bL p1 p2 p3) mD mT X)) (fun E w => w = (wY cI cJ y d sy sm sd mi ti sL bL mD mT X) ∧ zEx E (k_X2_lengthOfTimes ti p1 p2 p3)) := by
  refine z_open (own := RX2) hfl (cc := cX2_lengthOfTimes) (maxL := 4) (ret := (some .long)) (lv := [(0, .ref (y 0)), (1, .int p1), (2, .int p2), (3, .int p3)]) rfl (by decide) rfl rfl (Nat.le_of_ble_eq_true rfl) ?_
  intro p e s m args below meth c A C hno hnm hargs
  have hin : ∀ w ∈ wsX20, w ∈ wsX2_lengthOfTimes := by decide +kernel
  have w1 := C.1.2.2.2.2 (.fieldLink RX2 26 "Yearwheel" "times" "[J") (by decide +kernel)
  refine z_iload_n C dX2_lengthOfTimes_0 rfl 1 rfl ?_
  refine z_iconst (v := 4) C dX2_lengthOfTimes_1 (by decide) ?_
  refine z_xsv (rest := []) C (c_X2_checkSlot l hfl D cI cJ _ p1 (4 : Int32) ) q_X2_checkSlot gX2_lengthOfTimes_X2_checkSlot ⟨rfl, rfl⟩ rfl rfl (Nat.le_of_ble_eq_true rfl) ⟨Nat.le_of_ble_eq_true rfl, Nat.le_of_ble_eq_true rfl⟩ ⟨Nat.le_of_ble_eq_true rfl, Nat.le_of_ble_eq_true rfl⟩ dX2_lengthOfTimes_2 (fun h1 => ?_) (fun E h1 h1_E => ?_)
  · refine z_iload_n C dX2_lengthOfTimes_5 rfl 2 rfl ?_
    refine z_iconst (v := 4) C dX2_lengthOfTimes_6 (by decide) ?_
    refine z_xsv (rest := []) C (c_X2_checkSlot l hfl D cI cJ _ p2 (4 : Int32) ) q_X2_checkSlot gX2_lengthOfTimes_X2_checkSlot ⟨rfl, rfl⟩ rfl rfl (Nat.le_of_ble_eq_true rfl) ⟨Nat.le_of_ble_eq_true rfl, Nat.le_of_ble_eq_true rfl⟩ ⟨Nat.le_of_ble_eq_true rfl, Nat.le_of_ble_eq_true rfl⟩ dX2_lengthOfTimes_7 (fun h2 => ?_) (fun E h2 h2_E => ?_)
    · refine z_iload_n C dX2_lengthOfTimes_10 rfl 3 rfl ?_
      refine z_iconst (v := 4) C dX2_lengthOfTimes_11 (by decide) ?_
      refine z_xsv (rest := []) C (c_X2_checkSlot l hfl D cI cJ _ p3 (4 : Int32) ) q_X2_checkSlot gX2_lengthOfTimes_X2_checkSlot ⟨rfl, rfl⟩ rfl rfl (Nat.le_of_ble_eq_true rfl) ⟨Nat.le_of_ble_eq_true rfl, Nat.le_of_ble_eq_true rfl⟩ ⟨Nat.le_of_ble_eq_true rfl, Nat.le_of_ble_eq_true rfl⟩ dX2_lengthOfTimes_12 (fun h3 => ?_) (fun E h3 h3_E => ?_)
      · refine z_aload_n C dX2_lengthOfTimes_15 rfl 0 rfl ?_
        refine z_iload_n C dX2_lengthOfTimes_16 rfl 3 rfl ?_
        refine z_lconst (v := 0) C dX2_lengthOfTimes_17 (by decide) ?_
        refine z_aload_n C dX2_lengthOfTimes_18 rfl 0 rfl ?_
        refine z_get (CC := RX2) (T := TX2) (N := 10) (ci := 2) C hin 0 rfl rfl 5 (by decide) w1 rfl rfl dX2_lengthOfTimes_19 ?_
        refine z_iload_n C dX2_lengthOfTimes_22 rfl 2 rfl ?_
        refine z_lald C 6 1 rfl rfl (vpS4 h2) dX2_lengthOfTimes_23 ?_
        refine z_aload_n C dX2_lengthOfTimes_24 rfl 0 rfl ?_
        refine z_get (CC := RX2) (T := TX2) (N := 10) (ci := 2) C hin 0 rfl rfl 5 (by decide) w1 rfl rfl dX2_lengthOfTimes_25 ?_
        refine z_iload_n C dX2_lengthOfTimes_28 rfl 1 rfl ?_
        refine z_lald C 6 1 rfl rfl (vpS4 h1) dX2_lengthOfTimes_29 ?_
        refine z_lsub C dX2_lengthOfTimes_30 ?_
        refine z_xwl (ws' := (wY cI cJ y d sy sm sd mi ti (s_X2_keepLength_sL sL p3 0 ((ti p2.toNatClampNeg) - (ti p1.toNatClampNeg))) (s_X2_keepLength_bL bL p3 0 ((ti p2.toNatClampNeg) - (ti p1.toNatClampNeg))) mD mT X)) (rest := []) (ci := 2) (q0 := 0) C (c_X2_keepLength l hfl D cI cJ X y d sy sm sd mi ti sL bL mD mT p3 (0 : Int64) ((ti p2.toNatClampNeg) - (ti p1.toNatClampNeg)) (vpS4 h3)) q_X2_keepLength rfl rfl rfl gX2_lengthOfTimes_X2_keepLength ⟨rfl, rfl⟩ rfl rfl (Nat.le_of_ble_eq_true rfl) ⟨Nat.le_of_ble_eq_true rfl, Nat.le_of_ble_eq_true rfl⟩ ⟨Nat.le_of_ble_eq_true rfl, Nat.le_of_ble_eq_true rfl⟩ dX2_lengthOfTimes_31 (fun h4 => ?_) (fun E h4 h4_E => ?_)
        · exact z_lret C ⟨by rw [k_X2_lengthOfTimes, if_pos h1, if_pos h2, if_pos h3, if_pos h4], congrArg (fun v => some (Value.long v)) (by rw [f_X2_lengthOfTimes, if_pos h1, if_pos h2, if_pos h3, if_pos h4] : (f_X2_keepLength 0 ((ti p2.toNatClampNeg) - (ti p1.toNatClampNeg))) = (f_X2_lengthOfTimes ti p1 p2 p3)), by rw [s_X2_lengthOfTimes_sL, if_pos h1, if_pos h2, if_pos h3, if_pos h4, s_X2_lengthOfTimes_bL, if_pos h1, if_pos h2, if_pos h3, if_pos h4]⟩ (by decide) (by decide) dX2_lengthOfTimes_34
        · exact z_tout C hno ⟨rfl, by rw [k_X2_lengthOfTimes, if_pos h1, if_pos h2, if_pos h3, if_neg h4]; exact h4_E⟩ (by decide) (by decide)
      · exact z_tout C hno ⟨rfl, by rw [k_X2_lengthOfTimes, if_pos h1, if_pos h2, if_neg h3]; exact h3_E⟩ (by decide) (by decide)
    · exact z_tout C hno ⟨rfl, by rw [k_X2_lengthOfTimes, if_pos h1, if_neg h2]; exact h2_E⟩ (by decide) (by decide)
  · exact z_tout C hno ⟨rfl, by rw [k_X2_lengthOfTimes, if_neg h1]; exact h1_E⟩ (by decide) (by decide)
def f_X2_orderLengths (sL : Nat → Int64) (bL : Nat → Int64) (p1 : Int32) (p2 : Int32) : Int32 := (if k_X2_checkSlot p1 4 = 0 then (if k_X2_checkSlot p2 4 = 0 then (if (f_X2_sign (sL p1.toNatClampNeg) (sL p2.toNatClampNeg)) = 0 then (f_X2_sign (bL p1.toNatClampNeg) (bL p2.toNatClampNeg)) else (f_X2_sign (sL p1.toNatClampNeg) (sL p2.toNatClampNeg))) else 0) else 0)
def k_X2_orderLengths (sL : Nat → Int64) (p1 : Int32) (p2 : Int32) : Int32 := (if k_X2_checkSlot p1 4 = 0 then (if k_X2_checkSlot p2 4 = 0 then (if (f_X2_sign (sL p1.toNatClampNeg) (sL p2.toNatClampNeg)) = 0 then 0 else 0) else k_X2_checkSlot p2 4) else k_X2_checkSlot p1 4)
theorem q_X2_orderLengths : ZY yX2_orderLengths wsX2_orderLengths cX2_orderLengths 4 (some .int) 2 := ⟨⟨_, rfl⟩, by decide +kernel, by decide +kernel, by decide +kernel⟩
set_option maxHeartbeats 4000000 in
set_option maxRecDepth 100000 in
theorem c_X2_orderLengths (l : Launch) (hfl : l.stackTraces = false) (D : va_G) (cI cJ : ClassId) (X : va_W) (y : Nat → Nat) (d : Nat → Int64) (sy : Nat → Int32) (sm : Nat → Int32) (sd : Nat → Int32) (mi : Nat → Int32) (ti : Nat → Int64) (sL : Nat → Int64) (bL : Nat → Int64) (mD : Nat → Int64) (mT : Nat → Int64) (p1 : Int32) (p2 : Int32)  : ZM l yX2_orderLengths wsX2_orderLengths { frames := 7, cells := 2, slots := 12, locals := 103 } [.ref (y 0), .int p1, .int p2] D (zTys cI cJ) (wY cI cJ y d sy sm sd mi ti sL bL mD mT X) 2 12 (fun v w => k_X2_orderLengths sL p1 p2 = 0 ∧ v = some (.int (f_X2_orderLengths sL bL p1 p2)) ∧ w = (wY cI cJ y d sy sm sd mi ti sL bL mD mT X)) (fun E w => w = (wY cI cJ y d sy sm sd mi ti sL bL mD mT X) ∧ zEx E (k_X2_orderLengths sL p1 p2)) := by
  refine z_open (own := RX2) hfl (cc := cX2_orderLengths) (maxL := 4) (ret := (some .int)) (lv := [(0, .ref (y 0)), (1, .int p1), (2, .int p2)]) rfl (by decide) rfl rfl (Nat.le_of_ble_eq_true rfl) ?_
  intro p e s m args below meth c A C hno hnm hargs
  have hin : ∀ w ∈ wsX20, w ∈ wsX2_orderLengths := by decide +kernel
  have w1 := C.1.2.2.2.2 (.fieldLink RX2 29 "Yearwheel" "lengthSeconds" "[J") (by decide +kernel)
  have w2 := C.1.2.2.2.2 (.fieldLink RX2 32 "Yearwheel" "lengthBillionths" "[J") (by decide +kernel)
  refine z_iload_n C dX2_orderLengths_0 rfl 1 rfl ?_
  refine z_iconst (v := 4) C dX2_orderLengths_1 (by decide) ?_
  refine z_xsv (rest := []) C (c_X2_checkSlot l hfl D cI cJ _ p1 (4 : Int32) ) q_X2_checkSlot gX2_orderLengths_X2_checkSlot ⟨rfl, rfl⟩ rfl rfl (Nat.le_of_ble_eq_true rfl) ⟨Nat.le_of_ble_eq_true rfl, Nat.le_of_ble_eq_true rfl⟩ ⟨Nat.le_of_ble_eq_true rfl, Nat.le_of_ble_eq_true rfl⟩ dX2_orderLengths_2 (fun h1 => ?_) (fun E h1 h1_E => ?_)
  · refine z_iload_n C dX2_orderLengths_5 rfl 2 rfl ?_
    refine z_iconst (v := 4) C dX2_orderLengths_6 (by decide) ?_
    refine z_xsv (rest := []) C (c_X2_checkSlot l hfl D cI cJ _ p2 (4 : Int32) ) q_X2_checkSlot gX2_orderLengths_X2_checkSlot ⟨rfl, rfl⟩ rfl rfl (Nat.le_of_ble_eq_true rfl) ⟨Nat.le_of_ble_eq_true rfl, Nat.le_of_ble_eq_true rfl⟩ ⟨Nat.le_of_ble_eq_true rfl, Nat.le_of_ble_eq_true rfl⟩ dX2_orderLengths_7 (fun h2 => ?_) (fun E h2 h2_E => ?_)
    · refine z_aload_n C dX2_orderLengths_10 rfl 0 rfl ?_
      refine z_get (CC := RX2) (T := TX2) (N := 10) (ci := 2) C hin 0 rfl rfl 6 (by decide) w1 rfl rfl dX2_orderLengths_11 ?_
      refine z_iload_n C dX2_orderLengths_14 rfl 1 rfl ?_
      refine z_lald C 7 1 rfl rfl (vpS4 h1) dX2_orderLengths_15 ?_
      refine z_aload_n C dX2_orderLengths_16 rfl 0 rfl ?_
      refine z_get (CC := RX2) (T := TX2) (N := 10) (ci := 2) C hin 0 rfl rfl 6 (by decide) w1 rfl rfl dX2_orderLengths_17 ?_
      refine z_iload_n C dX2_orderLengths_20 rfl 2 rfl ?_
      refine z_lald C 7 1 rfl rfl (vpS4 h2) dX2_orderLengths_21 ?_
      refine z_si (rest := []) C (c_X2_sign l hfl D cI cJ _ (sL p1.toNatClampNeg) (sL p2.toNatClampNeg) ) q_X2_sign gX2_orderLengths_X2_sign ⟨rfl, rfl⟩ rfl rfl (Nat.le_of_ble_eq_true rfl) ⟨Nat.le_of_ble_eq_true rfl, Nat.le_of_ble_eq_true rfl⟩ ⟨Nat.le_of_ble_eq_true rfl, Nat.le_of_ble_eq_true rfl⟩ dX2_orderLengths_22 ?_
      refine z_istore_n (lv' := [(3, .int (f_X2_sign (sL p1.toNatClampNeg) (sL p2.toNatClampNeg))), (0, .ref (y 0)), (1, .int p1), (2, .int p2)]) C dX2_orderLengths_25 rfl (by decide) rfl ?_
      refine z_iload_n C dX2_orderLengths_26 rfl 0 rfl ?_
      refine z_if_eq (tgt := 34) C dX2_orderLengths_27 (by decide) (fun h3 => ?_) (fun h3 => ?_)
      · refine z_aload_n C dX2_orderLengths_34 rfl 1 rfl ?_
        refine z_get (CC := RX2) (T := TX2) (N := 10) (ci := 2) C hin 0 rfl rfl 7 (by decide) w2 rfl rfl dX2_orderLengths_35 ?_
        refine z_iload_n C dX2_orderLengths_38 rfl 2 rfl ?_
        refine z_lald C 8 1 rfl rfl (vpS4 h1) dX2_orderLengths_39 ?_
        refine z_aload_n C dX2_orderLengths_40 rfl 1 rfl ?_
        refine z_get (CC := RX2) (T := TX2) (N := 10) (ci := 2) C hin 0 rfl rfl 7 (by decide) w2 rfl rfl dX2_orderLengths_41 ?_
        refine z_iload_n C dX2_orderLengths_44 rfl 3 rfl ?_
        refine z_lald C 8 1 rfl rfl (vpS4 h2) dX2_orderLengths_45 ?_
        refine z_si (rest := []) C (c_X2_sign l hfl D cI cJ _ (bL p1.toNatClampNeg) (bL p2.toNatClampNeg) ) q_X2_sign gX2_orderLengths_X2_sign ⟨rfl, rfl⟩ rfl rfl (Nat.le_of_ble_eq_true rfl) ⟨Nat.le_of_ble_eq_true rfl, Nat.le_of_ble_eq_true rfl⟩ ⟨Nat.le_of_ble_eq_true rfl, Nat.le_of_ble_eq_true rfl⟩ dX2_orderLengths_46 ?_
        exact z_iret C ⟨by rw [k_X2_orderLengths, if_pos h1, if_pos h2, if_pos h3], congrArg (fun v => some (Value.int v)) (by rw [f_X2_orderLengths, if_pos h1, if_pos h2, if_pos h3] : (f_X2_sign (bL p1.toNatClampNeg) (bL p2.toNatClampNeg)) = (f_X2_orderLengths sL bL p1 p2)), rfl⟩ (by decide) (by decide) dX2_orderLengths_49
      · refine z_iload_n C dX2_orderLengths_30 rfl 0 rfl ?_
        refine z_goto (tgt := 49) C dX2_orderLengths_31 (by decide) ?_
        exact z_iret C ⟨by rw [k_X2_orderLengths, if_pos h1, if_pos h2, if_neg h3], congrArg (fun v => some (Value.int v)) (by rw [f_X2_orderLengths, if_pos h1, if_pos h2, if_neg h3] : (f_X2_sign (sL p1.toNatClampNeg) (sL p2.toNatClampNeg)) = (f_X2_orderLengths sL bL p1 p2)), rfl⟩ (by decide) (by decide) dX2_orderLengths_49
    · exact z_tout C hno ⟨rfl, by rw [k_X2_orderLengths, if_pos h1, if_neg h2]; exact h2_E⟩ (by decide) (by decide)
  · exact z_tout C hno ⟨rfl, by rw [k_X2_orderLengths, if_neg h1]; exact h1_E⟩ (by decide) (by decide)
