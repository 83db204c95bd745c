theorem z01_ite {c : Prop} [Decidable c] {a b : Int32} (ha : a = 0 ∨ a = 1) (hb : b = 0 ∨ b = 1) : (if c then a else b) = 0 ∨ (if c then a else b) = 1 := by
  by_cases h : c
  · rw [if_pos h]; exact ha
  · rw [if_neg h]; exact hb
def f_X2_checksum (d : Nat → Int64) (sy : Nat → Int32) (sm : Nat → Int32) (sd : Nat → Int32) (mi : Nat → Int32) (ti : Nat → Int64) (sL : Nat → Int64) (bL : Nat → Int64) (mD : Nat → Int64) (mT : Nat → Int64) : Int64 := ((31 * ((31 * ((31 * ((31 * ((31 * ((31 * ((31 * ((31 * ((31 * ((31 * ((31 * ((31 * ((31 * ((31 * ((31 * ((31 * ((31 * ((31 * ((31 * ((31 * ((31 * ((31 * ((31 * ((31 * ((31 * ((31 * ((31 * ((31 * ((31 * ((31 * ((31 * ((31 * ((31 * ((31 * ((31 * ((31 * ((31 * ((31 * ((31 * ((31 * ((31 * ((31 * ((31 * ((31 * ((31 * (217 + (d 0))) + (d 1))) + (d 2))) + (d 3))) + (d 4))) + (d 5))) + ((sy 0)).toInt64)) + ((sm 0)).toInt64)) + ((sd 0)).toInt64)) + ((sy 1)).toInt64)) + ((sm 1)).toInt64)) + ((sd 1)).toInt64)) + ((sy 2)).toInt64)) + ((sm 2)).toInt64)) + ((sd 2)).toInt64)) + ((sy 3)).toInt64)) + ((sm 3)).toInt64)) + ((sd 3)).toInt64)) + (f_X1_yearOfMonth (((mi 0)).toInt64)))) + ((f_X1_monthInYear (((mi 0)).toInt64))).toInt64)) + (f_X1_yearOfMonth (((mi 1)).toInt64)))) + ((f_X1_monthInYear (((mi 1)).toInt64))).toInt64)) + (f_X1_yearOfMonth (((mi 2)).toInt64)))) + ((f_X1_monthInYear (((mi 2)).toInt64))).toInt64)) + (f_X1_yearOfMonth (((mi 3)).toInt64)))) + ((f_X1_monthInYear (((mi 3)).toInt64))).toInt64)) + (ti 0))) + (ti 1))) + (ti 2))) + (ti 3))) + (sL 0))) + (bL 0))) + (sL 1))) + (bL 1))) + (sL 2))) + (bL 2))) + (sL 3))) + (bL 3))) + (mD 0))) + (mT 0))) + (mD 1))) + (mT 1))) + (mD 2))) + (mT 2))) + (mD 3))) + (mT 3))
theorem q_X2_checksum : ZY yX2_checksum wsX2_checksum cX2_checksum 4 (some .long) 0 := ⟨⟨_, rfl⟩, by decide +kernel, by decide +kernel, by decide +kernel⟩
set_option maxHeartbeats 4000000 in
set_option maxRecDepth 100000 in
theorem c_X2_checksum (l : Launch) (hfl : l.stackTraces = false) (D : va_G) (cI cJ : ClassId) (X : va_W) (y : Nat → Nat) (d : Nat → Int64) (sy : Nat → Int32) (sm : Nat → Int32) (sd : Nat → Int32) (mi : Nat → Int32) (ti : Nat → Int64) (sL : Nat → Int64) (bL : Nat → Int64) (mD : Nat → Int64) (mT : Nat → Int64)  : ZM l yX2_checksum wsX2_checksum { frames := 2, cells := 0, slots := 0, locals := 46 } [.ref (y 0)] D (zTys cI cJ) (wY cI cJ y d sy sm sd mi ti sL bL mD mT X) 0 0 (fun v w => v = some (.long (f_X2_checksum d sy sm sd mi ti sL bL mD mT)) ∧ w = (wY cI cJ y d sy sm sd mi ti sL bL mD mT X)) (fun _ _ => False) := by
  refine z_open (own := RX2) hfl (cc := cX2_checksum) (maxL := 4) (ret := (some .long)) (lv := [(0, .ref (y 0))]) rfl (by decide) rfl rfl (Nat.le_of_ble_eq_true rfl) ?_
  intro p e s m args below meth c A C hno hnm hargs
  have hin : ∀ w ∈ wsX20, w ∈ wsX2_checksum := by decide +kernel
  have w1 := C.1.2.2.2.2 (.constantLong RX2 130 (7)) (by decide +kernel)
  have w2 := C.1.2.2.2.2 (.constantLong RX2 256 (31)) (by decide +kernel)
  have w3 := C.1.2.2.2.2 (.fieldLink RX2 9 "Yearwheel" "dates" "[J") (by decide +kernel)
  have w4 := C.1.2.2.2.2 (.fieldLink RX2 13 "Yearwheel" "spanYears" "[I") (by decide +kernel)
  have w5 := C.1.2.2.2.2 (.fieldLink RX2 17 "Yearwheel" "spanMonths" "[I") (by decide +kernel)
  have w6 := C.1.2.2.2.2 (.fieldLink RX2 20 "Yearwheel" "spanDays" "[I") (by decide +kernel)
  have w7 := C.1.2.2.2.2 (.fieldLink RX2 23 "Yearwheel" "monthIndices" "[I") (by decide +kernel)
  have w8 := C.1.2.2.2.2 (.fieldLink RX2 26 "Yearwheel" "times" "[J") (by decide +kernel)
  have w9 := C.1.2.2.2.2 (.fieldLink RX2 29 "Yearwheel" "lengthSeconds" "[J") (by decide +kernel)
  have w10 := C.1.2.2.2.2 (.fieldLink RX2 32 "Yearwheel" "lengthBillionths" "[J") (by decide +kernel)
  have w11 := C.1.2.2.2.2 (.fieldLink RX2 35 "Yearwheel" "momentDays" "[J") (by decide +kernel)
  have w12 := C.1.2.2.2.2 (.fieldLink RX2 38 "Yearwheel" "momentTimes" "[J") (by decide +kernel)
  refine z_ldc2 (v := 7) C w1 dX2_checksum_0 ?_
  refine z_lstore_n (lv' := [(1, .long 7), (0, .ref (y 0))]) C dX2_checksum_3 rfl (by decide) rfl ?_
  refine z_iconst (v := 0) C dX2_checksum_4 (by decide) ?_
  refine z_istore_n (lv' := [(3, .int 0), (1, .long 7), (0, .ref (y 0))]) C dX2_checksum_5 rfl (by decide) rfl ?_
  refine z_iload_n C dX2_checksum_6 rfl 0 rfl ?_
  refine z_bipush (v := 6) C dX2_checksum_7 (by decide) ?_
  refine z_icmp_ge (tgt := 31) C dX2_checksum_9 (by decide) (fun h => absurd h (by decide)) (fun _ => ?_)
  refine z_ldc2 (v := 31) C w2 dX2_checksum_12 ?_
  refine z_lload_n C dX2_checksum_15 rfl 1 rfl ?_
  refine z_lmul C dX2_checksum_16 ?_
  refine z_eqst (st' := [.long 217]) (congrArg (fun v => Value.long v :: _) (by decide : (31 * 7) = (217 : Int64))) ?_
  refine z_aload_n C dX2_checksum_17 rfl 2 rfl ?_
  refine z_get (CC := RX2) (T := TX2) (N := 10) (ci := 2) C hin 0 rfl rfl 0 (by decide) w3 rfl rfl dX2_checksum_18 ?_
  refine z_iload_n C dX2_checksum_21 rfl 0 rfl ?_
  refine z_lald C 1 1 rfl rfl (zvpl 0 6 (by decide)) dX2_checksum_22 ?_
  refine z_eqst (st' := [.long (d 0), .long 217]) rfl ?_
  refine z_ladd C dX2_checksum_23 ?_
  refine z_lstore_n (lv' := [(1, .long (217 + (d 0))), (3, .int 0), (0, .ref (y 0))]) C dX2_checksum_24 rfl (by decide) rfl ?_
  refine z_iinc (q := 1) (v := 1) (lv' := [(3, .int 1), (1, .long (217 + (d 0))), (0, .ref (y 0))]) C dX2_checksum_25 rfl (by decide) (by decide) rfl ?_
  refine z_goto (tgt := 6) C dX2_checksum_28 (by decide) ?_
  refine z_iload_n C dX2_checksum_6 rfl 0 rfl ?_
  refine z_bipush (v := 6) C dX2_checksum_7 (by decide) ?_
  refine z_icmp_ge (tgt := 31) C dX2_checksum_9 (by decide) (fun h => absurd h (by decide)) (fun _ => ?_)
  refine z_ldc2 (v := 31) C w2 dX2_checksum_12 ?_
  refine z_lload_n C dX2_checksum_15 rfl 1 rfl ?_
  refine z_lmul C dX2_checksum_16 ?_
  refine z_aload_n C dX2_checksum_17 rfl 2 rfl ?_
  refine z_get (CC := RX2) (T := TX2) (N := 10) (ci := 2) C hin 0 rfl rfl 0 (by decide) w3 rfl rfl dX2_checksum_18 ?_
  refine z_iload_n C dX2_checksum_21 rfl 0 rfl ?_
  refine z_lald C 1 1 rfl rfl (zvpl 1 6 (by decide)) dX2_checksum_22 ?_
  refine z_eqst (st' := [.long (d 1), .long (31 * (217 + (d 0)))]) rfl ?_
  refine z_ladd C dX2_checksum_23 ?_
  refine z_lstore_n (lv' := [(1, .long ((31 * (217 + (d 0))) + (d 1))), (3, .int 1), (0, .ref (y 0))]) C dX2_checksum_24 rfl (by decide) rfl ?_
  refine z_iinc (q := 1) (v := 2) (lv' := [(3, .int 2), (1, .long ((31 * (217 + (d 0))) + (d 1))), (0, .ref (y 0))]) C dX2_checksum_25 rfl (by decide) (by decide) rfl ?_
  refine z_goto (tgt := 6) C dX2_checksum_28 (by decide) ?_
  refine z_iload_n C dX2_checksum_6 rfl 0 rfl ?_
  refine z_bipush (v := 6) C dX2_checksum_7 (by decide) ?_
  refine z_icmp_ge (tgt := 31) C dX2_checksum_9 (by decide) (fun h => absurd h (by decide)) (fun _ => ?_)
  refine z_ldc2 (v := 31) C w2 dX2_checksum_12 ?_
  refine z_lload_n C dX2_checksum_15 rfl 1 rfl ?_
  refine z_lmul C dX2_checksum_16 ?_
  refine z_aload_n C dX2_checksum_17 rfl 2 rfl ?_
  refine z_get (CC := RX2) (T := TX2) (N := 10) (ci := 2) C hin 0 rfl rfl 0 (by decide) w3 rfl rfl dX2_checksum_18 ?_
  refine z_iload_n C dX2_checksum_21 rfl 0 rfl ?_
  refine z_lald C 1 1 rfl rfl (zvpl 2 6 (by decide)) dX2_checksum_22 ?_
  refine z_eqst (st' := [.long (d 2), .long (31 * ((31 * (217 + (d 0))) + (d 1)))]) rfl ?_
  refine z_ladd C dX2_checksum_23 ?_
  refine z_lstore_n (lv' := [(1, .long ((31 * ((31 * (217 + (d 0))) + (d 1))) + (d 2))), (3, .int 2), (0, .ref (y 0))]) C dX2_checksum_24 rfl (by decide) rfl ?_
  refine z_iinc (q := 1) (v := 3) (lv' := [(3, .int 3), (1, .long ((31 * ((31 * (217 + (d 0))) + (d 1))) + (d 2))), (0, .ref (y 0))]) C dX2_checksum_25 rfl (by decide) (by decide) rfl ?_
  refine z_goto (tgt := 6) C dX2_checksum_28 (by decide) ?_
  refine z_iload_n C dX2_checksum_6 rfl 0 rfl ?_
  refine z_bipush (v := 6) C dX2_checksum_7 (by decide) ?_
  refine z_icmp_ge (tgt := 31) C dX2_checksum_9 (by decide) (fun h => absurd h (by decide)) (fun _ => ?_)
  refine z_ldc2 (v := 31) C w2 dX2_checksum_12 ?_
  refine z_lload_n C dX2_checksum_15 rfl 1 rfl ?_
  refine z_lmul C dX2_checksum_16 ?_
  refine z_aload_n C dX2_checksum_17 rfl 2 rfl ?_
  refine z_get (CC := RX2) (T := TX2) (N := 10) (ci := 2) C hin 0 rfl rfl 0 (by decide) w3 rfl rfl dX2_checksum_18 ?_
  refine z_iload_n C dX2_checksum_21 rfl 0 rfl ?_
  refine z_lald C 1 1 rfl rfl (zvpl 3 6 (by decide)) dX2_checksum_22 ?_
  refine z_eqst (st' := [.long (d 3), .long (31 * ((31 * ((31 * (217 + (d 0))) + (d 1))) + (d 2)))]) rfl ?_
  refine z_ladd C dX2_checksum_23 ?_
  refine z_lstore_n (lv' := [(1, .long ((31 * ((31 * ((31 * (217 + (d 0))) + (d 1))) + (d 2))) + (d 3))), (3, .int 3), (0, .ref (y 0))]) C dX2_checksum_24 rfl (by decide) rfl ?_
  refine z_iinc (q := 1) (v := 4) (lv' := [(3, .int 4), (1, .long ((31 * ((31 * ((31 * (217 + (d 0))) + (d 1))) + (d 2))) + (d 3))), (0, .ref (y 0))]) C dX2_checksum_25 rfl (by decide) (by decide) rfl ?_
  refine z_goto (tgt := 6) C dX2_checksum_28 (by decide) ?_
  refine z_iload_n C dX2_checksum_6 rfl 0 rfl ?_
  refine z_bipush (v := 6) C dX2_checksum_7 (by decide) ?_
  refine z_icmp_ge (tgt := 31) C dX2_checksum_9 (by decide) (fun h => absurd h (by decide)) (fun _ => ?_)
  refine z_ldc2 (v := 31) C w2 dX2_checksum_12 ?_
  refine z_lload_n C dX2_checksum_15 rfl 1 rfl ?_
  refine z_lmul C dX2_checksum_16 ?_
  refine z_aload_n C dX2_checksum_17 rfl 2 rfl ?_
  refine z_get (CC := RX2) (T := TX2) (N := 10) (ci := 2) C hin 0 rfl rfl 0 (by decide) w3 rfl rfl dX2_checksum_18 ?_
  refine z_iload_n C dX2_checksum_21 rfl 0 rfl ?_
  refine z_lald C 1 1 rfl rfl (zvpl 4 6 (by decide)) dX2_checksum_22 ?_
  refine z_eqst (st' := [.long (d 4), .long (31 * ((31 * ((31 * ((31 * (217 + (d 0))) + (d 1))) + (d 2))) + (d 3)))]) rfl ?_
  refine z_ladd C dX2_checksum_23 ?_
  refine z_lstore_n (lv' := [(1, .long ((31 * ((31 * ((31 * ((31 * (217 + (d 0))) + (d 1))) + (d 2))) + (d 3))) + (d 4))), (3, .int 4), (0, .ref (y 0))]) C dX2_checksum_24 rfl (by decide) rfl ?_
  refine z_iinc (q := 1) (v := 5) (lv' := [(3, .int 5), (1, .long ((31 * ((31 * ((31 * ((31 * (217 + (d 0))) + (d 1))) + (d 2))) + (d 3))) + (d 4))), (0, .ref (y 0))]) C dX2_checksum_25 rfl (by decide) (by decide) rfl ?_
  refine z_goto (tgt := 6) C dX2_checksum_28 (by decide) ?_
  refine z_iload_n C dX2_checksum_6 rfl 0 rfl ?_
  refine z_bipush (v := 6) C dX2_checksum_7 (by decide) ?_
  refine z_icmp_ge (tgt := 31) C dX2_checksum_9 (by decide) (fun h => absurd h (by decide)) (fun _ => ?_)
  refine z_ldc2 (v := 31) C w2 dX2_checksum_12 ?_
  refine z_lload_n C dX2_checksum_15 rfl 1 rfl ?_
  refine z_lmul C dX2_checksum_16 ?_
  refine z_aload_n C dX2_checksum_17 rfl 2 rfl ?_
  refine z_get (CC := RX2) (T := TX2) (N := 10) (ci := 2) C hin 0 rfl rfl 0 (by decide) w3 rfl rfl dX2_checksum_18 ?_
  refine z_iload_n C dX2_checksum_21 rfl 0 rfl ?_
  refine z_lald C 1 1 rfl rfl (zvpl 5 6 (by decide)) dX2_checksum_22 ?_
  refine z_eqst (st' := [.long (d 5), .long (31 * ((31 * ((31 * ((31 * ((31 * (217 + (d 0))) + (d 1))) + (d 2))) + (d 3))) + (d 4)))]) rfl ?_
  refine z_ladd C dX2_checksum_23 ?_
  refine z_lstore_n (lv' := [(1, .long ((31 * ((31 * ((31 * ((31 * ((31 * (217 + (d 0))) + (d 1))) + (d 2))) + (d 3))) + (d 4))) + (d 5))), (3, .int 5), (0, .ref (y 0))]) C dX2_checksum_24 rfl (by decide) rfl ?_
  refine z_iinc (q := 1) (v := 6) (lv' := [(3, .int 6), (1, .long ((31 * ((31 * ((31 * ((31 * ((31 * (217 + (d 0))) + (d 1))) + (d 2))) + (d 3))) + (d 4))) + (d 5))), (0, .ref (y 0))]) C dX2_checksum_25 rfl (by decide) (by decide) rfl ?_
  refine z_goto (tgt := 6) C dX2_checksum_28 (by decide) ?_
  refine z_iload_n C dX2_checksum_6 rfl 0 rfl ?_
  refine z_bipush (v := 6) C dX2_checksum_7 (by decide) ?_
  refine z_icmp_ge (tgt := 31) C dX2_checksum_9 (by decide) (fun _ => ?_) (fun h => absurd (by decide) h)
  refine z_iconst (v := 0) C dX2_checksum_31 (by decide) ?_
  refine z_istore_n (lv' := [(3, .int 0), (1, .long ((31 * ((31 * ((31 * ((31 * ((31 * (217 + (d 0))) + (d 1))) + (d 2))) + (d 3))) + (d 4))) + (d 5))), (0, .ref (y 0))]) C dX2_checksum_32 rfl (by decide) rfl ?_
  refine z_iload_n C dX2_checksum_33 rfl 0 rfl ?_
  refine z_iconst (v := 4) C dX2_checksum_34 (by decide) ?_
  refine z_icmp_ge (tgt := 86) C dX2_checksum_35 (by decide) (fun h => absurd h (by decide)) (fun _ => ?_)
  refine z_ldc2 (v := 31) C w2 dX2_checksum_38 ?_
  refine z_lload_n C dX2_checksum_41 rfl 1 rfl ?_
  refine z_lmul C dX2_checksum_42 ?_
  refine z_aload_n C dX2_checksum_43 rfl 2 rfl ?_
  refine z_get (CC := RX2) (T := TX2) (N := 10) (ci := 2) C hin 0 rfl rfl 1 (by decide) w4 rfl rfl dX2_checksum_44 ?_
  refine z_iload_n C dX2_checksum_47 rfl 0 rfl ?_
  refine z_iald C 2 0 rfl rfl (zvpl 0 4 (by decide)) dX2_checksum_48 ?_
  refine z_eqst (st' := [.int (sy 0), .long (31 * ((31 * ((31 * ((31 * ((31 * ((31 * (217 + (d 0))) + (d 1))) + (d 2))) + (d 3))) + (d 4))) + (d 5)))]) rfl ?_
  refine z_i2l (v := ((sy 0)).toInt64) C dX2_checksum_49 rfl ?_
  refine z_ladd C dX2_checksum_50 ?_
  refine z_lstore_n (lv' := [(1, .long ((31 * ((31 * ((31 * ((31 * ((31 * ((31 * (217 + (d 0))) + (d 1))) + (d 2))) + (d 3))) + (d 4))) + (d 5))) + ((sy 0)).toInt64)), (3, .int 0), (0, .ref (y 0))]) C dX2_checksum_51 rfl (by decide) rfl ?_
  refine z_ldc2 (v := 31) C w2 dX2_checksum_52 ?_
  refine z_lload_n C dX2_checksum_55 rfl 0 rfl ?_
  refine z_lmul C dX2_checksum_56 ?_
  refine z_aload_n C dX2_checksum_57 rfl 2 rfl ?_
  refine z_get (CC := RX2) (T := TX2) (N := 10) (ci := 2) C hin 0 rfl rfl 2 (by decide) w5 rfl rfl dX2_checksum_58 ?_
  refine z_iload_n C dX2_checksum_61 rfl 1 rfl ?_
  refine z_iald C 3 0 rfl rfl (zvpl 0 4 (by decide)) dX2_checksum_62 ?_
  refine z_eqst (st' := [.int (sm 0), .long (31 * ((31 * ((31 * ((31 * ((31 * ((31 * ((31 * (217 + (d 0))) + (d 1))) + (d 2))) + (d 3))) + (d 4))) + (d 5))) + ((sy 0)).toInt64))]) rfl ?_
  refine z_i2l (v := ((sm 0)).toInt64) C dX2_checksum_63 rfl ?_
  refine z_ladd C dX2_checksum_64 ?_
  refine z_lstore_n (lv' := [(1, .long ((31 * ((31 * ((31 * ((31 * ((31 * ((31 * ((31 * (217 + (d 0))) + (d 1))) + (d 2))) + (d 3))) + (d 4))) + (d 5))) + ((sy 0)).toInt64)) + ((sm 0)).toInt64)), (3, .int 0), (0, .ref (y 0))]) C dX2_checksum_65 rfl (by decide) rfl ?_
  refine z_ldc2 (v := 31) C w2 dX2_checksum_66 ?_
  refine z_lload_n C dX2_checksum_69 rfl 0 rfl ?_
  refine z_lmul C dX2_checksum_70 ?_
  refine z_aload_n C dX2_checksum_71 rfl 2 rfl ?_
  refine z_get (CC := RX2) (T := TX2) (N := 10) (ci := 2) C hin 0 rfl rfl 3 (by decide) w6 rfl rfl dX2_checksum_72 ?_
  refine z_iload_n C dX2_checksum_75 rfl 1 rfl ?_
  refine z_iald C 4 0 rfl rfl (zvpl 0 4 (by decide)) dX2_checksum_76 ?_
  refine z_eqst (st' := [.int (sd 0), .long (31 * ((31 * ((31 * ((31 * ((31 * ((31 * ((31 * ((31 * (217 + (d 0))) + (d 1))) + (d 2))) + (d 3))) + (d 4))) + (d 5))) + ((sy 0)).toInt64)) + ((sm 0)).toInt64))]) rfl ?_
  refine z_i2l (v := ((sd 0)).toInt64) C dX2_checksum_77 rfl ?_
  refine z_ladd C dX2_checksum_78 ?_
  refine z_lstore_n (lv' := [(1, .long ((31 * ((31 * ((31 * ((31 * ((31 * ((31 * ((31 * ((31 * (217 + (d 0))) + (d 1))) + (d 2))) + (d 3))) + (d 4))) + (d 5))) + ((sy 0)).toInt64)) + ((sm 0)).toInt64)) + ((sd 0)).toInt64)), (3, .int 0), (0, .ref (y 0))]) C dX2_checksum_79 rfl (by decide) rfl ?_
  refine z_iinc (q := 1) (v := 1) (lv' := [(3, .int 1), (1, .long ((31 * ((31 * ((31 * ((31 * ((31 * ((31 * ((31 * ((31 * (217 + (d 0))) + (d 1))) + (d 2))) + (d 3))) + (d 4))) + (d 5))) + ((sy 0)).toInt64)) + ((sm 0)).toInt64)) + ((sd 0)).toInt64)), (0, .ref (y 0))]) C dX2_checksum_80 rfl (by decide) (by decide) rfl ?_
  refine z_goto (tgt := 33) C dX2_checksum_83 (by decide) ?_
  refine z_iload_n C dX2_checksum_33 rfl 0 rfl ?_
  refine z_iconst (v := 4) C dX2_checksum_34 (by decide) ?_
  refine z_icmp_ge (tgt := 86) C dX2_checksum_35 (by decide) (fun h => absurd h (by decide)) (fun _ => ?_)
  refine z_ldc2 (v := 31) C w2 dX2_checksum_38 ?_
  refine z_lload_n C dX2_checksum_41 rfl 1 rfl ?_
  refine z_lmul C dX2_checksum_42 ?_
  refine z_aload_n C dX2_checksum_43 rfl 2 rfl ?_
  refine z_get (CC := RX2) (T := TX2) (N := 10) (ci := 2) C hin 0 rfl rfl 1 (by decide) w4 rfl rfl dX2_checksum_44 ?_
  refine z_iload_n C dX2_checksum_47 rfl 0 rfl ?_
  refine z_iald C 2 0 rfl rfl (zvpl 1 4 (by decide)) dX2_checksum_48 ?_
  refine z_eqst (st' := [.int (sy 1), .long (31 * ((31 * ((31 * ((31 * ((31 * ((31 * ((31 * ((31 * ((31 * (217 + (d 0))) + (d 1))) + (d 2))) + (d 3))) + (d 4))) + (d 5))) + ((sy 0)).toInt64)) + ((sm 0)).toInt64)) + ((sd 0)).toInt64))]) rfl ?_
  refine z_i2l (v := ((sy 1)).toInt64) C dX2_checksum_49 rfl ?_
  refine z_ladd C dX2_checksum_50 ?_
  refine z_lstore_n (lv' := [(1, .long ((31 * ((31 * ((31 * ((31 * ((31 * ((31 * ((31 * ((31 * ((31 * (217 + (d 0))) + (d 1))) + (d 2))) + (d 3))) + (d 4))) + (d 5))) + ((sy 0)).toInt64)) + ((sm 0)).toInt64)) + ((sd 0)).toInt64)) + ((sy 1)).toInt64)), (3, .int 1), (0, .ref (y 0))]) C dX2_checksum_51 rfl (by decide) rfl ?_
  refine z_ldc2 (v := 31) C w2 dX2_checksum_52 ?_
  refine z_lload_n C dX2_checksum_55 rfl 0 rfl ?_
  refine z_lmul C dX2_checksum_56 ?_
  refine z_aload_n C dX2_checksum_57 rfl 2 rfl ?_
  refine z_get (CC := RX2) (T := TX2) (N := 10) (ci := 2) C hin 0 rfl rfl 2 (by decide) w5 rfl rfl dX2_checksum_58 ?_
  refine z_iload_n C dX2_checksum_61 rfl 1 rfl ?_
  refine z_iald C 3 0 rfl rfl (zvpl 1 4 (by decide)) dX2_checksum_62 ?_
  refine z_eqst (st' := [.int (sm 1), .long (31 * ((31 * ((31 * ((31 * ((31 * ((31 * ((31 * ((31 * ((31 * ((31 * (217 + (d 0))) + (d 1))) + (d 2))) + (d 3))) + (d 4))) + (d 5))) + ((sy 0)).toInt64)) + ((sm 0)).toInt64)) + ((sd 0)).toInt64)) + ((sy 1)).toInt64))]) rfl ?_
  refine z_i2l (v := ((sm 1)).toInt64) C dX2_checksum_63 rfl ?_
  refine z_ladd C dX2_checksum_64 ?_
  refine z_lstore_n (lv' := [(1, .long ((31 * ((31 * ((31 * ((31 * ((31 * ((31 * ((31 * ((31 * ((31 * ((31 * (217 + (d 0))) + (d 1))) + (d 2))) + (d 3))) + (d 4))) + (d 5))) + ((sy 0)).toInt64)) + ((sm 0)).toInt64)) + ((sd 0)).toInt64)) + ((sy 1)).toInt64)) + ((sm 1)).toInt64)), (3, .int 1), (0, .ref (y 0))]) C dX2_checksum_65 rfl (by decide) rfl ?_
  refine z_ldc2 (v := 31) C w2 dX2_checksum_66 ?_
  refine z_lload_n C dX2_checksum_69 rfl 0 rfl ?_
  refine z_lmul C dX2_checksum_70 ?_
  refine z_aload_n C dX2_checksum_71 rfl 2 rfl ?_
  refine z_get (CC := RX2) (T := TX2) (N := 10) (ci := 2) C hin 0 rfl rfl 3 (by decide) w6 rfl rfl dX2_checksum_72 ?_
  refine z_iload_n C dX2_checksum_75 rfl 1 rfl ?_
  refine z_iald C 4 0 rfl rfl (zvpl 1 4 (by decide)) dX2_checksum_76 ?_
  refine z_eqst (st' := [.int (sd 1), .long (31 * ((31 * ((31 * ((31 * ((31 * ((31 * ((31 * ((31 * ((31 * ((31 * ((31 * (217 + (d 0))) + (d 1))) + (d 2))) + (d 3))) + (d 4))) + (d 5))) + ((sy 0)).toInt64)) + ((sm 0)).toInt64)) + ((sd 0)).toInt64)) + ((sy 1)).toInt64)) + ((sm 1)).toInt64))]) rfl ?_
  refine z_i2l (v := ((sd 1)).toInt64) C dX2_checksum_77 rfl ?_
  refine z_ladd C dX2_checksum_78 ?_
  refine z_lstore_n (lv' := [(1, .long ((31 * ((31 * ((31 * ((31 * ((31 * ((31 * ((31 * ((31 * ((31 * ((31 * ((31 * (217 + (d 0))) + (d 1))) + (d 2))) + (d 3))) + (d 4))) + (d 5))) + ((sy 0)).toInt64)) + ((sm 0)).toInt64)) + ((sd 0)).toInt64)) + ((sy 1)).toInt64)) + ((sm 1)).toInt64)) + ((sd 1)).toInt64)), (3, .int 1), (0, .ref (y 0))]) C dX2_checksum_79 rfl (by decide) rfl ?_
  refine z_iinc (q := 1) (v := 2) (lv' := [(3, .int 2), (1, .long ((31 * ((31 * ((31 * ((31 * ((31 * ((31 * ((31 * ((31 * ((31 * ((31 * ((31 * (217 + (d 0))) + (d 1))) + (d 2))) + (d 3))) + (d 4))) + (d 5))) + ((sy 0)).toInt64)) + ((sm 0)).toInt64)) + ((sd 0)).toInt64)) + ((sy 1)).toInt64)) + ((sm 1)).toInt64)) + ((sd 1)).toInt64)), (0, .ref (y 0))]) C dX2_checksum_80 rfl (by decide) (by decide) rfl ?_
  refine z_goto (tgt := 33) C dX2_checksum_83 (by decide) ?_
  refine z_iload_n C dX2_checksum_33 rfl 0 rfl ?_
  refine z_iconst (v := 4) C dX2_checksum_34 (by decide) ?_
  refine z_icmp_ge (tgt := 86) C dX2_checksum_35 (by decide) (fun h => absurd h (by decide)) (fun _ => ?_)
  refine z_ldc2 (v := 31) C w2 dX2_checksum_38 ?_
  refine z_lload_n C dX2_checksum_41 rfl 1 rfl ?_
  refine z_lmul C dX2_checksum_42 ?_
  refine z_aload_n C dX2_checksum_43 rfl 2 rfl ?_
  refine z_get (CC := RX2) (T := TX2) (N := 10) (ci := 2) C hin 0 rfl rfl 1 (by decide) w4 rfl rfl dX2_checksum_44 ?_
  refine z_iload_n C dX2_checksum_47 rfl 0 rfl ?_
  refine z_iald C 2 0 rfl rfl (zvpl 2 4 (by decide)) dX2_checksum_48 ?_
  refine z_eqst (st' := [.int (sy 2), .long (31 * ((31 * ((31 * ((31 * ((31 * ((31 * ((31 * ((31 * ((31 * ((31 * ((31 * ((31 * (217 + (d 0))) + (d 1))) + (d 2))) + (d 3))) + (d 4))) + (d 5))) + ((sy 0)).toInt64)) + ((sm 0)).toInt64)) + ((sd 0)).toInt64)) + ((sy 1)).toInt64)) + ((sm 1)).toInt64)) + ((sd 1)).toInt64))]) rfl ?_
  refine z_i2l (v := ((sy 2)).toInt64) C dX2_checksum_49 rfl ?_
  refine z_ladd C dX2_checksum_50 ?_
  refine z_lstore_n (lv' := [(1, .long ((31 * ((31 * ((31 * ((31 * ((31 * ((31 * ((31 * ((31 * ((31 * ((31 * ((31 * ((31 * (217 + (d 0))) + (d 1))) + (d 2))) + (d 3))) + (d 4))) + (d 5))) + ((sy 0)).toInt64)) + ((sm 0)).toInt64)) + ((sd 0)).toInt64)) + ((sy 1)).toInt64)) + ((sm 1)).toInt64)) + ((sd 1)).toInt64)) + ((sy 2)).toInt64)), (3, .int 2), (0, .ref (y 0))]) C dX2_checksum_51 rfl (by decide) rfl ?_
  refine z_ldc2 (v := 31) C w2 dX2_checksum_52 ?_
  refine z_lload_n C dX2_checksum_55 rfl 0 rfl ?_
  refine z_lmul C dX2_checksum_56 ?_
  refine z_aload_n C dX2_checksum_57 rfl 2 rfl ?_
  refine z_get (CC := RX2) (T := TX2) (N := 10) (ci := 2) C hin 0 rfl rfl 2 (by decide) w5 rfl rfl dX2_checksum_58 ?_
  refine z_iload_n C dX2_checksum_61 rfl 1 rfl ?_
  refine z_iald C 3 0 rfl rfl (zvpl 2 4 (by decide)) dX2_checksum_62 ?_
  refine z_eqst (st' := [.int (sm 2), .long (31 * ((31 * ((31 * ((31 * ((31 * ((31 * ((31 * ((31 * ((31 * ((31 * ((31 * ((31 * ((31 * (217 + (d 0))) + (d 1))) + (d 2))) + (d 3))) + (d 4))) + (d 5))) + ((sy 0)).toInt64)) + ((sm 0)).toInt64)) + ((sd 0)).toInt64)) + ((sy 1)).toInt64)) + ((sm 1)).toInt64)) + ((sd 1)).toInt64)) + ((sy 2)).toInt64))]) rfl ?_
  refine z_i2l (v := ((sm 2)).toInt64) C dX2_checksum_63 rfl ?_
  refine z_ladd C dX2_checksum_64 ?_
  refine z_lstore_n (lv' := [(1, .long ((31 * ((31 * ((31 * ((31 * ((31 * ((31 * ((31 * ((31 * ((31 * ((31 * ((31 * ((31 * ((31 * (217 + (d 0))) + (d 1))) + (d 2))) + (d 3))) + (d 4))) + (d 5))) + ((sy 0)).toInt64)) + ((sm 0)).toInt64)) + ((sd 0)).toInt64)) + ((sy 1)).toInt64)) + ((sm 1)).toInt64)) + ((sd 1)).toInt64)) + ((sy 2)).toInt64)) + ((sm 2)).toInt64)), (3, .int 2), (0, .ref (y 0))]) C dX2_checksum_65 rfl (by decide) rfl ?_
  refine z_ldc2 (v := 31) C w2 dX2_checksum_66 ?_
  refine z_lload_n C dX2_checksum_69 rfl 0 rfl ?_
  refine z_lmul C dX2_checksum_70 ?_
  refine z_aload_n C dX2_checksum_71 rfl 2 rfl ?_
  refine z_get (CC := RX2) (T := TX2) (N := 10) (ci := 2) C hin 0 rfl rfl 3 (by decide) w6 rfl rfl dX2_checksum_72 ?_
  refine z_iload_n C dX2_checksum_75 rfl 1 rfl ?_
  refine z_iald C 4 0 rfl rfl (zvpl 2 4 (by decide)) dX2_checksum_76 ?_
  refine z_eqst (st' := [.int (sd 2), .long (31 * ((31 * ((31 * ((31 * ((31 * ((31 * ((31 * ((31 * ((31 * ((31 * ((31 * ((31 * ((31 * ((31 * (217 + (d 0))) + (d 1))) + (d 2))) + (d 3))) + (d 4))) + (d 5))) + ((sy 0)).toInt64)) + ((sm 0)).toInt64)) + ((sd 0)).toInt64)) + ((sy 1)).toInt64)) + ((sm 1)).toInt64)) + ((sd 1)).toInt64)) + ((sy 2)).toInt64)) + ((sm 2)).toInt64))]) rfl ?_
  refine z_i2l (v := ((sd 2)).toInt64) C dX2_checksum_77 rfl ?_
  refine z_ladd C dX2_checksum_78 ?_
  refine z_lstore_n (lv' := [(1, .long ((31 * ((31 * ((31 * ((31 * ((31 * ((31 * ((31 * ((31 * ((31 * ((31 * ((31 * ((31 * ((31 * ((31 * (217 + (d 0))) + (d 1))) + (d 2))) + (d 3))) + (d 4))) + (d 5))) + ((sy 0)).toInt64)) + ((sm 0)).toInt64)) + ((sd 0)).toInt64)) + ((sy 1)).toInt64)) + ((sm 1)).toInt64)) + ((sd 1)).toInt64)) + ((sy 2)).toInt64)) + ((sm 2)).toInt64)) + ((sd 2)).toInt64)), (3, .int 2), (0, .ref (y 0))]) C dX2_checksum_79 rfl (by decide) rfl ?_
  refine z_iinc (q := 1) (v := 3) (lv' := [(3, .int 3), (1, .long ((31 * ((31 * ((31 * ((31 * ((31 * ((31 * ((31 * ((31 * ((31 * ((31 * ((31 * ((31 * ((31 * ((31 * (217 + (d 0))) + (d 1))) + (d 2))) + (d 3))) + (d 4))) + (d 5))) + ((sy 0)).toInt64)) + ((sm 0)).toInt64)) + ((sd 0)).toInt64)) + ((sy 1)).toInt64)) + ((sm 1)).toInt64)) + ((sd 1)).toInt64)) + ((sy 2)).toInt64)) + ((sm 2)).toInt64)) + ((sd 2)).toInt64)), (0, .ref (y 0))]) C dX2_checksum_80 rfl (by decide) (by decide) rfl ?_
  refine z_goto (tgt := 33) C dX2_checksum_83 (by decide) ?_
  refine z_iload_n C dX2_checksum_33 rfl 0 rfl ?_
  refine z_iconst (v := 4) C dX2_checksum_34 (by decide) ?_
  refine z_icmp_ge (tgt := 86) C dX2_checksum_35 (by decide) (fun h => absurd h (by decide)) (fun _ => ?_)
  refine z_ldc2 (v := 31) C w2 dX2_checksum_38 ?_
  refine z_lload_n C dX2_checksum_41 rfl 1 rfl ?_
  refine z_lmul C dX2_checksum_42 ?_
  refine z_aload_n C dX2_checksum_43 rfl 2 rfl ?_
  refine z_get (CC := RX2) (T := TX2) (N := 10) (ci := 2) C hin 0 rfl rfl 1 (by decide) w4 rfl rfl dX2_checksum_44 ?_
  refine z_iload_n C dX2_checksum_47 rfl 0 rfl ?_
  refine z_iald C 2 0 rfl rfl (zvpl 3 4 (by decide)) dX2_checksum_48 ?_
  refine z_eqst (st' := [.int (sy 3), .long (31 * ((31 * ((31 * ((31 * ((31 * ((31 * ((31 * ((31 * ((31 * ((31 * ((31 * ((31 * ((31 * ((31 * ((31 * (217 + (d 0))) + (d 1))) + (d 2))) + (d 3))) + (d 4))) + (d 5))) + ((sy 0)).toInt64)) + ((sm 0)).toInt64)) + ((sd 0)).toInt64)) + ((sy 1)).toInt64)) + ((sm 1)).toInt64)) + ((sd 1)).toInt64)) + ((sy 2)).toInt64)) + ((sm 2)).toInt64)) + ((sd 2)).toInt64))]) rfl ?_
  refine z_i2l (v := ((sy 3)).toInt64) C dX2_checksum_49 rfl ?_
  refine z_ladd C dX2_checksum_50 ?_
  refine z_lstore_n (lv' := [(1, .long ((31 * ((31 * ((31 * ((31 * ((31 * ((31 * ((31 * ((31 * ((31 * ((31 * ((31 * ((31 * ((31 * ((31 * ((31 * (217 + (d 0))) + (d 1))) + (d 2))) + (d 3))) + (d 4))) + (d 5))) + ((sy 0)).toInt64)) + ((sm 0)).toInt64)) + ((sd 0)).toInt64)) + ((sy 1)).toInt64)) + ((sm 1)).toInt64)) + ((sd 1)).toInt64)) + ((sy 2)).toInt64)) + ((sm 2)).toInt64)) + ((sd 2)).toInt64)) + ((sy 3)).toInt64)), (3, .int 3), (0, .ref (y 0))]) C dX2_checksum_51 rfl (by decide) rfl ?_
  refine z_ldc2 (v := 31) C w2 dX2_checksum_52 ?_
  refine z_lload_n C dX2_checksum_55 rfl 0 rfl ?_
  refine z_lmul C dX2_checksum_56 ?_
  refine z_aload_n C dX2_checksum_57 rfl 2 rfl ?_
  refine z_get (CC := RX2) (T := TX2) (N := 10) (ci := 2) C hin 0 rfl rfl 2 (by decide) w5 rfl rfl dX2_checksum_58 ?_
  refine z_iload_n C dX2_checksum_61 rfl 1 rfl ?_
  refine z_iald C 3 0 rfl rfl (zvpl 3 4 (by decide)) dX2_checksum_62 ?_
  refine z_eqst (st' := [.int (sm 3), .long (31 * ((31 * ((31 * ((31 * ((31 * ((31 * ((31 * ((31 * ((31 * ((31 * ((31 * ((31 * ((31 * ((31 * ((31 * ((31 * (217 + (d 0))) + (d 1))) + (d 2))) + (d 3))) + (d 4))) + (d 5))) + ((sy 0)).toInt64)) + ((sm 0)).toInt64)) + ((sd 0)).toInt64)) + ((sy 1)).toInt64)) + ((sm 1)).toInt64)) + ((sd 1)).toInt64)) + ((sy 2)).toInt64)) + ((sm 2)).toInt64)) + ((sd 2)).toInt64)) + ((sy 3)).toInt64))]) rfl ?_
  refine z_i2l (v := ((sm 3)).toInt64) C dX2_checksum_63 rfl ?_
  refine z_ladd C dX2_checksum_64 ?_
  refine z_lstore_n (lv' := [(1, .long ((31 * ((31 * ((31 * ((31 * ((31 * ((31 * ((31 * ((31 * ((31 * ((31 * ((31 * ((31 * ((31 * ((31 * ((31 * ((31 * (217 + (d 0))) + (d 1))) + (d 2))) + (d 3))) + (d 4))) + (d 5))) + ((sy 0)).toInt64)) + ((sm 0)).toInt64)) + ((sd 0)).toInt64)) + ((sy 1)).toInt64)) + ((sm 1)).toInt64)) + ((sd 1)).toInt64)) + ((sy 2)).toInt64)) + ((sm 2)).toInt64)) + ((sd 2)).toInt64)) + ((sy 3)).toInt64)) + ((sm 3)).toInt64)), (3, .int 3), (0, .ref (y 0))]) C dX2_checksum_65 rfl (by decide) rfl ?_
  refine z_ldc2 (v := 31) C w2 dX2_checksum_66 ?_
  refine z_lload_n C dX2_checksum_69 rfl 0 rfl ?_
  refine z_lmul C dX2_checksum_70 ?_
  refine z_aload_n C dX2_checksum_71 rfl 2 rfl ?_
  refine z_get (CC := RX2) (T := TX2) (N := 10) (ci := 2) C hin 0 rfl rfl 3 (by decide) w6 rfl rfl dX2_checksum_72 ?_
  refine z_iload_n C dX2_checksum_75 rfl 1 rfl ?_
  refine z_iald C 4 0 rfl rfl (zvpl 3 4 (by decide)) dX2_checksum_76 ?_
  refine z_eqst (st' := [.int (sd 3), .long (31 * ((31 * ((31 * ((31 * ((31 * ((31 * ((31 * ((31 * ((31 * ((31 * ((31 * ((31 * ((31 * ((31 * ((31 * ((31 * ((31 * (217 + (d 0))) + (d 1))) + (d 2))) + (d 3))) + (d 4))) + (d 5))) + ((sy 0)).toInt64)) + ((sm 0)).toInt64)) + ((sd 0)).toInt64)) + ((sy 1)).toInt64)) + ((sm 1)).toInt64)) + ((sd 1)).toInt64)) + ((sy 2)).toInt64)) + ((sm 2)).toInt64)) + ((sd 2)).toInt64)) + ((sy 3)).toInt64)) + ((sm 3)).toInt64))]) rfl ?_
  refine z_i2l (v := ((sd 3)).toInt64) C dX2_checksum_77 rfl ?_
  refine z_ladd C dX2_checksum_78 ?_
  refine z_lstore_n (lv' := [(1, .long ((31 * ((31 * ((31 * ((31 * ((31 * ((31 * ((31 * ((31 * ((31 * ((31 * ((31 * ((31 * ((31 * ((31 * ((31 * ((31 * ((31 * (217 + (d 0))) + (d 1))) + (d 2))) + (d 3))) + (d 4))) + (d 5))) + ((sy 0)).toInt64)) + ((sm 0)).toInt64)) + ((sd 0)).toInt64)) + ((sy 1)).toInt64)) + ((sm 1)).toInt64)) + ((sd 1)).toInt64)) + ((sy 2)).toInt64)) + ((sm 2)).toInt64)) + ((sd 2)).toInt64)) + ((sy 3)).toInt64)) + ((sm 3)).toInt64)) + ((sd 3)).toInt64)), (3, .int 3), (0, .ref (y 0))]) C dX2_checksum_79 rfl (by decide) rfl ?_
  refine z_iinc (q := 1) (v := 4) (lv' := [(3, .int 4), (1, .long ((31 * ((31 * ((31 * ((31 * ((31 * ((31 * ((31 * ((31 * ((31 * ((31 * ((31 * ((31 * ((31 * ((31 * ((31 * ((31 * ((31 * (217 + (d 0))) + (d 1))) + (d 2))) + (d 3))) + (d 4))) + (d 5))) + ((sy 0)).toInt64)) + ((sm 0)).toInt64)) + ((sd 0)).toInt64)) + ((sy 1)).toInt64)) + ((sm 1)).toInt64)) + ((sd 1)).toInt64)) + ((sy 2)).toInt64)) + ((sm 2)).toInt64)) + ((sd 2)).toInt64)) + ((sy 3)).toInt64)) + ((sm 3)).toInt64)) + ((sd 3)).toInt64)), (0, .ref (y 0))]) C dX2_checksum_80 rfl (by decide) (by decide) rfl ?_
  refine z_goto (tgt := 33) C dX2_checksum_83 (by decide) ?_
  refine z_iload_n C dX2_checksum_33 rfl 0 rfl ?_
  refine z_iconst (v := 4) C dX2_checksum_34 (by decide) ?_
  refine z_icmp_ge (tgt := 86) C dX2_checksum_35 (by decide) (fun _ => ?_) (fun h => absurd (by decide) h)
  refine z_iconst (v := 0) C dX2_checksum_86 (by decide) ?_
  refine z_istore_n (lv' := [(3, .int 0), (1, .long ((31 * ((31 * ((31 * ((31 * ((31 * ((31 * ((31 * ((31 * ((31 * ((31 * ((31 * ((31 * ((31 * ((31 * ((31 * ((31 * ((31 * (217 + (d 0))) + (d 1))) + (d 2))) + (d 3))) + (d 4))) + (d 5))) + ((sy 0)).toInt64)) + ((sm 0)).toInt64)) + ((sd 0)).toInt64)) + ((sy 1)).toInt64)) + ((sm 1)).toInt64)) + ((sd 1)).toInt64)) + ((sy 2)).toInt64)) + ((sm 2)).toInt64)) + ((sd 2)).toInt64)) + ((sy 3)).toInt64)) + ((sm 3)).toInt64)) + ((sd 3)).toInt64)), (0, .ref (y 0))]) C dX2_checksum_87 rfl (by decide) rfl ?_
  refine z_iload_n C dX2_checksum_88 rfl 0 rfl ?_
  refine z_iconst (v := 4) C dX2_checksum_89 (by decide) ?_
  refine z_icmp_ge (tgt := 134) C dX2_checksum_90 (by decide) (fun h => absurd h (by decide)) (fun _ => ?_)
  refine z_ldc2 (v := 31) C w2 dX2_checksum_93 ?_
  refine z_lload_n C dX2_checksum_96 rfl 1 rfl ?_
  refine z_lmul C dX2_checksum_97 ?_
  refine z_aload_n C dX2_checksum_98 rfl 2 rfl ?_
  refine z_get (CC := RX2) (T := TX2) (N := 10) (ci := 2) C hin 0 rfl rfl 4 (by decide) w7 rfl rfl dX2_checksum_99 ?_
  refine z_iload_n C dX2_checksum_102 rfl 0 rfl ?_
  refine z_iald C 5 0 rfl rfl (zvpl 0 4 (by decide)) dX2_checksum_103 ?_
  refine z_eqst (st' := [.int (mi 0), .long (31 * ((31 * ((31 * ((31 * ((31 * ((31 * ((31 * ((31 * ((31 * ((31 * ((31 * ((31 * ((31 * ((31 * ((31 * ((31 * ((31 * ((31 * (217 + (d 0))) + (d 1))) + (d 2))) + (d 3))) + (d 4))) + (d 5))) + ((sy 0)).toInt64)) + ((sm 0)).toInt64)) + ((sd 0)).toInt64)) + ((sy 1)).toInt64)) + ((sm 1)).toInt64)) + ((sd 1)).toInt64)) + ((sy 2)).toInt64)) + ((sm 2)).toInt64)) + ((sd 2)).toInt64)) + ((sy 3)).toInt64)) + ((sm 3)).toInt64)) + ((sd 3)).toInt64))]) rfl ?_
  refine z_i2l (v := ((mi 0)).toInt64) C dX2_checksum_104 rfl ?_
  refine z_sl (rest := [.long (31 * ((31 * ((31 * ((31 * ((31 * ((31 * ((31 * ((31 * ((31 * ((31 * ((31 * ((31 * ((31 * ((31 * ((31 * ((31 * ((31 * ((31 * (217 + (d 0))) + (d 1))) + (d 2))) + (d 3))) + (d 4))) + (d 5))) + ((sy 0)).toInt64)) + ((sm 0)).toInt64)) + ((sd 0)).toInt64)) + ((sy 1)).toInt64)) + ((sm 1)).toInt64)) + ((sd 1)).toInt64)) + ((sy 2)).toInt64)) + ((sm 2)).toInt64)) + ((sd 2)).toInt64)) + ((sy 3)).toInt64)) + ((sm 3)).toInt64)) + ((sd 3)).toInt64))]) C (c_X1_yearOfMonth l hfl D cI cJ _ (((mi 0)).toInt64) ) q_X1_yearOfMonth gX2_checksum_X1_yearOfMonth ⟨rfl, rfl⟩ rfl rfl (Nat.le_of_ble_eq_true rfl) ⟨Nat.le_of_ble_eq_true rfl, Nat.le_of_ble_eq_true rfl⟩ ⟨Nat.le_of_ble_eq_true rfl, Nat.le_of_ble_eq_true rfl⟩ dX2_checksum_105 ?_
  refine z_ladd C dX2_checksum_108 ?_
  refine z_lstore_n (lv' := [(1, .long ((31 * ((31 * ((31 * ((31 * ((31 * ((31 * ((31 * ((31 * ((31 * ((31 * ((31 * ((31 * ((31 * ((31 * ((31 * ((31 * ((31 * ((31 * (217 + (d 0))) + (d 1))) + (d 2))) + (d 3))) + (d 4))) + (d 5))) + ((sy 0)).toInt64)) + ((sm 0)).toInt64)) + ((sd 0)).toInt64)) + ((sy 1)).toInt64)) + ((sm 1)).toInt64)) + ((sd 1)).toInt64)) + ((sy 2)).toInt64)) + ((sm 2)).toInt64)) + ((sd 2)).toInt64)) + ((sy 3)).toInt64)) + ((sm 3)).toInt64)) + ((sd 3)).toInt64)) + (f_X1_yearOfMonth (((mi 0)).toInt64)))), (3, .int 0), (0, .ref (y 0))]) C dX2_checksum_109 rfl (by decide) rfl ?_
  refine z_ldc2 (v := 31) C w2 dX2_checksum_110 ?_
  refine z_lload_n C dX2_checksum_113 rfl 0 rfl ?_
  refine z_lmul C dX2_checksum_114 ?_
  refine z_aload_n C dX2_checksum_115 rfl 2 rfl ?_
  refine z_get (CC := RX2) (T := TX2) (N := 10) (ci := 2) C hin 0 rfl rfl 4 (by decide) w7 rfl rfl dX2_checksum_116 ?_
  refine z_iload_n C dX2_checksum_119 rfl 1 rfl ?_
  refine z_iald C 5 0 rfl rfl (zvpl 0 4 (by decide)) dX2_checksum_120 ?_
  refine z_eqst (st' := [.int (mi 0), .long (31 * ((31 * ((31 * ((31 * ((31 * ((31 * ((31 * ((31 * ((31 * ((31 * ((31 * ((31 * ((31 * ((31 * ((31 * ((31 * ((31 * ((31 * ((31 * (217 + (d 0))) + (d 1))) + (d 2))) + (d 3))) + (d 4))) + (d 5))) + ((sy 0)).toInt64)) + ((sm 0)).toInt64)) + ((sd 0)).toInt64)) + ((sy 1)).toInt64)) + ((sm 1)).toInt64)) + ((sd 1)).toInt64)) + ((sy 2)).toInt64)) + ((sm 2)).toInt64)) + ((sd 2)).toInt64)) + ((sy 3)).toInt64)) + ((sm 3)).toInt64)) + ((sd 3)).toInt64)) + (f_X1_yearOfMonth (((mi 0)).toInt64))))]) rfl ?_
  refine z_i2l (v := ((mi 0)).toInt64) C dX2_checksum_121 rfl ?_
  refine z_si (rest := [.long (31 * ((31 * ((31 * ((31 * ((31 * ((31 * ((31 * ((31 * ((31 * ((31 * ((31 * ((31 * ((31 * ((31 * ((31 * ((31 * ((31 * ((31 * ((31 * (217 + (d 0))) + (d 1))) + (d 2))) + (d 3))) + (d 4))) + (d 5))) + ((sy 0)).toInt64)) + ((sm 0)).toInt64)) + ((sd 0)).toInt64)) + ((sy 1)).toInt64)) + ((sm 1)).toInt64)) + ((sd 1)).toInt64)) + ((sy 2)).toInt64)) + ((sm 2)).toInt64)) + ((sd 2)).toInt64)) + ((sy 3)).toInt64)) + ((sm 3)).toInt64)) + ((sd 3)).toInt64)) + (f_X1_yearOfMonth (((mi 0)).toInt64))))]) C (c_X1_monthInYear l hfl D cI cJ _ (((mi 0)).toInt64) ) q_X1_monthInYear gX2_checksum_X1_monthInYear ⟨rfl, rfl⟩ rfl rfl (Nat.le_of_ble_eq_true rfl) ⟨Nat.le_of_ble_eq_true rfl, Nat.le_of_ble_eq_true rfl⟩ ⟨Nat.le_of_ble_eq_true rfl, Nat.le_of_ble_eq_true rfl⟩ dX2_checksum_122 ?_
  refine z_i2l (v := ((f_X1_monthInYear (((mi 0)).toInt64))).toInt64) C dX2_checksum_125 rfl ?_
  refine z_ladd C dX2_checksum_126 ?_
  refine z_lstore_n (lv' := [(1, .long ((31 * ((31 * ((31 * ((31 * ((31 * ((31 * ((31 * ((31 * ((31 * ((31 * ((31 * ((31 * ((31 * ((31 * ((31 * ((31 * ((31 * ((31 * ((31 * (217 + (d 0))) + (d 1))) + (d 2))) + (d 3))) + (d 4))) + (d 5))) + ((sy 0)).toInt64)) + ((sm 0)).toInt64)) + ((sd 0)).toInt64)) + ((sy 1)).toInt64)) + ((sm 1)).toInt64)) + ((sd 1)).toInt64)) + ((sy 2)).toInt64)) + ((sm 2)).toInt64)) + ((sd 2)).toInt64)) + ((sy 3)).toInt64)) + ((sm 3)).toInt64)) + ((sd 3)).toInt64)) + (f_X1_yearOfMonth (((mi 0)).toInt64)))) + ((f_X1_monthInYear (((mi 0)).toInt64))).toInt64)), (3, .int 0), (0, .ref (y 0))]) C dX2_checksum_127 rfl (by decide) rfl ?_
  refine z_iinc (q := 1) (v := 1) (lv' := [(3, .int 1), (1, .long ((31 * ((31 * ((31 * ((31 * ((31 * ((31 * ((31 * ((31 * ((31 * ((31 * ((31 * ((31 * ((31 * ((31 * ((31 * ((31 * ((31 * ((31 * ((31 * (217 + (d 0))) + (d 1))) + (d 2))) + (d 3))) + (d 4))) + (d 5))) + ((sy 0)).toInt64)) + ((sm 0)).toInt64)) + ((sd 0)).toInt64)) + ((sy 1)).toInt64)) + ((sm 1)).toInt64)) + ((sd 1)).toInt64)) + ((sy 2)).toInt64)) + ((sm 2)).toInt64)) + ((sd 2)).toInt64)) + ((sy 3)).toInt64)) + ((sm 3)).toInt64)) + ((sd 3)).toInt64)) + (f_X1_yearOfMonth (((mi 0)).toInt64)))) + ((f_X1_monthInYear (((mi 0)).toInt64))).toInt64)), (0, .ref (y 0))]) C dX2_checksum_128 rfl (by decide) (by decide) rfl ?_
  refine z_goto (tgt := 88) C dX2_checksum_131 (by decide) ?_
  refine z_iload_n C dX2_checksum_88 rfl 0 rfl ?_
  refine z_iconst (v := 4) C dX2_checksum_89 (by decide) ?_
  refine z_icmp_ge (tgt := 134) C dX2_checksum_90 (by decide) (fun h => absurd h (by decide)) (fun _ => ?_)
  refine z_ldc2 (v := 31) C w2 dX2_checksum_93 ?_
  refine z_lload_n C dX2_checksum_96 rfl 1 rfl ?_
  refine z_lmul C dX2_checksum_97 ?_
  refine z_aload_n C dX2_checksum_98 rfl 2 rfl ?_
  refine z_get (CC := RX2) (T := TX2) (N := 10) (ci := 2) C hin 0 rfl rfl 4 (by decide) w7 rfl rfl dX2_checksum_99 ?_
  refine z_iload_n C dX2_checksum_102 rfl 0 rfl ?_
  refine z_iald C 5 0 rfl rfl (zvpl 1 4 (by decide)) dX2_checksum_103 ?_
  refine z_eqst (st' := [.int (mi 1), .long (31 * ((31 * ((31 * ((31 * ((31 * ((31 * ((31 * ((31 * ((31 * ((31 * ((31 * ((31 * ((31 * ((31 * ((31 * ((31 * ((31 * ((31 * ((31 * ((31 * (217 + (d 0))) + (d 1))) + (d 2))) + (d 3))) + (d 4))) + (d 5))) + ((sy 0)).toInt64)) + ((sm 0)).toInt64)) + ((sd 0)).toInt64)) + ((sy 1)).toInt64)) + ((sm 1)).toInt64)) + ((sd 1)).toInt64)) + ((sy 2)).toInt64)) + ((sm 2)).toInt64)) + ((sd 2)).toInt64)) + ((sy 3)).toInt64)) + ((sm 3)).toInt64)) + ((sd 3)).toInt64)) + (f_X1_yearOfMonth (((mi 0)).toInt64)))) + ((f_X1_monthInYear (((mi 0)).toInt64))).toInt64))]) rfl ?_
  refine z_i2l (v := ((mi 1)).toInt64) C dX2_checksum_104 rfl ?_
  refine z_sl (rest := [.long (31 * ((31 * ((31 * ((31 * ((31 * ((31 * ((31 * ((31 * ((31 * ((31 * ((31 * ((31 * ((31 * ((31 * ((31 * ((31 * ((31 * ((31 * ((31 * ((31 * (217 + (d 0))) + (d 1))) + (d 2))) + (d 3))) + (d 4))) + (d 5))) + ((sy 0)).toInt64)) + ((sm 0)).toInt64)) + ((sd 0)).toInt64)) + ((sy 1)).toInt64)) + ((sm 1)).toInt64)) + ((sd 1)).toInt64)) + ((sy 2)).toInt64)) + ((sm 2)).toInt64)) + ((sd 2)).toInt64)) + ((sy 3)).toInt64)) + ((sm 3)).toInt64)) + ((sd 3)).toInt64)) + (f_X1_yearOfMonth (((mi 0)).toInt64)))) + ((f_X1_monthInYear (((mi 0)).toInt64))).toInt64))]) C (c_X1_yearOfMonth l hfl D cI cJ _ (((mi 1)).toInt64) ) q_X1_yearOfMonth gX2_checksum_X1_yearOfMonth ⟨rfl, rfl⟩ rfl rfl (Nat.le_of_ble_eq_true rfl) ⟨Nat.le_of_ble_eq_true rfl, Nat.le_of_ble_eq_true rfl⟩ ⟨Nat.le_of_ble_eq_true rfl, Nat.le_of_ble_eq_true rfl⟩ dX2_checksum_105 ?_
  refine z_ladd C dX2_checksum_108 ?_
  refine z_lstore_n (lv' := [(1, .long ((31 * ((31 * ((31 * ((31 * ((31 * ((31 * ((31 * ((31 * ((31 * ((31 * ((31 * ((31 * ((31 * ((31 * ((31 * ((31 * ((31 * ((31 * ((31 * ((31 * (217 + (d 0))) + (d 1))) + (d 2))) + (d 3))) + (d 4))) + (d 5))) + ((sy 0)).toInt64)) + ((sm 0)).toInt64)) + ((sd 0)).toInt64)) + ((sy 1)).toInt64)) + ((sm 1)).toInt64)) + ((sd 1)).toInt64)) + ((sy 2)).toInt64)) + ((sm 2)).toInt64)) + ((sd 2)).toInt64)) + ((sy 3)).toInt64)) + ((sm 3)).toInt64)) + ((sd 3)).toInt64)) + (f_X1_yearOfMonth (((mi 0)).toInt64)))) + ((f_X1_monthInYear (((mi 0)).toInt64))).toInt64)) + (f_X1_yearOfMonth (((mi 1)).toInt64)))), (3, .int 1), (0, .ref (y 0))]) C dX2_checksum_109 rfl (by decide) rfl ?_
  refine z_ldc2 (v := 31) C w2 dX2_checksum_110 ?_
  refine z_lload_n C dX2_checksum_113 rfl 0 rfl ?_
  refine z_lmul C dX2_checksum_114 ?_
  refine z_aload_n C dX2_checksum_115 rfl 2 rfl ?_
  refine z_get (CC := RX2) (T := TX2) (N := 10) (ci := 2) C hin 0 rfl rfl 4 (by decide) w7 rfl rfl dX2_checksum_116 ?_
  refine z_iload_n C dX2_checksum_119 rfl 1 rfl ?_
  refine z_iald C 5 0 rfl rfl (zvpl 1 4 (by decide)) dX2_checksum_120 ?_
  refine z_eqst (st' := [.int (mi 1), .long (31 * ((31 * ((31 * ((31 * ((31 * ((31 * ((31 * ((31 * ((31 * ((31 * ((31 * ((31 * ((31 * ((31 * ((31 * ((31 * ((31 * ((31 * ((31 * ((31 * ((31 * (217 + (d 0))) + (d 1))) + (d 2))) + (d 3))) + (d 4))) + (d 5))) + ((sy 0)).toInt64)) + ((sm 0)).toInt64)) + ((sd 0)).toInt64)) + ((sy 1)).toInt64)) + ((sm 1)).toInt64)) + ((sd 1)).toInt64)) + ((sy 2)).toInt64)) + ((sm 2)).toInt64)) + ((sd 2)).toInt64)) + ((sy 3)).toInt64)) + ((sm 3)).toInt64)) + ((sd 3)).toInt64)) + (f_X1_yearOfMonth (((mi 0)).toInt64)))) + ((f_X1_monthInYear (((mi 0)).toInt64))).toInt64)) + (f_X1_yearOfMonth (((mi 1)).toInt64))))]) rfl ?_
  refine z_i2l (v := ((mi 1)).toInt64) C dX2_checksum_121 rfl ?_
  refine z_si (rest := [.long (31 * ((31 * ((31 * ((31 * ((31 * ((31 * ((31 * ((31 * ((31 * ((31 * ((31 * ((31 * ((31 * ((31 * ((31 * ((31 * ((31 * ((31 * ((31 * ((31 * ((31 * (217 + (d 0))) + (d 1))) + (d 2))) + (d 3))) + (d 4))) + (d 5))) + ((sy 0)).toInt64)) + ((sm 0)).toInt64)) + ((sd 0)).toInt64)) + ((sy 1)).toInt64)) + ((sm 1)).toInt64)) + ((sd 1)).toInt64)) + ((sy 2)).toInt64)) + ((sm 2)).toInt64)) + ((sd 2)).toInt64)) + ((sy 3)).toInt64)) + ((sm 3)).toInt64)) + ((sd 3)).toInt64)) + (f_X1_yearOfMonth (((mi 0)).toInt64)))) + ((f_X1_monthInYear (((mi 0)).toInt64))).toInt64)) + (f_X1_yearOfMonth (((mi 1)).toInt64))))]) C (c_X1_monthInYear l hfl D cI cJ _ (((mi 1)).toInt64) ) q_X1_monthInYear gX2_checksum_X1_monthInYear ⟨rfl, rfl⟩ rfl rfl (Nat.le_of_ble_eq_true rfl) ⟨Nat.le_of_ble_eq_true rfl, Nat.le_of_ble_eq_true rfl⟩ ⟨Nat.le_of_ble_eq_true rfl, Nat.le_of_ble_eq_true rfl⟩ dX2_checksum_122 ?_
  refine z_i2l (v := ((f_X1_monthInYear (((mi 1)).toInt64))).toInt64) C dX2_checksum_125 rfl ?_
  refine z_ladd C dX2_checksum_126 ?_
  refine z_lstore_n (lv' := [(1, .long ((31 * ((31 * ((31 * ((31 * ((31 * ((31 * ((31 * ((31 * ((31 * ((31 * ((31 * ((31 * ((31 * ((31 * ((31 * ((31 * ((31 * ((31 * ((31 * ((31 * ((31 * (217 + (d 0))) + (d 1))) + (d 2))) + (d 3))) + (d 4))) + (d 5))) + ((sy 0)).toInt64)) + ((sm 0)).toInt64)) + ((sd 0)).toInt64)) + ((sy 1)).toInt64)) + ((sm 1)).toInt64)) + ((sd 1)).toInt64)) + ((sy 2)).toInt64)) + ((sm 2)).toInt64)) + ((sd 2)).toInt64)) + ((sy 3)).toInt64)) + ((sm 3)).toInt64)) + ((sd 3)).toInt64)) + (f_X1_yearOfMonth (((mi 0)).toInt64)))) + ((f_X1_monthInYear (((mi 0)).toInt64))).toInt64)) + (f_X1_yearOfMonth (((mi 1)).toInt64)))) + ((f_X1_monthInYear (((mi 1)).toInt64))).toInt64)), (3, .int 1), (0, .ref (y 0))]) C dX2_checksum_127 rfl (by decide) rfl ?_
  refine z_iinc (q := 1) (v := 2) (lv' := [(3, .int 2), (1, .long ((31 * ((31 * ((31 * ((31 * ((31 * ((31 * ((31 * ((31 * ((31 * ((31 * ((31 * ((31 * ((31 * ((31 * ((31 * ((31 * ((31 * ((31 * ((31 * ((31 * ((31 * (217 + (d 0))) + (d 1))) + (d 2))) + (d 3))) + (d 4))) + (d 5))) + ((sy 0)).toInt64)) + ((sm 0)).toInt64)) + ((sd 0)).toInt64)) + ((sy 1)).toInt64)) + ((sm 1)).toInt64)) + ((sd 1)).toInt64)) + ((sy 2)).toInt64)) + ((sm 2)).toInt64)) + ((sd 2)).toInt64)) + ((sy 3)).toInt64)) + ((sm 3)).toInt64)) + ((sd 3)).toInt64)) + (f_X1_yearOfMonth (((mi 0)).toInt64)))) + ((f_X1_monthInYear (((mi 0)).toInt64))).toInt64)) + (f_X1_yearOfMonth (((mi 1)).toInt64)))) + ((f_X1_monthInYear (((mi 1)).toInt64))).toInt64)), (0, .ref (y 0))]) C dX2_checksum_128 rfl (by decide) (by decide) rfl ?_
  refine z_goto (tgt := 88) C dX2_checksum_131 (by decide) ?_
  refine z_iload_n C dX2_checksum_88 rfl 0 rfl ?_
  refine z_iconst (v := 4) C dX2_checksum_89 (by decide) ?_
  refine z_icmp_ge (tgt := 134) C dX2_checksum_90 (by decide) (fun h => absurd h (by decide)) (fun _ => ?_)
  refine z_ldc2 (v := 31) C w2 dX2_checksum_93 ?_
  refine z_lload_n C dX2_checksum_96 rfl 1 rfl ?_
  refine z_lmul C dX2_checksum_97 ?_
  refine z_aload_n C dX2_checksum_98 rfl 2 rfl ?_
  refine z_get (CC := RX2) (T := TX2) (N := 10) (ci := 2) C hin 0 rfl rfl 4 (by decide) w7 rfl rfl dX2_checksum_99 ?_
  refine z_iload_n C dX2_checksum_102 rfl 0 rfl ?_
  refine z_iald C 5 0 rfl rfl (zvpl 2 4 (by decide)) dX2_checksum_103 ?_
  refine z_eqst (st' := [.int (mi 2), .long (31 * ((31 * ((31 * ((31 * ((31 * ((31 * ((31 * ((31 * ((31 * ((31 * ((31 * ((31 * ((31 * ((31 * ((31 * ((31 * ((31 * ((31 * ((31 * ((31 * ((31 * ((31 * (217 + (d 0))) + (d 1))) + (d 2))) + (d 3))) + (d 4))) + (d 5))) + ((sy 0)).toInt64)) + ((sm 0)).toInt64)) + ((sd 0)).toInt64)) + ((sy 1)).toInt64)) + ((sm 1)).toInt64)) + ((sd 1)).toInt64)) + ((sy 2)).toInt64)) + ((sm 2)).toInt64)) + ((sd 2)).toInt64)) + ((sy 3)).toInt64)) + ((sm 3)).toInt64)) + ((sd 3)).toInt64)) + (f_X1_yearOfMonth (((mi 0)).toInt64)))) + ((f_X1_monthInYear (((mi 0)).toInt64))).toInt64)) + (f_X1_yearOfMonth (((mi 1)).toInt64)))) + ((f_X1_monthInYear (((mi 1)).toInt64))).toInt64))]) rfl ?_
  refine z_i2l (v := ((mi 2)).toInt64) C dX2_checksum_104 rfl ?_
  refine z_sl (rest := [.long (31 * ((31 * ((31 * ((31 * ((31 * ((31 * ((31 * ((31 * ((31 * ((31 * ((31 * ((31 * ((31 * ((31 * ((31 * ((31 * ((31 * ((31 * ((31 * ((31 * ((31 * ((31 * (217 + (d 0))) + (d 1))) + (d 2))) + (d 3))) + (d 4))) + (d 5))) + ((sy 0)).toInt64)) + ((sm 0)).toInt64)) + ((sd 0)).toInt64)) + ((sy 1)).toInt64)) + ((sm 1)).toInt64)) + ((sd 1)).toInt64)) + ((sy 2)).toInt64)) + ((sm 2)).toInt64)) + ((sd 2)).toInt64)) + ((sy 3)).toInt64)) + ((sm 3)).toInt64)) + ((sd 3)).toInt64)) + (f_X1_yearOfMonth (((mi 0)).toInt64)))) + ((f_X1_monthInYear (((mi 0)).toInt64))).toInt64)) + (f_X1_yearOfMonth (((mi 1)).toInt64)))) + ((f_X1_monthInYear (((mi 1)).toInt64))).toInt64))]) C (c_X1_yearOfMonth l hfl D cI cJ _ (((mi 2)).toInt64) ) q_X1_yearOfMonth gX2_checksum_X1_yearOfMonth ⟨rfl, rfl⟩ rfl rfl (Nat.le_of_ble_eq_true rfl) ⟨Nat.le_of_ble_eq_true rfl, Nat.le_of_ble_eq_true rfl⟩ ⟨Nat.le_of_ble_eq_true rfl, Nat.le_of_ble_eq_true rfl⟩ dX2_checksum_105 ?_
  refine z_ladd C dX2_checksum_108 ?_
  refine z_lstore_n (lv' := [(1, .long ((31 * ((31 * ((31 * ((31 * ((31 * ((31 * ((31 * ((31 * ((31 * ((31 * ((31 * ((31 * ((31 * ((31 * ((31 * ((31 * ((31 * ((31 * ((31 * ((31 * ((31 * ((31 * (217 + (d 0))) + (d 1))) + (d 2))) + (d 3))) + (d 4))) + (d 5))) + ((sy 0)).toInt64)) + ((sm 0)).toInt64)) + ((sd 0)).toInt64)) + ((sy 1)).toInt64)) + ((sm 1)).toInt64)) + ((sd 1)).toInt64)) + ((sy 2)).toInt64)) + ((sm 2)).toInt64)) + ((sd 2)).toInt64)) + ((sy 3)).toInt64)) + ((sm 3)).toInt64)) + ((sd 3)).toInt64)) + (f_X1_yearOfMonth (((mi 0)).toInt64)))) + ((f_X1_monthInYear (((mi 0)).toInt64))).toInt64)) + (f_X1_yearOfMonth (((mi 1)).toInt64)))) + ((f_X1_monthInYear (((mi 1)).toInt64))).toInt64)) + (f_X1_yearOfMonth (((mi 2)).toInt64)))), (3, .int 2), (0, .ref (y 0))]) C dX2_checksum_109 rfl (by decide) rfl ?_
  refine z_ldc2 (v := 31) C w2 dX2_checksum_110 ?_
  refine z_lload_n C dX2_checksum_113 rfl 0 rfl ?_
  refine z_lmul C dX2_checksum_114 ?_
  refine z_aload_n C dX2_checksum_115 rfl 2 rfl ?_
  refine z_get (CC := RX2) (T := TX2) (N := 10) (ci := 2) C hin 0 rfl rfl 4 (by decide) w7 rfl rfl dX2_checksum_116 ?_
  refine z_iload_n C dX2_checksum_119 rfl 1 rfl ?_
  refine z_iald C 5 0 rfl rfl (zvpl 2 4 (by decide)) dX2_checksum_120 ?_
  refine z_eqst (st' := [.int (mi 2), .long (31 * ((31 * ((31 * ((31 * ((31 * ((31 * ((31 * ((31 * ((31 * ((31 * ((31 * ((31 * ((31 * ((31 * ((31 * ((31 * ((31 * ((31 * ((31 * ((31 * ((31 * ((31 * ((31 * (217 + (d 0))) + (d 1))) + (d 2))) + (d 3))) + (d 4))) + (d 5))) + ((sy 0)).toInt64)) + ((sm 0)).toInt64)) + ((sd 0)).toInt64)) + ((sy 1)).toInt64)) + ((sm 1)).toInt64)) + ((sd 1)).toInt64)) + ((sy 2)).toInt64)) + ((sm 2)).toInt64)) + ((sd 2)).toInt64)) + ((sy 3)).toInt64)) + ((sm 3)).toInt64)) + ((sd 3)).toInt64)) + (f_X1_yearOfMonth (((mi 0)).toInt64)))) + ((f_X1_monthInYear (((mi 0)).toInt64))).toInt64)) + (f_X1_yearOfMonth (((mi 1)).toInt64)))) + ((f_X1_monthInYear (((mi 1)).toInt64))).toInt64)) + (f_X1_yearOfMonth (((mi 2)).toInt64))))]) rfl ?_
  refine z_i2l (v := ((mi 2)).toInt64) C dX2_checksum_121 rfl ?_
  refine z_si (rest := [.long (31 * ((31 * ((31 * ((31 * ((31 * ((31 * ((31 * ((31 * ((31 * ((31 * ((31 * ((31 * ((31 * ((31 * ((31 * ((31 * ((31 * ((31 * ((31 * ((31 * ((31 * ((31 * ((31 * (217 + (d 0))) + (d 1))) + (d 2))) + (d 3))) + (d 4))) + (d 5))) + ((sy 0)).toInt64)) + ((sm 0)).toInt64)) + ((sd 0)).toInt64)) + ((sy 1)).toInt64)) + ((sm 1)).toInt64)) + ((sd 1)).toInt64)) + ((sy 2)).toInt64)) + ((sm 2)).toInt64)) + ((sd 2)).toInt64)) + ((sy 3)).toInt64)) + ((sm 3)).toInt64)) + ((sd 3)).toInt64)) + (f_X1_yearOfMonth (((mi 0)).toInt64)))) + ((f_X1_monthInYear (((mi 0)).toInt64))).toInt64)) + (f_X1_yearOfMonth (((mi 1)).toInt64)))) + ((f_X1_monthInYear (((mi 1)).toInt64))).toInt64)) + (f_X1_yearOfMonth (((mi 2)).toInt64))))]) C (c_X1_monthInYear l hfl D cI cJ _ (((mi 2)).toInt64) ) q_X1_monthInYear gX2_checksum_X1_monthInYear ⟨rfl, rfl⟩ rfl rfl (Nat.le_of_ble_eq_true rfl) ⟨Nat.le_of_ble_eq_true rfl, Nat.le_of_ble_eq_true rfl⟩ ⟨Nat.le_of_ble_eq_true rfl, Nat.le_of_ble_eq_true rfl⟩ dX2_checksum_122 ?_
  refine z_i2l (v := ((f_X1_monthInYear (((mi 2)).toInt64))).toInt64) C dX2_checksum_125 rfl ?_
  refine z_ladd C dX2_checksum_126 ?_
  refine z_lstore_n (lv' := [(1, .long ((31 * ((31 * ((31 * ((31 * ((31 * ((31 * ((31 * ((31 * ((31 * ((31 * ((31 * ((31 * ((31 * ((31 * ((31 * ((31 * ((31 * ((31 * ((31 * ((31 * ((31 * ((31 * ((31 * (217 + (d 0))) + (d 1))) + (d 2))) + (d 3))) + (d 4))) + (d 5))) + ((sy 0)).toInt64)) + ((sm 0)).toInt64)) + ((sd 0)).toInt64)) + ((sy 1)).toInt64)) + ((sm 1)).toInt64)) + ((sd 1)).toInt64)) + ((sy 2)).toInt64)) + ((sm 2)).toInt64)) + ((sd 2)).toInt64)) + ((sy 3)).toInt64)) + ((sm 3)).toInt64)) + ((sd 3)).toInt64)) + (f_X1_yearOfMonth (((mi 0)).toInt64)))) + ((f_X1_monthInYear (((mi 0)).toInt64))).toInt64)) + (f_X1_yearOfMonth (((mi 1)).toInt64)))) + ((f_X1_monthInYear (((mi 1)).toInt64))).toInt64)) + (f_X1_yearOfMonth (((mi 2)).toInt64)))) + ((f_X1_monthInYear (((mi 2)).toInt64))).toInt64)), (3, .int 2), (0, .ref (y 0))]) C dX2_checksum_127 rfl (by decide) rfl ?_
  refine z_iinc (q := 1) (v := 3) (lv' := [(3, .int 3), (1, .long ((31 * ((31 * ((31 * ((31 * ((31 * ((31 * ((31 * ((31 * ((31 * ((31 * ((31 * ((31 * ((31 * ((31 * ((31 * ((31 * ((31 * ((31 * ((31 * ((31 * ((31 * ((31 * ((31 * (217 + (d 0))) + (d 1))) + (d 2))) + (d 3))) + (d 4))) + (d 5))) + ((sy 0)).toInt64)) + ((sm 0)).toInt64)) + ((sd 0)).toInt64)) + ((sy 1)).toInt64)) + ((sm 1)).toInt64)) + ((sd 1)).toInt64)) + ((sy 2)).toInt64)) + ((sm 2)).toInt64)) + ((sd 2)).toInt64)) + ((sy 3)).toInt64)) + ((sm 3)).toInt64)) + ((sd 3)).toInt64)) + (f_X1_yearOfMonth (((mi 0)).toInt64)))) + ((f_X1_monthInYear (((mi 0)).toInt64))).toInt64)) + (f_X1_yearOfMonth (((mi 1)).toInt64)))) + ((f_X1_monthInYear (((mi 1)).toInt64))).toInt64)) + (f_X1_yearOfMonth (((mi 2)).toInt64)))) + ((f_X1_monthInYear (((mi 2)).toInt64))).toInt64)), (0, .ref (y 0))]) C dX2_checksum_128 rfl (by decide) (by decide) rfl ?_
  refine z_goto (tgt := 88) C dX2_checksum_131 (by decide) ?_
  refine z_iload_n C dX2_checksum_88 rfl 0 rfl ?_
  refine z_iconst (v := 4) C dX2_checksum_89 (by decide) ?_
  refine z_icmp_ge (tgt := 134) C dX2_checksum_90 (by decide) (fun h => absurd h (by decide)) (fun _ => ?_)
  refine z_ldc2 (v := 31) C w2 dX2_checksum_93 ?_
  refine z_lload_n C dX2_checksum_96 rfl 1 rfl ?_
  refine z_lmul C dX2_checksum_97 ?_
  refine z_aload_n C dX2_checksum_98 rfl 2 rfl ?_
  refine z_get (CC := RX2) (T := TX2) (N := 10) (ci := 2) C hin 0 rfl rfl 4 (by decide) w7 rfl rfl dX2_checksum_99 ?_
  refine z_iload_n C dX2_checksum_102 rfl 0 rfl ?_
  refine z_iald C 5 0 rfl rfl (zvpl 3 4 (by decide)) dX2_checksum_103 ?_
  refine z_eqst (st' := [.int (mi 3), .long (31 * ((31 * ((31 * ((31 * ((31 * ((31 * ((31 * ((31 * ((31 * ((31 * ((31 * ((31 * ((31 * ((31 * ((31 * ((31 * ((31 * ((31 * ((31 * ((31 * ((31 * ((31 * ((31 * ((31 * (217 + (d 0))) + (d 1))) + (d 2))) + (d 3))) + (d 4))) + (d 5))) + ((sy 0)).toInt64)) + ((sm 0)).toInt64)) + ((sd 0)).toInt64)) + ((sy 1)).toInt64)) + ((sm 1)).toInt64)) + ((sd 1)).toInt64)) + ((sy 2)).toInt64)) + ((sm 2)).toInt64)) + ((sd 2)).toInt64)) + ((sy 3)).toInt64)) + ((sm 3)).toInt64)) + ((sd 3)).toInt64)) + (f_X1_yearOfMonth (((mi 0)).toInt64)))) + ((f_X1_monthInYear (((mi 0)).toInt64))).toInt64)) + (f_X1_yearOfMonth (((mi 1)).toInt64)))) + ((f_X1_monthInYear (((mi 1)).toInt64))).toInt64)) + (f_X1_yearOfMonth (((mi 2)).toInt64)))) + ((f_X1_monthInYear (((mi 2)).toInt64))).toInt64))]) rfl ?_
  refine z_i2l (v := ((mi 3)).toInt64) C dX2_checksum_104 rfl ?_
  refine z_sl (rest := [.long (31 * ((31 * ((31 * ((31 * ((31 * ((31 * ((31 * ((31 * ((31 * ((31 * ((31 * ((31 * ((31 * ((31 * ((31 * ((31 * ((31 * ((31 * ((31 * ((31 * ((31 * ((31 * ((31 * ((31 * (217 + (d 0))) + (d 1))) + (d 2))) + (d 3))) + (d 4))) + (d 5))) + ((sy 0)).toInt64)) + ((sm 0)).toInt64)) + ((sd 0)).toInt64)) + ((sy 1)).toInt64)) + ((sm 1)).toInt64)) + ((sd 1)).toInt64)) + ((sy 2)).toInt64)) + ((sm 2)).toInt64)) + ((sd 2)).toInt64)) + ((sy 3)).toInt64)) + ((sm 3)).toInt64)) + ((sd 3)).toInt64)) + (f_X1_yearOfMonth (((mi 0)).toInt64)))) + ((f_X1_monthInYear (((mi 0)).toInt64))).toInt64)) + (f_X1_yearOfMonth (((mi 1)).toInt64)))) + ((f_X1_monthInYear (((mi 1)).toInt64))).toInt64)) + (f_X1_yearOfMonth (((mi 2)).toInt64)))) + ((f_X1_monthInYear (((mi 2)).toInt64))).toInt64))]) C (c_X1_yearOfMonth l hfl D cI cJ _ (((mi 3)).toInt64) ) q_X1_yearOfMonth gX2_checksum_X1_yearOfMonth ⟨rfl, rfl⟩ rfl rfl (Nat.le_of_ble_eq_true rfl) ⟨Nat.le_of_ble_eq_true rfl, Nat.le_of_ble_eq_true rfl⟩ ⟨Nat.le_of_ble_eq_true rfl, Nat.le_of_ble_eq_true rfl⟩ dX2_checksum_105 ?_
  refine z_ladd C dX2_checksum_108 ?_
  refine z_lstore_n (lv' := [(1, .long ((31 * ((31 * ((31 * ((31 * ((31 * ((31 * ((31 * ((31 * ((31 * ((31 * ((31 * ((31 * ((31 * ((31 * ((31 * ((31 * ((31 * ((31 * ((31 * ((31 * ((31 * ((31 * ((31 * ((31 * (217 + (d 0))) + (d 1))) + (d 2))) + (d 3))) + (d 4))) + (d 5))) + ((sy 0)).toInt64)) + ((sm 0)).toInt64)) + ((sd 0)).toInt64)) + ((sy 1)).toInt64)) + ((sm 1)).toInt64)) + ((sd 1)).toInt64)) + ((sy 2)).toInt64)) + ((sm 2)).toInt64)) + ((sd 2)).toInt64)) + ((sy 3)).toInt64)) + ((sm 3)).toInt64)) + ((sd 3)).toInt64)) + (f_X1_yearOfMonth (((mi 0)).toInt64)))) + ((f_X1_monthInYear (((mi 0)).toInt64))).toInt64)) + (f_X1_yearOfMonth (((mi 1)).toInt64)))) + ((f_X1_monthInYear (((mi 1)).toInt64))).toInt64)) + (f_X1_yearOfMonth (((mi 2)).toInt64)))) + ((f_X1_monthInYear (((mi 2)).toInt64))).toInt64)) + (f_X1_yearOfMonth (((mi 3)).toInt64)))), (3, .int 3), (0, .ref (y 0))]) C dX2_checksum_109 rfl (by decide) rfl ?_
  refine z_ldc2 (v := 31) C w2 dX2_checksum_110 ?_
  refine z_lload_n C dX2_checksum_113 rfl 0 rfl ?_
  refine z_lmul C dX2_checksum_114 ?_
  refine z_aload_n C dX2_checksum_115 rfl 2 rfl ?_
  refine z_get (CC := RX2) (T := TX2) (N := 10) (ci := 2) C hin 0 rfl rfl 4 (by decide) w7 rfl rfl dX2_checksum_116 ?_
  refine z_iload_n C dX2_checksum_119 rfl 1 rfl ?_
  refine z_iald C 5 0 rfl rfl (zvpl 3 4 (by decide)) dX2_checksum_120 ?_
  refine z_eqst (st' := [.int (mi 3), .long (31 * ((31 * ((31 * ((31 * ((31 * ((31 * ((31 * ((31 * ((31 * ((31 * ((31 * ((31 * ((31 * ((31 * ((31 * ((31 * ((31 * ((31 * ((31 * ((31 * ((31 * ((31 * ((31 * ((31 * ((31 * (217 + (d 0))) + (d 1))) + (d 2))) + (d 3))) + (d 4))) + (d 5))) + ((sy 0)).toInt64)) + ((sm 0)).toInt64)) + ((sd 0)).toInt64)) + ((sy 1)).toInt64)) + ((sm 1)).toInt64)) + ((sd 1)).toInt64)) + ((sy 2)).toInt64)) + ((sm 2)).toInt64)) + ((sd 2)).toInt64)) + ((sy 3)).toInt64)) + ((sm 3)).toInt64)) + ((sd 3)).toInt64)) + (f_X1_yearOfMonth (((mi 0)).toInt64)))) + ((f_X1_monthInYear (((mi 0)).toInt64))).toInt64)) + (f_X1_yearOfMonth (((mi 1)).toInt64)))) + ((f_X1_monthInYear (((mi 1)).toInt64))).toInt64)) + (f_X1_yearOfMonth (((mi 2)).toInt64)))) + ((f_X1_monthInYear (((mi 2)).toInt64))).toInt64)) + (f_X1_yearOfMonth (((mi 3)).toInt64))))]) rfl ?_
  refine z_i2l (v := ((mi 3)).toInt64) C dX2_checksum_121 rfl ?_
  refine z_si (rest := [.long (31 * ((31 * ((31 * ((31 * ((31 * ((31 * ((31 * ((31 * ((31 * ((31 * ((31 * ((31 * ((31 * ((31 * ((31 * ((31 * ((31 * ((31 * ((31 * ((31 * ((31 * ((31 * ((31 * ((31 * ((31 * (217 + (d 0))) + (d 1))) + (d 2))) + (d 3))) + (d 4))) + (d 5))) + ((sy 0)).toInt64)) + ((sm 0)).toInt64)) + ((sd 0)).toInt64)) + ((sy 1)).toInt64)) + ((sm 1)).toInt64)) + ((sd 1)).toInt64)) + ((sy 2)).toInt64)) + ((sm 2)).toInt64)) + ((sd 2)).toInt64)) + ((sy 3)).toInt64)) + ((sm 3)).toInt64)) + ((sd 3)).toInt64)) + (f_X1_yearOfMonth (((mi 0)).toInt64)))) + ((f_X1_monthInYear (((mi 0)).toInt64))).toInt64)) + (f_X1_yearOfMonth (((mi 1)).toInt64)))) + ((f_X1_monthInYear (((mi 1)).toInt64))).toInt64)) + (f_X1_yearOfMonth (((mi 2)).toInt64)))) + ((f_X1_monthInYear (((mi 2)).toInt64))).toInt64)) + (f_X1_yearOfMonth (((mi 3)).toInt64))))]) C (c_X1_monthInYear l hfl D cI cJ _ (((mi 3)).toInt64) ) q_X1_monthInYear gX2_checksum_X1_monthInYear ⟨rfl, rfl⟩ rfl rfl (Nat.le_of_ble_eq_true rfl) ⟨Nat.le_of_ble_eq_true rfl, Nat.le_of_ble_eq_true rfl⟩ ⟨Nat.le_of_ble_eq_true rfl, Nat.le_of_ble_eq_true rfl⟩ dX2_checksum_122 ?_
  refine z_i2l (v := ((f_X1_monthInYear (((mi 3)).toInt64))).toInt64) C dX2_checksum_125 rfl ?_
  refine z_ladd C dX2_checksum_126 ?_
  refine z_lstore_n (lv' := [(1, .long ((31 * ((31 * ((31 * ((31 * ((31 * ((31 * ((31 * ((31 * ((31 * ((31 * ((31 * ((31 * ((31 * ((31 * ((31 * ((31 * ((31 * ((31 * ((31 * ((31 * ((31 * ((31 * ((31 * ((31 * ((31 * (217 + (d 0))) + (d 1))) + (d 2))) + (d 3))) + (d 4))) + (d 5))) + ((sy 0)).toInt64)) + ((sm 0)).toInt64)) + ((sd 0)).toInt64)) + ((sy 1)).toInt64)) + ((sm 1)).toInt64)) + ((sd 1)).toInt64)) + ((sy 2)).toInt64)) + ((sm 2)).toInt64)) + ((sd 2)).toInt64)) + ((sy 3)).toInt64)) + ((sm 3)).toInt64)) + ((sd 3)).toInt64)) + (f_X1_yearOfMonth (((mi 0)).toInt64)))) + ((f_X1_monthInYear (((mi 0)).toInt64))).toInt64)) + (f_X1_yearOfMonth (((mi 1)).toInt64)))) + ((f_X1_monthInYear (((mi 1)).toInt64))).toInt64)) + (f_X1_yearOfMonth (((mi 2)).toInt64)))) + ((f_X1_monthInYear (((mi 2)).toInt64))).toInt64)) + (f_X1_yearOfMonth (((mi 3)).toInt64)))) + ((f_X1_monthInYear (((mi 3)).toInt64))).toInt64)), (3, .int 3), (0, .ref (y 0))]) C dX2_checksum_127 rfl (by decide) rfl ?_
  refine z_iinc (q := 1) (v := 4) (lv' := [(3, .int 4), (1, .long ((31 * ((31 * ((31 * ((31 * ((31 * ((31 * ((31 * ((31 * ((31 * ((31 * ((31 * ((31 * ((31 * ((31 * ((31 * ((31 * ((31 * ((31 * ((31 * ((31 * ((31 * ((31 * ((31 * ((31 * ((31 * (217 + (d 0))) + (d 1))) + (d 2))) + (d 3))) + (d 4))) + (d 5))) + ((sy 0)).toInt64)) + ((sm 0)).toInt64)) + ((sd 0)).toInt64)) + ((sy 1)).toInt64)) + ((sm 1)).toInt64)) + ((sd 1)).toInt64)) + ((sy 2)).toInt64)) + ((sm 2)).toInt64)) + ((sd 2)).toInt64)) + ((sy 3)).toInt64)) + ((sm 3)).toInt64)) + ((sd 3)).toInt64)) + (f_X1_yearOfMonth (((mi 0)).toInt64)))) + ((f_X1_monthInYear (((mi 0)).toInt64))).toInt64)) + (f_X1_yearOfMonth (((mi 1)).toInt64)))) + ((f_X1_monthInYear (((mi 1)).toInt64))).toInt64)) + (f_X1_yearOfMonth (((mi 2)).toInt64)))) + ((f_X1_monthInYear (((mi 2)).toInt64))).toInt64)) + (f_X1_yearOfMonth (((mi 3)).toInt64)))) + ((f_X1_monthInYear (((mi 3)).toInt64))).toInt64)), (0, .ref (y 0))]) C dX2_checksum_128 rfl (by decide) (by decide) rfl ?_
  refine z_goto (tgt := 88) C dX2_checksum_131 (by decide) ?_
  refine z_iload_n C dX2_checksum_88 rfl 0 rfl ?_
  refine z_iconst (v := 4) C dX2_checksum_89 (by decide) ?_
  refine z_icmp_ge (tgt := 134) C dX2_checksum_90 (by decide) (fun _ => ?_) (fun h => absurd (by decide) h)
  refine z_iconst (v := 0) C dX2_checksum_134 (by decide) ?_
  refine z_istore_n (lv' := [(3, .int 0), (1, .long ((31 * ((31 * ((31 * ((31 * ((31 * ((31 * ((31 * ((31 * ((31 * ((31 * ((31 * ((31 * ((31 * ((31 * ((31 * ((31 * ((31 * ((31 * ((31 * ((31 * ((31 * ((31 * ((31 * ((31 * ((31 * (217 + (d 0))) + (d 1))) + (d 2))) + (d 3))) + (d 4))) + (d 5))) + ((sy 0)).toInt64)) + ((sm 0)).toInt64)) + ((sd 0)).toInt64)) + ((sy 1)).toInt64)) + ((sm 1)).toInt64)) + ((sd 1)).toInt64)) + ((sy 2)).toInt64)) + ((sm 2)).toInt64)) + ((sd 2)).toInt64)) + ((sy 3)).toInt64)) + ((sm 3)).toInt64)) + ((sd 3)).toInt64)) + (f_X1_yearOfMonth (((mi 0)).toInt64)))) + ((f_X1_monthInYear (((mi 0)).toInt64))).toInt64)) + (f_X1_yearOfMonth (((mi 1)).toInt64)))) + ((f_X1_monthInYear (((mi 1)).toInt64))).toInt64)) + (f_X1_yearOfMonth (((mi 2)).toInt64)))) + ((f_X1_monthInYear (((mi 2)).toInt64))).toInt64)) + (f_X1_yearOfMonth (((mi 3)).toInt64)))) + ((f_X1_monthInYear (((mi 3)).toInt64))).toInt64)), (0, .ref (y 0))]) C dX2_checksum_135 rfl (by decide) rfl ?_
  refine z_iload_n C dX2_checksum_136 rfl 0 rfl ?_
  refine z_iconst (v := 4) C dX2_checksum_137 (by decide) ?_
  refine z_icmp_ge (tgt := 160) C dX2_checksum_138 (by decide) (fun h => absurd h (by decide)) (fun _ => ?_)
  refine z_ldc2 (v := 31) C w2 dX2_checksum_141 ?_
  refine z_lload_n C dX2_checksum_144 rfl 1 rfl ?_
  refine z_lmul C dX2_checksum_145 ?_
  refine z_aload_n C dX2_checksum_146 rfl 2 rfl ?_
  refine z_get (CC := RX2) (T := TX2) (N := 10) (ci := 2) C hin 0 rfl rfl 5 (by decide) w8 rfl rfl dX2_checksum_147 ?_
  refine z_iload_n C dX2_checksum_150 rfl 0 rfl ?_
  refine z_lald C 6 1 rfl rfl (zvpl 0 4 (by decide)) dX2_checksum_151 ?_
  refine z_eqst (st' := [.long (ti 0), .long (31 * ((31 * ((31 * ((31 * ((31 * ((31 * ((31 * ((31 * ((31 * ((31 * ((31 * ((31 * ((31 * ((31 * ((31 * ((31 * ((31 * ((31 * ((31 * ((31 * ((31 * ((31 * ((31 * ((31 * ((31 * ((31 * (217 + (d 0))) + (d 1))) + (d 2))) + (d 3))) + (d 4))) + (d 5))) + ((sy 0)).toInt64)) + ((sm 0)).toInt64)) + ((sd 0)).toInt64)) + ((sy 1)).toInt64)) + ((sm 1)).toInt64)) + ((sd 1)).toInt64)) + ((sy 2)).toInt64)) + ((sm 2)).toInt64)) + ((sd 2)).toInt64)) + ((sy 3)).toInt64)) + ((sm 3)).toInt64)) + ((sd 3)).toInt64)) + (f_X1_yearOfMonth (((mi 0)).toInt64)))) + ((f_X1_monthInYear (((mi 0)).toInt64))).toInt64)) + (f_X1_yearOfMonth (((mi 1)).toInt64)))) + ((f_X1_monthInYear (((mi 1)).toInt64))).toInt64)) + (f_X1_yearOfMonth (((mi 2)).toInt64)))) + ((f_X1_monthInYear (((mi 2)).toInt64))).toInt64)) + (f_X1_yearOfMonth (((mi 3)).toInt64)))) + ((f_X1_monthInYear (((mi 3)).toInt64))).toInt64))]) rfl ?_
  refine z_ladd C dX2_checksum_152 ?_
  refine z_lstore_n (lv' := [(1, .long ((31 * ((31 * ((31 * ((31 * ((31 * ((31 * ((31 * ((31 * ((31 * ((31 * ((31 * ((31 * ((31 * ((31 * ((31 * ((31 * ((31 * ((31 * ((31 * ((31 * ((31 * ((31 * ((31 * ((31 * ((31 * ((31 * (217 + (d 0))) + (d 1))) + (d 2))) + (d 3))) + (d 4))) + (d 5))) + ((sy 0)).toInt64)) + ((sm 0)).toInt64)) + ((sd 0)).toInt64)) + ((sy 1)).toInt64)) + ((sm 1)).toInt64)) + ((sd 1)).toInt64)) + ((sy 2)).toInt64)) + ((sm 2)).toInt64)) + ((sd 2)).toInt64)) + ((sy 3)).toInt64)) + ((sm 3)).toInt64)) + ((sd 3)).toInt64)) + (f_X1_yearOfMonth (((mi 0)).toInt64)))) + ((f_X1_monthInYear (((mi 0)).toInt64))).toInt64)) + (f_X1_yearOfMonth (((mi 1)).toInt64)))) + ((f_X1_monthInYear (((mi 1)).toInt64))).toInt64)) + (f_X1_yearOfMonth (((mi 2)).toInt64)))) + ((f_X1_monthInYear (((mi 2)).toInt64))).toInt64)) + (f_X1_yearOfMonth (((mi 3)).toInt64)))) + ((f_X1_monthInYear (((mi 3)).toInt64))).toInt64)) + (ti 0))), (3, .int 0), (0, .ref (y 0))]) C dX2_checksum_153 rfl (by decide) rfl ?_
  refine z_iinc (q := 1) (v := 1) (lv' := [(3, .int 1), (1, .long ((31 * ((31 * ((31 * ((31 * ((31 * ((31 * ((31 * ((31 * ((31 * ((31 * ((31 * ((31 * ((31 * ((31 * ((31 * ((31 * ((31 * ((31 * ((31 * ((31 * ((31 * ((31 * ((31 * ((31 * ((31 * ((31 * (217 + (d 0))) + (d 1))) + (d 2))) + (d 3))) + (d 4))) + (d 5))) + ((sy 0)).toInt64)) + ((sm 0)).toInt64)) + ((sd 0)).toInt64)) + ((sy 1)).toInt64)) + ((sm 1)).toInt64)) + ((sd 1)).toInt64)) + ((sy 2)).toInt64)) + ((sm 2)).toInt64)) + ((sd 2)).toInt64)) + ((sy 3)).toInt64)) + ((sm 3)).toInt64)) + ((sd 3)).toInt64)) + (f_X1_yearOfMonth (((mi 0)).toInt64)))) + ((f_X1_monthInYear (((mi 0)).toInt64))).toInt64)) + (f_X1_yearOfMonth (((mi 1)).toInt64)))) + ((f_X1_monthInYear (((mi 1)).toInt64))).toInt64)) + (f_X1_yearOfMonth (((mi 2)).toInt64)))) + ((f_X1_monthInYear (((mi 2)).toInt64))).toInt64)) + (f_X1_yearOfMonth (((mi 3)).toInt64)))) + ((f_X1_monthInYear (((mi 3)).toInt64))).toInt64)) + (ti 0))), (0, .ref (y 0))]) C dX2_checksum_154 rfl (by decide) (by decide) rfl ?_
  refine z_goto (tgt := 136) C dX2_checksum_157 (by decide) ?_
  refine z_iload_n C dX2_checksum_136 rfl 0 rfl ?_
  refine z_iconst (v := 4) C dX2_checksum_137 (by decide) ?_
  refine z_icmp_ge (tgt := 160) C dX2_checksum_138 (by decide) (fun h => absurd h (by decide)) (fun _ => ?_)
  refine z_ldc2 (v := 31) C w2 dX2_checksum_141 ?_
  refine z_lload_n C dX2_checksum_144 rfl 1 rfl ?_
  refine z_lmul C dX2_checksum_145 ?_
  refine z_aload_n C dX2_checksum_146 rfl 2 rfl ?_
  refine z_get (CC := RX2) (T := TX2) (N := 10) (ci := 2) C hin 0 rfl rfl 5 (by decide) w8 rfl rfl dX2_checksum_147 ?_
  refine z_iload_n C dX2_checksum_150 rfl 0 rfl ?_
  refine z_lald C 6 1 rfl rfl (zvpl 1 4 (by decide)) dX2_checksum_151 ?_
  refine z_eqst (st' := [.long (ti 1), .long (31 * ((31 * ((31 * ((31 * ((31 * ((31 * ((31 * ((31 * ((31 * ((31 * ((31 * ((31 * ((31 * ((31 * ((31 * ((31 * ((31 * ((31 * ((31 * ((31 * ((31 * ((31 * ((31 * ((31 * ((31 * ((31 * ((31 * (217 + (d 0))) + (d 1))) + (d 2))) + (d 3))) + (d 4))) + (d 5))) + ((sy 0)).toInt64)) + ((sm 0)).toInt64)) + ((sd 0)).toInt64)) + ((sy 1)).toInt64)) + ((sm 1)).toInt64)) + ((sd 1)).toInt64)) + ((sy 2)).toInt64)) + ((sm 2)).toInt64)) + ((sd 2)).toInt64)) + ((sy 3)).toInt64)) + ((sm 3)).toInt64)) + ((sd 3)).toInt64)) + (f_X1_yearOfMonth (((mi 0)).toInt64)))) + ((f_X1_monthInYear (((mi 0)).toInt64))).toInt64)) + (f_X1_yearOfMonth (((mi 1)).toInt64)))) + ((f_X1_monthInYear (((mi 1)).toInt64))).toInt64)) + (f_X1_yearOfMonth (((mi 2)).toInt64)))) + ((f_X1_monthInYear (((mi 2)).toInt64))).toInt64)) + (f_X1_yearOfMonth (((mi 3)).toInt64)))) + ((f_X1_monthInYear (((mi 3)).toInt64))).toInt64)) + (ti 0)))]) rfl ?_
  refine z_ladd C dX2_checksum_152 ?_
  refine z_lstore_n (lv' := [(1, .long ((31 * ((31 * ((31 * ((31 * ((31 * ((31 * ((31 * ((31 * ((31 * ((31 * ((31 * ((31 * ((31 * ((31 * ((31 * ((31 * ((31 * ((31 * ((31 * ((31 * ((31 * ((31 * ((31 * ((31 * ((31 * ((31 * ((31 * (217 + (d 0))) + (d 1))) + (d 2))) + (d 3))) + (d 4))) + (d 5))) + ((sy 0)).toInt64)) + ((sm 0)).toInt64)) + ((sd 0)).toInt64)) + ((sy 1)).toInt64)) + ((sm 1)).toInt64)) + ((sd 1)).toInt64)) + ((sy 2)).toInt64)) + ((sm 2)).toInt64)) + ((sd 2)).toInt64)) + ((sy 3)).toInt64)) + ((sm 3)).toInt64)) + ((sd 3)).toInt64)) + (f_X1_yearOfMonth (((mi 0)).toInt64)))) + ((f_X1_monthInYear (((mi 0)).toInt64))).toInt64)) + (f_X1_yearOfMonth (((mi 1)).toInt64)))) + ((f_X1_monthInYear (((mi 1)).toInt64))).toInt64)) + (f_X1_yearOfMonth (((mi 2)).toInt64)))) + ((f_X1_monthInYear (((mi 2)).toInt64))).toInt64)) + (f_X1_yearOfMonth (((mi 3)).toInt64)))) + ((f_X1_monthInYear (((mi 3)).toInt64))).toInt64)) + (ti 0))) + (ti 1))), (3, .int 1), (0, .ref (y 0))]) C dX2_checksum_153 rfl (by decide) rfl ?_
  refine z_iinc (q := 1) (v := 2) (lv' := [(3, .int 2), (1, .long ((31 * ((31 * ((31 * ((31 * ((31 * ((31 * ((31 * ((31 * ((31 * ((31 * ((31 * ((31 * ((31 * ((31 * ((31 * ((31 * ((31 * ((31 * ((31 * ((31 * ((31 * ((31 * ((31 * ((31 * ((31 * ((31 * ((31 * (217 + (d 0))) + (d 1))) + (d 2))) + (d 3))) + (d 4))) + (d 5))) + ((sy 0)).toInt64)) + ((sm 0)).toInt64)) + ((sd 0)).toInt64)) + ((sy 1)).toInt64)) + ((sm 1)).toInt64)) + ((sd 1)).toInt64)) + ((sy 2)).toInt64)) + ((sm 2)).toInt64)) + ((sd 2)).toInt64)) + ((sy 3)).toInt64)) + ((sm 3)).toInt64)) + ((sd 3)).toInt64)) + (f_X1_yearOfMonth (((mi 0)).toInt64)))) + ((f_X1_monthInYear (((mi 0)).toInt64))).toInt64)) + (f_X1_yearOfMonth (((mi 1)).toInt64)))) + ((f_X1_monthInYear (((mi 1)).toInt64))).toInt64)) + (f_X1_yearOfMonth (((mi 2)).toInt64)))) + ((f_X1_monthInYear (((mi 2)).toInt64))).toInt64)) + (f_X1_yearOfMonth (((mi 3)).toInt64)))) + ((f_X1_monthInYear (((mi 3)).toInt64))).toInt64)) + (ti 0))) + (ti 1))), (0, .ref (y 0))]) C dX2_checksum_154 rfl (by decide) (by decide) rfl ?_
  refine z_goto (tgt := 136) C dX2_checksum_157 (by decide) ?_
  refine z_iload_n C dX2_checksum_136 rfl 0 rfl ?_
  refine z_iconst (v := 4) C dX2_checksum_137 (by decide) ?_
  refine z_icmp_ge (tgt := 160) C dX2_checksum_138 (by decide) (fun h => absurd h (by decide)) (fun _ => ?_)
  refine z_ldc2 (v := 31) C w2 dX2_checksum_141 ?_
  refine z_lload_n C dX2_checksum_144 rfl 1 rfl ?_
  refine z_lmul C dX2_checksum_145 ?_
  refine z_aload_n C dX2_checksum_146 rfl 2 rfl ?_
  refine z_get (CC := RX2) (T := TX2) (N := 10) (ci := 2) C hin 0 rfl rfl 5 (by decide) w8 rfl rfl dX2_checksum_147 ?_
  refine z_iload_n C dX2_checksum_150 rfl 0 rfl ?_
  refine z_lald C 6 1 rfl rfl (zvpl 2 4 (by decide)) dX2_checksum_151 ?_
  refine z_eqst (st' := [.long (ti 2), .long (31 * ((31 * ((31 * ((31 * ((31 * ((31 * ((31 * ((31 * ((31 * ((31 * ((31 * ((31 * ((31 * ((31 * ((31 * ((31 * ((31 * ((31 * ((31 * ((31 * ((31 * ((31 * ((31 * ((31 * ((31 * ((31 * ((31 * ((31 * (217 + (d 0))) + (d 1))) + (d 2))) + (d 3))) + (d 4))) + (d 5))) + ((sy 0)).toInt64)) + ((sm 0)).toInt64)) + ((sd 0)).toInt64)) + ((sy 1)).toInt64)) + ((sm 1)).toInt64)) + ((sd 1)).toInt64)) + ((sy 2)).toInt64)) + ((sm 2)).toInt64)) + ((sd 2)).toInt64)) + ((sy 3)).toInt64)) + ((sm 3)).toInt64)) + ((sd 3)).toInt64)) + (f_X1_yearOfMonth (((mi 0)).toInt64)))) + ((f_X1_monthInYear (((mi 0)).toInt64))).toInt64)) + (f_X1_yearOfMonth (((mi 1)).toInt64)))) + ((f_X1_monthInYear (((mi 1)).toInt64))).toInt64)) + (f_X1_yearOfMonth (((mi 2)).toInt64)))) + ((f_X1_monthInYear (((mi 2)).toInt64))).toInt64)) + (f_X1_yearOfMonth (((mi 3)).toInt64)))) + ((f_X1_monthInYear (((mi 3)).toInt64))).toInt64)) + (ti 0))) + (ti 1)))]) rfl ?_
  refine z_ladd C dX2_checksum_152 ?_
  refine z_lstore_n (lv' := [(1, .long ((31 * ((31 * ((31 * ((31 * ((31 * ((31 * ((31 * ((31 * ((31 * ((31 * ((31 * ((31 * ((31 * ((31 * ((31 * ((31 * ((31 * ((31 * ((31 * ((31 * ((31 * ((31 * ((31 * ((31 * ((31 * ((31 * ((31 * ((31 * (217 + (d 0))) + (d 1))) + (d 2))) + (d 3))) + (d 4))) + (d 5))) + ((sy 0)).toInt64)) + ((sm 0)).toInt64)) + ((sd 0)).toInt64)) + ((sy 1)).toInt64)) + ((sm 1)).toInt64)) + ((sd 1)).toInt64)) + ((sy 2)).toInt64)) + ((sm 2)).toInt64)) + ((sd 2)).toInt64)) + ((sy 3)).toInt64)) + ((sm 3)).toInt64)) + ((sd 3)).toInt64)) + (f_X1_yearOfMonth (((mi 0)).toInt64)))) + ((f_X1_monthInYear (((mi 0)).toInt64))).toInt64)) + (f_X1_yearOfMonth (((mi 1)).toInt64)))) + ((f_X1_monthInYear (((mi 1)).toInt64))).toInt64)) + (f_X1_yearOfMonth (((mi 2)).toInt64)))) + ((f_X1_monthInYear (((mi 2)).toInt64))).toInt64)) + (f_X1_yearOfMonth (((mi 3)).toInt64)))) + ((f_X1_monthInYear (((mi 3)).toInt64))).toInt64)) + (ti 0))) + (ti 1))) + (ti 2))), (3, .int 2), (0, .ref (y 0))]) C dX2_checksum_153 rfl (by decide) rfl ?_
  refine z_iinc (q := 1) (v := 3) (lv' := [(3, .int 3), (1, .long ((31 * ((31 * ((31 * ((31 * ((31 * ((31 * ((31 * ((31 * ((31 * ((31 * ((31 * ((31 * ((31 * ((31 * ((31 * ((31 * ((31 * ((31 * ((31 * ((31 * ((31 * ((31 * ((31 * ((31 * ((31 * ((31 * ((31 * ((31 * (217 + (d 0))) + (d 1))) + (d 2))) + (d 3))) + (d 4))) + (d 5))) + ((sy 0)).toInt64)) + ((sm 0)).toInt64)) + ((sd 0)).toInt64)) + ((sy 1)).toInt64)) + ((sm 1)).toInt64)) + ((sd 1)).toInt64)) + ((sy 2)).toInt64)) + ((sm 2)).toInt64)) + ((sd 2)).toInt64)) + ((sy 3)).toInt64)) + ((sm 3)).toInt64)) + ((sd 3)).toInt64)) + (f_X1_yearOfMonth (((mi 0)).toInt64)))) + ((f_X1_monthInYear (((mi 0)).toInt64))).toInt64)) + (f_X1_yearOfMonth (((mi 1)).toInt64)))) + ((f_X1_monthInYear (((mi 1)).toInt64))).toInt64)) + (f_X1_yearOfMonth (((mi 2)).toInt64)))) + ((f_X1_monthInYear (((mi 2)).toInt64))).toInt64)) + (f_X1_yearOfMonth (((mi 3)).toInt64)))) + ((f_X1_monthInYear (((mi 3)).toInt64))).toInt64)) + (ti 0))) + (ti 1))) + (ti 2))), (0, .ref (y 0))]) C dX2_checksum_154 rfl (by decide) (by decide) rfl ?_
  refine z_goto (tgt := 136) C dX2_checksum_157 (by decide) ?_
  refine z_iload_n C dX2_checksum_136 rfl 0 rfl ?_
  refine z_iconst (v := 4) C dX2_checksum_137 (by decide) ?_
  refine z_icmp_ge (tgt := 160) C dX2_checksum_138 (by decide) (fun h => absurd h (by decide)) (fun _ => ?_)
  refine z_ldc2 (v := 31) C w2 dX2_checksum_141 ?_
  refine z_lload_n C dX2_checksum_144 rfl 1 rfl ?_
  refine z_lmul C dX2_checksum_145 ?_
  refine z_aload_n C dX2_checksum_146 rfl 2 rfl ?_
  refine z_get (CC := RX2) (T := TX2) (N := 10) (ci := 2) C hin 0 rfl rfl 5 (by decide) w8 rfl rfl dX2_checksum_147 ?_
  refine z_iload_n C dX2_checksum_150 rfl 0 rfl ?_
  refine z_lald C 6 1 rfl rfl (zvpl 3 4 (by decide)) dX2_checksum_151 ?_
  refine z_eqst (st' := [.long (ti 3), .long (31 * ((31 * ((31 * ((31 * ((31 * ((31 * ((31 * ((31 * ((31 * ((31 * ((31 * ((31 * ((31 * ((31 * ((31 * ((31 * ((31 * ((31 * ((31 * ((31 * ((31 * ((31 * ((31 * ((31 * ((31 * ((31 * ((31 * ((31 * ((31 * (217 + (d 0))) + (d 1))) + (d 2))) + (d 3))) + (d 4))) + (d 5))) + ((sy 0)).toInt64)) + ((sm 0)).toInt64)) + ((sd 0)).toInt64)) + ((sy 1)).toInt64)) + ((sm 1)).toInt64)) + ((sd 1)).toInt64)) + ((sy 2)).toInt64)) + ((sm 2)).toInt64)) + ((sd 2)).toInt64)) + ((sy 3)).toInt64)) + ((sm 3)).toInt64)) + ((sd 3)).toInt64)) + (f_X1_yearOfMonth (((mi 0)).toInt64)))) + ((f_X1_monthInYear (((mi 0)).toInt64))).toInt64)) + (f_X1_yearOfMonth (((mi 1)).toInt64)))) + ((f_X1_monthInYear (((mi 1)).toInt64))).toInt64)) + (f_X1_yearOfMonth (((mi 2)).toInt64)))) + ((f_X1_monthInYear (((mi 2)).toInt64))).toInt64)) + (f_X1_yearOfMonth (((mi 3)).toInt64)))) + ((f_X1_monthInYear (((mi 3)).toInt64))).toInt64)) + (ti 0))) + (ti 1))) + (ti 2)))]) rfl ?_
  refine z_ladd C dX2_checksum_152 ?_
  refine z_lstore_n (lv' := [(1, .long ((31 * ((31 * ((31 * ((31 * ((31 * ((31 * ((31 * ((31 * ((31 * ((31 * ((31 * ((31 * ((31 * ((31 * ((31 * ((31 * ((31 * ((31 * ((31 * ((31 * ((31 * ((31 * ((31 * ((31 * ((31 * ((31 * ((31 * ((31 * ((31 * (217 + (d 0))) + (d 1))) + (d 2))) + (d 3))) + (d 4))) + (d 5))) + ((sy 0)).toInt64)) + ((sm 0)).toInt64)) + ((sd 0)).toInt64)) + ((sy 1)).toInt64)) + ((sm 1)).toInt64)) + ((sd 1)).toInt64)) + ((sy 2)).toInt64)) + ((sm 2)).toInt64)) + ((sd 2)).toInt64)) + ((sy 3)).toInt64)) + ((sm 3)).toInt64)) + ((sd 3)).toInt64)) + (f_X1_yearOfMonth (((mi 0)).toInt64)))) + ((f_X1_monthInYear (((mi 0)).toInt64))).toInt64)) + (f_X1_yearOfMonth (((mi 1)).toInt64)))) + ((f_X1_monthInYear (((mi 1)).toInt64))).toInt64)) + (f_X1_yearOfMonth (((mi 2)).toInt64)))) + ((f_X1_monthInYear (((mi 2)).toInt64))).toInt64)) + (f_X1_yearOfMonth (((mi 3)).toInt64)))) + ((f_X1_monthInYear (((mi 3)).toInt64))).toInt64)) + (ti 0))) + (ti 1))) + (ti 2))) + (ti 3))), (3, .int 3), (0, .ref (y 0))]) C dX2_checksum_153 rfl (by decide) rfl ?_
  refine z_iinc (q := 1) (v := 4) (lv' := [(3, .int 4), (1, .long ((31 * ((31 * ((31 * ((31 * ((31 * ((31 * ((31 * ((31 * ((31 * ((31 * ((31 * ((31 * ((31 * ((31 * ((31 * ((31 * ((31 * ((31 * ((31 * ((31 * ((31 * ((31 * ((31 * ((31 * ((31 * ((31 * ((31 * ((31 * ((31 * (217 + (d 0))) + (d 1))) + (d 2))) + (d 3))) + (d 4))) + (d 5))) + ((sy 0)).toInt64)) + ((sm 0)).toInt64)) + ((sd 0)).toInt64)) + ((sy 1)).toInt64)) + ((sm 1)).toInt64)) + ((sd 1)).toInt64)) + ((sy 2)).toInt64)) + ((sm 2)).toInt64)) + ((sd 2)).toInt64)) + ((sy 3)).toInt64)) + ((sm 3)).toInt64)) + ((sd 3)).toInt64)) + (f_X1_yearOfMonth (((mi 0)).toInt64)))) + ((f_X1_monthInYear (((mi 0)).toInt64))).toInt64)) + (f_X1_yearOfMonth (((mi 1)).toInt64)))) + ((f_X1_monthInYear (((mi 1)).toInt64))).toInt64)) + (f_X1_yearOfMonth (((mi 2)).toInt64)))) + ((f_X1_monthInYear (((mi 2)).toInt64))).toInt64)) + (f_X1_yearOfMonth (((mi 3)).toInt64)))) + ((f_X1_monthInYear (((mi 3)).toInt64))).toInt64)) + (ti 0))) + (ti 1))) + (ti 2))) + (ti 3))), (0, .ref (y 0))]) C dX2_checksum_154 rfl (by decide) (by decide) rfl ?_
  refine z_goto (tgt := 136) C dX2_checksum_157 (by decide) ?_
  refine z_iload_n C dX2_checksum_136 rfl 0 rfl ?_
  refine z_iconst (v := 4) C dX2_checksum_137 (by decide) ?_
  refine z_icmp_ge (tgt := 160) C dX2_checksum_138 (by decide) (fun _ => ?_) (fun h => absurd (by decide) h)
  refine z_iconst (v := 0) C dX2_checksum_160 (by decide) ?_
  refine z_istore_n (lv' := [(3, .int 0), (1, .long ((31 * ((31 * ((31 * ((31 * ((31 * ((31 * ((31 * ((31 * ((31 * ((31 * ((31 * ((31 * ((31 * ((31 * ((31 * ((31 * ((31 * ((31 * ((31 * ((31 * ((31 * ((31 * ((31 * ((31 * ((31 * ((31 * ((31 * ((31 * ((31 * (217 + (d 0))) + (d 1))) + (d 2))) + (d 3))) + (d 4))) + (d 5))) + ((sy 0)).toInt64)) + ((sm 0)).toInt64)) + ((sd 0)).toInt64)) + ((sy 1)).toInt64)) + ((sm 1)).toInt64)) + ((sd 1)).toInt64)) + ((sy 2)).toInt64)) + ((sm 2)).toInt64)) + ((sd 2)).toInt64)) + ((sy 3)).toInt64)) + ((sm 3)).toInt64)) + ((sd 3)).toInt64)) + (f_X1_yearOfMonth (((mi 0)).toInt64)))) + ((f_X1_monthInYear (((mi 0)).toInt64))).toInt64)) + (f_X1_yearOfMonth (((mi 1)).toInt64)))) + ((f_X1_monthInYear (((mi 1)).toInt64))).toInt64)) + (f_X1_yearOfMonth (((mi 2)).toInt64)))) + ((f_X1_monthInYear (((mi 2)).toInt64))).toInt64)) + (f_X1_yearOfMonth (((mi 3)).toInt64)))) + ((f_X1_monthInYear (((mi 3)).toInt64))).toInt64)) + (ti 0))) + (ti 1))) + (ti 2))) + (ti 3))), (0, .ref (y 0))]) C dX2_checksum_161 rfl (by decide) rfl ?_
  refine z_iload_n C dX2_checksum_162 rfl 0 rfl ?_
  refine z_iconst (v := 4) C dX2_checksum_163 (by decide) ?_
  refine z_icmp_ge (tgt := 199) C dX2_checksum_164 (by decide) (fun h => absurd h (by decide)) (fun _ => ?_)
  refine z_ldc2 (v := 31) C w2 dX2_checksum_167 ?_
  refine z_lload_n C dX2_checksum_170 rfl 1 rfl ?_
  refine z_lmul C dX2_checksum_171 ?_
  refine z_aload_n C dX2_checksum_172 rfl 2 rfl ?_
  refine z_get (CC := RX2) (T := TX2) (N := 10) (ci := 2) C hin 0 rfl rfl 6 (by decide) w9 rfl rfl dX2_checksum_173 ?_
  refine z_iload_n C dX2_checksum_176 rfl 0 rfl ?_
  refine z_lald C 7 1 rfl rfl (zvpl 0 4 (by decide)) dX2_checksum_177 ?_
  refine z_eqst (st' := [.long (sL 0), .long (31 * ((31 * ((31 * ((31 * ((31 * ((31 * ((31 * ((31 * ((31 * ((31 * ((31 * ((31 * ((31 * ((31 * ((31 * ((31 * ((31 * ((31 * ((31 * ((31 * ((31 * ((31 * ((31 * ((31 * ((31 * ((31 * ((31 * ((31 * ((31 * ((31 * (217 + (d 0))) + (d 1))) + (d 2))) + (d 3))) + (d 4))) + (d 5))) + ((sy 0)).toInt64)) + ((sm 0)).toInt64)) + ((sd 0)).toInt64)) + ((sy 1)).toInt64)) + ((sm 1)).toInt64)) + ((sd 1)).toInt64)) + ((sy 2)).toInt64)) + ((sm 2)).toInt64)) + ((sd 2)).toInt64)) + ((sy 3)).toInt64)) + ((sm 3)).toInt64)) + ((sd 3)).toInt64)) + (f_X1_yearOfMonth (((mi 0)).toInt64)))) + ((f_X1_monthInYear (((mi 0)).toInt64))).toInt64)) + (f_X1_yearOfMonth (((mi 1)).toInt64)))) + ((f_X1_monthInYear (((mi 1)).toInt64))).toInt64)) + (f_X1_yearOfMonth (((mi 2)).toInt64)))) + ((f_X1_monthInYear (((mi 2)).toInt64))).toInt64)) + (f_X1_yearOfMonth (((mi 3)).toInt64)))) + ((f_X1_monthInYear (((mi 3)).toInt64))).toInt64)) + (ti 0))) + (ti 1))) + (ti 2))) + (ti 3)))]) rfl ?_
  refine z_ladd C dX2_checksum_178 ?_
  refine z_lstore_n (lv' := [(1, .long ((31 * ((31 * ((31 * ((31 * ((31 * ((31 * ((31 * ((31 * ((31 * ((31 * ((31 * ((31 * ((31 * ((31 * ((31 * ((31 * ((31 * ((31 * ((31 * ((31 * ((31 * ((31 * ((31 * ((31 * ((31 * ((31 * ((31 * ((31 * ((31 * ((31 * (217 + (d 0))) + (d 1))) + (d 2))) + (d 3))) + (d 4))) + (d 5))) + ((sy 0)).toInt64)) + ((sm 0)).toInt64)) + ((sd 0)).toInt64)) + ((sy 1)).toInt64)) + ((sm 1)).toInt64)) + ((sd 1)).toInt64)) + ((sy 2)).toInt64)) + ((sm 2)).toInt64)) + ((sd 2)).toInt64)) + ((sy 3)).toInt64)) + ((sm 3)).toInt64)) + ((sd 3)).toInt64)) + (f_X1_yearOfMonth (((mi 0)).toInt64)))) + ((f_X1_monthInYear (((mi 0)).toInt64))).toInt64)) + (f_X1_yearOfMonth (((mi 1)).toInt64)))) + ((f_X1_monthInYear (((mi 1)).toInt64))).toInt64)) + (f_X1_yearOfMonth (((mi 2)).toInt64)))) + ((f_X1_monthInYear (((mi 2)).toInt64))).toInt64)) + (f_X1_yearOfMonth (((mi 3)).toInt64)))) + ((f_X1_monthInYear (((mi 3)).toInt64))).toInt64)) + (ti 0))) + (ti 1))) + (ti 2))) + (ti 3))) + (sL 0))), (3, .int 0), (0, .ref (y 0))]) C dX2_checksum_179 rfl (by decide) rfl ?_
  refine z_ldc2 (v := 31) C w2 dX2_checksum_180 ?_
  refine z_lload_n C dX2_checksum_183 rfl 0 rfl ?_
  refine z_lmul C dX2_checksum_184 ?_
  refine z_aload_n C dX2_checksum_185 rfl 2 rfl ?_
  refine z_get (CC := RX2) (T := TX2) (N := 10) (ci := 2) C hin 0 rfl rfl 7 (by decide) w10 rfl rfl dX2_checksum_186 ?_
  refine z_iload_n C dX2_checksum_189 rfl 1 rfl ?_
  refine z_lald C 8 1 rfl rfl (zvpl 0 4 (by decide)) dX2_checksum_190 ?_
  refine z_eqst (st' := [.long (bL 0), .long (31 * ((31 * ((31 * ((31 * ((31 * ((31 * ((31 * ((31 * ((31 * ((31 * ((31 * ((31 * ((31 * ((31 * ((31 * ((31 * ((31 * ((31 * ((31 * ((31 * ((31 * ((31 * ((31 * ((31 * ((31 * ((31 * ((31 * ((31 * ((31 * ((31 * ((31 * (217 + (d 0))) + (d 1))) + (d 2))) + (d 3))) + (d 4))) + (d 5))) + ((sy 0)).toInt64)) + ((sm 0)).toInt64)) + ((sd 0)).toInt64)) + ((sy 1)).toInt64)) + ((sm 1)).toInt64)) + ((sd 1)).toInt64)) + ((sy 2)).toInt64)) + ((sm 2)).toInt64)) + ((sd 2)).toInt64)) + ((sy 3)).toInt64)) + ((sm 3)).toInt64)) + ((sd 3)).toInt64)) + (f_X1_yearOfMonth (((mi 0)).toInt64)))) + ((f_X1_monthInYear (((mi 0)).toInt64))).toInt64)) + (f_X1_yearOfMonth (((mi 1)).toInt64)))) + ((f_X1_monthInYear (((mi 1)).toInt64))).toInt64)) + (f_X1_yearOfMonth (((mi 2)).toInt64)))) + ((f_X1_monthInYear (((mi 2)).toInt64))).toInt64)) + (f_X1_yearOfMonth (((mi 3)).toInt64)))) + ((f_X1_monthInYear (((mi 3)).toInt64))).toInt64)) + (ti 0))) + (ti 1))) + (ti 2))) + (ti 3))) + (sL 0)))]) rfl ?_
  refine z_ladd C dX2_checksum_191 ?_
  refine z_lstore_n (lv' := [(1, .long ((31 * ((31 * ((31 * ((31 * ((31 * ((31 * ((31 * ((31 * ((31 * ((31 * ((31 * ((31 * ((31 * ((31 * ((31 * ((31 * ((31 * ((31 * ((31 * ((31 * ((31 * ((31 * ((31 * ((31 * ((31 * ((31 * ((31 * ((31 * ((31 * ((31 * ((31 * (217 + (d 0))) + (d 1))) + (d 2))) + (d 3))) + (d 4))) + (d 5))) + ((sy 0)).toInt64)) + ((sm 0)).toInt64)) + ((sd 0)).toInt64)) + ((sy 1)).toInt64)) + ((sm 1)).toInt64)) + ((sd 1)).toInt64)) + ((sy 2)).toInt64)) + ((sm 2)).toInt64)) + ((sd 2)).toInt64)) + ((sy 3)).toInt64)) + ((sm 3)).toInt64)) + ((sd 3)).toInt64)) + (f_X1_yearOfMonth (((mi 0)).toInt64)))) + ((f_X1_monthInYear (((mi 0)).toInt64))).toInt64)) + (f_X1_yearOfMonth (((mi 1)).toInt64)))) + ((f_X1_monthInYear (((mi 1)).toInt64))).toInt64)) + (f_X1_yearOfMonth (((mi 2)).toInt64)))) + ((f_X1_monthInYear (((mi 2)).toInt64))).toInt64)) + (f_X1_yearOfMonth (((mi 3)).toInt64)))) + ((f_X1_monthInYear (((mi 3)).toInt64))).toInt64)) + (ti 0))) + (ti 1))) + (ti 2))) + (ti 3))) + (sL 0))) + (bL 0))), (3, .int 0), (0, .ref (y 0))]) C dX2_checksum_192 rfl (by decide) rfl ?_
  refine z_iinc (q := 1) (v := 1) (lv' := [(3, .int 1), (1, .long ((31 * ((31 * ((31 * ((31 * ((31 * ((31 * ((31 * ((31 * ((31 * ((31 * ((31 * ((31 * ((31 * ((31 * ((31 * ((31 * ((31 * ((31 * ((31 * ((31 * ((31 * ((31 * ((31 * ((31 * ((31 * ((31 * ((31 * ((31 * ((31 * ((31 * ((31 * (217 + (d 0))) + (d 1))) + (d 2))) + (d 3))) + (d 4))) + (d 5))) + ((sy 0)).toInt64)) + ((sm 0)).toInt64)) + ((sd 0)).toInt64)) + ((sy 1)).toInt64)) + ((sm 1)).toInt64)) + ((sd 1)).toInt64)) + ((sy 2)).toInt64)) + ((sm 2)).toInt64)) + ((sd 2)).toInt64)) + ((sy 3)).toInt64)) + ((sm 3)).toInt64)) + ((sd 3)).toInt64)) + (f_X1_yearOfMonth (((mi 0)).toInt64)))) + ((f_X1_monthInYear (((mi 0)).toInt64))).toInt64)) + (f_X1_yearOfMonth (((mi 1)).toInt64)))) + ((f_X1_monthInYear (((mi 1)).toInt64))).toInt64)) + (f_X1_yearOfMonth (((mi 2)).toInt64)))) + ((f_X1_monthInYear (((mi 2)).toInt64))).toInt64)) + (f_X1_yearOfMonth (((mi 3)).toInt64)))) + ((f_X1_monthInYear (((mi 3)).toInt64))).toInt64)) + (ti 0))) + (ti 1))) + (ti 2))) + (ti 3))) + (sL 0))) + (bL 0))), (0, .ref (y 0))]) C dX2_checksum_193 rfl (by decide) (by decide) rfl ?_
  refine z_goto (tgt := 162) C dX2_checksum_196 (by decide) ?_
  refine z_iload_n C dX2_checksum_162 rfl 0 rfl ?_
  refine z_iconst (v := 4) C dX2_checksum_163 (by decide) ?_
  refine z_icmp_ge (tgt := 199) C dX2_checksum_164 (by decide) (fun h => absurd h (by decide)) (fun _ => ?_)
  refine z_ldc2 (v := 31) C w2 dX2_checksum_167 ?_
  refine z_lload_n C dX2_checksum_170 rfl 1 rfl ?_
  refine z_lmul C dX2_checksum_171 ?_
  refine z_aload_n C dX2_checksum_172 rfl 2 rfl ?_
  refine z_get (CC := RX2) (T := TX2) (N := 10) (ci := 2) C hin 0 rfl rfl 6 (by decide) w9 rfl rfl dX2_checksum_173 ?_
  refine z_iload_n C dX2_checksum_176 rfl 0 rfl ?_
  refine z_lald C 7 1 rfl rfl (zvpl 1 4 (by decide)) dX2_checksum_177 ?_
  refine z_eqst (st' := [.long (sL 1), .long (31 * ((31 * ((31 * ((31 * ((31 * ((31 * ((31 * ((31 * ((31 * ((31 * ((31 * ((31 * ((31 * ((31 * ((31 * ((31 * ((31 * ((31 * ((31 * ((31 * ((31 * ((31 * ((31 * ((31 * ((31 * ((31 * ((31 * ((31 * ((31 * ((31 * ((31 * ((31 * (217 + (d 0))) + (d 1))) + (d 2))) + (d 3))) + (d 4))) + (d 5))) + ((sy 0)).toInt64)) + ((sm 0)).toInt64)) + ((sd 0)).toInt64)) + ((sy 1)).toInt64)) + ((sm 1)).toInt64)) + ((sd 1)).toInt64)) + ((sy 2)).toInt64)) + ((sm 2)).toInt64)) + ((sd 2)).toInt64)) + ((sy 3)).toInt64)) + ((sm 3)).toInt64)) + ((sd 3)).toInt64)) + (f_X1_yearOfMonth (((mi 0)).toInt64)))) + ((f_X1_monthInYear (((mi 0)).toInt64))).toInt64)) + (f_X1_yearOfMonth (((mi 1)).toInt64)))) + ((f_X1_monthInYear (((mi 1)).toInt64))).toInt64)) + (f_X1_yearOfMonth (((mi 2)).toInt64)))) + ((f_X1_monthInYear (((mi 2)).toInt64))).toInt64)) + (f_X1_yearOfMonth (((mi 3)).toInt64)))) + ((f_X1_monthInYear (((mi 3)).toInt64))).toInt64)) + (ti 0))) + (ti 1))) + (ti 2))) + (ti 3))) + (sL 0))) + (bL 0)))]) rfl ?_
  refine z_ladd C dX2_checksum_178 ?_
  refine z_lstore_n (lv' := [(1, .long ((31 * ((31 * ((31 * ((31 * ((31 * ((31 * ((31 * ((31 * ((31 * ((31 * ((31 * ((31 * ((31 * ((31 * ((31 * ((31 * ((31 * ((31 * ((31 * ((31 * ((31 * ((31 * ((31 * ((31 * ((31 * ((31 * ((31 * ((31 * ((31 * ((31 * ((31 * ((31 * (217 + (d 0))) + (d 1))) + (d 2))) + (d 3))) + (d 4))) + (d 5))) + ((sy 0)).toInt64)) + ((sm 0)).toInt64)) + ((sd 0)).toInt64)) + ((sy 1)).toInt64)) + ((sm 1)).toInt64)) + ((sd 1)).toInt64)) + ((sy 2)).toInt64)) + ((sm 2)).toInt64)) + ((sd 2)).toInt64)) + ((sy 3)).toInt64)) + ((sm 3)).toInt64)) + ((sd 3)).toInt64)) + (f_X1_yearOfMonth (((mi 0)).toInt64)))) + ((f_X1_monthInYear (((mi 0)).toInt64))).toInt64)) + (f_X1_yearOfMonth (((mi 1)).toInt64)))) + ((f_X1_monthInYear (((mi 1)).toInt64))).toInt64)) + (f_X1_yearOfMonth (((mi 2)).toInt64)))) + ((f_X1_monthInYear (((mi 2)).toInt64))).toInt64)) + (f_X1_yearOfMonth (((mi 3)).toInt64)))) + ((f_X1_monthInYear (((mi 3)).toInt64))).toInt64)) + (ti 0))) + (ti 1))) + (ti 2))) + (ti 3))) + (sL 0))) + (bL 0))) + (sL 1))), (3, .int 1), (0, .ref (y 0))]) C dX2_checksum_179 rfl (by decide) rfl ?_
  refine z_ldc2 (v := 31) C w2 dX2_checksum_180 ?_
  refine z_lload_n C dX2_checksum_183 rfl 0 rfl ?_
  refine z_lmul C dX2_checksum_184 ?_
  refine z_aload_n C dX2_checksum_185 rfl 2 rfl ?_
  refine z_get (CC := RX2) (T := TX2) (N := 10) (ci := 2) C hin 0 rfl rfl 7 (by decide) w10 rfl rfl dX2_checksum_186 ?_
  refine z_iload_n C dX2_checksum_189 rfl 1 rfl ?_
  refine z_lald C 8 1 rfl rfl (zvpl 1 4 (by decide)) dX2_checksum_190 ?_
  refine z_eqst (st' := [.long (bL 1), .long (31 * ((31 * ((31 * ((31 * ((31 * ((31 * ((31 * ((31 * ((31 * ((31 * ((31 * ((31 * ((31 * ((31 * ((31 * ((31 * ((31 * ((31 * ((31 * ((31 * ((31 * ((31 * ((31 * ((31 * ((31 * ((31 * ((31 * ((31 * ((31 * ((31 * ((31 * ((31 * ((31 * (217 + (d 0))) + (d 1))) + (d 2))) + (d 3))) + (d 4))) + (d 5))) + ((sy 0)).toInt64)) + ((sm 0)).toInt64)) + ((sd 0)).toInt64)) + ((sy 1)).toInt64)) + ((sm 1)).toInt64)) + ((sd 1)).toInt64)) + ((sy 2)).toInt64)) + ((sm 2)).toInt64)) + ((sd 2)).toInt64)) + ((sy 3)).toInt64)) + ((sm 3)).toInt64)) + ((sd 3)).toInt64)) + (f_X1_yearOfMonth (((mi 0)).toInt64)))) + ((f_X1_monthInYear (((mi 0)).toInt64))).toInt64)) + (f_X1_yearOfMonth (((mi 1)).toInt64)))) + ((f_X1_monthInYear (((mi 1)).toInt64))).toInt64)) + (f_X1_yearOfMonth (((mi 2)).toInt64)))) + ((f_X1_monthInYear (((mi 2)).toInt64))).toInt64)) + (f_X1_yearOfMonth (((mi 3)).toInt64)))) + ((f_X1_monthInYear (((mi 3)).toInt64))).toInt64)) + (ti 0))) + (ti 1))) + (ti 2))) + (ti 3))) + (sL 0))) + (bL 0))) + (sL 1)))]) rfl ?_
  refine z_ladd C dX2_checksum_191 ?_
  refine z_lstore_n (lv' := [(1, .long ((31 * ((31 * ((31 * ((31 * ((31 * ((31 * ((31 * ((31 * ((31 * ((31 * ((31 * ((31 * ((31 * ((31 * ((31 * ((31 * ((31 * ((31 * ((31 * ((31 * ((31 * ((31 * ((31 * ((31 * ((31 * ((31 * ((31 * ((31 * ((31 * ((31 * ((31 * ((31 * ((31 * (217 + (d 0))) + (d 1))) + (d 2))) + (d 3))) + (d 4))) + (d 5))) + ((sy 0)).toInt64)) + ((sm 0)).toInt64)) + ((sd 0)).toInt64)) + ((sy 1)).toInt64)) + ((sm 1)).toInt64)) + ((sd 1)).toInt64)) + ((sy 2)).toInt64)) + ((sm 2)).toInt64)) + ((sd 2)).toInt64)) + ((sy 3)).toInt64)) + ((sm 3)).toInt64)) + ((sd 3)).toInt64)) + (f_X1_yearOfMonth (((mi 0)).toInt64)))) + ((f_X1_monthInYear (((mi 0)).toInt64))).toInt64)) + (f_X1_yearOfMonth (((mi 1)).toInt64)))) + ((f_X1_monthInYear (((mi 1)).toInt64))).toInt64)) + (f_X1_yearOfMonth (((mi 2)).toInt64)))) + ((f_X1_monthInYear (((mi 2)).toInt64))).toInt64)) + (f_X1_yearOfMonth (((mi 3)).toInt64)))) + ((f_X1_monthInYear (((mi 3)).toInt64))).toInt64)) + (ti 0))) + (ti 1))) + (ti 2))) + (ti 3))) + (sL 0))) + (bL 0))) + (sL 1))) + (bL 1))), (3, .int 1), (0, .ref (y 0))]) C dX2_checksum_192 rfl (by decide) rfl ?_
  refine z_iinc (q := 1) (v := 2) (lv' := [(3, .int 2), (1, .long ((31 * ((31 * ((31 * ((31 * ((31 * ((31 * ((31 * ((31 * ((31 * ((31 * ((31 * ((31 * ((31 * ((31 * ((31 * ((31 * ((31 * ((31 * ((31 * ((31 * ((31 * ((31 * ((31 * ((31 * ((31 * ((31 * ((31 * ((31 * ((31 * ((31 * ((31 * ((31 * ((31 * (217 + (d 0))) + (d 1))) + (d 2))) + (d 3))) + (d 4))) + (d 5))) + ((sy 0)).toInt64)) + ((sm 0)).toInt64)) + ((sd 0)).toInt64)) + ((sy 1)).toInt64)) + ((sm 1)).toInt64)) + ((sd 1)).toInt64)) + ((sy 2)).toInt64)) + ((sm 2)).toInt64)) + ((sd 2)).toInt64)) + ((sy 3)).toInt64)) + ((sm 3)).toInt64)) + ((sd 3)).toInt64)) + (f_X1_yearOfMonth (((mi 0)).toInt64)))) + ((f_X1_monthInYear (((mi 0)).toInt64))).toInt64)) + (f_X1_yearOfMonth (((mi 1)).toInt64)))) + ((f_X1_monthInYear (((mi 1)).toInt64))).toInt64)) + (f_X1_yearOfMonth (((mi 2)).toInt64)))) + ((f_X1_monthInYear (((mi 2)).toInt64))).toInt64)) + (f_X1_yearOfMonth (((mi 3)).toInt64)))) + ((f_X1_monthInYear (((mi 3)).toInt64))).toInt64)) + (ti 0))) + (ti 1))) + (ti 2))) + (ti 3))) + (sL 0))) + (bL 0))) + (sL 1))) + (bL 1))), (0, .ref (y 0))]) C dX2_checksum_193 rfl (by decide) (by decide) rfl ?_
  refine z_goto (tgt := 162) C dX2_checksum_196 (by decide) ?_
  refine z_iload_n C dX2_checksum_162 rfl 0 rfl ?_
  refine z_iconst (v := 4) C dX2_checksum_163 (by decide) ?_
  refine z_icmp_ge (tgt := 199) C dX2_checksum_164 (by decide) (fun h => absurd h (by decide)) (fun _ => ?_)
  refine z_ldc2 (v := 31) C w2 dX2_checksum_167 ?_
  refine z_lload_n C dX2_checksum_170 rfl 1 rfl ?_
  refine z_lmul C dX2_checksum_171 ?_
  refine z_aload_n C dX2_checksum_172 rfl 2 rfl ?_
  refine z_get (CC := RX2) (T := TX2) (N := 10) (ci := 2) C hin 0 rfl rfl 6 (by decide) w9 rfl rfl dX2_checksum_173 ?_
  refine z_iload_n C dX2_checksum_176 rfl 0 rfl ?_
  refine z_lald C 7 1 rfl rfl (zvpl 2 4 (by decide)) dX2_checksum_177 ?_
  refine z_eqst (st' := [.long (sL 2), .long (31 * ((31 * ((31 * ((31 * ((31 * ((31 * ((31 * ((31 * ((31 * ((31 * ((31 * ((31 * ((31 * ((31 * ((31 * ((31 * ((31 * ((31 * ((31 * ((31 * ((31 * ((31 * ((31 * ((31 * ((31 * ((31 * ((31 * ((31 * ((31 * ((31 * ((31 * ((31 * ((31 * ((31 * (217 + (d 0))) + (d 1))) + (d 2))) + (d 3))) + (d 4))) + (d 5))) + ((sy 0)).toInt64)) + ((sm 0)).toInt64)) + ((sd 0)).toInt64)) + ((sy 1)).toInt64)) + ((sm 1)).toInt64)) + ((sd 1)).toInt64)) + ((sy 2)).toInt64)) + ((sm 2)).toInt64)) + ((sd 2)).toInt64)) + ((sy 3)).toInt64)) + ((sm 3)).toInt64)) + ((sd 3)).toInt64)) + (f_X1_yearOfMonth (((mi 0)).toInt64)))) + ((f_X1_monthInYear (((mi 0)).toInt64))).toInt64)) + (f_X1_yearOfMonth (((mi 1)).toInt64)))) + ((f_X1_monthInYear (((mi 1)).toInt64))).toInt64)) + (f_X1_yearOfMonth (((mi 2)).toInt64)))) + ((f_X1_monthInYear (((mi 2)).toInt64))).toInt64)) + (f_X1_yearOfMonth (((mi 3)).toInt64)))) + ((f_X1_monthInYear (((mi 3)).toInt64))).toInt64)) + (ti 0))) + (ti 1))) + (ti 2))) + (ti 3))) + (sL 0))) + (bL 0))) + (sL 1))) + (bL 1)))]) rfl ?_
  refine z_ladd C dX2_checksum_178 ?_
  refine z_lstore_n (lv' := [(1, .long ((31 * ((31 * ((31 * ((31 * ((31 * ((31 * ((31 * ((31 * ((31 * ((31 * ((31 * ((31 * ((31 * ((31 * ((31 * ((31 * ((31 * ((31 * ((31 * ((31 * ((31 * ((31 * ((31 * ((31 * ((31 * ((31 * ((31 * ((31 * ((31 * ((31 * ((31 * ((31 * ((31 * ((31 * (217 + (d 0))) + (d 1))) + (d 2))) + (d 3))) + (d 4))) + (d 5))) + ((sy 0)).toInt64)) + ((sm 0)).toInt64)) + ((sd 0)).toInt64)) + ((sy 1)).toInt64)) + ((sm 1)).toInt64)) + ((sd 1)).toInt64)) + ((sy 2)).toInt64)) + ((sm 2)).toInt64)) + ((sd 2)).toInt64)) + ((sy 3)).toInt64)) + ((sm 3)).toInt64)) + ((sd 3)).toInt64)) + (f_X1_yearOfMonth (((mi 0)).toInt64)))) + ((f_X1_monthInYear (((mi 0)).toInt64))).toInt64)) + (f_X1_yearOfMonth (((mi 1)).toInt64)))) + ((f_X1_monthInYear (((mi 1)).toInt64))).toInt64)) + (f_X1_yearOfMonth (((mi 2)).toInt64)))) + ((f_X1_monthInYear (((mi 2)).toInt64))).toInt64)) + (f_X1_yearOfMonth (((mi 3)).toInt64)))) + ((f_X1_monthInYear (((mi 3)).toInt64))).toInt64)) + (ti 0))) + (ti 1))) + (ti 2))) + (ti 3))) + (sL 0))) + (bL 0))) + (sL 1))) + (bL 1))) + (sL 2))), (3, .int 2), (0, .ref (y 0))]) C dX2_checksum_179 rfl (by decide) rfl ?_
  refine z_ldc2 (v := 31) C w2 dX2_checksum_180 ?_
  refine z_lload_n C dX2_checksum_183 rfl 0 rfl ?_
  refine z_lmul C dX2_checksum_184 ?_
  refine z_aload_n C dX2_checksum_185 rfl 2 rfl ?_
  refine z_get (CC := RX2) (T := TX2) (N := 10) (ci := 2) C hin 0 rfl rfl 7 (by decide) w10 rfl rfl dX2_checksum_186 ?_
  refine z_iload_n C dX2_checksum_189 rfl 1 rfl ?_
  refine z_lald C 8 1 rfl rfl (zvpl 2 4 (by decide)) dX2_checksum_190 ?_
  refine z_eqst (st' := [.long (bL 2), .long (31 * ((31 * ((31 * ((31 * ((31 * ((31 * ((31 * ((31 * ((31 * ((31 * ((31 * ((31 * ((31 * ((31 * ((31 * ((31 * ((31 * ((31 * ((31 * ((31 * ((31 * ((31 * ((31 * ((31 * ((31 * ((31 * ((31 * ((31 * ((31 * ((31 * ((31 * ((31 * ((31 * ((31 * ((31 * (217 + (d 0))) + (d 1))) + (d 2))) + (d 3))) + (d 4))) + (d 5))) + ((sy 0)).toInt64)) + ((sm 0)).toInt64)) + ((sd 0)).toInt64)) + ((sy 1)).toInt64)) + ((sm 1)).toInt64)) + ((sd 1)).toInt64)) + ((sy 2)).toInt64)) + ((sm 2)).toInt64)) + ((sd 2)).toInt64)) + ((sy 3)).toInt64)) + ((sm 3)).toInt64)) + ((sd 3)).toInt64)) + (f_X1_yearOfMonth (((mi 0)).toInt64)))) + ((f_X1_monthInYear (((mi 0)).toInt64))).toInt64)) + (f_X1_yearOfMonth (((mi 1)).toInt64)))) + ((f_X1_monthInYear (((mi 1)).toInt64))).toInt64)) + (f_X1_yearOfMonth (((mi 2)).toInt64)))) + ((f_X1_monthInYear (((mi 2)).toInt64))).toInt64)) + (f_X1_yearOfMonth (((mi 3)).toInt64)))) + ((f_X1_monthInYear (((mi 3)).toInt64))).toInt64)) + (ti 0))) + (ti 1))) + (ti 2))) + (ti 3))) + (sL 0))) + (bL 0))) + (sL 1))) + (bL 1))) + (sL 2)))]) rfl ?_
  refine z_ladd C dX2_checksum_191 ?_
  refine z_lstore_n (lv' := [(1, .long ((31 * ((31 * ((31 * ((31 * ((31 * ((31 * ((31 * ((31 * ((31 * ((31 * ((31 * ((31 * ((31 * ((31 * ((31 * ((31 * ((31 * ((31 * ((31 * ((31 * ((31 * ((31 * ((31 * ((31 * ((31 * ((31 * ((31 * ((31 * ((31 * ((31 * ((31 * ((31 * ((31 * ((31 * ((31 * (217 + (d 0))) + (d 1))) + (d 2))) + (d 3))) + (d 4))) + (d 5))) + ((sy 0)).toInt64)) + ((sm 0)).toInt64)) + ((sd 0)).toInt64)) + ((sy 1)).toInt64)) + ((sm 1)).toInt64)) + ((sd 1)).toInt64)) + ((sy 2)).toInt64)) + ((sm 2)).toInt64)) + ((sd 2)).toInt64)) + ((sy 3)).toInt64)) + ((sm 3)).toInt64)) + ((sd 3)).toInt64)) + (f_X1_yearOfMonth (((mi 0)).toInt64)))) + ((f_X1_monthInYear (((mi 0)).toInt64))).toInt64)) + (f_X1_yearOfMonth (((mi 1)).toInt64)))) + ((f_X1_monthInYear (((mi 1)).toInt64))).toInt64)) + (f_X1_yearOfMonth (((mi 2)).toInt64)))) + ((f_X1_monthInYear (((mi 2)).toInt64))).toInt64)) + (f_X1_yearOfMonth (((mi 3)).toInt64)))) + ((f_X1_monthInYear (((mi 3)).toInt64))).toInt64)) + (ti 0))) + (ti 1))) + (ti 2))) + (ti 3))) + (sL 0))) + (bL 0))) + (sL 1))) + (bL 1))) + (sL 2))) + (bL 2))), (3, .int 2), (0, .ref (y 0))]) C dX2_checksum_192 rfl (by decide) rfl ?_
  refine z_iinc (q := 1) (v := 3) (lv' := [(3, .int 3), (1, .long ((31 * ((31 * ((31 * ((31 * ((31 * ((31 * ((31 * ((31 * ((31 * ((31 * ((31 * ((31 * ((31 * ((31 * ((31 * ((31 * ((31 * ((31 * ((31 * ((31 * ((31 * ((31 * ((31 * ((31 * ((31 * ((31 * ((31 * ((31 * ((31 * ((31 * ((31 * ((31 * ((31 * ((31 * ((31 * (217 + (d 0))) + (d 1))) + (d 2))) + (d 3))) + (d 4))) + (d 5))) + ((sy 0)).toInt64)) + ((sm 0)).toInt64)) + ((sd 0)).toInt64)) + ((sy 1)).toInt64)) + ((sm 1)).toInt64)) + ((sd 1)).toInt64)) + ((sy 2)).toInt64)) + ((sm 2)).toInt64)) + ((sd 2)).toInt64)) + ((sy 3)).toInt64)) + ((sm 3)).toInt64)) + ((sd 3)).toInt64)) + (f_X1_yearOfMonth (((mi 0)).toInt64)))) + ((f_X1_monthInYear (((mi 0)).toInt64))).toInt64)) + (f_X1_yearOfMonth (((mi 1)).toInt64)))) + ((f_X1_monthInYear (((mi 1)).toInt64))).toInt64)) + (f_X1_yearOfMonth (((mi 2)).toInt64)))) + ((f_X1_monthInYear (((mi 2)).toInt64))).toInt64)) + (f_X1_yearOfMonth (((mi 3)).toInt64)))) + ((f_X1_monthInYear (((mi 3)).toInt64))).toInt64)) + (ti 0))) + (ti 1))) + (ti 2))) + (ti 3))) + (sL 0))) + (bL 0))) + (sL 1))) + (bL 1))) + (sL 2))) + (bL 2))), (0, .ref (y 0))]) C dX2_checksum_193 rfl (by decide) (by decide) rfl ?_
  refine z_goto (tgt := 162) C dX2_checksum_196 (by decide) ?_
  refine z_iload_n C dX2_checksum_162 rfl 0 rfl ?_
  refine z_iconst (v := 4) C dX2_checksum_163 (by decide) ?_
  refine z_icmp_ge (tgt := 199) C dX2_checksum_164 (by decide) (fun h => absurd h (by decide)) (fun _ => ?_)
  refine z_ldc2 (v := 31) C w2 dX2_checksum_167 ?_
  refine z_lload_n C dX2_checksum_170 rfl 1 rfl ?_
  refine z_lmul C dX2_checksum_171 ?_
  refine z_aload_n C dX2_checksum_172 rfl 2 rfl ?_
  refine z_get (CC := RX2) (T := TX2) (N := 10) (ci := 2) C hin 0 rfl rfl 6 (by decide) w9 rfl rfl dX2_checksum_173 ?_
  refine z_iload_n C dX2_checksum_176 rfl 0 rfl ?_
  refine z_lald C 7 1 rfl rfl (zvpl 3 4 (by decide)) dX2_checksum_177 ?_
  refine z_eqst (st' := [.long (sL 3), .long (31 * ((31 * ((31 * ((31 * ((31 * ((31 * ((31 * ((31 * ((31 * ((31 * ((31 * ((31 * ((31 * ((31 * ((31 * ((31 * ((31 * ((31 * ((31 * ((31 * ((31 * ((31 * ((31 * ((31 * ((31 * ((31 * ((31 * ((31 * ((31 * ((31 * ((31 * ((31 * ((31 * ((31 * ((31 * ((31 * (217 + (d 0))) + (d 1))) + (d 2))) + (d 3))) + (d 4))) + (d 5))) + ((sy 0)).toInt64)) + ((sm 0)).toInt64)) + ((sd 0)).toInt64)) + ((sy 1)).toInt64)) + ((sm 1)).toInt64)) + ((sd 1)).toInt64)) + ((sy 2)).toInt64)) + ((sm 2)).toInt64)) + ((sd 2)).toInt64)) + ((sy 3)).toInt64)) + ((sm 3)).toInt64)) + ((sd 3)).toInt64)) + (f_X1_yearOfMonth (((mi 0)).toInt64)))) + ((f_X1_monthInYear (((mi 0)).toInt64))).toInt64)) + (f_X1_yearOfMonth (((mi 1)).toInt64)))) + ((f_X1_monthInYear (((mi 1)).toInt64))).toInt64)) + (f_X1_yearOfMonth (((mi 2)).toInt64)))) + ((f_X1_monthInYear (((mi 2)).toInt64))).toInt64)) + (f_X1_yearOfMonth (((mi 3)).toInt64)))) + ((f_X1_monthInYear (((mi 3)).toInt64))).toInt64)) + (ti 0))) + (ti 1))) + (ti 2))) + (ti 3))) + (sL 0))) + (bL 0))) + (sL 1))) + (bL 1))) + (sL 2))) + (bL 2)))]) rfl ?_
  refine z_ladd C dX2_checksum_178 ?_
  refine z_lstore_n (lv' := [(1, .long ((31 * ((31 * ((31 * ((31 * ((31 * ((31 * ((31 * ((31 * ((31 * ((31 * ((31 * ((31 * ((31 * ((31 * ((31 * ((31 * ((31 * ((31 * ((31 * ((31 * ((31 * ((31 * ((31 * ((31 * ((31 * ((31 * ((31 * ((31 * ((31 * ((31 * ((31 * ((31 * ((31 * ((31 * ((31 * ((31 * (217 + (d 0))) + (d 1))) + (d 2))) + (d 3))) + (d 4))) + (d 5))) + ((sy 0)).toInt64)) + ((sm 0)).toInt64)) + ((sd 0)).toInt64)) + ((sy 1)).toInt64)) + ((sm 1)).toInt64)) + ((sd 1)).toInt64)) + ((sy 2)).toInt64)) + ((sm 2)).toInt64)) + ((sd 2)).toInt64)) + ((sy 3)).toInt64)) + ((sm 3)).toInt64)) + ((sd 3)).toInt64)) + (f_X1_yearOfMonth (((mi 0)).toInt64)))) + ((f_X1_monthInYear (((mi 0)).toInt64))).toInt64)) + (f_X1_yearOfMonth (((mi 1)).toInt64)))) + ((f_X1_monthInYear (((mi 1)).toInt64))).toInt64)) + (f_X1_yearOfMonth (((mi 2)).toInt64)))) + ((f_X1_monthInYear (((mi 2)).toInt64))).toInt64)) + (f_X1_yearOfMonth (((mi 3)).toInt64)))) + ((f_X1_monthInYear (((mi 3)).toInt64))).toInt64)) + (ti 0))) + (ti 1))) + (ti 2))) + (ti 3))) + (sL 0))) + (bL 0))) + (sL 1))) + (bL 1))) + (sL 2))) + (bL 2))) + (sL 3))), (3, .int 3), (0, .ref (y 0))]) C dX2_checksum_179 rfl (by decide) rfl ?_
  refine z_ldc2 (v := 31) C w2 dX2_checksum_180 ?_
  refine z_lload_n C dX2_checksum_183 rfl 0 rfl ?_
  refine z_lmul C dX2_checksum_184 ?_
  refine z_aload_n C dX2_checksum_185 rfl 2 rfl ?_
  refine z_get (CC := RX2) (T := TX2) (N := 10) (ci := 2) C hin 0 rfl rfl 7 (by decide) w10 rfl rfl dX2_checksum_186 ?_
  refine z_iload_n C dX2_checksum_189 rfl 1 rfl ?_
  refine z_lald C 8 1 rfl rfl (zvpl 3 4 (by decide)) dX2_checksum_190 ?_
  refine z_eqst (st' := [.long (bL 3), .long (31 * ((31 * ((31 * ((31 * ((31 * ((31 * ((31 * ((31 * ((31 * ((31 * ((31 * ((31 * ((31 * ((31 * ((31 * ((31 * ((31 * ((31 * ((31 * ((31 * ((31 * ((31 * ((31 * ((31 * ((31 * ((31 * ((31 * ((31 * ((31 * ((31 * ((31 * ((31 * ((31 * ((31 * ((31 * ((31 * ((31 * (217 + (d 0))) + (d 1))) + (d 2))) + (d 3))) + (d 4))) + (d 5))) + ((sy 0)).toInt64)) + ((sm 0)).toInt64)) + ((sd 0)).toInt64)) + ((sy 1)).toInt64)) + ((sm 1)).toInt64)) + ((sd 1)).toInt64)) + ((sy 2)).toInt64)) + ((sm 2)).toInt64)) + ((sd 2)).toInt64)) + ((sy 3)).toInt64)) + ((sm 3)).toInt64)) + ((sd 3)).toInt64)) + (f_X1_yearOfMonth (((mi 0)).toInt64)))) + ((f_X1_monthInYear (((mi 0)).toInt64))).toInt64)) + (f_X1_yearOfMonth (((mi 1)).toInt64)))) + ((f_X1_monthInYear (((mi 1)).toInt64))).toInt64)) + (f_X1_yearOfMonth (((mi 2)).toInt64)))) + ((f_X1_monthInYear (((mi 2)).toInt64))).toInt64)) + (f_X1_yearOfMonth (((mi 3)).toInt64)))) + ((f_X1_monthInYear (((mi 3)).toInt64))).toInt64)) + (ti 0))) + (ti 1))) + (ti 2))) + (ti 3))) + (sL 0))) + (bL 0))) + (sL 1))) + (bL 1))) + (sL 2))) + (bL 2))) + (sL 3)))]) rfl ?_
  refine z_ladd C dX2_checksum_191 ?_
  refine z_lstore_n (lv' := [(1, .long ((31 * ((31 * ((31 * ((31 * ((31 * ((31 * ((31 * ((31 * ((31 * ((31 * ((31 * ((31 * ((31 * ((31 * ((31 * ((31 * ((31 * ((31 * ((31 * ((31 * ((31 * ((31 * ((31 * ((31 * ((31 * ((31 * ((31 * ((31 * ((31 * ((31 * ((31 * ((31 * ((31 * ((31 * ((31 * ((31 * ((31 * (217 + (d 0))) + (d 1))) + (d 2))) + (d 3))) + (d 4))) + (d 5))) + ((sy 0)).toInt64)) + ((sm 0)).toInt64)) + ((sd 0)).toInt64)) + ((sy 1)).toInt64)) + ((sm 1)).toInt64)) + ((sd 1)).toInt64)) + ((sy 2)).toInt64)) + ((sm 2)).toInt64)) + ((sd 2)).toInt64)) + ((sy 3)).toInt64)) + ((sm 3)).toInt64)) + ((sd 3)).toInt64)) + (f_X1_yearOfMonth (((mi 0)).toInt64)))) + ((f_X1_monthInYear (((mi 0)).toInt64))).toInt64)) + (f_X1_yearOfMonth (((mi 1)).toInt64)))) + ((f_X1_monthInYear (((mi 1)).toInt64))).toInt64)) + (f_X1_yearOfMonth (((mi 2)).toInt64)))) + ((f_X1_monthInYear (((mi 2)).toInt64))).toInt64)) + (f_X1_yearOfMonth (((mi 3)).toInt64)))) + ((f_X1_monthInYear (((mi 3)).toInt64))).toInt64)) + (ti 0))) + (ti 1))) + (ti 2))) + (ti 3))) + (sL 0))) + (bL 0))) + (sL 1))) + (bL 1))) + (sL 2))) + (bL 2))) + (sL 3))) + (bL 3))), (3, .int 3), (0, .ref (y 0))]) C dX2_checksum_192 rfl (by decide) rfl ?_
  refine z_iinc (q := 1) (v := 4) (lv' := [(3, .int 4), (1, .long ((31 * ((31 * ((31 * ((31 * ((31 * ((31 * ((31 * ((31 * ((31 * ((31 * ((31 * ((31 * ((31 * ((31 * ((31 * ((31 * ((31 * ((31 * ((31 * ((31 * ((31 * ((31 * ((31 * ((31 * ((31 * ((31 * ((31 * ((31 * ((31 * ((31 * ((31 * ((31 * ((31 * ((31 * ((31 * ((31 * ((31 * (217 + (d 0))) + (d 1))) + (d 2))) + (d 3))) + (d 4))) + (d 5))) + ((sy 0)).toInt64)) + ((sm 0)).toInt64)) + ((sd 0)).toInt64)) + ((sy 1)).toInt64)) + ((sm 1)).toInt64)) + ((sd 1)).toInt64)) + ((sy 2)).toInt64)) + ((sm 2)).toInt64)) + ((sd 2)).toInt64)) + ((sy 3)).toInt64)) + ((sm 3)).toInt64)) + ((sd 3)).toInt64)) + (f_X1_yearOfMonth (((mi 0)).toInt64)))) + ((f_X1_monthInYear (((mi 0)).toInt64))).toInt64)) + (f_X1_yearOfMonth (((mi 1)).toInt64)))) + ((f_X1_monthInYear (((mi 1)).toInt64))).toInt64)) + (f_X1_yearOfMonth (((mi 2)).toInt64)))) + ((f_X1_monthInYear (((mi 2)).toInt64))).toInt64)) + (f_X1_yearOfMonth (((mi 3)).toInt64)))) + ((f_X1_monthInYear (((mi 3)).toInt64))).toInt64)) + (ti 0))) + (ti 1))) + (ti 2))) + (ti 3))) + (sL 0))) + (bL 0))) + (sL 1))) + (bL 1))) + (sL 2))) + (bL 2))) + (sL 3))) + (bL 3))), (0, .ref (y 0))]) C dX2_checksum_193 rfl (by decide) (by decide) rfl ?_
  refine z_goto (tgt := 162) C dX2_checksum_196 (by decide) ?_
  refine z_iload_n C dX2_checksum_162 rfl 0 rfl ?_
  refine z_iconst (v := 4) C dX2_checksum_163 (by decide) ?_
  refine z_icmp_ge (tgt := 199) C dX2_checksum_164 (by decide) (fun _ => ?_) (fun h => absurd (by decide) h)
  refine z_iconst (v := 0) C dX2_checksum_199 (by decide) ?_
  refine z_istore_n (lv' := [(3, .int 0), (1, .long ((31 * ((31 * ((31 * ((31 * ((31 * ((31 * ((31 * ((31 * ((31 * ((31 * ((31 * ((31 * ((31 * ((31 * ((31 * ((31 * ((31 * ((31 * ((31 * ((31 * ((31 * ((31 * ((31 * ((31 * ((31 * ((31 * ((31 * ((31 * ((31 * ((31 * ((31 * ((31 * ((31 * ((31 * ((31 * ((31 * ((31 * (217 + (d 0))) + (d 1))) + (d 2))) + (d 3))) + (d 4))) + (d 5))) + ((sy 0)).toInt64)) + ((sm 0)).toInt64)) + ((sd 0)).toInt64)) + ((sy 1)).toInt64)) + ((sm 1)).toInt64)) + ((sd 1)).toInt64)) + ((sy 2)).toInt64)) + ((sm 2)).toInt64)) + ((sd 2)).toInt64)) + ((sy 3)).toInt64)) + ((sm 3)).toInt64)) + ((sd 3)).toInt64)) + (f_X1_yearOfMonth (((mi 0)).toInt64)))) + ((f_X1_monthInYear (((mi 0)).toInt64))).toInt64)) + (f_X1_yearOfMonth (((mi 1)).toInt64)))) + ((f_X1_monthInYear (((mi 1)).toInt64))).toInt64)) + (f_X1_yearOfMonth (((mi 2)).toInt64)))) + ((f_X1_monthInYear (((mi 2)).toInt64))).toInt64)) + (f_X1_yearOfMonth (((mi 3)).toInt64)))) + ((f_X1_monthInYear (((mi 3)).toInt64))).toInt64)) + (ti 0))) + (ti 1))) + (ti 2))) + (ti 3))) + (sL 0))) + (bL 0))) + (sL 1))) + (bL 1))) + (sL 2))) + (bL 2))) + (sL 3))) + (bL 3))), (0, .ref (y 0))]) C dX2_checksum_200 rfl (by decide) rfl ?_
  refine z_iload_n C dX2_checksum_201 rfl 0 rfl ?_
  refine z_iconst (v := 4) C dX2_checksum_202 (by decide) ?_
  refine z_icmp_ge (tgt := 238) C dX2_checksum_203 (by decide) (fun h => absurd h (by decide)) (fun _ => ?_)
  refine z_ldc2 (v := 31) C w2 dX2_checksum_206 ?_
  refine z_lload_n C dX2_checksum_209 rfl 1 rfl ?_
  refine z_lmul C dX2_checksum_210 ?_
  refine z_aload_n C dX2_checksum_211 rfl 2 rfl ?_
  refine z_get (CC := RX2) (T := TX2) (N := 10) (ci := 2) C hin 0 rfl rfl 8 (by decide) w11 rfl rfl dX2_checksum_212 ?_
  refine z_iload_n C dX2_checksum_215 rfl 0 rfl ?_
  refine z_lald C 9 1 rfl rfl (zvpl 0 4 (by decide)) dX2_checksum_216 ?_
  refine z_eqst (st' := [.long (mD 0), .long (31 * ((31 * ((31 * ((31 * ((31 * ((31 * ((31 * ((31 * ((31 * ((31 * ((31 * ((31 * ((31 * ((31 * ((31 * ((31 * ((31 * ((31 * ((31 * ((31 * ((31 * ((31 * ((31 * ((31 * ((31 * ((31 * ((31 * ((31 * ((31 * ((31 * ((31 * ((31 * ((31 * ((31 * ((31 * ((31 * ((31 * ((31 * (217 + (d 0))) + (d 1))) + (d 2))) + (d 3))) + (d 4))) + (d 5))) + ((sy 0)).toInt64)) + ((sm 0)).toInt64)) + ((sd 0)).toInt64)) + ((sy 1)).toInt64)) + ((sm 1)).toInt64)) + ((sd 1)).toInt64)) + ((sy 2)).toInt64)) + ((sm 2)).toInt64)) + ((sd 2)).toInt64)) + ((sy 3)).toInt64)) + ((sm 3)).toInt64)) + ((sd 3)).toInt64)) + (f_X1_yearOfMonth (((mi 0)).toInt64)))) + ((f_X1_monthInYear (((mi 0)).toInt64))).toInt64)) + (f_X1_yearOfMonth (((mi 1)).toInt64)))) + ((f_X1_monthInYear (((mi 1)).toInt64))).toInt64)) + (f_X1_yearOfMonth (((mi 2)).toInt64)))) + ((f_X1_monthInYear (((mi 2)).toInt64))).toInt64)) + (f_X1_yearOfMonth (((mi 3)).toInt64)))) + ((f_X1_monthInYear (((mi 3)).toInt64))).toInt64)) + (ti 0))) + (ti 1))) + (ti 2))) + (ti 3))) + (sL 0))) + (bL 0))) + (sL 1))) + (bL 1))) + (sL 2))) + (bL 2))) + (sL 3))) + (bL 3)))]) rfl ?_
  refine z_ladd C dX2_checksum_217 ?_
  refine z_lstore_n (lv' := [(1, .long ((31 * ((31 * ((31 * ((31 * ((31 * ((31 * ((31 * ((31 * ((31 * ((31 * ((31 * ((31 * ((31 * ((31 * ((31 * ((31 * ((31 * ((31 * ((31 * ((31 * ((31 * ((31 * ((31 * ((31 * ((31 * ((31 * ((31 * ((31 * ((31 * ((31 * ((31 * ((31 * ((31 * ((31 * ((31 * ((31 * ((31 * ((31 * (217 + (d 0))) + (d 1))) + (d 2))) + (d 3))) + (d 4))) + (d 5))) + ((sy 0)).toInt64)) + ((sm 0)).toInt64)) + ((sd 0)).toInt64)) + ((sy 1)).toInt64)) + ((sm 1)).toInt64)) + ((sd 1)).toInt64)) + ((sy 2)).toInt64)) + ((sm 2)).toInt64)) + ((sd 2)).toInt64)) + ((sy 3)).toInt64)) + ((sm 3)).toInt64)) + ((sd 3)).toInt64)) + (f_X1_yearOfMonth (((mi 0)).toInt64)))) + ((f_X1_monthInYear (((mi 0)).toInt64))).toInt64)) + (f_X1_yearOfMonth (((mi 1)).toInt64)))) + ((f_X1_monthInYear (((mi 1)).toInt64))).toInt64)) + (f_X1_yearOfMonth (((mi 2)).toInt64)))) + ((f_X1_monthInYear (((mi 2)).toInt64))).toInt64)) + (f_X1_yearOfMonth (((mi 3)).toInt64)))) + ((f_X1_monthInYear (((mi 3)).toInt64))).toInt64)) + (ti 0))) + (ti 1))) + (ti 2))) + (ti 3))) + (sL 0))) + (bL 0))) + (sL 1))) + (bL 1))) + (sL 2))) + (bL 2))) + (sL 3))) + (bL 3))) + (mD 0))), (3, .int 0), (0, .ref (y 0))]) C dX2_checksum_218 rfl (by decide) rfl ?_
  refine z_ldc2 (v := 31) C w2 dX2_checksum_219 ?_
  refine z_lload_n C dX2_checksum_222 rfl 0 rfl ?_
  refine z_lmul C dX2_checksum_223 ?_
  refine z_aload_n C dX2_checksum_224 rfl 2 rfl ?_
  refine z_get (CC := RX2) (T := TX2) (N := 10) (ci := 2) C hin 0 rfl rfl 9 (by decide) w12 rfl rfl dX2_checksum_225 ?_
  refine z_iload_n C dX2_checksum_228 rfl 1 rfl ?_
  refine z_lald C 10 1 rfl rfl (zvpl 0 4 (by decide)) dX2_checksum_229 ?_
  refine z_eqst (st' := [.long (mT 0), .long (31 * ((31 * ((31 * ((31 * ((31 * ((31 * ((31 * ((31 * ((31 * ((31 * ((31 * ((31 * ((31 * ((31 * ((31 * ((31 * ((31 * ((31 * ((31 * ((31 * ((31 * ((31 * ((31 * ((31 * ((31 * ((31 * ((31 * ((31 * ((31 * ((31 * ((31 * ((31 * ((31 * ((31 * ((31 * ((31 * ((31 * ((31 * ((31 * (217 + (d 0))) + (d 1))) + (d 2))) + (d 3))) + (d 4))) + (d 5))) + ((sy 0)).toInt64)) + ((sm 0)).toInt64)) + ((sd 0)).toInt64)) + ((sy 1)).toInt64)) + ((sm 1)).toInt64)) + ((sd 1)).toInt64)) + ((sy 2)).toInt64)) + ((sm 2)).toInt64)) + ((sd 2)).toInt64)) + ((sy 3)).toInt64)) + ((sm 3)).toInt64)) + ((sd 3)).toInt64)) + (f_X1_yearOfMonth (((mi 0)).toInt64)))) + ((f_X1_monthInYear (((mi 0)).toInt64))).toInt64)) + (f_X1_yearOfMonth (((mi 1)).toInt64)))) + ((f_X1_monthInYear (((mi 1)).toInt64))).toInt64)) + (f_X1_yearOfMonth (((mi 2)).toInt64)))) + ((f_X1_monthInYear (((mi 2)).toInt64))).toInt64)) + (f_X1_yearOfMonth (((mi 3)).toInt64)))) + ((f_X1_monthInYear (((mi 3)).toInt64))).toInt64)) + (ti 0))) + (ti 1))) + (ti 2))) + (ti 3))) + (sL 0))) + (bL 0))) + (sL 1))) + (bL 1))) + (sL 2))) + (bL 2))) + (sL 3))) + (bL 3))) + (mD 0)))]) rfl ?_
  refine z_ladd C dX2_checksum_230 ?_
  refine z_lstore_n (lv' := [(1, .long ((31 * ((31 * ((31 * ((31 * ((31 * ((31 * ((31 * ((31 * ((31 * ((31 * ((31 * ((31 * ((31 * ((31 * ((31 * ((31 * ((31 * ((31 * ((31 * ((31 * ((31 * ((31 * ((31 * ((31 * ((31 * ((31 * ((31 * ((31 * ((31 * ((31 * ((31 * ((31 * ((31 * ((31 * ((31 * ((31 * ((31 * ((31 * ((31 * (217 + (d 0))) + (d 1))) + (d 2))) + (d 3))) + (d 4))) + (d 5))) + ((sy 0)).toInt64)) + ((sm 0)).toInt64)) + ((sd 0)).toInt64)) + ((sy 1)).toInt64)) + ((sm 1)).toInt64)) + ((sd 1)).toInt64)) + ((sy 2)).toInt64)) + ((sm 2)).toInt64)) + ((sd 2)).toInt64)) + ((sy 3)).toInt64)) + ((sm 3)).toInt64)) + ((sd 3)).toInt64)) + (f_X1_yearOfMonth (((mi 0)).toInt64)))) + ((f_X1_monthInYear (((mi 0)).toInt64))).toInt64)) + (f_X1_yearOfMonth (((mi 1)).toInt64)))) + ((f_X1_monthInYear (((mi 1)).toInt64))).toInt64)) + (f_X1_yearOfMonth (((mi 2)).toInt64)))) + ((f_X1_monthInYear (((mi 2)).toInt64))).toInt64)) + (f_X1_yearOfMonth (((mi 3)).toInt64)))) + ((f_X1_monthInYear (((mi 3)).toInt64))).toInt64)) + (ti 0))) + (ti 1))) + (ti 2))) + (ti 3))) + (sL 0))) + (bL 0))) + (sL 1))) + (bL 1))) + (sL 2))) + (bL 2))) + (sL 3))) + (bL 3))) + (mD 0))) + (mT 0))), (3, .int 0), (0, .ref (y 0))]) C dX2_checksum_231 rfl (by decide) rfl ?_
  refine z_iinc (q := 1) (v := 1) (lv' := [(3, .int 1), (1, .long ((31 * ((31 * ((31 * ((31 * ((31 * ((31 * ((31 * ((31 * ((31 * ((31 * ((31 * ((31 * ((31 * ((31 * ((31 * ((31 * ((31 * ((31 * ((31 * ((31 * ((31 * ((31 * ((31 * ((31 * ((31 * ((31 * ((31 * ((31 * ((31 * ((31 * ((31 * ((31 * ((31 * ((31 * ((31 * ((31 * ((31 * ((31 * ((31 * (217 + (d 0))) + (d 1))) + (d 2))) + (d 3))) + (d 4))) + (d 5))) + ((sy 0)).toInt64)) + ((sm 0)).toInt64)) + ((sd 0)).toInt64)) + ((sy 1)).toInt64)) + ((sm 1)).toInt64)) + ((sd 1)).toInt64)) + ((sy 2)).toInt64)) + ((sm 2)).toInt64)) + ((sd 2)).toInt64)) + ((sy 3)).toInt64)) + ((sm 3)).toInt64)) + ((sd 3)).toInt64)) + (f_X1_yearOfMonth (((mi 0)).toInt64)))) + ((f_X1_monthInYear (((mi 0)).toInt64))).toInt64)) + (f_X1_yearOfMonth (((mi 1)).toInt64)))) + ((f_X1_monthInYear (((mi 1)).toInt64))).toInt64)) + (f_X1_yearOfMonth (((mi 2)).toInt64)))) + ((f_X1_monthInYear (((mi 2)).toInt64))).toInt64)) + (f_X1_yearOfMonth (((mi 3)).toInt64)))) + ((f_X1_monthInYear (((mi 3)).toInt64))).toInt64)) + (ti 0))) + (ti 1))) + (ti 2))) + (ti 3))) + (sL 0))) + (bL 0))) + (sL 1))) + (bL 1))) + (sL 2))) + (bL 2))) + (sL 3))) + (bL 3))) + (mD 0))) + (mT 0))), (0, .ref (y 0))]) C dX2_checksum_232 rfl (by decide) (by decide) rfl ?_
  refine z_goto (tgt := 201) C dX2_checksum_235 (by decide) ?_
  refine z_iload_n C dX2_checksum_201 rfl 0 rfl ?_
  refine z_iconst (v := 4) C dX2_checksum_202 (by decide) ?_
  refine z_icmp_ge (tgt := 238) C dX2_checksum_203 (by decide) (fun h => absurd h (by decide)) (fun _ => ?_)
  refine z_ldc2 (v := 31) C w2 dX2_checksum_206 ?_
  refine z_lload_n C dX2_checksum_209 rfl 1 rfl ?_
  refine z_lmul C dX2_checksum_210 ?_
  refine z_aload_n C dX2_checksum_211 rfl 2 rfl ?_
  refine z_get (CC := RX2) (T := TX2) (N := 10) (ci := 2) C hin 0 rfl rfl 8 (by decide) w11 rfl rfl dX2_checksum_212 ?_
  refine z_iload_n C dX2_checksum_215 rfl 0 rfl ?_
  refine z_lald C 9 1 rfl rfl (zvpl 1 4 (by decide)) dX2_checksum_216 ?_
  refine z_eqst (st' := [.long (mD 1), .long (31 * ((31 * ((31 * ((31 * ((31 * ((31 * ((31 * ((31 * ((31 * ((31 * ((31 * ((31 * ((31 * ((31 * ((31 * ((31 * ((31 * ((31 * ((31 * ((31 * ((31 * ((31 * ((31 * ((31 * ((31 * ((31 * ((31 * ((31 * ((31 * ((31 * ((31 * ((31 * ((31 * ((31 * ((31 * ((31 * ((31 * ((31 * ((31 * ((31 * (217 + (d 0))) + (d 1))) + (d 2))) + (d 3))) + (d 4))) + (d 5))) + ((sy 0)).toInt64)) + ((sm 0)).toInt64)) + ((sd 0)).toInt64)) + ((sy 1)).toInt64)) + ((sm 1)).toInt64)) + ((sd 1)).toInt64)) + ((sy 2)).toInt64)) + ((sm 2)).toInt64)) + ((sd 2)).toInt64)) + ((sy 3)).toInt64)) + ((sm 3)).toInt64)) + ((sd 3)).toInt64)) + (f_X1_yearOfMonth (((mi 0)).toInt64)))) + ((f_X1_monthInYear (((mi 0)).toInt64))).toInt64)) + (f_X1_yearOfMonth (((mi 1)).toInt64)))) + ((f_X1_monthInYear (((mi 1)).toInt64))).toInt64)) + (f_X1_yearOfMonth (((mi 2)).toInt64)))) + ((f_X1_monthInYear (((mi 2)).toInt64))).toInt64)) + (f_X1_yearOfMonth (((mi 3)).toInt64)))) + ((f_X1_monthInYear (((mi 3)).toInt64))).toInt64)) + (ti 0))) + (ti 1))) + (ti 2))) + (ti 3))) + (sL 0))) + (bL 0))) + (sL 1))) + (bL 1))) + (sL 2))) + (bL 2))) + (sL 3))) + (bL 3))) + (mD 0))) + (mT 0)))]) rfl ?_
  refine z_ladd C dX2_checksum_217 ?_
  refine z_lstore_n (lv' := [(1, .long ((31 * ((31 * ((31 * ((31 * ((31 * ((31 * ((31 * ((31 * ((31 * ((31 * ((31 * ((31 * ((31 * ((31 * ((31 * ((31 * ((31 * ((31 * ((31 * ((31 * ((31 * ((31 * ((31 * ((31 * ((31 * ((31 * ((31 * ((31 * ((31 * ((31 * ((31 * ((31 * ((31 * ((31 * ((31 * ((31 * ((31 * ((31 * ((31 * ((31 * (217 + (d 0))) + (d 1))) + (d 2))) + (d 3))) + (d 4))) + (d 5))) + ((sy 0)).toInt64)) + ((sm 0)).toInt64)) + ((sd 0)).toInt64)) + ((sy 1)).toInt64)) + ((sm 1)).toInt64)) + ((sd 1)).toInt64)) + ((sy 2)).toInt64)) + ((sm 2)).toInt64)) + ((sd 2)).toInt64)) + ((sy 3)).toInt64)) + ((sm 3)).toInt64)) + ((sd 3)).toInt64)) + (f_X1_yearOfMonth (((mi 0)).toInt64)))) + ((f_X1_monthInYear (((mi 0)).toInt64))).toInt64)) + (f_X1_yearOfMonth (((mi 1)).toInt64)))) + ((f_X1_monthInYear (((mi 1)).toInt64))).toInt64)) + (f_X1_yearOfMonth (((mi 2)).toInt64)))) + ((f_X1_monthInYear (((mi 2)).toInt64))).toInt64)) + (f_X1_yearOfMonth (((mi 3)).toInt64)))) + ((f_X1_monthInYear (((mi 3)).toInt64))).toInt64)) + (ti 0))) + (ti 1))) + (ti 2))) + (ti 3))) + (sL 0))) + (bL 0))) + (sL 1))) + (bL 1))) + (sL 2))) + (bL 2))) + (sL 3))) + (bL 3))) + (mD 0))) + (mT 0))) + (mD 1))), (3, .int 1), (0, .ref (y 0))]) C dX2_checksum_218 rfl (by decide) rfl ?_
  refine z_ldc2 (v := 31) C w2 dX2_checksum_219 ?_
  refine z_lload_n C dX2_checksum_222 rfl 0 rfl ?_
  refine z_lmul C dX2_checksum_223 ?_
  refine z_aload_n C dX2_checksum_224 rfl 2 rfl ?_
  refine z_get (CC := RX2) (T := TX2) (N := 10) (ci := 2) C hin 0 rfl rfl 9 (by decide) w12 rfl rfl dX2_checksum_225 ?_
  refine z_iload_n C dX2_checksum_228 rfl 1 rfl ?_
  refine z_lald C 10 1 rfl rfl (zvpl 1 4 (by decide)) dX2_checksum_229 ?_
  refine z_eqst (st' := [.long (mT 1), .long (31 * ((31 * ((31 * ((31 * ((31 * ((31 * ((31 * ((31 * ((31 * ((31 * ((31 * ((31 * ((31 * ((31 * ((31 * ((31 * ((31 * ((31 * ((31 * ((31 * ((31 * ((31 * ((31 * ((31 * ((31 * ((31 * ((31 * ((31 * ((31 * ((31 * ((31 * ((31 * ((31 * ((31 * ((31 * ((31 * ((31 * ((31 * ((31 * ((31 * ((31 * (217 + (d 0))) + (d 1))) + (d 2))) + (d 3))) + (d 4))) + (d 5))) + ((sy 0)).toInt64)) + ((sm 0)).toInt64)) + ((sd 0)).toInt64)) + ((sy 1)).toInt64)) + ((sm 1)).toInt64)) + ((sd 1)).toInt64)) + ((sy 2)).toInt64)) + ((sm 2)).toInt64)) + ((sd 2)).toInt64)) + ((sy 3)).toInt64)) + ((sm 3)).toInt64)) + ((sd 3)).toInt64)) + (f_X1_yearOfMonth (((mi 0)).toInt64)))) + ((f_X1_monthInYear (((mi 0)).toInt64))).toInt64)) + (f_X1_yearOfMonth (((mi 1)).toInt64)))) + ((f_X1_monthInYear (((mi 1)).toInt64))).toInt64)) + (f_X1_yearOfMonth (((mi 2)).toInt64)))) + ((f_X1_monthInYear (((mi 2)).toInt64))).toInt64)) + (f_X1_yearOfMonth (((mi 3)).toInt64)))) + ((f_X1_monthInYear (((mi 3)).toInt64))).toInt64)) + (ti 0))) + (ti 1))) + (ti 2))) + (ti 3))) + (sL 0))) + (bL 0))) + (sL 1))) + (bL 1))) + (sL 2))) + (bL 2))) + (sL 3))) + (bL 3))) + (mD 0))) + (mT 0))) + (mD 1)))]) rfl ?_
  refine z_ladd C dX2_checksum_230 ?_
  refine z_lstore_n (lv' := [(1, .long ((31 * ((31 * ((31 * ((31 * ((31 * ((31 * ((31 * ((31 * ((31 * ((31 * ((31 * ((31 * ((31 * ((31 * ((31 * ((31 * ((31 * ((31 * ((31 * ((31 * ((31 * ((31 * ((31 * ((31 * ((31 * ((31 * ((31 * ((31 * ((31 * ((31 * ((31 * ((31 * ((31 * ((31 * ((31 * ((31 * ((31 * ((31 * ((31 * ((31 * ((31 * (217 + (d 0))) + (d 1))) + (d 2))) + (d 3))) + (d 4))) + (d 5))) + ((sy 0)).toInt64)) + ((sm 0)).toInt64)) + ((sd 0)).toInt64)) + ((sy 1)).toInt64)) + ((sm 1)).toInt64)) + ((sd 1)).toInt64)) + ((sy 2)).toInt64)) + ((sm 2)).toInt64)) + ((sd 2)).toInt64)) + ((sy 3)).toInt64)) + ((sm 3)).toInt64)) + ((sd 3)).toInt64)) + (f_X1_yearOfMonth (((mi 0)).toInt64)))) + ((f_X1_monthInYear (((mi 0)).toInt64))).toInt64)) + (f_X1_yearOfMonth (((mi 1)).toInt64)))) + ((f_X1_monthInYear (((mi 1)).toInt64))).toInt64)) + (f_X1_yearOfMonth (((mi 2)).toInt64)))) + ((f_X1_monthInYear (((mi 2)).toInt64))).toInt64)) + (f_X1_yearOfMonth (((mi 3)).toInt64)))) + ((f_X1_monthInYear (((mi 3)).toInt64))).toInt64)) + (ti 0))) + (ti 1))) + (ti 2))) + (ti 3))) + (sL 0))) + (bL 0))) + (sL 1))) + (bL 1))) + (sL 2))) + (bL 2))) + (sL 3))) + (bL 3))) + (mD 0))) + (mT 0))) + (mD 1))) + (mT 1))), (3, .int 1), (0, .ref (y 0))]) C dX2_checksum_231 rfl (by decide) rfl ?_
  refine z_iinc (q := 1) (v := 2) (lv' := [(3, .int 2), (1, .long ((31 * ((31 * ((31 * ((31 * ((31 * ((31 * ((31 * ((31 * ((31 * ((31 * ((31 * ((31 * ((31 * ((31 * ((31 * ((31 * ((31 * ((31 * ((31 * ((31 * ((31 * ((31 * ((31 * ((31 * ((31 * ((31 * ((31 * ((31 * ((31 * ((31 * ((31 * ((31 * ((31 * ((31 * ((31 * ((31 * ((31 * ((31 * ((31 * ((31 * ((31 * (217 + (d 0))) + (d 1))) + (d 2))) + (d 3))) + (d 4))) + (d 5))) + ((sy 0)).toInt64)) + ((sm 0)).toInt64)) + ((sd 0)).toInt64)) + ((sy 1)).toInt64)) + ((sm 1)).toInt64)) + ((sd 1)).toInt64)) + ((sy 2)).toInt64)) + ((sm 2)).toInt64)) + ((sd 2)).toInt64)) + ((sy 3)).toInt64)) + ((sm 3)).toInt64)) + ((sd 3)).toInt64)) + (f_X1_yearOfMonth (((mi 0)).toInt64)))) + ((f_X1_monthInYear (((mi 0)).toInt64))).toInt64)) + (f_X1_yearOfMonth (((mi 1)).toInt64)))) + ((f_X1_monthInYear (((mi 1)).toInt64))).toInt64)) + (f_X1_yearOfMonth (((mi 2)).toInt64)))) + ((f_X1_monthInYear (((mi 2)).toInt64))).toInt64)) + (f_X1_yearOfMonth (((mi 3)).toInt64)))) + ((f_X1_monthInYear (((mi 3)).toInt64))).toInt64)) + (ti 0))) + (ti 1))) + (ti 2))) + (ti 3))) + (sL 0))) + (bL 0))) + (sL 1))) + (bL 1))) + (sL 2))) + (bL 2))) + (sL 3))) + (bL 3))) + (mD 0))) + (mT 0))) + (mD 1))) + (mT 1))), (0, .ref (y 0))]) C dX2_checksum_232 rfl (by decide) (by decide) rfl ?_
  refine z_goto (tgt := 201) C dX2_checksum_235 (by decide) ?_
  refine z_iload_n C dX2_checksum_201 rfl 0 rfl ?_
  refine z_iconst (v := 4) C dX2_checksum_202 (by decide) ?_
  refine z_icmp_ge (tgt := 238) C dX2_checksum_203 (by decide) (fun h => absurd h (by decide)) (fun _ => ?_)
  refine z_ldc2 (v := 31) C w2 dX2_checksum_206 ?_
  refine z_lload_n C dX2_checksum_209 rfl 1 rfl ?_
  refine z_lmul C dX2_checksum_210 ?_
  refine z_aload_n C dX2_checksum_211 rfl 2 rfl ?_
  refine z_get (CC := RX2) (T := TX2) (N := 10) (ci := 2) C hin 0 rfl rfl 8 (by decide) w11 rfl rfl dX2_checksum_212 ?_
  refine z_iload_n C dX2_checksum_215 rfl 0 rfl ?_
  refine z_lald C 9 1 rfl rfl (zvpl 2 4 (by decide)) dX2_checksum_216 ?_
  refine z_eqst (st' := [.long (mD 2), .long (31 * ((31 * ((31 * ((31 * ((31 * ((31 * ((31 * ((31 * ((31 * ((31 * ((31 * ((31 * ((31 * ((31 * ((31 * ((31 * ((31 * ((31 * ((31 * ((31 * ((31 * ((31 * ((31 * ((31 * ((31 * ((31 * ((31 * ((31 * ((31 * ((31 * ((31 * ((31 * ((31 * ((31 * ((31 * ((31 * ((31 * ((31 * ((31 * ((31 * ((31 * ((31 * (217 + (d 0))) + (d 1))) + (d 2))) + (d 3))) + (d 4))) + (d 5))) + ((sy 0)).toInt64)) + ((sm 0)).toInt64)) + ((sd 0)).toInt64)) + ((sy 1)).toInt64)) + ((sm 1)).toInt64)) + ((sd 1)).toInt64)) + ((sy 2)).toInt64)) + ((sm 2)).toInt64)) + ((sd 2)).toInt64)) + ((sy 3)).toInt64)) + ((sm 3)).toInt64)) + ((sd 3)).toInt64)) + (f_X1_yearOfMonth (((mi 0)).toInt64)))) + ((f_X1_monthInYear (((mi 0)).toInt64))).toInt64)) + (f_X1_yearOfMonth (((mi 1)).toInt64)))) + ((f_X1_monthInYear (((mi 1)).toInt64))).toInt64)) + (f_X1_yearOfMonth (((mi 2)).toInt64)))) + ((f_X1_monthInYear (((mi 2)).toInt64))).toInt64)) + (f_X1_yearOfMonth (((mi 3)).toInt64)))) + ((f_X1_monthInYear (((mi 3)).toInt64))).toInt64)) + (ti 0))) + (ti 1))) + (ti 2))) + (ti 3))) + (sL 0))) + (bL 0))) + (sL 1))) + (bL 1))) + (sL 2))) + (bL 2))) + (sL 3))) + (bL 3))) + (mD 0))) + (mT 0))) + (mD 1))) + (mT 1)))]) rfl ?_
  refine z_ladd C dX2_checksum_217 ?_
  refine z_lstore_n (lv' := [(1, .long ((31 * ((31 * ((31 * ((31 * ((31 * ((31 * ((31 * ((31 * ((31 * ((31 * ((31 * ((31 * ((31 * ((31 * ((31 * ((31 * ((31 * ((31 * ((31 * ((31 * ((31 * ((31 * ((31 * ((31 * ((31 * ((31 * ((31 * ((31 * ((31 * ((31 * ((31 * ((31 * ((31 * ((31 * ((31 * ((31 * ((31 * ((31 * ((31 * ((31 * ((31 * ((31 * (217 + (d 0))) + (d 1))) + (d 2))) + (d 3))) + (d 4))) + (d 5))) + ((sy 0)).toInt64)) + ((sm 0)).toInt64)) + ((sd 0)).toInt64)) + ((sy 1)).toInt64)) + ((sm 1)).toInt64)) + ((sd 1)).toInt64)) + ((sy 2)).toInt64)) + ((sm 2)).toInt64)) + ((sd 2)).toInt64)) + ((sy 3)).toInt64)) + ((sm 3)).toInt64)) + ((sd 3)).toInt64)) + (f_X1_yearOfMonth (((mi 0)).toInt64)))) + ((f_X1_monthInYear (((mi 0)).toInt64))).toInt64)) + (f_X1_yearOfMonth (((mi 1)).toInt64)))) + ((f_X1_monthInYear (((mi 1)).toInt64))).toInt64)) + (f_X1_yearOfMonth (((mi 2)).toInt64)))) + ((f_X1_monthInYear (((mi 2)).toInt64))).toInt64)) + (f_X1_yearOfMonth (((mi 3)).toInt64)))) + ((f_X1_monthInYear (((mi 3)).toInt64))).toInt64)) + (ti 0))) + (ti 1))) + (ti 2))) + (ti 3))) + (sL 0))) + (bL 0))) + (sL 1))) + (bL 1))) + (sL 2))) + (bL 2))) + (sL 3))) + (bL 3))) + (mD 0))) + (mT 0))) + (mD 1))) + (mT 1))) + (mD 2))), (3, .int 2), (0, .ref (y 0))]) C dX2_checksum_218 rfl (by decide) rfl ?_
  refine z_ldc2 (v := 31) C w2 dX2_checksum_219 ?_
  refine z_lload_n C dX2_checksum_222 rfl 0 rfl ?_
  refine z_lmul C dX2_checksum_223 ?_
  refine z_aload_n C dX2_checksum_224 rfl 2 rfl ?_
  refine z_get (CC := RX2) (T := TX2) (N := 10) (ci := 2) C hin 0 rfl rfl 9 (by decide) w12 rfl rfl dX2_checksum_225 ?_
  refine z_iload_n C dX2_checksum_228 rfl 1 rfl ?_
  refine z_lald C 10 1 rfl rfl (zvpl 2 4 (by decide)) dX2_checksum_229 ?_
  refine z_eqst (st' := [.long (mT 2), .long (31 * ((31 * ((31 * ((31 * ((31 * ((31 * ((31 * ((31 * ((31 * ((31 * ((31 * ((31 * ((31 * ((31 * ((31 * ((31 * ((31 * ((31 * ((31 * ((31 * ((31 * ((31 * ((31 * ((31 * ((31 * ((31 * ((31 * ((31 * ((31 * ((31 * ((31 * ((31 * ((31 * ((31 * ((31 * ((31 * ((31 * ((31 * ((31 * ((31 * ((31 * ((31 * ((31 * (217 + (d 0))) + (d 1))) + (d 2))) + (d 3))) + (d 4))) + (d 5))) + ((sy 0)).toInt64)) + ((sm 0)).toInt64)) + ((sd 0)).toInt64)) + ((sy 1)).toInt64)) + ((sm 1)).toInt64)) + ((sd 1)).toInt64)) + ((sy 2)).toInt64)) + ((sm 2)).toInt64)) + ((sd 2)).toInt64)) + ((sy 3)).toInt64)) + ((sm 3)).toInt64)) + ((sd 3)).toInt64)) + (f_X1_yearOfMonth (((mi 0)).toInt64)))) + ((f_X1_monthInYear (((mi 0)).toInt64))).toInt64)) + (f_X1_yearOfMonth (((mi 1)).toInt64)))) + ((f_X1_monthInYear (((mi 1)).toInt64))).toInt64)) + (f_X1_yearOfMonth (((mi 2)).toInt64)))) + ((f_X1_monthInYear (((mi 2)).toInt64))).toInt64)) + (f_X1_yearOfMonth (((mi 3)).toInt64)))) + ((f_X1_monthInYear (((mi 3)).toInt64))).toInt64)) + (ti 0))) + (ti 1))) + (ti 2))) + (ti 3))) + (sL 0))) + (bL 0))) + (sL 1))) + (bL 1))) + (sL 2))) + (bL 2))) + (sL 3))) + (bL 3))) + (mD 0))) + (mT 0))) + (mD 1))) + (mT 1))) + (mD 2)))]) rfl ?_
  refine z_ladd C dX2_checksum_230 ?_
  refine z_lstore_n (lv' := [(1, .long ((31 * ((31 * ((31 * ((31 * ((31 * ((31 * ((31 * ((31 * ((31 * ((31 * ((31 * ((31 * ((31 * ((31 * ((31 * ((31 * ((31 * ((31 * ((31 * ((31 * ((31 * ((31 * ((31 * ((31 * ((31 * ((31 * ((31 * ((31 * ((31 * ((31 * ((31 * ((31 * ((31 * ((31 * ((31 * ((31 * ((31 * ((31 * ((31 * ((31 * ((31 * ((31 * ((31 * (217 + (d 0))) + (d 1))) + (d 2))) + (d 3))) + (d 4))) + (d 5))) + ((sy 0)).toInt64)) + ((sm 0)).toInt64)) + ((sd 0)).toInt64)) + ((sy 1)).toInt64)) + ((sm 1)).toInt64)) + ((sd 1)).toInt64)) + ((sy 2)).toInt64)) + ((sm 2)).toInt64)) + ((sd 2)).toInt64)) + ((sy 3)).toInt64)) + ((sm 3)).toInt64)) + ((sd 3)).toInt64)) + (f_X1_yearOfMonth (((mi 0)).toInt64)))) + ((f_X1_monthInYear (((mi 0)).toInt64))).toInt64)) + (f_X1_yearOfMonth (((mi 1)).toInt64)))) + ((f_X1_monthInYear (((mi 1)).toInt64))).toInt64)) + (f_X1_yearOfMonth (((mi 2)).toInt64)))) + ((f_X1_monthInYear (((mi 2)).toInt64))).toInt64)) + (f_X1_yearOfMonth (((mi 3)).toInt64)))) + ((f_X1_monthInYear (((mi 3)).toInt64))).toInt64)) + (ti 0))) + (ti 1))) + (ti 2))) + (ti 3))) + (sL 0))) + (bL 0))) + (sL 1))) + (bL 1))) + (sL 2))) + (bL 2))) + (sL 3))) + (bL 3))) + (mD 0))) + (mT 0))) + (mD 1))) + (mT 1))) + (mD 2))) + (mT 2))), (3, .int 2), (0, .ref (y 0))]) C dX2_checksum_231 rfl (by decide) rfl ?_
  refine z_iinc (q := 1) (v := 3) (lv' := [(3, .int 3), (1, .long ((31 * ((31 * ((31 * ((31 * ((31 * ((31 * ((31 * ((31 * ((31 * ((31 * ((31 * ((31 * ((31 * ((31 * ((31 * ((31 * ((31 * ((31 * ((31 * ((31 * ((31 * ((31 * ((31 * ((31 * ((31 * ((31 * ((31 * ((31 * ((31 * ((31 * ((31 * ((31 * ((31 * ((31 * ((31 * ((31 * ((31 * ((31 * ((31 * ((31 * ((31 * ((31 * ((31 * (217 + (d 0))) + (d 1))) + (d 2))) + (d 3))) + (d 4))) + (d 5))) + ((sy 0)).toInt64)) + ((sm 0)).toInt64)) + ((sd 0)).toInt64)) + ((sy 1)).toInt64)) + ((sm 1)).toInt64)) + ((sd 1)).toInt64)) + ((sy 2)).toInt64)) + ((sm 2)).toInt64)) + ((sd 2)).toInt64)) + ((sy 3)).toInt64)) + ((sm 3)).toInt64)) + ((sd 3)).toInt64)) + (f_X1_yearOfMonth (((mi 0)).toInt64)))) + ((f_X1_monthInYear (((mi 0)).toInt64))).toInt64)) + (f_X1_yearOfMonth (((mi 1)).toInt64)))) + ((f_X1_monthInYear (((mi 1)).toInt64))).toInt64)) + (f_X1_yearOfMonth (((mi 2)).toInt64)))) + ((f_X1_monthInYear (((mi 2)).toInt64))).toInt64)) + (f_X1_yearOfMonth (((mi 3)).toInt64)))) + ((f_X1_monthInYear (((mi 3)).toInt64))).toInt64)) + (ti 0))) + (ti 1))) + (ti 2))) + (ti 3))) + (sL 0))) + (bL 0))) + (sL 1))) + (bL 1))) + (sL 2))) + (bL 2))) + (sL 3))) + (bL 3))) + (mD 0))) + (mT 0))) + (mD 1))) + (mT 1))) + (mD 2))) + (mT 2))), (0, .ref (y 0))]) C dX2_checksum_232 rfl (by decide) (by decide) rfl ?_
  refine z_goto (tgt := 201) C dX2_checksum_235 (by decide) ?_
  refine z_iload_n C dX2_checksum_201 rfl 0 rfl ?_
  refine z_iconst (v := 4) C dX2_checksum_202 (by decide) ?_
  refine z_icmp_ge (tgt := 238) C dX2_checksum_203 (by decide) (fun h => absurd h (by decide)) (fun _ => ?_)
  refine z_ldc2 (v := 31) C w2 dX2_checksum_206 ?_
  refine z_lload_n C dX2_checksum_209 rfl 1 rfl ?_
  refine z_lmul C dX2_checksum_210 ?_
  refine z_aload_n C dX2_checksum_211 rfl 2 rfl ?_
  refine z_get (CC := RX2) (T := TX2) (N := 10) (ci := 2) C hin 0 rfl rfl 8 (by decide) w11 rfl rfl dX2_checksum_212 ?_
  refine z_iload_n C dX2_checksum_215 rfl 0 rfl ?_
  refine z_lald C 9 1 rfl rfl (zvpl 3 4 (by decide)) dX2_checksum_216 ?_
  refine z_eqst (st' := [.long (mD 3), .long (31 * ((31 * ((31 * ((31 * ((31 * ((31 * ((31 * ((31 * ((31 * ((31 * ((31 * ((31 * ((31 * ((31 * ((31 * ((31 * ((31 * ((31 * ((31 * ((31 * ((31 * ((31 * ((31 * ((31 * ((31 * ((31 * ((31 * ((31 * ((31 * ((31 * ((31 * ((31 * ((31 * ((31 * ((31 * ((31 * ((31 * ((31 * ((31 * ((31 * ((31 * ((31 * ((31 * ((31 * (217 + (d 0))) + (d 1))) + (d 2))) + (d 3))) + (d 4))) + (d 5))) + ((sy 0)).toInt64)) + ((sm 0)).toInt64)) + ((sd 0)).toInt64)) + ((sy 1)).toInt64)) + ((sm 1)).toInt64)) + ((sd 1)).toInt64)) + ((sy 2)).toInt64)) + ((sm 2)).toInt64)) + ((sd 2)).toInt64)) + ((sy 3)).toInt64)) + ((sm 3)).toInt64)) + ((sd 3)).toInt64)) + (f_X1_yearOfMonth (((mi 0)).toInt64)))) + ((f_X1_monthInYear (((mi 0)).toInt64))).toInt64)) + (f_X1_yearOfMonth (((mi 1)).toInt64)))) + ((f_X1_monthInYear (((mi 1)).toInt64))).toInt64)) + (f_X1_yearOfMonth (((mi 2)).toInt64)))) + ((f_X1_monthInYear (((mi 2)).toInt64))).toInt64)) + (f_X1_yearOfMonth (((mi 3)).toInt64)))) + ((f_X1_monthInYear (((mi 3)).toInt64))).toInt64)) + (ti 0))) + (ti 1))) + (ti 2))) + (ti 3))) + (sL 0))) + (bL 0))) + (sL 1))) + (bL 1))) + (sL 2))) + (bL 2))) + (sL 3))) + (bL 3))) + (mD 0))) + (mT 0))) + (mD 1))) + (mT 1))) + (mD 2))) + (mT 2)))]) rfl ?_
  refine z_ladd C dX2_checksum_217 ?_
  refine z_lstore_n (lv' := [(1, .long ((31 * ((31 * ((31 * ((31 * ((31 * ((31 * ((31 * ((31 * ((31 * ((31 * ((31 * ((31 * ((31 * ((31 * ((31 * ((31 * ((31 * ((31 * ((31 * ((31 * ((31 * ((31 * ((31 * ((31 * ((31 * ((31 * ((31 * ((31 * ((31 * ((31 * ((31 * ((31 * ((31 * ((31 * ((31 * ((31 * ((31 * ((31 * ((31 * ((31 * ((31 * ((31 * ((31 * ((31 * (217 + (d 0))) + (d 1))) + (d 2))) + (d 3))) + (d 4))) + (d 5))) + ((sy 0)).toInt64)) + ((sm 0)).toInt64)) + ((sd 0)).toInt64)) + ((sy 1)).toInt64)) + ((sm 1)).toInt64)) + ((sd 1)).toInt64)) + ((sy 2)).toInt64)) + ((sm 2)).toInt64)) + ((sd 2)).toInt64)) + ((sy 3)).toInt64)) + ((sm 3)).toInt64)) + ((sd 3)).toInt64)) + (f_X1_yearOfMonth (((mi 0)).toInt64)))) + ((f_X1_monthInYear (((mi 0)).toInt64))).toInt64)) + (f_X1_yearOfMonth (((mi 1)).toInt64)))) + ((f_X1_monthInYear (((mi 1)).toInt64))).toInt64)) + (f_X1_yearOfMonth (((mi 2)).toInt64)))) + ((f_X1_monthInYear (((mi 2)).toInt64))).toInt64)) + (f_X1_yearOfMonth (((mi 3)).toInt64)))) + ((f_X1_monthInYear (((mi 3)).toInt64))).toInt64)) + (ti 0))) + (ti 1))) + (ti 2))) + (ti 3))) + (sL 0))) + (bL 0))) + (sL 1))) + (bL 1))) + (sL 2))) + (bL 2))) + (sL 3))) + (bL 3))) + (mD 0))) + (mT 0))) + (mD 1))) + (mT 1))) + (mD 2))) + (mT 2))) + (mD 3))), (3, .int 3), (0, .ref (y 0))]) C dX2_checksum_218 rfl (by decide) rfl ?_
  refine z_ldc2 (v := 31) C w2 dX2_checksum_219 ?_
  refine z_lload_n C dX2_checksum_222 rfl 0 rfl ?_
  refine z_lmul C dX2_checksum_223 ?_
  refine z_aload_n C dX2_checksum_224 rfl 2 rfl ?_
  refine z_get (CC := RX2) (T := TX2) (N := 10) (ci := 2) C hin 0 rfl rfl 9 (by decide) w12 rfl rfl dX2_checksum_225 ?_
  refine z_iload_n C dX2_checksum_228 rfl 1 rfl ?_
  refine z_lald C 10 1 rfl rfl (zvpl 3 4 (by decide)) dX2_checksum_229 ?_
  refine z_eqst (st' := [.long (mT 3), .long (31 * ((31 * ((31 * ((31 * ((31 * ((31 * ((31 * ((31 * ((31 * ((31 * ((31 * ((31 * ((31 * ((31 * ((31 * ((31 * ((31 * ((31 * ((31 * ((31 * ((31 * ((31 * ((31 * ((31 * ((31 * ((31 * ((31 * ((31 * ((31 * ((31 * ((31 * ((31 * ((31 * ((31 * ((31 * ((31 * ((31 * ((31 * ((31 * ((31 * ((31 * ((31 * ((31 * ((31 * ((31 * (217 + (d 0))) + (d 1))) + (d 2))) + (d 3))) + (d 4))) + (d 5))) + ((sy 0)).toInt64)) + ((sm 0)).toInt64)) + ((sd 0)).toInt64)) + ((sy 1)).toInt64)) + ((sm 1)).toInt64)) + ((sd 1)).toInt64)) + ((sy 2)).toInt64)) + ((sm 2)).toInt64)) + ((sd 2)).toInt64)) + ((sy 3)).toInt64)) + ((sm 3)).toInt64)) + ((sd 3)).toInt64)) + (f_X1_yearOfMonth (((mi 0)).toInt64)))) + ((f_X1_monthInYear (((mi 0)).toInt64))).toInt64)) + (f_X1_yearOfMonth (((mi 1)).toInt64)))) + ((f_X1_monthInYear (((mi 1)).toInt64))).toInt64)) + (f_X1_yearOfMonth (((mi 2)).toInt64)))) + ((f_X1_monthInYear (((mi 2)).toInt64))).toInt64)) + (f_X1_yearOfMonth (((mi 3)).toInt64)))) + ((f_X1_monthInYear (((mi 3)).toInt64))).toInt64)) + (ti 0))) + (ti 1))) + (ti 2))) + (ti 3))) + (sL 0))) + (bL 0))) + (sL 1))) + (bL 1))) + (sL 2))) + (bL 2))) + (sL 3))) + (bL 3))) + (mD 0))) + (mT 0))) + (mD 1))) + (mT 1))) + (mD 2))) + (mT 2))) + (mD 3)))]) rfl ?_
  refine z_ladd C dX2_checksum_230 ?_
  refine z_lstore_n (lv' := [(1, .long ((31 * ((31 * ((31 * ((31 * ((31 * ((31 * ((31 * ((31 * ((31 * ((31 * ((31 * ((31 * ((31 * ((31 * ((31 * ((31 * ((31 * ((31 * ((31 * ((31 * ((31 * ((31 * ((31 * ((31 * ((31 * ((31 * ((31 * ((31 * ((31 * ((31 * ((31 * ((31 * ((31 * ((31 * ((31 * ((31 * ((31 * ((31 * ((31 * ((31 * ((31 * ((31 * ((31 * ((31 * ((31 * (217 + (d 0))) + (d 1))) + (d 2))) + (d 3))) + (d 4))) + (d 5))) + ((sy 0)).toInt64)) + ((sm 0)).toInt64)) + ((sd 0)).toInt64)) + ((sy 1)).toInt64)) + ((sm 1)).toInt64)) + ((sd 1)).toInt64)) + ((sy 2)).toInt64)) + ((sm 2)).toInt64)) + ((sd 2)).toInt64)) + ((sy 3)).toInt64)) + ((sm 3)).toInt64)) + ((sd 3)).toInt64)) + (f_X1_yearOfMonth (((mi 0)).toInt64)))) + ((f_X1_monthInYear (((mi 0)).toInt64))).toInt64)) + (f_X1_yearOfMonth (((mi 1)).toInt64)))) + ((f_X1_monthInYear (((mi 1)).toInt64))).toInt64)) + (f_X1_yearOfMonth (((mi 2)).toInt64)))) + ((f_X1_monthInYear (((mi 2)).toInt64))).toInt64)) + (f_X1_yearOfMonth (((mi 3)).toInt64)))) + ((f_X1_monthInYear (((mi 3)).toInt64))).toInt64)) + (ti 0))) + (ti 1))) + (ti 2))) + (ti 3))) + (sL 0))) + (bL 0))) + (sL 1))) + (bL 1))) + (sL 2))) + (bL 2))) + (sL 3))) + (bL 3))) + (mD 0))) + (mT 0))) + (mD 1))) + (mT 1))) + (mD 2))) + (mT 2))) + (mD 3))) + (mT 3))), (3, .int 3), (0, .ref (y 0))]) C dX2_checksum_231 rfl (by decide) rfl ?_
  refine z_iinc (q := 1) (v := 4) (lv' := [(3, .int 4), (1, .long ((31 * ((31 * ((31 * ((31 * ((31 * ((31 * ((31 * ((31 * ((31 * ((31 * ((31 * ((31 * ((31 * ((31 * ((31 * ((31 * ((31 * ((31 * ((31 * ((31 * ((31 * ((31 * ((31 * ((31 * ((31 * ((31 * ((31 * ((31 * ((31 * ((31 * ((31 * ((31 * ((31 * ((31 * ((31 * ((31 * ((31 * ((31 * ((31 * ((31 * ((31 * ((31 * ((31 * ((31 * ((31 * (217 + (d 0))) + (d 1))) + (d 2))) + (d 3))) + (d 4))) + (d 5))) + ((sy 0)).toInt64)) + ((sm 0)).toInt64)) + ((sd 0)).toInt64)) + ((sy 1)).toInt64)) + ((sm 1)).toInt64)) + ((sd 1)).toInt64)) + ((sy 2)).toInt64)) + ((sm 2)).toInt64)) + ((sd 2)).toInt64)) + ((sy 3)).toInt64)) + ((sm 3)).toInt64)) + ((sd 3)).toInt64)) + (f_X1_yearOfMonth (((mi 0)).toInt64)))) + ((f_X1_monthInYear (((mi 0)).toInt64))).toInt64)) + (f_X1_yearOfMonth (((mi 1)).toInt64)))) + ((f_X1_monthInYear (((mi 1)).toInt64))).toInt64)) + (f_X1_yearOfMonth (((mi 2)).toInt64)))) + ((f_X1_monthInYear (((mi 2)).toInt64))).toInt64)) + (f_X1_yearOfMonth (((mi 3)).toInt64)))) + ((f_X1_monthInYear (((mi 3)).toInt64))).toInt64)) + (ti 0))) + (ti 1))) + (ti 2))) + (ti 3))) + (sL 0))) + (bL 0))) + (sL 1))) + (bL 1))) + (sL 2))) + (bL 2))) + (sL 3))) + (bL 3))) + (mD 0))) + (mT 0))) + (mD 1))) + (mT 1))) + (mD 2))) + (mT 2))) + (mD 3))) + (mT 3))), (0, .ref (y 0))]) C dX2_checksum_232 rfl (by decide) (by decide) rfl ?_
  refine z_goto (tgt := 201) C dX2_checksum_235 (by decide) ?_
  refine z_iload_n C dX2_checksum_201 rfl 0 rfl ?_
  refine z_iconst (v := 4) C dX2_checksum_202 (by decide) ?_
  refine z_icmp_ge (tgt := 238) C dX2_checksum_203 (by decide) (fun _ => ?_) (fun h => absurd (by decide) h)
  refine z_lload_n C dX2_checksum_238 rfl 1 rfl ?_
  exact z_lret C ⟨congrArg (fun v => some (Value.long v)) (rfl : ((31 * ((31 * ((31 * ((31 * ((31 * ((31 * ((31 * ((31 * ((31 * ((31 * ((31 * ((31 * ((31 * ((31 * ((31 * ((31 * ((31 * ((31 * ((31 * ((31 * ((31 * ((31 * ((31 * ((31 * ((31 * ((31 * ((31 * ((31 * ((31 * ((31 * ((31 * ((31 * ((31 * ((31 * ((31 * ((31 * ((31 * ((31 * ((31 * ((31 * ((31 * ((31 * ((31 * ((31 * ((31 * (217 + (d 0))) + (d 1))) + (d 2))) + (d 3))) + (d 4))) + (d 5))) + ((sy 0)).toInt64)) + ((sm 0)).toInt64)) + ((sd 0)).toInt64)) + ((sy 1)).toInt64)) + ((sm 1)).toInt64)) + ((sd 1)).toInt64)) + ((sy 2)).toInt64)) + ((sm 2)).toInt64)) + ((sd 2)).toInt64)) + ((sy 3)).toInt64)) + ((sm 3)).toInt64)) + ((sd 3)).toInt64)) + (f_X1_yearOfMonth (((mi 0)).toInt64)))) + ((f_X1_monthInYear (((mi 0)).toInt64))).toInt64)) + (f_X1_yearOfMonth (((mi 1)).toInt64)))) + ((f_X1_monthInYear (((mi 1)).toInt64))).toInt64)) + (f_X1_yearOfMonth (((mi 2)).toInt64)))) + ((f_X1_monthInYear (((mi 2)).toInt64))).toInt64)) + (f_X1_yearOfMonth (((mi 3)).toInt64)))) + ((f_X1_monthInYear (((mi 3)).toInt64))).toInt64)) + (ti 0))) + (ti 1))) + (ti 2))) + (ti 3))) + (sL 0))) + (bL 0))) + (sL 1))) + (bL 1))) + (sL 2))) + (bL 2))) + (sL 3))) + (bL 3))) + (mD 0))) + (mT 0))) + (mD 1))) + (mT 1))) + (mD 2))) + (mT 2))) + (mD 3))) + (mT 3)) = (f_X2_checksum d sy sm sd mi ti sL bL mD mT)), rfl⟩ (by decide) (by decide) dX2_checksum_239
def f_X2_isSoundDay_j1 (p1 : Int64) : Int32 := (if (f_X1_dayInMonth p1) = (f_X1_lengthOfMonth (f_X1_monthOfDay p1)) then 1 else 0)
def f_X2_isSoundDay_j2 (p1 : Int64) : Int32 := (if (f_X1_isDay p1) = 0 then 0 else (if (f_X2_isIn (((f_X1_dayInMonth p1)).toInt64) 1 (((f_X1_lengthOfMonth (f_X1_monthOfDay p1))).toInt64)) = 0 then 0 else (if (((f_X1_firstOfMonth (f_X1_monthOfDay p1)) + ((f_X1_dayInMonth p1)).toInt64) - 1) = p1 then 1 else 0)))
def f_X2_isSoundDay_j3 (p1 : Int64) : Int32 := (if (f_X1_monthOfDay (p1 + 1)) = (f_X1_monthOfDay p1) then (if (f_X1_dayInMonth (p1 + 1)) = ((f_X1_dayInMonth p1) + 1) then (if (f_X1_weekdayOf (p1 + 1)) = (((f_X1_weekdayOf p1) - (f_X1_weekdayOf p1) / 7 * 7) + 1) then 1 else 0) else 0) else 0)
def f_X2_isSoundDay_j6 (p1 : Int64) : Int32 := (if (f_X1_monthOfDay (p1 + 1)) = ((f_X1_monthOfDay p1) + 1) then (if (f_X1_dayInMonth (p1 + 1)) = 1 then (if (f_X1_weekdayOf (p1 + 1)) = (((f_X1_weekdayOf p1) - (f_X1_weekdayOf p1) / 7 * 7) + 1) then 1 else 0) else 0) else 0)
def f_X2_isSoundDay (p1 : Int64) : Int32 := (if f_X2_isSoundDay_j1 p1 = 0 then (if f_X2_isSoundDay_j2 p1 = 0 then (if f_X2_isSoundDay_j3 p1 = 0 then 0 else 0) else (if f_X2_isSoundDay_j3 p1 = 0 then 0 else (if (f_X1_plusMonths (f_X1_plusMonths p1 1) (-1)) = (f_X1_dayOrLast (f_X1_monthOfDay p1) (((if (f_X1_lengthOfMonth ((f_X1_monthOfDay p1) + 1)) < (f_X1_dayInMonth p1) then (f_X1_lengthOfMonth ((f_X1_monthOfDay p1) + 1)) else (f_X1_dayInMonth p1))).toInt64)) then 1 else 0))) else (if f_X2_isSoundDay_j2 p1 = 0 then (if f_X2_isSoundDay_j6 p1 = 0 then 0 else 0) else (if f_X2_isSoundDay_j6 p1 = 0 then 0 else (if (f_X1_plusMonths (f_X1_plusMonths p1 1) (-1)) = (f_X1_dayOrLast (f_X1_monthOfDay p1) (((if (f_X1_lengthOfMonth ((f_X1_monthOfDay p1) + 1)) < (f_X1_dayInMonth p1) then (f_X1_lengthOfMonth ((f_X1_monthOfDay p1) + 1)) else (f_X1_dayInMonth p1))).toInt64)) then 1 else 0))))
theorem q_X2_isSoundDay : ZY yX2_isSoundDay wsX2_isSoundDay cX2_isSoundDay 12 (some .boolean) 1 := ⟨⟨_, rfl⟩, by decide +kernel, by decide +kernel, by decide +kernel⟩
set_option maxHeartbeats 4000000 in
set_option maxRecDepth 100000 in
theorem c_X2_isSoundDay (l : Launch) (hfl : l.stackTraces = false) (D : va_G) (cI cJ : ClassId) (X : va_W) (p1 : Int64)  : ZM l yX2_isSoundDay wsX2_isSoundDay { frames := 5, cells := 0, slots := 0, locals := 122 } [.long p1] D (zTys cI cJ) X 0 0 (fun v w => v = some (.int (f_X2_isSoundDay p1)) ∧ w = X) (fun _ _ => False) := by
  refine z_open (own := RX2) hfl (cc := cX2_isSoundDay) (maxL := 12) (ret := (some .boolean)) (lv := [(0, .long p1)]) rfl (by decide) rfl rfl (Nat.le_of_ble_eq_true rfl) ?_
  intro p e s m args below meth c A C hno hnm hargs
  have w1 := C.1.2.2.2.2 (.methodLink RX2 275 Lib.Math.min.name) (by decide +kernel)
  have w2 := C.1.2.2.2.2 (.static Lib.Math.min.name) (by decide +kernel)
  have w3 := C.1.2.2.2.2 (.initialized "java/lang/Math") (by decide +kernel)
  have w4 := C.1.2.2.2.2 (.code Lib.Math.min.name Lib.Math.min.code 2 (some .int)) (by decide +kernel)
  have w5 := C.1.2.2.2.2 (.constantLong RX2 173 (-1)) (by decide +kernel)
  refine z_lload_n C dX2_isSoundDay_0 rfl 0 rfl ?_
  refine z_sl (rest := []) C (c_X1_monthOfDay l hfl D cI cJ _ p1 ) q_X1_monthOfDay gX2_isSoundDay_X1_monthOfDay ⟨rfl, rfl⟩ rfl rfl (Nat.le_of_ble_eq_true rfl) ⟨Nat.le_of_ble_eq_true rfl, Nat.le_of_ble_eq_true rfl⟩ ⟨Nat.le_of_ble_eq_true rfl, Nat.le_of_ble_eq_true rfl⟩ dX2_isSoundDay_1 ?_
  refine z_lstore_n (lv' := [(2, .long (f_X1_monthOfDay p1)), (0, .long p1)]) C dX2_isSoundDay_4 rfl (by decide) rfl ?_
  refine z_lload_n C dX2_isSoundDay_5 rfl 1 rfl ?_
  refine z_si (rest := []) C (c_X1_dayInMonth l hfl D cI cJ _ p1 ) q_X1_dayInMonth gX2_isSoundDay_X1_dayInMonth ⟨rfl, rfl⟩ rfl rfl (Nat.le_of_ble_eq_true rfl) ⟨Nat.le_of_ble_eq_true rfl, Nat.le_of_ble_eq_true rfl⟩ ⟨Nat.le_of_ble_eq_true rfl, Nat.le_of_ble_eq_true rfl⟩ dX2_isSoundDay_6 ?_
  refine z_istore (lv' := [(4, .int (f_X1_dayInMonth p1)), (2, .long (f_X1_monthOfDay p1)), (0, .long p1)]) C dX2_isSoundDay_9 (by decide) rfl ?_
  refine z_iload C dX2_isSoundDay_11 0 rfl ?_
  refine z_lload_n C dX2_isSoundDay_13 rfl 1 rfl ?_
  refine z_si (rest := [.int (f_X1_dayInMonth p1)]) C (c_X1_lengthOfMonth l hfl D cI cJ _ (f_X1_monthOfDay p1) ) q_X1_lengthOfMonth gX2_isSoundDay_X1_lengthOfMonth ⟨rfl, rfl⟩ rfl rfl (Nat.le_of_ble_eq_true rfl) ⟨Nat.le_of_ble_eq_true rfl, Nat.le_of_ble_eq_true rfl⟩ ⟨Nat.le_of_ble_eq_true rfl, Nat.le_of_ble_eq_true rfl⟩ dX2_isSoundDay_14 ?_
  have K1_0 : f_X2_isSoundDay_j1 p1 = 0 → (¬ (f_X1_dayInMonth p1) = (f_X1_lengthOfMonth (f_X1_monthOfDay p1))) → ZW p l e { frames := 5, cells := 0, slots := 0, locals := 122 } s m args below meth c 12 D (zTys cI cJ) A (zE D (zTys cI cJ) A below args s (fun v w => v = some (.int (f_X2_isSoundDay p1)) ∧ w = X) (fun _ _ => False) 0 0) 0 0 X 25 [(4, .int (f_X1_dayInMonth p1)), (2, .long (f_X1_monthOfDay p1)), (0, .long p1)] [.int 0] := by
    intro h2 h3
    refine z_istore (lv' := [(5, .int 0), (4, .int (f_X1_dayInMonth p1)), (2, .long (f_X1_monthOfDay p1)), (0, .long p1)]) C dX2_isSoundDay_25 (by decide) rfl ?_
    refine z_lload_n C dX2_isSoundDay_27 rfl 3 rfl ?_
    refine z_si (rest := []) C (c_X1_isDay l hfl D cI cJ _ p1 ) q_X1_isDay gX2_isSoundDay_X1_isDay ⟨rfl, rfl⟩ rfl rfl (Nat.le_of_ble_eq_true rfl) ⟨Nat.le_of_ble_eq_true rfl, Nat.le_of_ble_eq_true rfl⟩ ⟨Nat.le_of_ble_eq_true rfl, Nat.le_of_ble_eq_true rfl⟩ dX2_isSoundDay_28 ?_
    have K2_0 : f_X2_isSoundDay_j2 p1 = 0 → ZW p l e { frames := 5, cells := 0, slots := 0, locals := 122 } s m args below meth c 12 D (zTys cI cJ) A (zE D (zTys cI cJ) A below args s (fun v w => v = some (.int (f_X2_isSoundDay p1)) ∧ w = X) (fun _ _ => False) 0 0) 0 0 X 69 [(5, .int 0), (4, .int (f_X1_dayInMonth p1)), (2, .long (f_X1_monthOfDay p1)), (0, .long p1)] [.int 0] := by
      intro h7
      refine z_istore (lv' := [(6, .int 0), (5, .int 0), (4, .int (f_X1_dayInMonth p1)), (2, .long (f_X1_monthOfDay p1)), (0, .long p1)]) C dX2_isSoundDay_69 (by decide) rfl ?_
      refine z_lload_n C dX2_isSoundDay_71 rfl 4 rfl ?_
      refine z_lconst (v := 1) C dX2_isSoundDay_72 (by decide) ?_
      refine z_ladd C dX2_isSoundDay_73 ?_
      refine z_sl (rest := []) C (c_X1_monthOfDay l hfl D cI cJ _ (p1 + 1) ) q_X1_monthOfDay gX2_isSoundDay_X1_monthOfDay ⟨rfl, rfl⟩ rfl rfl (Nat.le_of_ble_eq_true rfl) ⟨Nat.le_of_ble_eq_true rfl, Nat.le_of_ble_eq_true rfl⟩ ⟨Nat.le_of_ble_eq_true rfl, Nat.le_of_ble_eq_true rfl⟩ dX2_isSoundDay_74 ?_
      refine z_iload C dX2_isSoundDay_77 1 rfl ?_
      refine z_if_eq (tgt := 88) C dX2_isSoundDay_79 (by decide) (fun _ => ?_) (fun h => absurd (by decide) h)
      refine z_lload_n C dX2_isSoundDay_88 rfl 3 rfl ?_
      have K3_0 : f_X2_isSoundDay_j3 p1 = 0 → ZW p l e { frames := 5, cells := 0, slots := 0, locals := 122 } s m args below meth c 12 D (zTys cI cJ) A (zE D (zTys cI cJ) A below args s (fun v w => v = some (.int (f_X2_isSoundDay p1)) ∧ w = X) (fun _ _ => False) 0 0) 0 0 X 138 [(6, .int 0), (5, .int 0), (4, .int (f_X1_dayInMonth p1)), (2, .long (f_X1_monthOfDay p1)), (0, .long p1)] [.int 0] := by
        intro h11
        refine z_istore (lv' := [(7, .int 0), (6, .int 0), (5, .int 0), (4, .int (f_X1_dayInMonth p1)), (2, .long (f_X1_monthOfDay p1)), (0, .long p1)]) C dX2_isSoundDay_138 (by decide) rfl ?_
        refine z_lload_n C dX2_isSoundDay_140 rfl 5 rfl ?_
        refine z_lconst (v := 1) C dX2_isSoundDay_141 (by decide) ?_
        refine z_sl (rest := []) C (c_X1_plusMonths l hfl D cI cJ _ p1 (1 : Int64) ) q_X1_plusMonths gX2_isSoundDay_X1_plusMonths ⟨rfl, rfl⟩ rfl rfl (Nat.le_of_ble_eq_true rfl) ⟨Nat.le_of_ble_eq_true rfl, Nat.le_of_ble_eq_true rfl⟩ ⟨Nat.le_of_ble_eq_true rfl, Nat.le_of_ble_eq_true rfl⟩ dX2_isSoundDay_142 ?_
        refine z_lstore (lv' := [(8, .long (f_X1_plusMonths p1 1)), (7, .int 0), (6, .int 0), (5, .int 0), (4, .int (f_X1_dayInMonth p1)), (2, .long (f_X1_monthOfDay p1)), (0, .long p1)]) C dX2_isSoundDay_145 (by decide) rfl ?_
        refine z_lload_n C dX2_isSoundDay_147 rfl 5 rfl ?_
        refine z_iload C dX2_isSoundDay_148 4 rfl ?_
        refine z_lload_n C dX2_isSoundDay_150 rfl 5 rfl ?_
        refine z_lconst (v := 1) C dX2_isSoundDay_151 (by decide) ?_
        refine z_ladd C dX2_isSoundDay_152 ?_
        refine z_si (rest := [.int (f_X1_dayInMonth p1), .long (f_X1_monthOfDay p1)]) C (c_X1_lengthOfMonth l hfl D cI cJ _ ((f_X1_monthOfDay p1) + 1) ) q_X1_lengthOfMonth gX2_isSoundDay_X1_lengthOfMonth ⟨rfl, rfl⟩ rfl rfl (Nat.le_of_ble_eq_true rfl) ⟨Nat.le_of_ble_eq_true rfl, Nat.le_of_ble_eq_true rfl⟩ ⟨Nat.le_of_ble_eq_true rfl, Nat.le_of_ble_eq_true rfl⟩ dX2_isSoundDay_153 ?_
        refine z_imin C w1 w2 w3 w4 (by decide) (Nat.le_of_ble_eq_true rfl) (Nat.le_of_ble_eq_true rfl) (Nat.le_of_ble_eq_true rfl) dX2_isSoundDay_156 ?_
        refine z_i2l (v := ((if (f_X1_lengthOfMonth ((f_X1_monthOfDay p1) + 1)) < (f_X1_dayInMonth p1) then (f_X1_lengthOfMonth ((f_X1_monthOfDay p1) + 1)) else (f_X1_dayInMonth p1))).toInt64) C dX2_isSoundDay_159 rfl ?_
        refine z_sl (rest := []) C (c_X1_dayOrLast l hfl D cI cJ _ (f_X1_monthOfDay p1) (((if (f_X1_lengthOfMonth ((f_X1_monthOfDay p1) + 1)) < (f_X1_dayInMonth p1) then (f_X1_lengthOfMonth ((f_X1_monthOfDay p1) + 1)) else (f_X1_dayInMonth p1))).toInt64) ) q_X1_dayOrLast gX2_isSoundDay_X1_dayOrLast ⟨rfl, rfl⟩ rfl rfl (Nat.le_of_ble_eq_true rfl) ⟨Nat.le_of_ble_eq_true rfl, Nat.le_of_ble_eq_true rfl⟩ ⟨Nat.le_of_ble_eq_true rfl, Nat.le_of_ble_eq_true rfl⟩ dX2_isSoundDay_160 ?_
        refine z_lstore (lv' := [(10, .long (f_X1_dayOrLast (f_X1_monthOfDay p1) (((if (f_X1_lengthOfMonth ((f_X1_monthOfDay p1) + 1)) < (f_X1_dayInMonth p1) then (f_X1_lengthOfMonth ((f_X1_monthOfDay p1) + 1)) else (f_X1_dayInMonth p1))).toInt64))), (8, .long (f_X1_plusMonths p1 1)), (7, .int 0), (6, .int 0), (5, .int 0), (4, .int (f_X1_dayInMonth p1)), (2, .long (f_X1_monthOfDay p1)), (0, .long p1)]) C dX2_isSoundDay_163 (by decide) rfl ?_
        refine z_iload C dX2_isSoundDay_165 3 rfl ?_
        refine z_if_eq (tgt := 193) C dX2_isSoundDay_167 (by decide) (fun _ => ?_) (fun h => absurd (by decide) h)
        refine z_iconst (v := 0) C dX2_isSoundDay_193 (by decide) ?_
        exact z_zret C (by decide) ⟨congrArg (fun v => some (Value.int v)) (by rw [f_X2_isSoundDay, if_pos h2, if_pos h7, if_pos h11] : (0 : Int32) = (f_X2_isSoundDay p1)), rfl⟩ (by decide) (by decide) dX2_isSoundDay_194
      have K3_1 : f_X2_isSoundDay_j3 p1 = 1 → ((f_X1_dayInMonth (p1 + 1)) = ((f_X1_dayInMonth p1) + 1)) → ((f_X1_monthOfDay (p1 + 1)) = (f_X1_monthOfDay p1)) → ((f_X1_weekdayOf (p1 + 1)) = (((f_X1_weekdayOf p1) - (f_X1_weekdayOf p1) / 7 * 7) + 1)) → ZW p l e { frames := 5, cells := 0, slots := 0, locals := 122 } s m args below meth c 12 D (zTys cI cJ) A (zE D (zTys cI cJ) A below args s (fun v w => v = some (.int (f_X2_isSoundDay p1)) ∧ w = X) (fun _ _ => False) 0 0) 0 0 X 138 [(6, .int 0), (5, .int 0), (4, .int (f_X1_dayInMonth p1)), (2, .long (f_X1_monthOfDay p1)), (0, .long p1)] [.int 1] := by
        intro h12 h13 h14 h15
        refine z_istore (lv' := [(7, .int 1), (6, .int 0), (5, .int 0), (4, .int (f_X1_dayInMonth p1)), (2, .long (f_X1_monthOfDay p1)), (0, .long p1)]) C dX2_isSoundDay_138 (by decide) rfl ?_
        refine z_lload_n C dX2_isSoundDay_140 rfl 5 rfl ?_
        refine z_lconst (v := 1) C dX2_isSoundDay_141 (by decide) ?_
        refine z_sl (rest := []) C (c_X1_plusMonths l hfl D cI cJ _ p1 (1 : Int64) ) q_X1_plusMonths gX2_isSoundDay_X1_plusMonths ⟨rfl, rfl⟩ rfl rfl (Nat.le_of_ble_eq_true rfl) ⟨Nat.le_of_ble_eq_true rfl, Nat.le_of_ble_eq_true rfl⟩ ⟨Nat.le_of_ble_eq_true rfl, Nat.le_of_ble_eq_true rfl⟩ dX2_isSoundDay_142 ?_
        refine z_lstore (lv' := [(8, .long (f_X1_plusMonths p1 1)), (7, .int 1), (6, .int 0), (5, .int 0), (4, .int (f_X1_dayInMonth p1)), (2, .long (f_X1_monthOfDay p1)), (0, .long p1)]) C dX2_isSoundDay_145 (by decide) rfl ?_
        refine z_lload_n C dX2_isSoundDay_147 rfl 5 rfl ?_
        refine z_iload C dX2_isSoundDay_148 4 rfl ?_
        refine z_lload_n C dX2_isSoundDay_150 rfl 5 rfl ?_
        refine z_lconst (v := 1) C dX2_isSoundDay_151 (by decide) ?_
        refine z_ladd C dX2_isSoundDay_152 ?_
        refine z_si (rest := [.int (f_X1_dayInMonth p1), .long (f_X1_monthOfDay p1)]) C (c_X1_lengthOfMonth l hfl D cI cJ _ ((f_X1_monthOfDay p1) + 1) ) q_X1_lengthOfMonth gX2_isSoundDay_X1_lengthOfMonth ⟨rfl, rfl⟩ rfl rfl (Nat.le_of_ble_eq_true rfl) ⟨Nat.le_of_ble_eq_true rfl, Nat.le_of_ble_eq_true rfl⟩ ⟨Nat.le_of_ble_eq_true rfl, Nat.le_of_ble_eq_true rfl⟩ dX2_isSoundDay_153 ?_
        refine z_imin C w1 w2 w3 w4 (by decide) (Nat.le_of_ble_eq_true rfl) (Nat.le_of_ble_eq_true rfl) (Nat.le_of_ble_eq_true rfl) dX2_isSoundDay_156 ?_
        refine z_i2l (v := ((if (f_X1_lengthOfMonth ((f_X1_monthOfDay p1) + 1)) < (f_X1_dayInMonth p1) then (f_X1_lengthOfMonth ((f_X1_monthOfDay p1) + 1)) else (f_X1_dayInMonth p1))).toInt64) C dX2_isSoundDay_159 rfl ?_
        refine z_sl (rest := []) C (c_X1_dayOrLast l hfl D cI cJ _ (f_X1_monthOfDay p1) (((if (f_X1_lengthOfMonth ((f_X1_monthOfDay p1) + 1)) < (f_X1_dayInMonth p1) then (f_X1_lengthOfMonth ((f_X1_monthOfDay p1) + 1)) else (f_X1_dayInMonth p1))).toInt64) ) q_X1_dayOrLast gX2_isSoundDay_X1_dayOrLast ⟨rfl, rfl⟩ rfl rfl (Nat.le_of_ble_eq_true rfl) ⟨Nat.le_of_ble_eq_true rfl, Nat.le_of_ble_eq_true rfl⟩ ⟨Nat.le_of_ble_eq_true rfl, Nat.le_of_ble_eq_true rfl⟩ dX2_isSoundDay_160 ?_
        refine z_lstore (lv' := [(10, .long (f_X1_dayOrLast (f_X1_monthOfDay p1) (((if (f_X1_lengthOfMonth ((f_X1_monthOfDay p1) + 1)) < (f_X1_dayInMonth p1) then (f_X1_lengthOfMonth ((f_X1_monthOfDay p1) + 1)) else (f_X1_dayInMonth p1))).toInt64))), (8, .long (f_X1_plusMonths p1 1)), (7, .int 1), (6, .int 0), (5, .int 0), (4, .int (f_X1_dayInMonth p1)), (2, .long (f_X1_monthOfDay p1)), (0, .long p1)]) C dX2_isSoundDay_163 (by decide) rfl ?_
        refine z_iload C dX2_isSoundDay_165 3 rfl ?_
        refine z_if_eq (tgt := 193) C dX2_isSoundDay_167 (by decide) (fun _ => ?_) (fun h => absurd (by decide) h)
        refine z_iconst (v := 0) C dX2_isSoundDay_193 (by decide) ?_
        exact z_zret C (by decide) ⟨congrArg (fun v => some (Value.int v)) (by rw [f_X2_isSoundDay, if_pos h2, if_pos h7, if_neg (by rw [h12]; decide : ¬ f_X2_isSoundDay_j3 p1 = 0)] : (0 : Int32) = (f_X2_isSoundDay p1)), rfl⟩ (by decide) (by decide) dX2_isSoundDay_194
      refine z_lcmp_ne (tgt := 137) C dX2_isSoundDay_89 dX2_isSoundDay_90 (by decide) (fun h8 => ?_) (fun h8 => ?_)
      · refine z_iconst (v := 0) C dX2_isSoundDay_137 (by decide) ?_
        exact K3_0 (by rw [f_X2_isSoundDay_j3, if_neg h8]) 
      · refine z_lload_n C dX2_isSoundDay_93 rfl 4 rfl ?_
        refine z_lconst (v := 1) C dX2_isSoundDay_94 (by decide) ?_
        refine z_ladd C dX2_isSoundDay_95 ?_
        refine z_si (rest := []) C (c_X1_dayInMonth l hfl D cI cJ _ (p1 + 1) ) q_X1_dayInMonth gX2_isSoundDay_X1_dayInMonth ⟨rfl, rfl⟩ rfl rfl (Nat.le_of_ble_eq_true rfl) ⟨Nat.le_of_ble_eq_true rfl, Nat.le_of_ble_eq_true rfl⟩ ⟨Nat.le_of_ble_eq_true rfl, Nat.le_of_ble_eq_true rfl⟩ dX2_isSoundDay_96 ?_
        refine z_iload C dX2_isSoundDay_99 1 rfl ?_
        refine z_if_eq (tgt := 108) C dX2_isSoundDay_101 (by decide) (fun _ => ?_) (fun h => absurd (by decide) h)
        refine z_iload C dX2_isSoundDay_108 2 rfl ?_
        refine z_iconst (v := 1) C dX2_isSoundDay_110 (by decide) ?_
        refine z_iadd C dX2_isSoundDay_111 ?_
        refine z_icmp_ne (tgt := 137) C dX2_isSoundDay_112 (by decide) (fun h9 => ?_) (fun h9 => ?_)
        · refine z_iconst (v := 0) C dX2_isSoundDay_137 (by decide) ?_
          exact K3_0 (by rw [f_X2_isSoundDay_j3, if_pos h8, if_neg h9]) 
        · refine z_lload_n C dX2_isSoundDay_115 rfl 4 rfl ?_
          refine z_lconst (v := 1) C dX2_isSoundDay_116 (by decide) ?_
          refine z_ladd C dX2_isSoundDay_117 ?_
          refine z_si (rest := []) C (c_X1_weekdayOf l hfl D cI cJ _ (p1 + 1) ) q_X1_weekdayOf gX2_isSoundDay_X1_weekdayOf ⟨rfl, rfl⟩ rfl rfl (Nat.le_of_ble_eq_true rfl) ⟨Nat.le_of_ble_eq_true rfl, Nat.le_of_ble_eq_true rfl⟩ ⟨Nat.le_of_ble_eq_true rfl, Nat.le_of_ble_eq_true rfl⟩ dX2_isSoundDay_118 ?_
          refine z_lload_n C dX2_isSoundDay_121 rfl 4 rfl ?_
          refine z_si (rest := [.int (f_X1_weekdayOf (p1 + 1))]) C (c_X1_weekdayOf l hfl D cI cJ _ p1 ) q_X1_weekdayOf gX2_isSoundDay_X1_weekdayOf ⟨rfl, rfl⟩ rfl rfl (Nat.le_of_ble_eq_true rfl) ⟨Nat.le_of_ble_eq_true rfl, Nat.le_of_ble_eq_true rfl⟩ ⟨Nat.le_of_ble_eq_true rfl, Nat.le_of_ble_eq_true rfl⟩ dX2_isSoundDay_122 ?_
          refine z_bipush (v := 7) C dX2_isSoundDay_125 (by decide) ?_
          refine z_irem C dX2_isSoundDay_127 (by decide) ?_
          refine z_iconst (v := 1) C dX2_isSoundDay_128 (by decide) ?_
          refine z_iadd C dX2_isSoundDay_129 ?_
          refine z_icmp_ne (tgt := 137) C dX2_isSoundDay_130 (by decide) (fun h10 => ?_) (fun h10 => ?_)
          · refine z_iconst (v := 0) C dX2_isSoundDay_137 (by decide) ?_
            exact K3_0 (by rw [f_X2_isSoundDay_j3, if_pos h8, if_pos h9, if_neg h10]) 
          · refine z_iconst (v := 1) C dX2_isSoundDay_133 (by decide) ?_
            refine z_goto (tgt := 138) C dX2_isSoundDay_134 (by decide) ?_
            exact K3_1 (by rw [f_X2_isSoundDay_j3, if_pos h8, if_pos h9, if_pos h10]) h9 h8 h10
    have K2_1 : f_X2_isSoundDay_j2 p1 = 1 → ((((f_X1_firstOfMonth (f_X1_monthOfDay p1)) + ((f_X1_dayInMonth p1)).toInt64) - 1) = p1) → (¬ (f_X1_isDay p1) = 0) → (¬ (f_X2_isIn (((f_X1_dayInMonth p1)).toInt64) 1 (((f_X1_lengthOfMonth (f_X1_monthOfDay p1))).toInt64)) = 0) → ZW p l e { frames := 5, cells := 0, slots := 0, locals := 122 } s m args below meth c 12 D (zTys cI cJ) A (zE D (zTys cI cJ) A below args s (fun v w => v = some (.int (f_X2_isSoundDay p1)) ∧ w = X) (fun _ _ => False) 0 0) 0 0 X 69 [(5, .int 0), (4, .int (f_X1_dayInMonth p1)), (2, .long (f_X1_monthOfDay p1)), (0, .long p1)] [.int 1] := by
      intro h16 h17 h18 h19
      refine z_istore (lv' := [(6, .int 1), (5, .int 0), (4, .int (f_X1_dayInMonth p1)), (2, .long (f_X1_monthOfDay p1)), (0, .long p1)]) C dX2_isSoundDay_69 (by decide) rfl ?_
      refine z_lload_n C dX2_isSoundDay_71 rfl 4 rfl ?_
      refine z_lconst (v := 1) C dX2_isSoundDay_72 (by decide) ?_
      refine z_ladd C dX2_isSoundDay_73 ?_
      refine z_sl (rest := []) C (c_X1_monthOfDay l hfl D cI cJ _ (p1 + 1) ) q_X1_monthOfDay gX2_isSoundDay_X1_monthOfDay ⟨rfl, rfl⟩ rfl rfl (Nat.le_of_ble_eq_true rfl) ⟨Nat.le_of_ble_eq_true rfl, Nat.le_of_ble_eq_true rfl⟩ ⟨Nat.le_of_ble_eq_true rfl, Nat.le_of_ble_eq_true rfl⟩ dX2_isSoundDay_74 ?_
      refine z_iload C dX2_isSoundDay_77 1 rfl ?_
      refine z_if_eq (tgt := 88) C dX2_isSoundDay_79 (by decide) (fun _ => ?_) (fun h => absurd (by decide) h)
      refine z_lload_n C dX2_isSoundDay_88 rfl 3 rfl ?_
      have K4_0 : f_X2_isSoundDay_j3 p1 = 0 → ZW p l e { frames := 5, cells := 0, slots := 0, locals := 122 } s m args below meth c 12 D (zTys cI cJ) A (zE D (zTys cI cJ) A below args s (fun v w => v = some (.int (f_X2_isSoundDay p1)) ∧ w = X) (fun _ _ => False) 0 0) 0 0 X 138 [(6, .int 1), (5, .int 0), (4, .int (f_X1_dayInMonth p1)), (2, .long (f_X1_monthOfDay p1)), (0, .long p1)] [.int 0] := by
        intro h23
        refine z_istore (lv' := [(7, .int 0), (6, .int 1), (5, .int 0), (4, .int (f_X1_dayInMonth p1)), (2, .long (f_X1_monthOfDay p1)), (0, .long p1)]) C dX2_isSoundDay_138 (by decide) rfl ?_
        refine z_lload_n C dX2_isSoundDay_140 rfl 5 rfl ?_
        refine z_lconst (v := 1) C dX2_isSoundDay_141 (by decide) ?_
        refine z_sl (rest := []) C (c_X1_plusMonths l hfl D cI cJ _ p1 (1 : Int64) ) q_X1_plusMonths gX2_isSoundDay_X1_plusMonths ⟨rfl, rfl⟩ rfl rfl (Nat.le_of_ble_eq_true rfl) ⟨Nat.le_of_ble_eq_true rfl, Nat.le_of_ble_eq_true rfl⟩ ⟨Nat.le_of_ble_eq_true rfl, Nat.le_of_ble_eq_true rfl⟩ dX2_isSoundDay_142 ?_
        refine z_lstore (lv' := [(8, .long (f_X1_plusMonths p1 1)), (7, .int 0), (6, .int 1), (5, .int 0), (4, .int (f_X1_dayInMonth p1)), (2, .long (f_X1_monthOfDay p1)), (0, .long p1)]) C dX2_isSoundDay_145 (by decide) rfl ?_
        refine z_lload_n C dX2_isSoundDay_147 rfl 5 rfl ?_
        refine z_iload C dX2_isSoundDay_148 4 rfl ?_
        refine z_lload_n C dX2_isSoundDay_150 rfl 5 rfl ?_
        refine z_lconst (v := 1) C dX2_isSoundDay_151 (by decide) ?_
        refine z_ladd C dX2_isSoundDay_152 ?_
        refine z_si (rest := [.int (f_X1_dayInMonth p1), .long (f_X1_monthOfDay p1)]) C (c_X1_lengthOfMonth l hfl D cI cJ _ ((f_X1_monthOfDay p1) + 1) ) q_X1_lengthOfMonth gX2_isSoundDay_X1_lengthOfMonth ⟨rfl, rfl⟩ rfl rfl (Nat.le_of_ble_eq_true rfl) ⟨Nat.le_of_ble_eq_true rfl, Nat.le_of_ble_eq_true rfl⟩ ⟨Nat.le_of_ble_eq_true rfl, Nat.le_of_ble_eq_true rfl⟩ dX2_isSoundDay_153 ?_
        refine z_imin C w1 w2 w3 w4 (by decide) (Nat.le_of_ble_eq_true rfl) (Nat.le_of_ble_eq_true rfl) (Nat.le_of_ble_eq_true rfl) dX2_isSoundDay_156 ?_
        refine z_i2l (v := ((if (f_X1_lengthOfMonth ((f_X1_monthOfDay p1) + 1)) < (f_X1_dayInMonth p1) then (f_X1_lengthOfMonth ((f_X1_monthOfDay p1) + 1)) else (f_X1_dayInMonth p1))).toInt64) C dX2_isSoundDay_159 rfl ?_
        refine z_sl (rest := []) C (c_X1_dayOrLast l hfl D cI cJ _ (f_X1_monthOfDay p1) (((if (f_X1_lengthOfMonth ((f_X1_monthOfDay p1) + 1)) < (f_X1_dayInMonth p1) then (f_X1_lengthOfMonth ((f_X1_monthOfDay p1) + 1)) else (f_X1_dayInMonth p1))).toInt64) ) q_X1_dayOrLast gX2_isSoundDay_X1_dayOrLast ⟨rfl, rfl⟩ rfl rfl (Nat.le_of_ble_eq_true rfl) ⟨Nat.le_of_ble_eq_true rfl, Nat.le_of_ble_eq_true rfl⟩ ⟨Nat.le_of_ble_eq_true rfl, Nat.le_of_ble_eq_true rfl⟩ dX2_isSoundDay_160 ?_
        refine z_lstore (lv' := [(10, .long (f_X1_dayOrLast (f_X1_monthOfDay p1) (((if (f_X1_lengthOfMonth ((f_X1_monthOfDay p1) + 1)) < (f_X1_dayInMonth p1) then (f_X1_lengthOfMonth ((f_X1_monthOfDay p1) + 1)) else (f_X1_dayInMonth p1))).toInt64))), (8, .long (f_X1_plusMonths p1 1)), (7, .int 0), (6, .int 1), (5, .int 0), (4, .int (f_X1_dayInMonth p1)), (2, .long (f_X1_monthOfDay p1)), (0, .long p1)]) C dX2_isSoundDay_163 (by decide) rfl ?_
        refine z_iload C dX2_isSoundDay_165 3 rfl ?_
        refine z_if_eq (tgt := 193) C dX2_isSoundDay_167 (by decide) (fun h => absurd h (by decide)) (fun _ => ?_)
        refine z_iload C dX2_isSoundDay_170 2 rfl ?_
        refine z_if_eq (tgt := 193) C dX2_isSoundDay_172 (by decide) (fun _ => ?_) (fun h => absurd (by decide) h)
        refine z_iconst (v := 0) C dX2_isSoundDay_193 (by decide) ?_
        exact z_zret C (by decide) ⟨congrArg (fun v => some (Value.int v)) (by rw [f_X2_isSoundDay, if_pos h2, if_neg (by rw [h16]; decide : ¬ f_X2_isSoundDay_j2 p1 = 0), if_pos h23] : (0 : Int32) = (f_X2_isSoundDay p1)), rfl⟩ (by decide) (by decide) dX2_isSoundDay_194
      have K4_1 : f_X2_isSoundDay_j3 p1 = 1 → ((f_X1_dayInMonth (p1 + 1)) = ((f_X1_dayInMonth p1) + 1)) → ((f_X1_monthOfDay (p1 + 1)) = (f_X1_monthOfDay p1)) → ((f_X1_weekdayOf (p1 + 1)) = (((f_X1_weekdayOf p1) - (f_X1_weekdayOf p1) / 7 * 7) + 1)) → ZW p l e { frames := 5, cells := 0, slots := 0, locals := 122 } s m args below meth c 12 D (zTys cI cJ) A (zE D (zTys cI cJ) A below args s (fun v w => v = some (.int (f_X2_isSoundDay p1)) ∧ w = X) (fun _ _ => False) 0 0) 0 0 X 138 [(6, .int 1), (5, .int 0), (4, .int (f_X1_dayInMonth p1)), (2, .long (f_X1_monthOfDay p1)), (0, .long p1)] [.int 1] := by
        intro h24 h25 h26 h27
        refine z_istore (lv' := [(7, .int 1), (6, .int 1), (5, .int 0), (4, .int (f_X1_dayInMonth p1)), (2, .long (f_X1_monthOfDay p1)), (0, .long p1)]) C dX2_isSoundDay_138 (by decide) rfl ?_
        refine z_lload_n C dX2_isSoundDay_140 rfl 5 rfl ?_
        refine z_lconst (v := 1) C dX2_isSoundDay_141 (by decide) ?_
        refine z_sl (rest := []) C (c_X1_plusMonths l hfl D cI cJ _ p1 (1 : Int64) ) q_X1_plusMonths gX2_isSoundDay_X1_plusMonths ⟨rfl, rfl⟩ rfl rfl (Nat.le_of_ble_eq_true rfl) ⟨Nat.le_of_ble_eq_true rfl, Nat.le_of_ble_eq_true rfl⟩ ⟨Nat.le_of_ble_eq_true rfl, Nat.le_of_ble_eq_true rfl⟩ dX2_isSoundDay_142 ?_
        refine z_lstore (lv' := [(8, .long (f_X1_plusMonths p1 1)), (7, .int 1), (6, .int 1), (5, .int 0), (4, .int (f_X1_dayInMonth p1)), (2, .long (f_X1_monthOfDay p1)), (0, .long p1)]) C dX2_isSoundDay_145 (by decide) rfl ?_
        refine z_lload_n C dX2_isSoundDay_147 rfl 5 rfl ?_
        refine z_iload C dX2_isSoundDay_148 4 rfl ?_
        refine z_lload_n C dX2_isSoundDay_150 rfl 5 rfl ?_
        refine z_lconst (v := 1) C dX2_isSoundDay_151 (by decide) ?_
        refine z_ladd C dX2_isSoundDay_152 ?_
        refine z_si (rest := [.int (f_X1_dayInMonth p1), .long (f_X1_monthOfDay p1)]) C (c_X1_lengthOfMonth l hfl D cI cJ _ ((f_X1_monthOfDay p1) + 1) ) q_X1_lengthOfMonth gX2_isSoundDay_X1_lengthOfMonth ⟨rfl, rfl⟩ rfl rfl (Nat.le_of_ble_eq_true rfl) ⟨Nat.le_of_ble_eq_true rfl, Nat.le_of_ble_eq_true rfl⟩ ⟨Nat.le_of_ble_eq_true rfl, Nat.le_of_ble_eq_true rfl⟩ dX2_isSoundDay_153 ?_
        refine z_imin C w1 w2 w3 w4 (by decide) (Nat.le_of_ble_eq_true rfl) (Nat.le_of_ble_eq_true rfl) (Nat.le_of_ble_eq_true rfl) dX2_isSoundDay_156 ?_
        refine z_i2l (v := ((if (f_X1_lengthOfMonth ((f_X1_monthOfDay p1) + 1)) < (f_X1_dayInMonth p1) then (f_X1_lengthOfMonth ((f_X1_monthOfDay p1) + 1)) else (f_X1_dayInMonth p1))).toInt64) C dX2_isSoundDay_159 rfl ?_
        refine z_sl (rest := []) C (c_X1_dayOrLast l hfl D cI cJ _ (f_X1_monthOfDay p1) (((if (f_X1_lengthOfMonth ((f_X1_monthOfDay p1) + 1)) < (f_X1_dayInMonth p1) then (f_X1_lengthOfMonth ((f_X1_monthOfDay p1) + 1)) else (f_X1_dayInMonth p1))).toInt64) ) q_X1_dayOrLast gX2_isSoundDay_X1_dayOrLast ⟨rfl, rfl⟩ rfl rfl (Nat.le_of_ble_eq_true rfl) ⟨Nat.le_of_ble_eq_true rfl, Nat.le_of_ble_eq_true rfl⟩ ⟨Nat.le_of_ble_eq_true rfl, Nat.le_of_ble_eq_true rfl⟩ dX2_isSoundDay_160 ?_
        refine z_lstore (lv' := [(10, .long (f_X1_dayOrLast (f_X1_monthOfDay p1) (((if (f_X1_lengthOfMonth ((f_X1_monthOfDay p1) + 1)) < (f_X1_dayInMonth p1) then (f_X1_lengthOfMonth ((f_X1_monthOfDay p1) + 1)) else (f_X1_dayInMonth p1))).toInt64))), (8, .long (f_X1_plusMonths p1 1)), (7, .int 1), (6, .int 1), (5, .int 0), (4, .int (f_X1_dayInMonth p1)), (2, .long (f_X1_monthOfDay p1)), (0, .long p1)]) C dX2_isSoundDay_163 (by decide) rfl ?_
        refine z_iload C dX2_isSoundDay_165 3 rfl ?_
        refine z_if_eq (tgt := 193) C dX2_isSoundDay_167 (by decide) (fun h => absurd h (by decide)) (fun _ => ?_)
        refine z_iload C dX2_isSoundDay_170 2 rfl ?_
        refine z_if_eq (tgt := 193) C dX2_isSoundDay_172 (by decide) (fun h => absurd h (by decide)) (fun _ => ?_)
        refine z_lload C dX2_isSoundDay_175 1 rfl ?_
        refine z_ldc2 (v := (-1)) C w5 dX2_isSoundDay_177 ?_
        refine z_sl (rest := []) C (c_X1_plusMonths l hfl D cI cJ _ (f_X1_plusMonths p1 1) ((-1) : Int64) ) q_X1_plusMonths gX2_isSoundDay_X1_plusMonths ⟨rfl, rfl⟩ rfl rfl (Nat.le_of_ble_eq_true rfl) ⟨Nat.le_of_ble_eq_true rfl, Nat.le_of_ble_eq_true rfl⟩ ⟨Nat.le_of_ble_eq_true rfl, Nat.le_of_ble_eq_true rfl⟩ dX2_isSoundDay_180 ?_
        refine z_lload C dX2_isSoundDay_183 0 rfl ?_
        refine z_lcmp_ne (tgt := 193) C dX2_isSoundDay_185 dX2_isSoundDay_186 (by decide) (fun h28 => ?_) (fun h28 => ?_)
        · refine z_iconst (v := 0) C dX2_isSoundDay_193 (by decide) ?_
          exact z_zret C (by decide) ⟨congrArg (fun v => some (Value.int v)) (by rw [f_X2_isSoundDay, if_pos h2, if_neg (by rw [h16]; decide : ¬ f_X2_isSoundDay_j2 p1 = 0), if_neg (by rw [h24]; decide : ¬ f_X2_isSoundDay_j3 p1 = 0), if_neg h28] : (0 : Int32) = (f_X2_isSoundDay p1)), rfl⟩ (by decide) (by decide) dX2_isSoundDay_194
        · refine z_iconst (v := 1) C dX2_isSoundDay_189 (by decide) ?_
          refine z_goto (tgt := 194) C dX2_isSoundDay_190 (by decide) ?_
          exact z_zret C (by decide) ⟨congrArg (fun v => some (Value.int v)) (by rw [f_X2_isSoundDay, if_pos h2, if_neg (by rw [h16]; decide : ¬ f_X2_isSoundDay_j2 p1 = 0), if_neg (by rw [h24]; decide : ¬ f_X2_isSoundDay_j3 p1 = 0), if_pos h28] : (1 : Int32) = (f_X2_isSoundDay p1)), rfl⟩ (by decide) (by decide) dX2_isSoundDay_194
      refine z_lcmp_ne (tgt := 137) C dX2_isSoundDay_89 dX2_isSoundDay_90 (by decide) (fun h20 => ?_) (fun h20 => ?_)
      · refine z_iconst (v := 0) C dX2_isSoundDay_137 (by decide) ?_
        exact K4_0 (by rw [f_X2_isSoundDay_j3, if_neg h20]) 
      · refine z_lload_n C dX2_isSoundDay_93 rfl 4 rfl ?_
        refine z_lconst (v := 1) C dX2_isSoundDay_94 (by decide) ?_
        refine z_ladd C dX2_isSoundDay_95 ?_
        refine z_si (rest := []) C (c_X1_dayInMonth l hfl D cI cJ _ (p1 + 1) ) q_X1_dayInMonth gX2_isSoundDay_X1_dayInMonth ⟨rfl, rfl⟩ rfl rfl (Nat.le_of_ble_eq_true rfl) ⟨Nat.le_of_ble_eq_true rfl, Nat.le_of_ble_eq_true rfl⟩ ⟨Nat.le_of_ble_eq_true rfl, Nat.le_of_ble_eq_true rfl⟩ dX2_isSoundDay_96 ?_
        refine z_iload C dX2_isSoundDay_99 1 rfl ?_
        refine z_if_eq (tgt := 108) C dX2_isSoundDay_101 (by decide) (fun _ => ?_) (fun h => absurd (by decide) h)
        refine z_iload C dX2_isSoundDay_108 2 rfl ?_
        refine z_iconst (v := 1) C dX2_isSoundDay_110 (by decide) ?_
        refine z_iadd C dX2_isSoundDay_111 ?_
        refine z_icmp_ne (tgt := 137) C dX2_isSoundDay_112 (by decide) (fun h21 => ?_) (fun h21 => ?_)
        · refine z_iconst (v := 0) C dX2_isSoundDay_137 (by decide) ?_
          exact K4_0 (by rw [f_X2_isSoundDay_j3, if_pos h20, if_neg h21]) 
        · refine z_lload_n C dX2_isSoundDay_115 rfl 4 rfl ?_
          refine z_lconst (v := 1) C dX2_isSoundDay_116 (by decide) ?_
          refine z_ladd C dX2_isSoundDay_117 ?_
          refine z_si (rest := []) C (c_X1_weekdayOf l hfl D cI cJ _ (p1 + 1) ) q_X1_weekdayOf gX2_isSoundDay_X1_weekdayOf ⟨rfl, rfl⟩ rfl rfl (Nat.le_of_ble_eq_true rfl) ⟨Nat.le_of_ble_eq_true rfl, Nat.le_of_ble_eq_true rfl⟩ ⟨Nat.le_of_ble_eq_true rfl, Nat.le_of_ble_eq_true rfl⟩ dX2_isSoundDay_118 ?_
          refine z_lload_n C dX2_isSoundDay_121 rfl 4 rfl ?_
          refine z_si (rest := [.int (f_X1_weekdayOf (p1 + 1))]) C (c_X1_weekdayOf l hfl D cI cJ _ p1 ) q_X1_weekdayOf gX2_isSoundDay_X1_weekdayOf ⟨rfl, rfl⟩ rfl rfl (Nat.le_of_ble_eq_true rfl) ⟨Nat.le_of_ble_eq_true rfl, Nat.le_of_ble_eq_true rfl⟩ ⟨Nat.le_of_ble_eq_true rfl, Nat.le_of_ble_eq_true rfl⟩ dX2_isSoundDay_122 ?_
          refine z_bipush (v := 7) C dX2_isSoundDay_125 (by decide) ?_
          refine z_irem C dX2_isSoundDay_127 (by decide) ?_
          refine z_iconst (v := 1) C dX2_isSoundDay_128 (by decide) ?_
          refine z_iadd C dX2_isSoundDay_129 ?_
          refine z_icmp_ne (tgt := 137) C dX2_isSoundDay_130 (by decide) (fun h22 => ?_) (fun h22 => ?_)
          · refine z_iconst (v := 0) C dX2_isSoundDay_137 (by decide) ?_
            exact K4_0 (by rw [f_X2_isSoundDay_j3, if_pos h20, if_pos h21, if_neg h22]) 
          · refine z_iconst (v := 1) C dX2_isSoundDay_133 (by decide) ?_
            refine z_goto (tgt := 138) C dX2_isSoundDay_134 (by decide) ?_
            exact K4_1 (by rw [f_X2_isSoundDay_j3, if_pos h20, if_pos h21, if_pos h22]) h21 h20 h22
    refine z_if_eq (tgt := 68) C dX2_isSoundDay_31 (by decide) (fun h4 => ?_) (fun h4 => ?_)
    · refine z_iconst (v := 0) C dX2_isSoundDay_68 (by decide) ?_
      exact K2_0 (by rw [f_X2_isSoundDay_j2, if_pos h4]) 
    · refine z_iload C dX2_isSoundDay_34 1 rfl ?_
      refine z_i2l (v := ((f_X1_dayInMonth p1)).toInt64) C dX2_isSoundDay_36 rfl ?_
      refine z_lconst (v := 1) C dX2_isSoundDay_37 (by decide) ?_
      refine z_lload_n C dX2_isSoundDay_38 rfl 2 rfl ?_
      refine z_si (rest := [.long 1, .long ((f_X1_dayInMonth p1)).toInt64]) C (c_X1_lengthOfMonth l hfl D cI cJ _ (f_X1_monthOfDay p1) ) q_X1_lengthOfMonth gX2_isSoundDay_X1_lengthOfMonth ⟨rfl, rfl⟩ rfl rfl (Nat.le_of_ble_eq_true rfl) ⟨Nat.le_of_ble_eq_true rfl, Nat.le_of_ble_eq_true rfl⟩ ⟨Nat.le_of_ble_eq_true rfl, Nat.le_of_ble_eq_true rfl⟩ dX2_isSoundDay_39 ?_
      refine z_i2l (v := ((f_X1_lengthOfMonth (f_X1_monthOfDay p1))).toInt64) C dX2_isSoundDay_42 rfl ?_
      refine z_si (rest := []) C (c_X2_isIn l hfl D cI cJ _ (((f_X1_dayInMonth p1)).toInt64) (1 : Int64) (((f_X1_lengthOfMonth (f_X1_monthOfDay p1))).toInt64) ) q_X2_isIn gX2_isSoundDay_X2_isIn ⟨rfl, rfl⟩ rfl rfl (Nat.le_of_ble_eq_true rfl) ⟨Nat.le_of_ble_eq_true rfl, Nat.le_of_ble_eq_true rfl⟩ ⟨Nat.le_of_ble_eq_true rfl, Nat.le_of_ble_eq_true rfl⟩ dX2_isSoundDay_43 ?_
      refine z_if_eq (tgt := 68) C dX2_isSoundDay_46 (by decide) (fun h5 => ?_) (fun h5 => ?_)
      · refine z_iconst (v := 0) C dX2_isSoundDay_68 (by decide) ?_
        exact K2_0 (by rw [f_X2_isSoundDay_j2, if_neg h4, if_pos h5]) 
      · refine z_lload_n C dX2_isSoundDay_49 rfl 2 rfl ?_
        refine z_sl (rest := []) C (c_X1_firstOfMonth l hfl D cI cJ _ (f_X1_monthOfDay p1) ) q_X1_firstOfMonth gX2_isSoundDay_X1_firstOfMonth ⟨rfl, rfl⟩ rfl rfl (Nat.le_of_ble_eq_true rfl) ⟨Nat.le_of_ble_eq_true rfl, Nat.le_of_ble_eq_true rfl⟩ ⟨Nat.le_of_ble_eq_true rfl, Nat.le_of_ble_eq_true rfl⟩ dX2_isSoundDay_50 ?_
        refine z_iload C dX2_isSoundDay_53 1 rfl ?_
        refine z_i2l (v := ((f_X1_dayInMonth p1)).toInt64) C dX2_isSoundDay_55 rfl ?_
        refine z_ladd C dX2_isSoundDay_56 ?_
        refine z_lconst (v := 1) C dX2_isSoundDay_57 (by decide) ?_
        refine z_lsub C dX2_isSoundDay_58 ?_
        refine z_lload_n C dX2_isSoundDay_59 rfl 3 rfl ?_
        refine z_lcmp_ne (tgt := 68) C dX2_isSoundDay_60 dX2_isSoundDay_61 (by decide) (fun h6 => ?_) (fun h6 => ?_)
        · refine z_iconst (v := 0) C dX2_isSoundDay_68 (by decide) ?_
          exact K2_0 (by rw [f_X2_isSoundDay_j2, if_neg h4, if_neg h5, if_neg h6]) 
        · refine z_iconst (v := 1) C dX2_isSoundDay_64 (by decide) ?_
          refine z_goto (tgt := 69) C dX2_isSoundDay_65 (by decide) ?_
          exact K2_1 (by rw [f_X2_isSoundDay_j2, if_neg h4, if_neg h5, if_pos h6]) h6 h4 h5
  have K1_1 : f_X2_isSoundDay_j1 p1 = 1 → ((f_X1_dayInMonth p1) = (f_X1_lengthOfMonth (f_X1_monthOfDay p1))) → ZW p l e { frames := 5, cells := 0, slots := 0, locals := 122 } s m args below meth c 12 D (zTys cI cJ) A (zE D (zTys cI cJ) A below args s (fun v w => v = some (.int (f_X2_isSoundDay p1)) ∧ w = X) (fun _ _ => False) 0 0) 0 0 X 25 [(4, .int (f_X1_dayInMonth p1)), (2, .long (f_X1_monthOfDay p1)), (0, .long p1)] [.int 1] := by
    intro h29 h30
    refine z_istore (lv' := [(5, .int 1), (4, .int (f_X1_dayInMonth p1)), (2, .long (f_X1_monthOfDay p1)), (0, .long p1)]) C dX2_isSoundDay_25 (by decide) rfl ?_
    refine z_lload_n C dX2_isSoundDay_27 rfl 3 rfl ?_
    refine z_si (rest := []) C (c_X1_isDay l hfl D cI cJ _ p1 ) q_X1_isDay gX2_isSoundDay_X1_isDay ⟨rfl, rfl⟩ rfl rfl (Nat.le_of_ble_eq_true rfl) ⟨Nat.le_of_ble_eq_true rfl, Nat.le_of_ble_eq_true rfl⟩ ⟨Nat.le_of_ble_eq_true rfl, Nat.le_of_ble_eq_true rfl⟩ dX2_isSoundDay_28 ?_
    have K5_0 : f_X2_isSoundDay_j2 p1 = 0 → ZW p l e { frames := 5, cells := 0, slots := 0, locals := 122 } s m args below meth c 12 D (zTys cI cJ) A (zE D (zTys cI cJ) A below args s (fun v w => v = some (.int (f_X2_isSoundDay p1)) ∧ w = X) (fun _ _ => False) 0 0) 0 0 X 69 [(5, .int 1), (4, .int (f_X1_dayInMonth p1)), (2, .long (f_X1_monthOfDay p1)), (0, .long p1)] [.int 0] := by
      intro h34
      refine z_istore (lv' := [(6, .int 0), (5, .int 1), (4, .int (f_X1_dayInMonth p1)), (2, .long (f_X1_monthOfDay p1)), (0, .long p1)]) C dX2_isSoundDay_69 (by decide) rfl ?_
      refine z_lload_n C dX2_isSoundDay_71 rfl 4 rfl ?_
      refine z_lconst (v := 1) C dX2_isSoundDay_72 (by decide) ?_
      refine z_ladd C dX2_isSoundDay_73 ?_
      refine z_sl (rest := []) C (c_X1_monthOfDay l hfl D cI cJ _ (p1 + 1) ) q_X1_monthOfDay gX2_isSoundDay_X1_monthOfDay ⟨rfl, rfl⟩ rfl rfl (Nat.le_of_ble_eq_true rfl) ⟨Nat.le_of_ble_eq_true rfl, Nat.le_of_ble_eq_true rfl⟩ ⟨Nat.le_of_ble_eq_true rfl, Nat.le_of_ble_eq_true rfl⟩ dX2_isSoundDay_74 ?_
      refine z_iload C dX2_isSoundDay_77 1 rfl ?_
      refine z_if_eq (tgt := 88) C dX2_isSoundDay_79 (by decide) (fun h => absurd h (by decide)) (fun _ => ?_)
      refine z_lload_n C dX2_isSoundDay_82 rfl 3 rfl ?_
      refine z_lconst (v := 1) C dX2_isSoundDay_83 (by decide) ?_
      refine z_ladd C dX2_isSoundDay_84 ?_
      refine z_goto (tgt := 89) C dX2_isSoundDay_85 (by decide) ?_
      have K6_0 : f_X2_isSoundDay_j6 p1 = 0 → ZW p l e { frames := 5, cells := 0, slots := 0, locals := 122 } s m args below meth c 12 D (zTys cI cJ) A (zE D (zTys cI cJ) A below args s (fun v w => v = some (.int (f_X2_isSoundDay p1)) ∧ w = X) (fun _ _ => False) 0 0) 0 0 X 138 [(6, .int 0), (5, .int 1), (4, .int (f_X1_dayInMonth p1)), (2, .long (f_X1_monthOfDay p1)), (0, .long p1)] [.int 0] := by
        intro h38
        refine z_istore (lv' := [(7, .int 0), (6, .int 0), (5, .int 1), (4, .int (f_X1_dayInMonth p1)), (2, .long (f_X1_monthOfDay p1)), (0, .long p1)]) C dX2_isSoundDay_138 (by decide) rfl ?_
        refine z_lload_n C dX2_isSoundDay_140 rfl 5 rfl ?_
        refine z_lconst (v := 1) C dX2_isSoundDay_141 (by decide) ?_
        refine z_sl (rest := []) C (c_X1_plusMonths l hfl D cI cJ _ p1 (1 : Int64) ) q_X1_plusMonths gX2_isSoundDay_X1_plusMonths ⟨rfl, rfl⟩ rfl rfl (Nat.le_of_ble_eq_true rfl) ⟨Nat.le_of_ble_eq_true rfl, Nat.le_of_ble_eq_true rfl⟩ ⟨Nat.le_of_ble_eq_true rfl, Nat.le_of_ble_eq_true rfl⟩ dX2_isSoundDay_142 ?_
        refine z_lstore (lv' := [(8, .long (f_X1_plusMonths p1 1)), (7, .int 0), (6, .int 0), (5, .int 1), (4, .int (f_X1_dayInMonth p1)), (2, .long (f_X1_monthOfDay p1)), (0, .long p1)]) C dX2_isSoundDay_145 (by decide) rfl ?_
        refine z_lload_n C dX2_isSoundDay_147 rfl 5 rfl ?_
        refine z_iload C dX2_isSoundDay_148 4 rfl ?_
        refine z_lload_n C dX2_isSoundDay_150 rfl 5 rfl ?_
        refine z_lconst (v := 1) C dX2_isSoundDay_151 (by decide) ?_
        refine z_ladd C dX2_isSoundDay_152 ?_
        refine z_si (rest := [.int (f_X1_dayInMonth p1), .long (f_X1_monthOfDay p1)]) C (c_X1_lengthOfMonth l hfl D cI cJ _ ((f_X1_monthOfDay p1) + 1) ) q_X1_lengthOfMonth gX2_isSoundDay_X1_lengthOfMonth ⟨rfl, rfl⟩ rfl rfl (Nat.le_of_ble_eq_true rfl) ⟨Nat.le_of_ble_eq_true rfl, Nat.le_of_ble_eq_true rfl⟩ ⟨Nat.le_of_ble_eq_true rfl, Nat.le_of_ble_eq_true rfl⟩ dX2_isSoundDay_153 ?_
        refine z_imin C w1 w2 w3 w4 (by decide) (Nat.le_of_ble_eq_true rfl) (Nat.le_of_ble_eq_true rfl) (Nat.le_of_ble_eq_true rfl) dX2_isSoundDay_156 ?_
        refine z_i2l (v := ((if (f_X1_lengthOfMonth ((f_X1_monthOfDay p1) + 1)) < (f_X1_dayInMonth p1) then (f_X1_lengthOfMonth ((f_X1_monthOfDay p1) + 1)) else (f_X1_dayInMonth p1))).toInt64) C dX2_isSoundDay_159 rfl ?_
        refine z_sl (rest := []) C (c_X1_dayOrLast l hfl D cI cJ _ (f_X1_monthOfDay p1) (((if (f_X1_lengthOfMonth ((f_X1_monthOfDay p1) + 1)) < (f_X1_dayInMonth p1) then (f_X1_lengthOfMonth ((f_X1_monthOfDay p1) + 1)) else (f_X1_dayInMonth p1))).toInt64) ) q_X1_dayOrLast gX2_isSoundDay_X1_dayOrLast ⟨rfl, rfl⟩ rfl rfl (Nat.le_of_ble_eq_true rfl) ⟨Nat.le_of_ble_eq_true rfl, Nat.le_of_ble_eq_true rfl⟩ ⟨Nat.le_of_ble_eq_true rfl, Nat.le_of_ble_eq_true rfl⟩ dX2_isSoundDay_160 ?_
        refine z_lstore (lv' := [(10, .long (f_X1_dayOrLast (f_X1_monthOfDay p1) (((if (f_X1_lengthOfMonth ((f_X1_monthOfDay p1) + 1)) < (f_X1_dayInMonth p1) then (f_X1_lengthOfMonth ((f_X1_monthOfDay p1) + 1)) else (f_X1_dayInMonth p1))).toInt64))), (8, .long (f_X1_plusMonths p1 1)), (7, .int 0), (6, .int 0), (5, .int 1), (4, .int (f_X1_dayInMonth p1)), (2, .long (f_X1_monthOfDay p1)), (0, .long p1)]) C dX2_isSoundDay_163 (by decide) rfl ?_
        refine z_iload C dX2_isSoundDay_165 3 rfl ?_
        refine z_if_eq (tgt := 193) C dX2_isSoundDay_167 (by decide) (fun _ => ?_) (fun h => absurd (by decide) h)
        refine z_iconst (v := 0) C dX2_isSoundDay_193 (by decide) ?_
        exact z_zret C (by decide) ⟨congrArg (fun v => some (Value.int v)) (by rw [f_X2_isSoundDay, if_neg (by rw [h29]; decide : ¬ f_X2_isSoundDay_j1 p1 = 0), if_pos h34, if_pos h38] : (0 : Int32) = (f_X2_isSoundDay p1)), rfl⟩ (by decide) (by decide) dX2_isSoundDay_194
      have K6_1 : f_X2_isSoundDay_j6 p1 = 1 → ((f_X1_dayInMonth (p1 + 1)) = 1) → ((f_X1_monthOfDay (p1 + 1)) = ((f_X1_monthOfDay p1) + 1)) → ((f_X1_weekdayOf (p1 + 1)) = (((f_X1_weekdayOf p1) - (f_X1_weekdayOf p1) / 7 * 7) + 1)) → ZW p l e { frames := 5, cells := 0, slots := 0, locals := 122 } s m args below meth c 12 D (zTys cI cJ) A (zE D (zTys cI cJ) A below args s (fun v w => v = some (.int (f_X2_isSoundDay p1)) ∧ w = X) (fun _ _ => False) 0 0) 0 0 X 138 [(6, .int 0), (5, .int 1), (4, .int (f_X1_dayInMonth p1)), (2, .long (f_X1_monthOfDay p1)), (0, .long p1)] [.int 1] := by
        intro h39 h40 h41 h42
        refine z_istore (lv' := [(7, .int 1), (6, .int 0), (5, .int 1), (4, .int (f_X1_dayInMonth p1)), (2, .long (f_X1_monthOfDay p1)), (0, .long p1)]) C dX2_isSoundDay_138 (by decide) rfl ?_
        refine z_lload_n C dX2_isSoundDay_140 rfl 5 rfl ?_
        refine z_lconst (v := 1) C dX2_isSoundDay_141 (by decide) ?_
        refine z_sl (rest := []) C (c_X1_plusMonths l hfl D cI cJ _ p1 (1 : Int64) ) q_X1_plusMonths gX2_isSoundDay_X1_plusMonths ⟨rfl, rfl⟩ rfl rfl (Nat.le_of_ble_eq_true rfl) ⟨Nat.le_of_ble_eq_true rfl, Nat.le_of_ble_eq_true rfl⟩ ⟨Nat.le_of_ble_eq_true rfl, Nat.le_of_ble_eq_true rfl⟩ dX2_isSoundDay_142 ?_
        refine z_lstore (lv' := [(8, .long (f_X1_plusMonths p1 1)), (7, .int 1), (6, .int 0), (5, .int 1), (4, .int (f_X1_dayInMonth p1)), (2, .long (f_X1_monthOfDay p1)), (0, .long p1)]) C dX2_isSoundDay_145 (by decide) rfl ?_
        refine z_lload_n C dX2_isSoundDay_147 rfl 5 rfl ?_
        refine z_iload C dX2_isSoundDay_148 4 rfl ?_
        refine z_lload_n C dX2_isSoundDay_150 rfl 5 rfl ?_
        refine z_lconst (v := 1) C dX2_isSoundDay_151 (by decide) ?_
        refine z_ladd C dX2_isSoundDay_152 ?_
        refine z_si (rest := [.int (f_X1_dayInMonth p1), .long (f_X1_monthOfDay p1)]) C (c_X1_lengthOfMonth l hfl D cI cJ _ ((f_X1_monthOfDay p1) + 1) ) q_X1_lengthOfMonth gX2_isSoundDay_X1_lengthOfMonth ⟨rfl, rfl⟩ rfl rfl (Nat.le_of_ble_eq_true rfl) ⟨Nat.le_of_ble_eq_true rfl, Nat.le_of_ble_eq_true rfl⟩ ⟨Nat.le_of_ble_eq_true rfl, Nat.le_of_ble_eq_true rfl⟩ dX2_isSoundDay_153 ?_
        refine z_imin C w1 w2 w3 w4 (by decide) (Nat.le_of_ble_eq_true rfl) (Nat.le_of_ble_eq_true rfl) (Nat.le_of_ble_eq_true rfl) dX2_isSoundDay_156 ?_
        refine z_i2l (v := ((if (f_X1_lengthOfMonth ((f_X1_monthOfDay p1) + 1)) < (f_X1_dayInMonth p1) then (f_X1_lengthOfMonth ((f_X1_monthOfDay p1) + 1)) else (f_X1_dayInMonth p1))).toInt64) C dX2_isSoundDay_159 rfl ?_
        refine z_sl (rest := []) C (c_X1_dayOrLast l hfl D cI cJ _ (f_X1_monthOfDay p1) (((if (f_X1_lengthOfMonth ((f_X1_monthOfDay p1) + 1)) < (f_X1_dayInMonth p1) then (f_X1_lengthOfMonth ((f_X1_monthOfDay p1) + 1)) else (f_X1_dayInMonth p1))).toInt64) ) q_X1_dayOrLast gX2_isSoundDay_X1_dayOrLast ⟨rfl, rfl⟩ rfl rfl (Nat.le_of_ble_eq_true rfl) ⟨Nat.le_of_ble_eq_true rfl, Nat.le_of_ble_eq_true rfl⟩ ⟨Nat.le_of_ble_eq_true rfl, Nat.le_of_ble_eq_true rfl⟩ dX2_isSoundDay_160 ?_
        refine z_lstore (lv' := [(10, .long (f_X1_dayOrLast (f_X1_monthOfDay p1) (((if (f_X1_lengthOfMonth ((f_X1_monthOfDay p1) + 1)) < (f_X1_dayInMonth p1) then (f_X1_lengthOfMonth ((f_X1_monthOfDay p1) + 1)) else (f_X1_dayInMonth p1))).toInt64))), (8, .long (f_X1_plusMonths p1 1)), (7, .int 1), (6, .int 0), (5, .int 1), (4, .int (f_X1_dayInMonth p1)), (2, .long (f_X1_monthOfDay p1)), (0, .long p1)]) C dX2_isSoundDay_163 (by decide) rfl ?_
        refine z_iload C dX2_isSoundDay_165 3 rfl ?_
        refine z_if_eq (tgt := 193) C dX2_isSoundDay_167 (by decide) (fun _ => ?_) (fun h => absurd (by decide) h)
        refine z_iconst (v := 0) C dX2_isSoundDay_193 (by decide) ?_
        exact z_zret C (by decide) ⟨congrArg (fun v => some (Value.int v)) (by rw [f_X2_isSoundDay, if_neg (by rw [h29]; decide : ¬ f_X2_isSoundDay_j1 p1 = 0), if_pos h34, if_neg (by rw [h39]; decide : ¬ f_X2_isSoundDay_j6 p1 = 0)] : (0 : Int32) = (f_X2_isSoundDay p1)), rfl⟩ (by decide) (by decide) dX2_isSoundDay_194
      refine z_lcmp_ne (tgt := 137) C dX2_isSoundDay_89 dX2_isSoundDay_90 (by decide) (fun h35 => ?_) (fun h35 => ?_)
      · refine z_iconst (v := 0) C dX2_isSoundDay_137 (by decide) ?_
        exact K6_0 (by rw [f_X2_isSoundDay_j6, if_neg h35]) 
      · refine z_lload_n C dX2_isSoundDay_93 rfl 4 rfl ?_
        refine z_lconst (v := 1) C dX2_isSoundDay_94 (by decide) ?_
        refine z_ladd C dX2_isSoundDay_95 ?_
        refine z_si (rest := []) C (c_X1_dayInMonth l hfl D cI cJ _ (p1 + 1) ) q_X1_dayInMonth gX2_isSoundDay_X1_dayInMonth ⟨rfl, rfl⟩ rfl rfl (Nat.le_of_ble_eq_true rfl) ⟨Nat.le_of_ble_eq_true rfl, Nat.le_of_ble_eq_true rfl⟩ ⟨Nat.le_of_ble_eq_true rfl, Nat.le_of_ble_eq_true rfl⟩ dX2_isSoundDay_96 ?_
        refine z_iload C dX2_isSoundDay_99 1 rfl ?_
        refine z_if_eq (tgt := 108) C dX2_isSoundDay_101 (by decide) (fun h => absurd h (by decide)) (fun _ => ?_)
        refine z_iconst (v := 1) C dX2_isSoundDay_104 (by decide) ?_
        refine z_goto (tgt := 112) C dX2_isSoundDay_105 (by decide) ?_
        refine z_icmp_ne (tgt := 137) C dX2_isSoundDay_112 (by decide) (fun h36 => ?_) (fun h36 => ?_)
        · refine z_iconst (v := 0) C dX2_isSoundDay_137 (by decide) ?_
          exact K6_0 (by rw [f_X2_isSoundDay_j6, if_pos h35, if_neg h36]) 
        · refine z_lload_n C dX2_isSoundDay_115 rfl 4 rfl ?_
          refine z_lconst (v := 1) C dX2_isSoundDay_116 (by decide) ?_
          refine z_ladd C dX2_isSoundDay_117 ?_
          refine z_si (rest := []) C (c_X1_weekdayOf l hfl D cI cJ _ (p1 + 1) ) q_X1_weekdayOf gX2_isSoundDay_X1_weekdayOf ⟨rfl, rfl⟩ rfl rfl (Nat.le_of_ble_eq_true rfl) ⟨Nat.le_of_ble_eq_true rfl, Nat.le_of_ble_eq_true rfl⟩ ⟨Nat.le_of_ble_eq_true rfl, Nat.le_of_ble_eq_true rfl⟩ dX2_isSoundDay_118 ?_
          refine z_lload_n C dX2_isSoundDay_121 rfl 4 rfl ?_
          refine z_si (rest := [.int (f_X1_weekdayOf (p1 + 1))]) C (c_X1_weekdayOf l hfl D cI cJ _ p1 ) q_X1_weekdayOf gX2_isSoundDay_X1_weekdayOf ⟨rfl, rfl⟩ rfl rfl (Nat.le_of_ble_eq_true rfl) ⟨Nat.le_of_ble_eq_true rfl, Nat.le_of_ble_eq_true rfl⟩ ⟨Nat.le_of_ble_eq_true rfl, Nat.le_of_ble_eq_true rfl⟩ dX2_isSoundDay_122 ?_
          refine z_bipush (v := 7) C dX2_isSoundDay_125 (by decide) ?_
          refine z_irem C dX2_isSoundDay_127 (by decide) ?_
          refine z_iconst (v := 1) C dX2_isSoundDay_128 (by decide) ?_
          refine z_iadd C dX2_isSoundDay_129 ?_
          refine z_icmp_ne (tgt := 137) C dX2_isSoundDay_130 (by decide) (fun h37 => ?_) (fun h37 => ?_)
          · refine z_iconst (v := 0) C dX2_isSoundDay_137 (by decide) ?_
            exact K6_0 (by rw [f_X2_isSoundDay_j6, if_pos h35, if_pos h36, if_neg h37]) 
          · refine z_iconst (v := 1) C dX2_isSoundDay_133 (by decide) ?_
            refine z_goto (tgt := 138) C dX2_isSoundDay_134 (by decide) ?_
            exact K6_1 (by rw [f_X2_isSoundDay_j6, if_pos h35, if_pos h36, if_pos h37]) h36 h35 h37
    have K5_1 : f_X2_isSoundDay_j2 p1 = 1 → ((((f_X1_firstOfMonth (f_X1_monthOfDay p1)) + ((f_X1_dayInMonth p1)).toInt64) - 1) = p1) → (¬ (f_X1_isDay p1) = 0) → (¬ (f_X2_isIn (((f_X1_dayInMonth p1)).toInt64) 1 (((f_X1_lengthOfMonth (f_X1_monthOfDay p1))).toInt64)) = 0) → ZW p l e { frames := 5, cells := 0, slots := 0, locals := 122 } s m args below meth c 12 D (zTys cI cJ) A (zE D (zTys cI cJ) A below args s (fun v w => v = some (.int (f_X2_isSoundDay p1)) ∧ w = X) (fun _ _ => False) 0 0) 0 0 X 69 [(5, .int 1), (4, .int (f_X1_dayInMonth p1)), (2, .long (f_X1_monthOfDay p1)), (0, .long p1)] [.int 1] := by
      intro h43 h44 h45 h46
      refine z_istore (lv' := [(6, .int 1), (5, .int 1), (4, .int (f_X1_dayInMonth p1)), (2, .long (f_X1_monthOfDay p1)), (0, .long p1)]) C dX2_isSoundDay_69 (by decide) rfl ?_
      refine z_lload_n C dX2_isSoundDay_71 rfl 4 rfl ?_
      refine z_lconst (v := 1) C dX2_isSoundDay_72 (by decide) ?_
      refine z_ladd C dX2_isSoundDay_73 ?_
      refine z_sl (rest := []) C (c_X1_monthOfDay l hfl D cI cJ _ (p1 + 1) ) q_X1_monthOfDay gX2_isSoundDay_X1_monthOfDay ⟨rfl, rfl⟩ rfl rfl (Nat.le_of_ble_eq_true rfl) ⟨Nat.le_of_ble_eq_true rfl, Nat.le_of_ble_eq_true rfl⟩ ⟨Nat.le_of_ble_eq_true rfl, Nat.le_of_ble_eq_true rfl⟩ dX2_isSoundDay_74 ?_
      refine z_iload C dX2_isSoundDay_77 1 rfl ?_
      refine z_if_eq (tgt := 88) C dX2_isSoundDay_79 (by decide) (fun h => absurd h (by decide)) (fun _ => ?_)
      refine z_lload_n C dX2_isSoundDay_82 rfl 3 rfl ?_
      refine z_lconst (v := 1) C dX2_isSoundDay_83 (by decide) ?_
      refine z_ladd C dX2_isSoundDay_84 ?_
      refine z_goto (tgt := 89) C dX2_isSoundDay_85 (by decide) ?_
      have K7_0 : f_X2_isSoundDay_j6 p1 = 0 → ZW p l e { frames := 5, cells := 0, slots := 0, locals := 122 } s m args below meth c 12 D (zTys cI cJ) A (zE D (zTys cI cJ) A below args s (fun v w => v = some (.int (f_X2_isSoundDay p1)) ∧ w = X) (fun _ _ => False) 0 0) 0 0 X 138 [(6, .int 1), (5, .int 1), (4, .int (f_X1_dayInMonth p1)), (2, .long (f_X1_monthOfDay p1)), (0, .long p1)] [.int 0] := by
        intro h50
        refine z_istore (lv' := [(7, .int 0), (6, .int 1), (5, .int 1), (4, .int (f_X1_dayInMonth p1)), (2, .long (f_X1_monthOfDay p1)), (0, .long p1)]) C dX2_isSoundDay_138 (by decide) rfl ?_
        refine z_lload_n C dX2_isSoundDay_140 rfl 5 rfl ?_
        refine z_lconst (v := 1) C dX2_isSoundDay_141 (by decide) ?_
        refine z_sl (rest := []) C (c_X1_plusMonths l hfl D cI cJ _ p1 (1 : Int64) ) q_X1_plusMonths gX2_isSoundDay_X1_plusMonths ⟨rfl, rfl⟩ rfl rfl (Nat.le_of_ble_eq_true rfl) ⟨Nat.le_of_ble_eq_true rfl, Nat.le_of_ble_eq_true rfl⟩ ⟨Nat.le_of_ble_eq_true rfl, Nat.le_of_ble_eq_true rfl⟩ dX2_isSoundDay_142 ?_
        refine z_lstore (lv' := [(8, .long (f_X1_plusMonths p1 1)), (7, .int 0), (6, .int 1), (5, .int 1), (4, .int (f_X1_dayInMonth p1)), (2, .long (f_X1_monthOfDay p1)), (0, .long p1)]) C dX2_isSoundDay_145 (by decide) rfl ?_
        refine z_lload_n C dX2_isSoundDay_147 rfl 5 rfl ?_
        refine z_iload C dX2_isSoundDay_148 4 rfl ?_
        refine z_lload_n C dX2_isSoundDay_150 rfl 5 rfl ?_
        refine z_lconst (v := 1) C dX2_isSoundDay_151 (by decide) ?_
        refine z_ladd C dX2_isSoundDay_152 ?_
        refine z_si (rest := [.int (f_X1_dayInMonth p1), .long (f_X1_monthOfDay p1)]) C (c_X1_lengthOfMonth l hfl D cI cJ _ ((f_X1_monthOfDay p1) + 1) ) q_X1_lengthOfMonth gX2_isSoundDay_X1_lengthOfMonth ⟨rfl, rfl⟩ rfl rfl (Nat.le_of_ble_eq_true rfl) ⟨Nat.le_of_ble_eq_true rfl, Nat.le_of_ble_eq_true rfl⟩ ⟨Nat.le_of_ble_eq_true rfl, Nat.le_of_ble_eq_true rfl⟩ dX2_isSoundDay_153 ?_
        refine z_imin C w1 w2 w3 w4 (by decide) (Nat.le_of_ble_eq_true rfl) (Nat.le_of_ble_eq_true rfl) (Nat.le_of_ble_eq_true rfl) dX2_isSoundDay_156 ?_
        refine z_i2l (v := ((if (f_X1_lengthOfMonth ((f_X1_monthOfDay p1) + 1)) < (f_X1_dayInMonth p1) then (f_X1_lengthOfMonth ((f_X1_monthOfDay p1) + 1)) else (f_X1_dayInMonth p1))).toInt64) C dX2_isSoundDay_159 rfl ?_
        refine z_sl (rest := []) C (c_X1_dayOrLast l hfl D cI cJ _ (f_X1_monthOfDay p1) (((if (f_X1_lengthOfMonth ((f_X1_monthOfDay p1) + 1)) < (f_X1_dayInMonth p1) then (f_X1_lengthOfMonth ((f_X1_monthOfDay p1) + 1)) else (f_X1_dayInMonth p1))).toInt64) ) q_X1_dayOrLast gX2_isSoundDay_X1_dayOrLast ⟨rfl, rfl⟩ rfl rfl (Nat.le_of_ble_eq_true rfl) ⟨Nat.le_of_ble_eq_true rfl, Nat.le_of_ble_eq_true rfl⟩ ⟨Nat.le_of_ble_eq_true rfl, Nat.le_of_ble_eq_true rfl⟩ dX2_isSoundDay_160 ?_
        refine z_lstore (lv' := [(10, .long (f_X1_dayOrLast (f_X1_monthOfDay p1) (((if (f_X1_lengthOfMonth ((f_X1_monthOfDay p1) + 1)) < (f_X1_dayInMonth p1) then (f_X1_lengthOfMonth ((f_X1_monthOfDay p1) + 1)) else (f_X1_dayInMonth p1))).toInt64))), (8, .long (f_X1_plusMonths p1 1)), (7, .int 0), (6, .int 1), (5, .int 1), (4, .int (f_X1_dayInMonth p1)), (2, .long (f_X1_monthOfDay p1)), (0, .long p1)]) C dX2_isSoundDay_163 (by decide) rfl ?_
        refine z_iload C dX2_isSoundDay_165 3 rfl ?_
        refine z_if_eq (tgt := 193) C dX2_isSoundDay_167 (by decide) (fun h => absurd h (by decide)) (fun _ => ?_)
        refine z_iload C dX2_isSoundDay_170 2 rfl ?_
        refine z_if_eq (tgt := 193) C dX2_isSoundDay_172 (by decide) (fun _ => ?_) (fun h => absurd (by decide) h)
        refine z_iconst (v := 0) C dX2_isSoundDay_193 (by decide) ?_
        exact z_zret C (by decide) ⟨congrArg (fun v => some (Value.int v)) (by rw [f_X2_isSoundDay, if_neg (by rw [h29]; decide : ¬ f_X2_isSoundDay_j1 p1 = 0), if_neg (by rw [h43]; decide : ¬ f_X2_isSoundDay_j2 p1 = 0), if_pos h50] : (0 : Int32) = (f_X2_isSoundDay p1)), rfl⟩ (by decide) (by decide) dX2_isSoundDay_194
      have K7_1 : f_X2_isSoundDay_j6 p1 = 1 → ((f_X1_dayInMonth (p1 + 1)) = 1) → ((f_X1_monthOfDay (p1 + 1)) = ((f_X1_monthOfDay p1) + 1)) → ((f_X1_weekdayOf (p1 + 1)) = (((f_X1_weekdayOf p1) - (f_X1_weekdayOf p1) / 7 * 7) + 1)) → ZW p l e { frames := 5, cells := 0, slots := 0, locals := 122 } s m args below meth c 12 D (zTys cI cJ) A (zE D (zTys cI cJ) A below args s (fun v w => v = some (.int (f_X2_isSoundDay p1)) ∧ w = X) (fun _ _ => False) 0 0) 0 0 X 138 [(6, .int 1), (5, .int 1), (4, .int (f_X1_dayInMonth p1)), (2, .long (f_X1_monthOfDay p1)), (0, .long p1)] [.int 1] := by
        intro h51 h52 h53 h54
        refine z_istore (lv' := [(7, .int 1), (6, .int 1), (5, .int 1), (4, .int (f_X1_dayInMonth p1)), (2, .long (f_X1_monthOfDay p1)), (0, .long p1)]) C dX2_isSoundDay_138 (by decide) rfl ?_
        refine z_lload_n C dX2_isSoundDay_140 rfl 5 rfl ?_
        refine z_lconst (v := 1) C dX2_isSoundDay_141 (by decide) ?_
        refine z_sl (rest := []) C (c_X1_plusMonths l hfl D cI cJ _ p1 (1 : Int64) ) q_X1_plusMonths gX2_isSoundDay_X1_plusMonths ⟨rfl, rfl⟩ rfl rfl (Nat.le_of_ble_eq_true rfl) ⟨Nat.le_of_ble_eq_true rfl, Nat.le_of_ble_eq_true rfl⟩ ⟨Nat.le_of_ble_eq_true rfl, Nat.le_of_ble_eq_true rfl⟩ dX2_isSoundDay_142 ?_
        refine z_lstore (lv' := [(8, .long (f_X1_plusMonths p1 1)), (7, .int 1), (6, .int 1), (5, .int 1), (4, .int (f_X1_dayInMonth p1)), (2, .long (f_X1_monthOfDay p1)), (0, .long p1)]) C dX2_isSoundDay_145 (by decide) rfl ?_
        refine z_lload_n C dX2_isSoundDay_147 rfl 5 rfl ?_
        refine z_iload C dX2_isSoundDay_148 4 rfl ?_
        refine z_lload_n C dX2_isSoundDay_150 rfl 5 rfl ?_
        refine z_lconst (v := 1) C dX2_isSoundDay_151 (by decide) ?_
        refine z_ladd C dX2_isSoundDay_152 ?_
        refine z_si (rest := [.int (f_X1_dayInMonth p1), .long (f_X1_monthOfDay p1)]) C (c_X1_lengthOfMonth l hfl D cI cJ _ ((f_X1_monthOfDay p1) + 1) ) q_X1_lengthOfMonth gX2_isSoundDay_X1_lengthOfMonth ⟨rfl, rfl⟩ rfl rfl (Nat.le_of_ble_eq_true rfl) ⟨Nat.le_of_ble_eq_true rfl, Nat.le_of_ble_eq_true rfl⟩ ⟨Nat.le_of_ble_eq_true rfl, Nat.le_of_ble_eq_true rfl⟩ dX2_isSoundDay_153 ?_
        refine z_imin C w1 w2 w3 w4 (by decide) (Nat.le_of_ble_eq_true rfl) (Nat.le_of_ble_eq_true rfl) (Nat.le_of_ble_eq_true rfl) dX2_isSoundDay_156 ?_
        refine z_i2l (v := ((if (f_X1_lengthOfMonth ((f_X1_monthOfDay p1) + 1)) < (f_X1_dayInMonth p1) then (f_X1_lengthOfMonth ((f_X1_monthOfDay p1) + 1)) else (f_X1_dayInMonth p1))).toInt64) C dX2_isSoundDay_159 rfl ?_
        refine z_sl (rest := []) C (c_X1_dayOrLast l hfl D cI cJ _ (f_X1_monthOfDay p1) (((if (f_X1_lengthOfMonth ((f_X1_monthOfDay p1) + 1)) < (f_X1_dayInMonth p1) then (f_X1_lengthOfMonth ((f_X1_monthOfDay p1) + 1)) else (f_X1_dayInMonth p1))).toInt64) ) q_X1_dayOrLast gX2_isSoundDay_X1_dayOrLast ⟨rfl, rfl⟩ rfl rfl (Nat.le_of_ble_eq_true rfl) ⟨Nat.le_of_ble_eq_true rfl, Nat.le_of_ble_eq_true rfl⟩ ⟨Nat.le_of_ble_eq_true rfl, Nat.le_of_ble_eq_true rfl⟩ dX2_isSoundDay_160 ?_
        refine z_lstore (lv' := [(10, .long (f_X1_dayOrLast (f_X1_monthOfDay p1) (((if (f_X1_lengthOfMonth ((f_X1_monthOfDay p1) + 1)) < (f_X1_dayInMonth p1) then (f_X1_lengthOfMonth ((f_X1_monthOfDay p1) + 1)) else (f_X1_dayInMonth p1))).toInt64))), (8, .long (f_X1_plusMonths p1 1)), (7, .int 1), (6, .int 1), (5, .int 1), (4, .int (f_X1_dayInMonth p1)), (2, .long (f_X1_monthOfDay p1)), (0, .long p1)]) C dX2_isSoundDay_163 (by decide) rfl ?_
        refine z_iload C dX2_isSoundDay_165 3 rfl ?_
        refine z_if_eq (tgt := 193) C dX2_isSoundDay_167 (by decide) (fun h => absurd h (by decide)) (fun _ => ?_)
        refine z_iload C dX2_isSoundDay_170 2 rfl ?_
        refine z_if_eq (tgt := 193) C dX2_isSoundDay_172 (by decide) (fun h => absurd h (by decide)) (fun _ => ?_)
        refine z_lload C dX2_isSoundDay_175 1 rfl ?_
        refine z_ldc2 (v := (-1)) C w5 dX2_isSoundDay_177 ?_
        refine z_sl (rest := []) C (c_X1_plusMonths l hfl D cI cJ _ (f_X1_plusMonths p1 1) ((-1) : Int64) ) q_X1_plusMonths gX2_isSoundDay_X1_plusMonths ⟨rfl, rfl⟩ rfl rfl (Nat.le_of_ble_eq_true rfl) ⟨Nat.le_of_ble_eq_true rfl, Nat.le_of_ble_eq_true rfl⟩ ⟨Nat.le_of_ble_eq_true rfl, Nat.le_of_ble_eq_true rfl⟩ dX2_isSoundDay_180 ?_
        refine z_lload C dX2_isSoundDay_183 0 rfl ?_
        refine z_lcmp_ne (tgt := 193) C dX2_isSoundDay_185 dX2_isSoundDay_186 (by decide) (fun h55 => ?_) (fun h55 => ?_)
        · refine z_iconst (v := 0) C dX2_isSoundDay_193 (by decide) ?_
          exact z_zret C (by decide) ⟨congrArg (fun v => some (Value.int v)) (by rw [f_X2_isSoundDay, if_neg (by rw [h29]; decide : ¬ f_X2_isSoundDay_j1 p1 = 0), if_neg (by rw [h43]; decide : ¬ f_X2_isSoundDay_j2 p1 = 0), if_neg (by rw [h51]; decide : ¬ f_X2_isSoundDay_j6 p1 = 0), if_neg h55] : (0 : Int32) = (f_X2_isSoundDay p1)), rfl⟩ (by decide) (by decide) dX2_isSoundDay_194
        · refine z_iconst (v := 1) C dX2_isSoundDay_189 (by decide) ?_
          refine z_goto (tgt := 194) C dX2_isSoundDay_190 (by decide) ?_
          exact z_zret C (by decide) ⟨congrArg (fun v => some (Value.int v)) (by rw [f_X2_isSoundDay, if_neg (by rw [h29]; decide : ¬ f_X2_isSoundDay_j1 p1 = 0), if_neg (by rw [h43]; decide : ¬ f_X2_isSoundDay_j2 p1 = 0), if_neg (by rw [h51]; decide : ¬ f_X2_isSoundDay_j6 p1 = 0), if_pos h55] : (1 : Int32) = (f_X2_isSoundDay p1)), rfl⟩ (by decide) (by decide) dX2_isSoundDay_194
      refine z_lcmp_ne (tgt := 137) C dX2_isSoundDay_89 dX2_isSoundDay_90 (by decide) (fun h47 => ?_) (fun h47 => ?_)
      · refine z_iconst (v := 0) C dX2_isSoundDay_137 (by decide) ?_
        exact K7_0 (by rw [f_X2_isSoundDay_j6, if_neg h47]) 
      · refine z_lload_n C dX2_isSoundDay_93 rfl 4 rfl ?_
        refine z_lconst (v := 1) C dX2_isSoundDay_94 (by decide) ?_
        refine z_ladd C dX2_isSoundDay_95 ?_
        refine z_si (rest := []) C (c_X1_dayInMonth l hfl D cI cJ _ (p1 + 1) ) q_X1_dayInMonth gX2_isSoundDay_X1_dayInMonth ⟨rfl, rfl⟩ rfl rfl (Nat.le_of_ble_eq_true rfl) ⟨Nat.le_of_ble_eq_true rfl, Nat.le_of_ble_eq_true rfl⟩ ⟨Nat.le_of_ble_eq_true rfl, Nat.le_of_ble_eq_true rfl⟩ dX2_isSoundDay_96 ?_
        refine z_iload C dX2_isSoundDay_99 1 rfl ?_
        refine z_if_eq (tgt := 108) C dX2_isSoundDay_101 (by decide) (fun h => absurd h (by decide)) (fun _ => ?_)
        refine z_iconst (v := 1) C dX2_isSoundDay_104 (by decide) ?_
        refine z_goto (tgt := 112) C dX2_isSoundDay_105 (by decide) ?_
        refine z_icmp_ne (tgt := 137) C dX2_isSoundDay_112 (by decide) (fun h48 => ?_) (fun h48 => ?_)
        · refine z_iconst (v := 0) C dX2_isSoundDay_137 (by decide) ?_
          exact K7_0 (by rw [f_X2_isSoundDay_j6, if_pos h47, if_neg h48]) 
        · refine z_lload_n C dX2_isSoundDay_115 rfl 4 rfl ?_
          refine z_lconst (v := 1) C dX2_isSoundDay_116 (by decide) ?_
          refine z_ladd C dX2_isSoundDay_117 ?_
          refine z_si (rest := []) C (c_X1_weekdayOf l hfl D cI cJ _ (p1 + 1) ) q_X1_weekdayOf gX2_isSoundDay_X1_weekdayOf ⟨rfl, rfl⟩ rfl rfl (Nat.le_of_ble_eq_true rfl) ⟨Nat.le_of_ble_eq_true rfl, Nat.le_of_ble_eq_true rfl⟩ ⟨Nat.le_of_ble_eq_true rfl, Nat.le_of_ble_eq_true rfl⟩ dX2_isSoundDay_118 ?_
          refine z_lload_n C dX2_isSoundDay_121 rfl 4 rfl ?_
          refine z_si (rest := [.int (f_X1_weekdayOf (p1 + 1))]) C (c_X1_weekdayOf l hfl D cI cJ _ p1 ) q_X1_weekdayOf gX2_isSoundDay_X1_weekdayOf ⟨rfl, rfl⟩ rfl rfl (Nat.le_of_ble_eq_true rfl) ⟨Nat.le_of_ble_eq_true rfl, Nat.le_of_ble_eq_true rfl⟩ ⟨Nat.le_of_ble_eq_true rfl, Nat.le_of_ble_eq_true rfl⟩ dX2_isSoundDay_122 ?_
          refine z_bipush (v := 7) C dX2_isSoundDay_125 (by decide) ?_
          refine z_irem C dX2_isSoundDay_127 (by decide) ?_
          refine z_iconst (v := 1) C dX2_isSoundDay_128 (by decide) ?_
          refine z_iadd C dX2_isSoundDay_129 ?_
          refine z_icmp_ne (tgt := 137) C dX2_isSoundDay_130 (by decide) (fun h49 => ?_) (fun h49 => ?_)
          · refine z_iconst (v := 0) C dX2_isSoundDay_137 (by decide) ?_
            exact K7_0 (by rw [f_X2_isSoundDay_j6, if_pos h47, if_pos h48, if_neg h49]) 
          · refine z_iconst (v := 1) C dX2_isSoundDay_133 (by decide) ?_
            refine z_goto (tgt := 138) C dX2_isSoundDay_134 (by decide) ?_
            exact K7_1 (by rw [f_X2_isSoundDay_j6, if_pos h47, if_pos h48, if_pos h49]) h48 h47 h49
    refine z_if_eq (tgt := 68) C dX2_isSoundDay_31 (by decide) (fun h31 => ?_) (fun h31 => ?_)
    · refine z_iconst (v := 0) C dX2_isSoundDay_68 (by decide) ?_
      exact K5_0 (by rw [f_X2_isSoundDay_j2, if_pos h31]) 
    · refine z_iload C dX2_isSoundDay_34 1 rfl ?_
      refine z_i2l (v := ((f_X1_dayInMonth p1)).toInt64) C dX2_isSoundDay_36 rfl ?_
      refine z_lconst (v := 1) C dX2_isSoundDay_37 (by decide) ?_
      refine z_lload_n C dX2_isSoundDay_38 rfl 2 rfl ?_
      refine z_si (rest := [.long 1, .long ((f_X1_dayInMonth p1)).toInt64]) C (c_X1_lengthOfMonth l hfl D cI cJ _ (f_X1_monthOfDay p1) ) q_X1_lengthOfMonth gX2_isSoundDay_X1_lengthOfMonth ⟨rfl, rfl⟩ rfl rfl (Nat.le_of_ble_eq_true rfl) ⟨Nat.le_of_ble_eq_true rfl, Nat.le_of_ble_eq_true rfl⟩ ⟨Nat.le_of_ble_eq_true rfl, Nat.le_of_ble_eq_true rfl⟩ dX2_isSoundDay_39 ?_
      refine z_i2l (v := ((f_X1_lengthOfMonth (f_X1_monthOfDay p1))).toInt64) C dX2_isSoundDay_42 rfl ?_
      refine z_si (rest := []) C (c_X2_isIn l hfl D cI cJ _ (((f_X1_dayInMonth p1)).toInt64) (1 : Int64) (((f_X1_lengthOfMonth (f_X1_monthOfDay p1))).toInt64) ) q_X2_isIn gX2_isSoundDay_X2_isIn ⟨rfl, rfl⟩ rfl rfl (Nat.le_of_ble_eq_true rfl) ⟨Nat.le_of_ble_eq_true rfl, Nat.le_of_ble_eq_true rfl⟩ ⟨Nat.le_of_ble_eq_true rfl, Nat.le_of_ble_eq_true rfl⟩ dX2_isSoundDay_43 ?_
      refine z_if_eq (tgt := 68) C dX2_isSoundDay_46 (by decide) (fun h32 => ?_) (fun h32 => ?_)
      · refine z_iconst (v := 0) C dX2_isSoundDay_68 (by decide) ?_
        exact K5_0 (by rw [f_X2_isSoundDay_j2, if_neg h31, if_pos h32]) 
      · refine z_lload_n C dX2_isSoundDay_49 rfl 2 rfl ?_
        refine z_sl (rest := []) C (c_X1_firstOfMonth l hfl D cI cJ _ (f_X1_monthOfDay p1) ) q_X1_firstOfMonth gX2_isSoundDay_X1_firstOfMonth ⟨rfl, rfl⟩ rfl rfl (Nat.le_of_ble_eq_true rfl) ⟨Nat.le_of_ble_eq_true rfl, Nat.le_of_ble_eq_true rfl⟩ ⟨Nat.le_of_ble_eq_true rfl, Nat.le_of_ble_eq_true rfl⟩ dX2_isSoundDay_50 ?_
        refine z_iload C dX2_isSoundDay_53 1 rfl ?_
        refine z_i2l (v := ((f_X1_dayInMonth p1)).toInt64) C dX2_isSoundDay_55 rfl ?_
        refine z_ladd C dX2_isSoundDay_56 ?_
        refine z_lconst (v := 1) C dX2_isSoundDay_57 (by decide) ?_
        refine z_lsub C dX2_isSoundDay_58 ?_
        refine z_lload_n C dX2_isSoundDay_59 rfl 3 rfl ?_
        refine z_lcmp_ne (tgt := 68) C dX2_isSoundDay_60 dX2_isSoundDay_61 (by decide) (fun h33 => ?_) (fun h33 => ?_)
        · refine z_iconst (v := 0) C dX2_isSoundDay_68 (by decide) ?_
          exact K5_0 (by rw [f_X2_isSoundDay_j2, if_neg h31, if_neg h32, if_neg h33]) 
        · refine z_iconst (v := 1) C dX2_isSoundDay_64 (by decide) ?_
          refine z_goto (tgt := 69) C dX2_isSoundDay_65 (by decide) ?_
          exact K5_1 (by rw [f_X2_isSoundDay_j2, if_neg h31, if_neg h32, if_pos h33]) h33 h31 h32
  refine z_icmp_ne (tgt := 24) C dX2_isSoundDay_17 (by decide) (fun h1 => ?_) (fun h1 => ?_)
  · refine z_iconst (v := 0) C dX2_isSoundDay_24 (by decide) ?_
    exact K1_0 (by rw [f_X2_isSoundDay_j1, if_neg h1]) h1
  · refine z_iconst (v := 1) C dX2_isSoundDay_20 (by decide) ?_
    refine z_goto (tgt := 25) C dX2_isSoundDay_21 (by decide) ?_
    exact K1_1 (by rw [f_X2_isSoundDay_j1, if_pos h1]) h1
theorem b_X2_isSoundDay (p1 : Int64) : f_X2_isSoundDay p1 = 0 ∨ f_X2_isSoundDay p1 = 1 := by
  unfold f_X2_isSoundDay
  repeat (first | apply z01_ite | exact Or.inl rfl | exact Or.inr rfl | apply zbor)
def f_X2_isSoundWay (p1 : Int64) (p2 : Int64) : Int32 := (if p1 ≤ p2 then (if (f_X1_wholeMonths p1 p2) < 0 then 0 else (if p2 < (f_X1_plusMonths p1 (f_X1_wholeMonths p1 p2)) then 0 else (if 31 ≤ (p2 - (f_X1_plusMonths p1 (f_X1_wholeMonths p1 p2))) then 0 else 1))) else (if 0 < (f_X1_wholeMonths p1 p2) then 0 else (if (f_X1_wholeMonths p1 p2) = (-(f_X1_wholeMonths p2 p1)) then 1 else 0)))
theorem q_X2_isSoundWay : ZY yX2_isSoundWay wsX2_isSoundWay cX2_isSoundWay 8 (some .boolean) 2 := ⟨⟨_, rfl⟩, by decide +kernel, by decide +kernel, by decide +kernel⟩
set_option maxHeartbeats 4000000 in
set_option maxRecDepth 100000 in
theorem c_X2_isSoundWay (l : Launch) (hfl : l.stackTraces = false) (D : va_G) (cI cJ : ClassId) (X : va_W) (p1 : Int64) (p2 : Int64)  : ZM l yX2_isSoundWay wsX2_isSoundWay { frames := 5, cells := 0, slots := 0, locals := 130 } [.long p1, .long p2] D (zTys cI cJ) X 0 0 (fun v w => v = some (.int (f_X2_isSoundWay p1 p2)) ∧ w = X) (fun _ _ => False) := by
  refine z_open (own := RX2) hfl (cc := cX2_isSoundWay) (maxL := 8) (ret := (some .boolean)) (lv := [(0, .long p1), (2, .long p2)]) rfl (by decide) rfl rfl (Nat.le_of_ble_eq_true rfl) ?_
  intro p e s m args below meth c A C hno hnm hargs
  have w1 := C.1.2.2.2.2 (.constantLong RX2 256 (31)) (by decide +kernel)
  refine z_lload_n C dX2_isSoundWay_0 rfl 0 rfl ?_
  refine z_lload_n C dX2_isSoundWay_1 rfl 1 rfl ?_
  refine z_sl (rest := []) C (c_X1_wholeMonths l hfl D cI cJ _ p1 p2 ) q_X1_wholeMonths gX2_isSoundWay_X1_wholeMonths ⟨rfl, rfl⟩ rfl rfl (Nat.le_of_ble_eq_true rfl) ⟨Nat.le_of_ble_eq_true rfl, Nat.le_of_ble_eq_true rfl⟩ ⟨Nat.le_of_ble_eq_true rfl, Nat.le_of_ble_eq_true rfl⟩ dX2_isSoundWay_2 ?_
  refine z_lstore (lv' := [(4, .long (f_X1_wholeMonths p1 p2)), (0, .long p1), (2, .long p2)]) C dX2_isSoundWay_5 (by decide) rfl ?_
  refine z_lload_n C dX2_isSoundWay_7 rfl 2 rfl ?_
  refine z_lload_n C dX2_isSoundWay_8 rfl 1 rfl ?_
  refine z_lcmp_ge (tgt := 38) C dX2_isSoundWay_9 dX2_isSoundWay_10 (by decide) (fun h1 => ?_) (fun h1 => ?_)
  · refine z_lload_n C dX2_isSoundWay_38 rfl 1 rfl ?_
    refine z_lload C dX2_isSoundWay_39 0 rfl ?_
    refine z_sl (rest := []) C (c_X1_plusMonths l hfl D cI cJ _ p1 (f_X1_wholeMonths p1 p2) ) q_X1_plusMonths gX2_isSoundWay_X1_plusMonths ⟨rfl, rfl⟩ rfl rfl (Nat.le_of_ble_eq_true rfl) ⟨Nat.le_of_ble_eq_true rfl, Nat.le_of_ble_eq_true rfl⟩ ⟨Nat.le_of_ble_eq_true rfl, Nat.le_of_ble_eq_true rfl⟩ dX2_isSoundWay_41 ?_
    refine z_lstore (lv' := [(6, .long (f_X1_plusMonths p1 (f_X1_wholeMonths p1 p2))), (4, .long (f_X1_wholeMonths p1 p2)), (0, .long p1), (2, .long p2)]) C dX2_isSoundWay_44 (by decide) rfl ?_
    refine z_lload C dX2_isSoundWay_46 1 rfl ?_
    refine z_lconst (v := 0) C dX2_isSoundWay_48 (by decide) ?_
    refine z_lcmp_lt (tgt := 75) C dX2_isSoundWay_49 dX2_isSoundWay_50 (by decide) (fun h2 => ?_) (fun h2 => ?_)
    · refine z_iconst (v := 0) C dX2_isSoundWay_75 (by decide) ?_
      exact z_zret C (by decide) ⟨congrArg (fun v => some (Value.int v)) (by rw [f_X2_isSoundWay, if_pos h1, if_pos h2] : (0 : Int32) = (f_X2_isSoundWay p1 p2)), rfl⟩ (by decide) (by decide) dX2_isSoundWay_76
    · refine z_lload C dX2_isSoundWay_53 0 rfl ?_
      refine z_lload_n C dX2_isSoundWay_55 rfl 3 rfl ?_
      refine z_lcmp_gt (tgt := 75) C dX2_isSoundWay_56 dX2_isSoundWay_57 (by decide) (fun h3 => ?_) (fun h3 => ?_)
      · refine z_iconst (v := 0) C dX2_isSoundWay_75 (by decide) ?_
        exact z_zret C (by decide) ⟨congrArg (fun v => some (Value.int v)) (by rw [f_X2_isSoundWay, if_pos h1, if_neg h2, if_pos h3] : (0 : Int32) = (f_X2_isSoundWay p1 p2)), rfl⟩ (by decide) (by decide) dX2_isSoundWay_76
      · refine z_lload_n C dX2_isSoundWay_60 rfl 3 rfl ?_
        refine z_lload C dX2_isSoundWay_61 0 rfl ?_
        refine z_lsub C dX2_isSoundWay_63 ?_
        refine z_ldc2 (v := 31) C w1 dX2_isSoundWay_64 ?_
        refine z_lcmp_ge (tgt := 75) C dX2_isSoundWay_67 dX2_isSoundWay_68 (by decide) (fun h4 => ?_) (fun h4 => ?_)
        · refine z_iconst (v := 0) C dX2_isSoundWay_75 (by decide) ?_
          exact z_zret C (by decide) ⟨congrArg (fun v => some (Value.int v)) (by rw [f_X2_isSoundWay, if_pos h1, if_neg h2, if_neg h3, if_pos h4] : (0 : Int32) = (f_X2_isSoundWay p1 p2)), rfl⟩ (by decide) (by decide) dX2_isSoundWay_76
        · refine z_iconst (v := 1) C dX2_isSoundWay_71 (by decide) ?_
          refine z_goto (tgt := 76) C dX2_isSoundWay_72 (by decide) ?_
          exact z_zret C (by decide) ⟨congrArg (fun v => some (Value.int v)) (by rw [f_X2_isSoundWay, if_pos h1, if_neg h2, if_neg h3, if_neg h4] : (1 : Int32) = (f_X2_isSoundWay p1 p2)), rfl⟩ (by decide) (by decide) dX2_isSoundWay_76
  · refine z_lload C dX2_isSoundWay_13 0 rfl ?_
    refine z_lconst (v := 0) C dX2_isSoundWay_15 (by decide) ?_
    refine z_lcmp_gt (tgt := 36) C dX2_isSoundWay_16 dX2_isSoundWay_17 (by decide) (fun h5 => ?_) (fun h5 => ?_)
    · refine z_iconst (v := 0) C dX2_isSoundWay_36 (by decide) ?_
      exact z_zret C (by decide) ⟨congrArg (fun v => some (Value.int v)) (by rw [f_X2_isSoundWay, if_neg h1, if_pos h5] : (0 : Int32) = (f_X2_isSoundWay p1 p2)), rfl⟩ (by decide) (by decide) dX2_isSoundWay_37
    · refine z_lload C dX2_isSoundWay_20 0 rfl ?_
      refine z_lload_n C dX2_isSoundWay_22 rfl 2 rfl ?_
      refine z_lload_n C dX2_isSoundWay_23 rfl 1 rfl ?_
      refine z_sl (rest := [.long (f_X1_wholeMonths p1 p2)]) C (c_X1_wholeMonths l hfl D cI cJ _ p2 p1 ) q_X1_wholeMonths gX2_isSoundWay_X1_wholeMonths ⟨rfl, rfl⟩ rfl rfl (Nat.le_of_ble_eq_true rfl) ⟨Nat.le_of_ble_eq_true rfl, Nat.le_of_ble_eq_true rfl⟩ ⟨Nat.le_of_ble_eq_true rfl, Nat.le_of_ble_eq_true rfl⟩ dX2_isSoundWay_24 ?_
      refine z_lneg C dX2_isSoundWay_27 ?_
      refine z_lcmp_ne (tgt := 36) C dX2_isSoundWay_28 dX2_isSoundWay_29 (by decide) (fun h6 => ?_) (fun h6 => ?_)
      · refine z_iconst (v := 0) C dX2_isSoundWay_36 (by decide) ?_
        exact z_zret C (by decide) ⟨congrArg (fun v => some (Value.int v)) (by rw [f_X2_isSoundWay, if_neg h1, if_neg h5, if_neg h6] : (0 : Int32) = (f_X2_isSoundWay p1 p2)), rfl⟩ (by decide) (by decide) dX2_isSoundWay_37
      · refine z_iconst (v := 1) C dX2_isSoundWay_32 (by decide) ?_
        refine z_goto (tgt := 37) C dX2_isSoundWay_33 (by decide) ?_
        exact z_zret C (by decide) ⟨congrArg (fun v => some (Value.int v)) (by rw [f_X2_isSoundWay, if_neg h1, if_neg h5, if_pos h6] : (1 : Int32) = (f_X2_isSoundWay p1 p2)), rfl⟩ (by decide) (by decide) dX2_isSoundWay_37
theorem b_X2_isSoundWay (p1 : Int64) (p2 : Int64) : f_X2_isSoundWay p1 p2 = 0 ∨ f_X2_isSoundWay p1 p2 = 1 := by
  unfold f_X2_isSoundWay
  repeat (first | apply z01_ite | exact Or.inl rfl | exact Or.inr rfl | apply zbor)
def f_X2_isSoundTimeWay (p1 : Int64) (p2 : Int64) : Int32 := (if (f_X0_roundDay ((p1 + (f_X0_restOfDay (f_J9_floorDiv_f86c9 (p2 - p1) 1000000000) 86400)) + (f_J9_floorMod_f86c9 (p2 - p1) 1000000000))) = p2 then 1 else 0)
theorem q_X2_isSoundTimeWay : ZY yX2_isSoundTimeWay wsX2_isSoundTimeWay cX2_isSoundTimeWay 8 (some .boolean) 2 := ⟨⟨_, rfl⟩, by decide +kernel, by decide +kernel, by decide +kernel⟩
set_option maxHeartbeats 4000000 in
set_option maxRecDepth 100000 in
theorem c_X2_isSoundTimeWay (l : Launch) (hfl : l.stackTraces = false) (D : va_G) (cI cJ : ClassId) (X : va_W) (p1 : Int64) (p2 : Int64)  : ZM l yX2_isSoundTimeWay wsX2_isSoundTimeWay { frames := 2, cells := 0, slots := 0, locals := 48 } [.long p1, .long p2] D (zTys cI cJ) X 0 0 (fun v w => v = some (.int (f_X2_isSoundTimeWay p1 p2)) ∧ w = X) (fun _ _ => False) := by
  refine z_open (own := RX2) hfl (cc := cX2_isSoundTimeWay) (maxL := 8) (ret := (some .boolean)) (lv := [(0, .long p1), (2, .long p2)]) rfl (by decide) rfl rfl (Nat.le_of_ble_eq_true rfl) ?_
  intro p e s m args below meth c A C hno hnm hargs
  have w1 := C.1.2.2.2.2 (.constantLong RX2 197 (1000000000)) (by decide +kernel)
  have w2 := C.1.2.2.2.2 (.constantLong RX2 221 (86400)) (by decide +kernel)
  refine z_lload_n C dX2_isSoundTimeWay_0 rfl 1 rfl ?_
  refine z_lload_n C dX2_isSoundTimeWay_1 rfl 0 rfl ?_
  refine z_lsub C dX2_isSoundTimeWay_2 ?_
  refine z_ldc2 (v := 1000000000) C w1 dX2_isSoundTimeWay_3 ?_
  refine z_sl (rest := []) C (c_J9_floorDiv_f86c9 l hfl D cI cJ _ (p2 - p1) (1000000000 : Int64) (by decide)) q_J9_floorDiv_f86c9 gX2_isSoundTimeWay_J9_floorDiv_f86c9 ⟨rfl, rfl⟩ rfl rfl (Nat.le_of_ble_eq_true rfl) ⟨Nat.le_of_ble_eq_true rfl, Nat.le_of_ble_eq_true rfl⟩ ⟨Nat.le_of_ble_eq_true rfl, Nat.le_of_ble_eq_true rfl⟩ dX2_isSoundTimeWay_6 ?_
  refine z_lstore (lv' := [(4, .long (f_J9_floorDiv_f86c9 (p2 - p1) 1000000000)), (0, .long p1), (2, .long p2)]) C dX2_isSoundTimeWay_9 (by decide) rfl ?_
  refine z_lload_n C dX2_isSoundTimeWay_11 rfl 2 rfl ?_
  refine z_lload_n C dX2_isSoundTimeWay_12 rfl 1 rfl ?_
  refine z_lsub C dX2_isSoundTimeWay_13 ?_
  refine z_ldc2 (v := 1000000000) C w1 dX2_isSoundTimeWay_14 ?_
  refine z_sl (rest := []) C (c_J9_floorMod_f86c9 l hfl D cI cJ _ (p2 - p1) (1000000000 : Int64) (by decide)) q_J9_floorMod_f86c9 gX2_isSoundTimeWay_J9_floorMod_f86c9 ⟨rfl, rfl⟩ rfl rfl (Nat.le_of_ble_eq_true rfl) ⟨Nat.le_of_ble_eq_true rfl, Nat.le_of_ble_eq_true rfl⟩ ⟨Nat.le_of_ble_eq_true rfl, Nat.le_of_ble_eq_true rfl⟩ dX2_isSoundTimeWay_17 ?_
  refine z_lstore (lv' := [(6, .long (f_J9_floorMod_f86c9 (p2 - p1) 1000000000)), (4, .long (f_J9_floorDiv_f86c9 (p2 - p1) 1000000000)), (0, .long p1), (2, .long p2)]) C dX2_isSoundTimeWay_20 (by decide) rfl ?_
  refine z_lload_n C dX2_isSoundTimeWay_22 rfl 2 rfl ?_
  refine z_lload C dX2_isSoundTimeWay_23 1 rfl ?_
  refine z_ldc2 (v := 86400) C w2 dX2_isSoundTimeWay_25 ?_
  refine z_sl (rest := [.long p1]) C (c_X0_restOfDay l hfl D cI cJ _ (f_J9_floorDiv_f86c9 (p2 - p1) 1000000000) (86400 : Int64) ) q_X0_restOfDay gX2_isSoundTimeWay_X0_restOfDay ⟨rfl, rfl⟩ rfl rfl (Nat.le_of_ble_eq_true rfl) ⟨Nat.le_of_ble_eq_true rfl, Nat.le_of_ble_eq_true rfl⟩ ⟨Nat.le_of_ble_eq_true rfl, Nat.le_of_ble_eq_true rfl⟩ dX2_isSoundTimeWay_28 ?_
  refine z_ladd C dX2_isSoundTimeWay_31 ?_
  refine z_lload C dX2_isSoundTimeWay_32 0 rfl ?_
  refine z_ladd C dX2_isSoundTimeWay_34 ?_
  refine z_sl (rest := []) C (c_X0_roundDay l hfl D cI cJ _ ((p1 + (f_X0_restOfDay (f_J9_floorDiv_f86c9 (p2 - p1) 1000000000) 86400)) + (f_J9_floorMod_f86c9 (p2 - p1) 1000000000)) ) q_X0_roundDay gX2_isSoundTimeWay_X0_roundDay ⟨rfl, rfl⟩ rfl rfl (Nat.le_of_ble_eq_true rfl) ⟨Nat.le_of_ble_eq_true rfl, Nat.le_of_ble_eq_true rfl⟩ ⟨Nat.le_of_ble_eq_true rfl, Nat.le_of_ble_eq_true rfl⟩ dX2_isSoundTimeWay_35 ?_
  refine z_lload_n C dX2_isSoundTimeWay_38 rfl 3 rfl ?_
  refine z_lcmp_ne (tgt := 47) C dX2_isSoundTimeWay_39 dX2_isSoundTimeWay_40 (by decide) (fun h1 => ?_) (fun h1 => ?_)
  · refine z_iconst (v := 0) C dX2_isSoundTimeWay_47 (by decide) ?_
    exact z_zret C (by decide) ⟨congrArg (fun v => some (Value.int v)) (by rw [f_X2_isSoundTimeWay, if_neg h1] : (0 : Int32) = (f_X2_isSoundTimeWay p1 p2)), rfl⟩ (by decide) (by decide) dX2_isSoundTimeWay_48
  · refine z_iconst (v := 1) C dX2_isSoundTimeWay_43 (by decide) ?_
    refine z_goto (tgt := 48) C dX2_isSoundTimeWay_44 (by decide) ?_
    exact z_zret C (by decide) ⟨congrArg (fun v => some (Value.int v)) (by rw [f_X2_isSoundTimeWay, if_pos h1] : (1 : Int32) = (f_X2_isSoundTimeWay p1 p2)), rfl⟩ (by decide) (by decide) dX2_isSoundTimeWay_48
theorem b_X2_isSoundTimeWay (p1 : Int64) (p2 : Int64) : f_X2_isSoundTimeWay p1 p2 = 0 ∨ f_X2_isSoundTimeWay p1 p2 = 1 := by
  unfold f_X2_isSoundTimeWay
  repeat (first | apply z01_ite | exact Or.inl rfl | exact Or.inr rfl | apply zbor)
def f_X2_isSoundMomentWay (mD : Nat → Int64) (mT : Nat → Int64) (p1 : Int32) (p2 : Int32) : Int32 := (if (((mD p1.toNatClampNeg) + (f_X0_daysOf ((((mD p2.toNatClampNeg) - (mD p1.toNatClampNeg)) * 86400) + (f_J9_floorDiv_f86c9 ((mT p2.toNatClampNeg) - (mT p1.toNatClampNeg)) 1000000000)) 86400)) + (f_J9_floorDiv_f86c9 (((mT p1.toNatClampNeg) + (f_X0_restOfDay ((((mD p2.toNatClampNeg) - (mD p1.toNatClampNeg)) * 86400) + (f_J9_floorDiv_f86c9 ((mT p2.toNatClampNeg) - (mT p1.toNatClampNeg)) 1000000000)) 86400)) + (f_J9_floorMod_f86c9 ((mT p2.toNatClampNeg) - (mT p1.toNatClampNeg)) 1000000000)) 86400000000000)) = (mD p2.toNatClampNeg) then (if (f_X0_roundDay (((mT p1.toNatClampNeg) + (f_X0_restOfDay ((((mD p2.toNatClampNeg) - (mD p1.toNatClampNeg)) * 86400) + (f_J9_floorDiv_f86c9 ((mT p2.toNatClampNeg) - (mT p1.toNatClampNeg)) 1000000000)) 86400)) + (f_J9_floorMod_f86c9 ((mT p2.toNatClampNeg) - (mT p1.toNatClampNeg)) 1000000000))) = (mT p2.toNatClampNeg) then 1 else 0) else 0)
theorem q_X2_isSoundMomentWay : ZY yX2_isSoundMomentWay wsX2_isSoundMomentWay cX2_isSoundMomentWay 13 (some .boolean) 2 := ⟨⟨_, rfl⟩, by decide +kernel, by decide +kernel, by decide +kernel⟩
set_option maxHeartbeats 4000000 in
set_option maxRecDepth 100000 in
theorem c_X2_isSoundMomentWay (l : Launch) (hfl : l.stackTraces = false) (D : va_G) (cI cJ : ClassId) (X : va_W) (y : Nat → Nat) (d : Nat → Int64) (sy : Nat → Int32) (sm : Nat → Int32) (sd : Nat → Int32) (mi : Nat → Int32) (ti : Nat → Int64) (sL : Nat → Int64) (bL : Nat → Int64) (mD : Nat → Int64) (mT : Nat → Int64) (p1 : Int32) (p2 : Int32) (h_0 : vp_in p1 4) (h_1 : vp_in p2 4) : ZM l yX2_isSoundMomentWay wsX2_isSoundMomentWay { frames := 2, cells := 0, slots := 0, locals := 48 } [.ref (y 0), .int p1, .int p2] D (zTys cI cJ) (wY cI cJ y d sy sm sd mi ti sL bL mD mT X) 0 0 (fun v w => v = some (.int (f_X2_isSoundMomentWay mD mT p1 p2)) ∧ w = (wY cI cJ y d sy sm sd mi ti sL bL mD mT X)) (fun _ _ => False) := by
  refine z_open (own := RX2) hfl (cc := cX2_isSoundMomentWay) (maxL := 13) (ret := (some .boolean)) (lv := [(0, .ref (y 0)), (1, .int p1), (2, .int p2)]) rfl (by decide) rfl rfl (Nat.le_of_ble_eq_true rfl) ?_
  intro p e s m args below meth c A C hno hnm hargs
  have hin : ∀ w ∈ wsX20, w ∈ wsX2_isSoundMomentWay := by decide +kernel
  have w1 := C.1.2.2.2.2 (.fieldLink RX2 35 "Yearwheel" "momentDays" "[J") (by decide +kernel)
  have w2 := C.1.2.2.2.2 (.fieldLink RX2 38 "Yearwheel" "momentTimes" "[J") (by decide +kernel)
  have w3 := C.1.2.2.2.2 (.constantLong RX2 221 (86400)) (by decide +kernel)
  have w4 := C.1.2.2.2.2 (.constantLong RX2 197 (1000000000)) (by decide +kernel)
  have w5 := C.1.2.2.2.2 (.constantLong RX2 287 (86400000000000)) (by decide +kernel)
  refine z_aload_n C dX2_isSoundMomentWay_0 rfl 0 rfl ?_
  refine z_get (CC := RX2) (T := TX2) (N := 10) (ci := 2) C hin 0 rfl rfl 8 (by decide) w1 rfl rfl dX2_isSoundMomentWay_1 ?_
  refine z_iload_n C dX2_isSoundMomentWay_4 rfl 2 rfl ?_
  refine z_lald C 9 1 rfl rfl h_1 dX2_isSoundMomentWay_5 ?_
  refine z_aload_n C dX2_isSoundMomentWay_6 rfl 0 rfl ?_
  refine z_get (CC := RX2) (T := TX2) (N := 10) (ci := 2) C hin 0 rfl rfl 8 (by decide) w1 rfl rfl dX2_isSoundMomentWay_7 ?_
  refine z_iload_n C dX2_isSoundMomentWay_10 rfl 1 rfl ?_
  refine z_lald C 9 1 rfl rfl h_0 dX2_isSoundMomentWay_11 ?_
  refine z_lsub C dX2_isSoundMomentWay_12 ?_
  refine z_lstore_n (lv' := [(3, .long ((mD p2.toNatClampNeg) - (mD p1.toNatClampNeg))), (0, .ref (y 0)), (1, .int p1), (2, .int p2)]) C dX2_isSoundMomentWay_13 rfl (by decide) rfl ?_
  refine z_aload_n C dX2_isSoundMomentWay_14 rfl 1 rfl ?_
  refine z_get (CC := RX2) (T := TX2) (N := 10) (ci := 2) C hin 0 rfl rfl 9 (by decide) w2 rfl rfl dX2_isSoundMomentWay_15 ?_
  refine z_iload_n C dX2_isSoundMomentWay_18 rfl 3 rfl ?_
  refine z_lald C 10 1 rfl rfl h_1 dX2_isSoundMomentWay_19 ?_
  refine z_aload_n C dX2_isSoundMomentWay_20 rfl 1 rfl ?_
  refine z_get (CC := RX2) (T := TX2) (N := 10) (ci := 2) C hin 0 rfl rfl 9 (by decide) w2 rfl rfl dX2_isSoundMomentWay_21 ?_
  refine z_iload_n C dX2_isSoundMomentWay_24 rfl 2 rfl ?_
  refine z_lald C 10 1 rfl rfl h_0 dX2_isSoundMomentWay_25 ?_
  refine z_lsub C dX2_isSoundMomentWay_26 ?_
  refine z_lstore (lv' := [(5, .long ((mT p2.toNatClampNeg) - (mT p1.toNatClampNeg))), (3, .long ((mD p2.toNatClampNeg) - (mD p1.toNatClampNeg))), (0, .ref (y 0)), (1, .int p1), (2, .int p2)]) C dX2_isSoundMomentWay_27 (by decide) rfl ?_
  refine z_lload_n C dX2_isSoundMomentWay_29 rfl 1 rfl ?_
  refine z_ldc2 (v := 86400) C w3 dX2_isSoundMomentWay_30 ?_
  refine z_lmul C dX2_isSoundMomentWay_33 ?_
  refine z_lload C dX2_isSoundMomentWay_34 0 rfl ?_
  refine z_ldc2 (v := 1000000000) C w4 dX2_isSoundMomentWay_36 ?_
  refine z_sl (rest := [.long (((mD p2.toNatClampNeg) - (mD p1.toNatClampNeg)) * 86400)]) C (c_J9_floorDiv_f86c9 l hfl D cI cJ _ ((mT p2.toNatClampNeg) - (mT p1.toNatClampNeg)) (1000000000 : Int64) (by decide)) q_J9_floorDiv_f86c9 gX2_isSoundMomentWay_J9_floorDiv_f86c9 ⟨rfl, rfl⟩ rfl rfl (Nat.le_of_ble_eq_true rfl) ⟨Nat.le_of_ble_eq_true rfl, Nat.le_of_ble_eq_true rfl⟩ ⟨Nat.le_of_ble_eq_true rfl, Nat.le_of_ble_eq_true rfl⟩ dX2_isSoundMomentWay_39 ?_
  refine z_ladd C dX2_isSoundMomentWay_42 ?_
  refine z_lstore (lv' := [(7, .long ((((mD p2.toNatClampNeg) - (mD p1.toNatClampNeg)) * 86400) + (f_J9_floorDiv_f86c9 ((mT p2.toNatClampNeg) - (mT p1.toNatClampNeg)) 1000000000))), (5, .long ((mT p2.toNatClampNeg) - (mT p1.toNatClampNeg))), (3, .long ((mD p2.toNatClampNeg) - (mD p1.toNatClampNeg))), (0, .ref (y 0)), (1, .int p1), (2, .int p2)]) C dX2_isSoundMomentWay_43 (by decide) rfl ?_
  refine z_aload_n C dX2_isSoundMomentWay_45 rfl 3 rfl ?_
  refine z_get (CC := RX2) (T := TX2) (N := 10) (ci := 2) C hin 0 rfl rfl 8 (by decide) w1 rfl rfl dX2_isSoundMomentWay_46 ?_
  refine z_iload_n C dX2_isSoundMomentWay_49 rfl 4 rfl ?_
  refine z_lald C 9 1 rfl rfl h_0 dX2_isSoundMomentWay_50 ?_
  refine z_lload C dX2_isSoundMomentWay_51 0 rfl ?_
  refine z_ldc2 (v := 86400) C w3 dX2_isSoundMomentWay_53 ?_
  refine z_sl (rest := [.long (mD p1.toNatClampNeg)]) C (c_X0_daysOf l hfl D cI cJ _ ((((mD p2.toNatClampNeg) - (mD p1.toNatClampNeg)) * 86400) + (f_J9_floorDiv_f86c9 ((mT p2.toNatClampNeg) - (mT p1.toNatClampNeg)) 1000000000)) (86400 : Int64) ) q_X0_daysOf gX2_isSoundMomentWay_X0_daysOf ⟨rfl, rfl⟩ rfl rfl (Nat.le_of_ble_eq_true rfl) ⟨Nat.le_of_ble_eq_true rfl, Nat.le_of_ble_eq_true rfl⟩ ⟨Nat.le_of_ble_eq_true rfl, Nat.le_of_ble_eq_true rfl⟩ dX2_isSoundMomentWay_56 ?_
  refine z_ladd C dX2_isSoundMomentWay_59 ?_
  refine z_lstore (lv' := [(9, .long ((mD p1.toNatClampNeg) + (f_X0_daysOf ((((mD p2.toNatClampNeg) - (mD p1.toNatClampNeg)) * 86400) + (f_J9_floorDiv_f86c9 ((mT p2.toNatClampNeg) - (mT p1.toNatClampNeg)) 1000000000)) 86400))), (7, .long ((((mD p2.toNatClampNeg) - (mD p1.toNatClampNeg)) * 86400) + (f_J9_floorDiv_f86c9 ((mT p2.toNatClampNeg) - (mT p1.toNatClampNeg)) 1000000000))), (5, .long ((mT p2.toNatClampNeg) - (mT p1.toNatClampNeg))), (3, .long ((mD p2.toNatClampNeg) - (mD p1.toNatClampNeg))), (0, .ref (y 0)), (1, .int p1), (2, .int p2)]) C dX2_isSoundMomentWay_60 (by decide) rfl ?_
  refine z_aload_n C dX2_isSoundMomentWay_62 rfl 4 rfl ?_
  refine z_get (CC := RX2) (T := TX2) (N := 10) (ci := 2) C hin 0 rfl rfl 9 (by decide) w2 rfl rfl dX2_isSoundMomentWay_63 ?_
  refine z_iload_n C dX2_isSoundMomentWay_66 rfl 5 rfl ?_
  refine z_lald C 10 1 rfl rfl h_0 dX2_isSoundMomentWay_67 ?_
  refine z_lload C dX2_isSoundMomentWay_68 1 rfl ?_
  refine z_ldc2 (v := 86400) C w3 dX2_isSoundMomentWay_70 ?_
  refine z_sl (rest := [.long (mT p1.toNatClampNeg)]) C (c_X0_restOfDay l hfl D cI cJ _ ((((mD p2.toNatClampNeg) - (mD p1.toNatClampNeg)) * 86400) + (f_J9_floorDiv_f86c9 ((mT p2.toNatClampNeg) - (mT p1.toNatClampNeg)) 1000000000)) (86400 : Int64) ) q_X0_restOfDay gX2_isSoundMomentWay_X0_restOfDay ⟨rfl, rfl⟩ rfl rfl (Nat.le_of_ble_eq_true rfl) ⟨Nat.le_of_ble_eq_true rfl, Nat.le_of_ble_eq_true rfl⟩ ⟨Nat.le_of_ble_eq_true rfl, Nat.le_of_ble_eq_true rfl⟩ dX2_isSoundMomentWay_73 ?_
  refine z_ladd C dX2_isSoundMomentWay_76 ?_
  refine z_lload C dX2_isSoundMomentWay_77 2 rfl ?_
  refine z_ldc2 (v := 1000000000) C w4 dX2_isSoundMomentWay_79 ?_
  refine z_sl (rest := [.long ((mT p1.toNatClampNeg) + (f_X0_restOfDay ((((mD p2.toNatClampNeg) - (mD p1.toNatClampNeg)) * 86400) + (f_J9_floorDiv_f86c9 ((mT p2.toNatClampNeg) - (mT p1.toNatClampNeg)) 1000000000)) 86400))]) C (c_J9_floorMod_f86c9 l hfl D cI cJ _ ((mT p2.toNatClampNeg) - (mT p1.toNatClampNeg)) (1000000000 : Int64) (by decide)) q_J9_floorMod_f86c9 gX2_isSoundMomentWay_J9_floorMod_f86c9 ⟨rfl, rfl⟩ rfl rfl (Nat.le_of_ble_eq_true rfl) ⟨Nat.le_of_ble_eq_true rfl, Nat.le_of_ble_eq_true rfl⟩ ⟨Nat.le_of_ble_eq_true rfl, Nat.le_of_ble_eq_true rfl⟩ dX2_isSoundMomentWay_82 ?_
  refine z_ladd C dX2_isSoundMomentWay_85 ?_
  refine z_lstore (lv' := [(11, .long (((mT p1.toNatClampNeg) + (f_X0_restOfDay ((((mD p2.toNatClampNeg) - (mD p1.toNatClampNeg)) * 86400) + (f_J9_floorDiv_f86c9 ((mT p2.toNatClampNeg) - (mT p1.toNatClampNeg)) 1000000000)) 86400)) + (f_J9_floorMod_f86c9 ((mT p2.toNatClampNeg) - (mT p1.toNatClampNeg)) 1000000000))), (9, .long ((mD p1.toNatClampNeg) + (f_X0_daysOf ((((mD p2.toNatClampNeg) - (mD p1.toNatClampNeg)) * 86400) + (f_J9_floorDiv_f86c9 ((mT p2.toNatClampNeg) - (mT p1.toNatClampNeg)) 1000000000)) 86400))), (7, .long ((((mD p2.toNatClampNeg) - (mD p1.toNatClampNeg)) * 86400) + (f_J9_floorDiv_f86c9 ((mT p2.toNatClampNeg) - (mT p1.toNatClampNeg)) 1000000000))), (5, .long ((mT p2.toNatClampNeg) - (mT p1.toNatClampNeg))), (3, .long ((mD p2.toNatClampNeg) - (mD p1.toNatClampNeg))), (0, .ref (y 0)), (1, .int p1), (2, .int p2)]) C dX2_isSoundMomentWay_86 (by decide) rfl ?_
  refine z_lload C dX2_isSoundMomentWay_88 1 rfl ?_
  refine z_lload C dX2_isSoundMomentWay_90 0 rfl ?_
  refine z_ldc2 (v := 86400000000000) C w5 dX2_isSoundMomentWay_92 ?_
  refine z_sl (rest := [.long ((mD p1.toNatClampNeg) + (f_X0_daysOf ((((mD p2.toNatClampNeg) - (mD p1.toNatClampNeg)) * 86400) + (f_J9_floorDiv_f86c9 ((mT p2.toNatClampNeg) - (mT p1.toNatClampNeg)) 1000000000)) 86400))]) C (c_J9_floorDiv_f86c9 l hfl D cI cJ _ (((mT p1.toNatClampNeg) + (f_X0_restOfDay ((((mD p2.toNatClampNeg) - (mD p1.toNatClampNeg)) * 86400) + (f_J9_floorDiv_f86c9 ((mT p2.toNatClampNeg) - (mT p1.toNatClampNeg)) 1000000000)) 86400)) + (f_J9_floorMod_f86c9 ((mT p2.toNatClampNeg) - (mT p1.toNatClampNeg)) 1000000000)) (86400000000000 : Int64) (by decide)) q_J9_floorDiv_f86c9 gX2_isSoundMomentWay_J9_floorDiv_f86c9 ⟨rfl, rfl⟩ rfl rfl (Nat.le_of_ble_eq_true rfl) ⟨Nat.le_of_ble_eq_true rfl, Nat.le_of_ble_eq_true rfl⟩ ⟨Nat.le_of_ble_eq_true rfl, Nat.le_of_ble_eq_true rfl⟩ dX2_isSoundMomentWay_95 ?_
  refine z_ladd C dX2_isSoundMomentWay_98 ?_
  refine z_aload_n C dX2_isSoundMomentWay_99 rfl 5 rfl ?_
  refine z_get (CC := RX2) (T := TX2) (N := 10) (ci := 2) C hin 0 rfl rfl 8 (by decide) w1 rfl rfl dX2_isSoundMomentWay_100 ?_
  refine z_iload_n C dX2_isSoundMomentWay_103 rfl 7 rfl ?_
  refine z_lald C 9 1 rfl rfl h_1 dX2_isSoundMomentWay_104 ?_
  refine z_lcmp_ne (tgt := 128) C dX2_isSoundMomentWay_105 dX2_isSoundMomentWay_106 (by decide) (fun h1 => ?_) (fun h1 => ?_)
  · refine z_iconst (v := 0) C dX2_isSoundMomentWay_128 (by decide) ?_
    exact z_zret C (by decide) ⟨congrArg (fun v => some (Value.int v)) (by rw [f_X2_isSoundMomentWay, if_neg h1] : (0 : Int32) = (f_X2_isSoundMomentWay mD mT p1 p2)), rfl⟩ (by decide) (by decide) dX2_isSoundMomentWay_129
  · refine z_lload C dX2_isSoundMomentWay_109 0 rfl ?_
    refine z_sl (rest := []) C (c_X0_roundDay l hfl D cI cJ _ (((mT p1.toNatClampNeg) + (f_X0_restOfDay ((((mD p2.toNatClampNeg) - (mD p1.toNatClampNeg)) * 86400) + (f_J9_floorDiv_f86c9 ((mT p2.toNatClampNeg) - (mT p1.toNatClampNeg)) 1000000000)) 86400)) + (f_J9_floorMod_f86c9 ((mT p2.toNatClampNeg) - (mT p1.toNatClampNeg)) 1000000000)) ) q_X0_roundDay gX2_isSoundMomentWay_X0_roundDay ⟨rfl, rfl⟩ rfl rfl (Nat.le_of_ble_eq_true rfl) ⟨Nat.le_of_ble_eq_true rfl, Nat.le_of_ble_eq_true rfl⟩ ⟨Nat.le_of_ble_eq_true rfl, Nat.le_of_ble_eq_true rfl⟩ dX2_isSoundMomentWay_111 ?_
    refine z_aload_n C dX2_isSoundMomentWay_114 rfl 5 rfl ?_
    refine z_get (CC := RX2) (T := TX2) (N := 10) (ci := 2) C hin 0 rfl rfl 9 (by decide) w2 rfl rfl dX2_isSoundMomentWay_115 ?_
    refine z_iload_n C dX2_isSoundMomentWay_118 rfl 7 rfl ?_
    refine z_lald C 10 1 rfl rfl h_1 dX2_isSoundMomentWay_119 ?_
    refine z_lcmp_ne (tgt := 128) C dX2_isSoundMomentWay_120 dX2_isSoundMomentWay_121 (by decide) (fun h2 => ?_) (fun h2 => ?_)
    · refine z_iconst (v := 0) C dX2_isSoundMomentWay_128 (by decide) ?_
      exact z_zret C (by decide) ⟨congrArg (fun v => some (Value.int v)) (by rw [f_X2_isSoundMomentWay, if_pos h1, if_neg h2] : (0 : Int32) = (f_X2_isSoundMomentWay mD mT p1 p2)), rfl⟩ (by decide) (by decide) dX2_isSoundMomentWay_129
    · refine z_iconst (v := 1) C dX2_isSoundMomentWay_124 (by decide) ?_
      refine z_goto (tgt := 129) C dX2_isSoundMomentWay_125 (by decide) ?_
      exact z_zret C (by decide) ⟨congrArg (fun v => some (Value.int v)) (by rw [f_X2_isSoundMomentWay, if_pos h1, if_pos h2] : (1 : Int32) = (f_X2_isSoundMomentWay mD mT p1 p2)), rfl⟩ (by decide) (by decide) dX2_isSoundMomentWay_129
theorem b_X2_isSoundMomentWay (mD : Nat → Int64) (mT : Nat → Int64) (p1 : Int32) (p2 : Int32) : f_X2_isSoundMomentWay mD mT p1 p2 = 0 ∨ f_X2_isSoundMomentWay mD mT p1 p2 = 1 := by
  unfold f_X2_isSoundMomentWay
  repeat (first | apply z01_ite | exact Or.inl rfl | exact Or.inr rfl | apply zbor)
def f_X2_longShare_j1 (d : Nat → Int64) : Int32 := (if (f_X1_isLongYear (f_X1_yearOfDay (d 0))) = 0 then 0 else 1)
def f_X2_longShare_j2 (d : Nat → Int64) : Int32 := (if (f_X1_isLongYear (f_X1_yearOfDay (d 1))) = 0 then (f_X2_longShare_j1 d) else ((f_X2_longShare_j1 d) + 1))
def f_X2_longShare_j3 (d : Nat → Int64) : Int32 := (if (f_X1_isLongYear (f_X1_yearOfDay (d 2))) = 0 then (f_X2_longShare_j2 d) else ((f_X2_longShare_j2 d) + 1))
def f_X2_longShare_j4 (d : Nat → Int64) : Int32 := (if (f_X1_isLongYear (f_X1_yearOfDay (d 3))) = 0 then (f_X2_longShare_j3 d) else ((f_X2_longShare_j3 d) + 1))
def f_X2_longShare_j5 (d : Nat → Int64) : Int32 := (if (f_X1_isLongYear (f_X1_yearOfDay (d 4))) = 0 then (f_X2_longShare_j4 d) else ((f_X2_longShare_j4 d) + 1))
def f_X2_longShare_j6 (d : Nat → Int64) : Int32 := (if (f_X1_isLongYear (f_X1_yearOfDay (d 5))) = 0 then (f_X2_longShare_j5 d) else ((f_X2_longShare_j5 d) + 1))
def f_X2_longShare (d : Nat → Int64) : UInt32 := (FP.fdiv (FP.i2f (f_X2_longShare_j6 d)) 1086324736)
def pre_X2_longShare (d : Nat → Int64) : Prop := ((vf_n32 (FP.fdiv (FP.i2f (f_X2_longShare_j6 d)) 1086324736)))
theorem q_X2_longShare : ZY yX2_longShare wsX2_longShare cX2_longShare 3 (some .float) 0 := ⟨⟨_, rfl⟩, by decide +kernel, by decide +kernel, by decide +kernel⟩
set_option maxHeartbeats 4000000 in
set_option maxRecDepth 100000 in
theorem c_X2_longShare (l : Launch) (hfl : l.stackTraces = false) (D : va_G) (cI cJ : ClassId) (X : va_W) (y : Nat → Nat) (d : Nat → Int64) (sy : Nat → Int32) (sm : Nat → Int32) (sd : Nat → Int32) (mi : Nat → Int32) (ti : Nat → Int64) (sL : Nat → Int64) (bL : Nat → Int64) (mD : Nat → Int64) (mT : Nat → Int64)  (h_g : pre_X2_longShare d) : ZM l yX2_longShare wsX2_longShare { frames := 3, cells := 0, slots := 0, locals := 71 } [.ref (y 0)] D (zTys cI cJ) (wY cI cJ y d sy sm sd mi ti sL bL mD mT X) 0 0 (fun v w => v = some (.float (f_X2_longShare d)) ∧ w = (wY cI cJ y d sy sm sd mi ti sL bL mD mT X)) (fun _ _ => False) := by
  refine z_open (own := RX2) hfl (cc := cX2_longShare) (maxL := 3) (ret := (some .float)) (lv := [(0, .ref (y 0))]) rfl (by decide) rfl rfl (Nat.le_of_ble_eq_true rfl) ?_
  intro p e s m args below meth c A C hno hnm hargs
  have hin : ∀ w ∈ wsX20, w ∈ wsX2_longShare := by decide +kernel
  have w1 := C.1.2.2.2.2 (.fieldLink RX2 9 "Yearwheel" "dates" "[J") (by decide +kernel)
  have w2 := C.1.2.2.2.2 (.constantFloat RX2 253 (1086324736)) (by decide +kernel)
  have g_0 := h_g
  refine z_iconst (v := 0) C dX2_longShare_0 (by decide) ?_
  refine z_istore_n (lv' := [(1, .int 0), (0, .ref (y 0))]) C dX2_longShare_1 rfl (by decide) rfl ?_
  refine z_iconst (v := 0) C dX2_longShare_2 (by decide) ?_
  refine z_istore_n (lv' := [(2, .int 0), (1, .int 0), (0, .ref (y 0))]) C dX2_longShare_3 rfl (by decide) rfl ?_
  refine z_iload_n C dX2_longShare_4 rfl 0 rfl ?_
  refine z_bipush (v := 6) C dX2_longShare_5 (by decide) ?_
  refine z_icmp_ge (tgt := 34) C dX2_longShare_7 (by decide) (fun h => absurd h (by decide)) (fun _ => ?_)
  refine z_aload_n C dX2_longShare_10 rfl 2 rfl ?_
  refine z_get (CC := RX2) (T := TX2) (N := 10) (ci := 2) C hin 0 rfl rfl 0 (by decide) w1 rfl rfl dX2_longShare_11 ?_
  refine z_iload_n C dX2_longShare_14 rfl 0 rfl ?_
  refine z_lald C 1 1 rfl rfl (zvpl 0 6 (by decide)) dX2_longShare_15 ?_
  refine z_eqst (st' := [.long (d 0)]) rfl ?_
  refine z_sl (rest := []) C (c_X1_yearOfDay l hfl D cI cJ _ (d 0) ) q_X1_yearOfDay gX2_longShare_X1_yearOfDay ⟨rfl, rfl⟩ rfl rfl (Nat.le_of_ble_eq_true rfl) ⟨Nat.le_of_ble_eq_true rfl, Nat.le_of_ble_eq_true rfl⟩ ⟨Nat.le_of_ble_eq_true rfl, Nat.le_of_ble_eq_true rfl⟩ dX2_longShare_16 ?_
  refine z_si (rest := []) C (c_X1_isLongYear l hfl D cI cJ _ (f_X1_yearOfDay (d 0)) ) q_X1_isLongYear gX2_longShare_X1_isLongYear ⟨rfl, rfl⟩ rfl rfl (Nat.le_of_ble_eq_true rfl) ⟨Nat.le_of_ble_eq_true rfl, Nat.le_of_ble_eq_true rfl⟩ ⟨Nat.le_of_ble_eq_true rfl, Nat.le_of_ble_eq_true rfl⟩ dX2_longShare_19 ?_
  have K1 : ∀ (v1_0 : Int32), v1_0 = (f_X2_longShare_j1 d) → ZW p l e { frames := 3, cells := 0, slots := 0, locals := 71 } s m args below meth c 3 D (zTys cI cJ) A (zE D (zTys cI cJ) A below args s (fun v w => v = some (.float (f_X2_longShare d)) ∧ w = (wY cI cJ y d sy sm sd mi ti sL bL mD mT X)) (fun _ _ => False) 0 0) 0 0 (wY cI cJ y d sy sm sd mi ti sL bL mD mT X) 28 [(2, .int 0), (1, .int v1_0), (0, .ref (y 0))] [] := by
    rintro _ rfl
    refine z_iinc (q := 0) (v := 1) (lv' := [(2, .int 1), (1, .int (f_X2_longShare_j1 d)), (0, .ref (y 0))]) C dX2_longShare_28 rfl (by decide) (by decide) rfl ?_
    refine z_goto (tgt := 4) C dX2_longShare_31 (by decide) ?_
    refine z_iload_n C dX2_longShare_4 rfl 0 rfl ?_
    refine z_bipush (v := 6) C dX2_longShare_5 (by decide) ?_
    refine z_icmp_ge (tgt := 34) C dX2_longShare_7 (by decide) (fun h => absurd h (by decide)) (fun _ => ?_)
    refine z_aload_n C dX2_longShare_10 rfl 2 rfl ?_
    refine z_get (CC := RX2) (T := TX2) (N := 10) (ci := 2) C hin 0 rfl rfl 0 (by decide) w1 rfl rfl dX2_longShare_11 ?_
    refine z_iload_n C dX2_longShare_14 rfl 0 rfl ?_
    refine z_lald C 1 1 rfl rfl (zvpl 1 6 (by decide)) dX2_longShare_15 ?_
    refine z_eqst (st' := [.long (d 1)]) rfl ?_
    refine z_sl (rest := []) C (c_X1_yearOfDay l hfl D cI cJ _ (d 1) ) q_X1_yearOfDay gX2_longShare_X1_yearOfDay ⟨rfl, rfl⟩ rfl rfl (Nat.le_of_ble_eq_true rfl) ⟨Nat.le_of_ble_eq_true rfl, Nat.le_of_ble_eq_true rfl⟩ ⟨Nat.le_of_ble_eq_true rfl, Nat.le_of_ble_eq_true rfl⟩ dX2_longShare_16 ?_
    refine z_si (rest := []) C (c_X1_isLongYear l hfl D cI cJ _ (f_X1_yearOfDay (d 1)) ) q_X1_isLongYear gX2_longShare_X1_isLongYear ⟨rfl, rfl⟩ rfl rfl (Nat.le_of_ble_eq_true rfl) ⟨Nat.le_of_ble_eq_true rfl, Nat.le_of_ble_eq_true rfl⟩ ⟨Nat.le_of_ble_eq_true rfl, Nat.le_of_ble_eq_true rfl⟩ dX2_longShare_19 ?_
    have K2 : ∀ (v2_0 : Int32), v2_0 = (f_X2_longShare_j2 d) → ZW p l e { frames := 3, cells := 0, slots := 0, locals := 71 } s m args below meth c 3 D (zTys cI cJ) A (zE D (zTys cI cJ) A below args s (fun v w => v = some (.float (f_X2_longShare d)) ∧ w = (wY cI cJ y d sy sm sd mi ti sL bL mD mT X)) (fun _ _ => False) 0 0) 0 0 (wY cI cJ y d sy sm sd mi ti sL bL mD mT X) 28 [(2, .int 1), (1, .int v2_0), (0, .ref (y 0))] [] := by
      rintro _ rfl
      refine z_iinc (q := 0) (v := 2) (lv' := [(2, .int 2), (1, .int (f_X2_longShare_j2 d)), (0, .ref (y 0))]) C dX2_longShare_28 rfl (by decide) (by decide) rfl ?_
      refine z_goto (tgt := 4) C dX2_longShare_31 (by decide) ?_
      refine z_iload_n C dX2_longShare_4 rfl 0 rfl ?_
      refine z_bipush (v := 6) C dX2_longShare_5 (by decide) ?_
      refine z_icmp_ge (tgt := 34) C dX2_longShare_7 (by decide) (fun h => absurd h (by decide)) (fun _ => ?_)
      refine z_aload_n C dX2_longShare_10 rfl 2 rfl ?_
      refine z_get (CC := RX2) (T := TX2) (N := 10) (ci := 2) C hin 0 rfl rfl 0 (by decide) w1 rfl rfl dX2_longShare_11 ?_
      refine z_iload_n C dX2_longShare_14 rfl 0 rfl ?_
      refine z_lald C 1 1 rfl rfl (zvpl 2 6 (by decide)) dX2_longShare_15 ?_
      refine z_eqst (st' := [.long (d 2)]) rfl ?_
      refine z_sl (rest := []) C (c_X1_yearOfDay l hfl D cI cJ _ (d 2) ) q_X1_yearOfDay gX2_longShare_X1_yearOfDay ⟨rfl, rfl⟩ rfl rfl (Nat.le_of_ble_eq_true rfl) ⟨Nat.le_of_ble_eq_true rfl, Nat.le_of_ble_eq_true rfl⟩ ⟨Nat.le_of_ble_eq_true rfl, Nat.le_of_ble_eq_true rfl⟩ dX2_longShare_16 ?_
      refine z_si (rest := []) C (c_X1_isLongYear l hfl D cI cJ _ (f_X1_yearOfDay (d 2)) ) q_X1_isLongYear gX2_longShare_X1_isLongYear ⟨rfl, rfl⟩ rfl rfl (Nat.le_of_ble_eq_true rfl) ⟨Nat.le_of_ble_eq_true rfl, Nat.le_of_ble_eq_true rfl⟩ ⟨Nat.le_of_ble_eq_true rfl, Nat.le_of_ble_eq_true rfl⟩ dX2_longShare_19 ?_
      have K3 : ∀ (v3_0 : Int32), v3_0 = (f_X2_longShare_j3 d) → ZW p l e { frames := 3, cells := 0, slots := 0, locals := 71 } s m args below meth c 3 D (zTys cI cJ) A (zE D (zTys cI cJ) A below args s (fun v w => v = some (.float (f_X2_longShare d)) ∧ w = (wY cI cJ y d sy sm sd mi ti sL bL mD mT X)) (fun _ _ => False) 0 0) 0 0 (wY cI cJ y d sy sm sd mi ti sL bL mD mT X) 28 [(2, .int 2), (1, .int v3_0), (0, .ref (y 0))] [] := by
        rintro _ rfl
        refine z_iinc (q := 0) (v := 3) (lv' := [(2, .int 3), (1, .int (f_X2_longShare_j3 d)), (0, .ref (y 0))]) C dX2_longShare_28 rfl (by decide) (by decide) rfl ?_
        refine z_goto (tgt := 4) C dX2_longShare_31 (by decide) ?_
        refine z_iload_n C dX2_longShare_4 rfl 0 rfl ?_
        refine z_bipush (v := 6) C dX2_longShare_5 (by decide) ?_
        refine z_icmp_ge (tgt := 34) C dX2_longShare_7 (by decide) (fun h => absurd h (by decide)) (fun _ => ?_)
        refine z_aload_n C dX2_longShare_10 rfl 2 rfl ?_
        refine z_get (CC := RX2) (T := TX2) (N := 10) (ci := 2) C hin 0 rfl rfl 0 (by decide) w1 rfl rfl dX2_longShare_11 ?_
        refine z_iload_n C dX2_longShare_14 rfl 0 rfl ?_
        refine z_lald C 1 1 rfl rfl (zvpl 3 6 (by decide)) dX2_longShare_15 ?_
        refine z_eqst (st' := [.long (d 3)]) rfl ?_
        refine z_sl (rest := []) C (c_X1_yearOfDay l hfl D cI cJ _ (d 3) ) q_X1_yearOfDay gX2_longShare_X1_yearOfDay ⟨rfl, rfl⟩ rfl rfl (Nat.le_of_ble_eq_true rfl) ⟨Nat.le_of_ble_eq_true rfl, Nat.le_of_ble_eq_true rfl⟩ ⟨Nat.le_of_ble_eq_true rfl, Nat.le_of_ble_eq_true rfl⟩ dX2_longShare_16 ?_
        refine z_si (rest := []) C (c_X1_isLongYear l hfl D cI cJ _ (f_X1_yearOfDay (d 3)) ) q_X1_isLongYear gX2_longShare_X1_isLongYear ⟨rfl, rfl⟩ rfl rfl (Nat.le_of_ble_eq_true rfl) ⟨Nat.le_of_ble_eq_true rfl, Nat.le_of_ble_eq_true rfl⟩ ⟨Nat.le_of_ble_eq_true rfl, Nat.le_of_ble_eq_true rfl⟩ dX2_longShare_19 ?_
        have K4 : ∀ (v4_0 : Int32), v4_0 = (f_X2_longShare_j4 d) → ZW p l e { frames := 3, cells := 0, slots := 0, locals := 71 } s m args below meth c 3 D (zTys cI cJ) A (zE D (zTys cI cJ) A below args s (fun v w => v = some (.float (f_X2_longShare d)) ∧ w = (wY cI cJ y d sy sm sd mi ti sL bL mD mT X)) (fun _ _ => False) 0 0) 0 0 (wY cI cJ y d sy sm sd mi ti sL bL mD mT X) 28 [(2, .int 3), (1, .int v4_0), (0, .ref (y 0))] [] := by
          rintro _ rfl
          refine z_iinc (q := 0) (v := 4) (lv' := [(2, .int 4), (1, .int (f_X2_longShare_j4 d)), (0, .ref (y 0))]) C dX2_longShare_28 rfl (by decide) (by decide) rfl ?_
          refine z_goto (tgt := 4) C dX2_longShare_31 (by decide) ?_
          refine z_iload_n C dX2_longShare_4 rfl 0 rfl ?_
          refine z_bipush (v := 6) C dX2_longShare_5 (by decide) ?_
          refine z_icmp_ge (tgt := 34) C dX2_longShare_7 (by decide) (fun h => absurd h (by decide)) (fun _ => ?_)
          refine z_aload_n C dX2_longShare_10 rfl 2 rfl ?_
          refine z_get (CC := RX2) (T := TX2) (N := 10) (ci := 2) C hin 0 rfl rfl 0 (by decide) w1 rfl rfl dX2_longShare_11 ?_
          refine z_iload_n C dX2_longShare_14 rfl 0 rfl ?_
          refine z_lald C 1 1 rfl rfl (zvpl 4 6 (by decide)) dX2_longShare_15 ?_
          refine z_eqst (st' := [.long (d 4)]) rfl ?_
          refine z_sl (rest := []) C (c_X1_yearOfDay l hfl D cI cJ _ (d 4) ) q_X1_yearOfDay gX2_longShare_X1_yearOfDay ⟨rfl, rfl⟩ rfl rfl (Nat.le_of_ble_eq_true rfl) ⟨Nat.le_of_ble_eq_true rfl, Nat.le_of_ble_eq_true rfl⟩ ⟨Nat.le_of_ble_eq_true rfl, Nat.le_of_ble_eq_true rfl⟩ dX2_longShare_16 ?_
          refine z_si (rest := []) C (c_X1_isLongYear l hfl D cI cJ _ (f_X1_yearOfDay (d 4)) ) q_X1_isLongYear gX2_longShare_X1_isLongYear ⟨rfl, rfl⟩ rfl rfl (Nat.le_of_ble_eq_true rfl) ⟨Nat.le_of_ble_eq_true rfl, Nat.le_of_ble_eq_true rfl⟩ ⟨Nat.le_of_ble_eq_true rfl, Nat.le_of_ble_eq_true rfl⟩ dX2_longShare_19 ?_
          have K5 : ∀ (v5_0 : Int32), v5_0 = (f_X2_longShare_j5 d) → ZW p l e { frames := 3, cells := 0, slots := 0, locals := 71 } s m args below meth c 3 D (zTys cI cJ) A (zE D (zTys cI cJ) A below args s (fun v w => v = some (.float (f_X2_longShare d)) ∧ w = (wY cI cJ y d sy sm sd mi ti sL bL mD mT X)) (fun _ _ => False) 0 0) 0 0 (wY cI cJ y d sy sm sd mi ti sL bL mD mT X) 28 [(2, .int 4), (1, .int v5_0), (0, .ref (y 0))] [] := by
            rintro _ rfl
            refine z_iinc (q := 0) (v := 5) (lv' := [(2, .int 5), (1, .int (f_X2_longShare_j5 d)), (0, .ref (y 0))]) C dX2_longShare_28 rfl (by decide) (by decide) rfl ?_
            refine z_goto (tgt := 4) C dX2_longShare_31 (by decide) ?_
            refine z_iload_n C dX2_longShare_4 rfl 0 rfl ?_
            refine z_bipush (v := 6) C dX2_longShare_5 (by decide) ?_
            refine z_icmp_ge (tgt := 34) C dX2_longShare_7 (by decide) (fun h => absurd h (by decide)) (fun _ => ?_)
            refine z_aload_n C dX2_longShare_10 rfl 2 rfl ?_
            refine z_get (CC := RX2) (T := TX2) (N := 10) (ci := 2) C hin 0 rfl rfl 0 (by decide) w1 rfl rfl dX2_longShare_11 ?_
            refine z_iload_n C dX2_longShare_14 rfl 0 rfl ?_
            refine z_lald C 1 1 rfl rfl (zvpl 5 6 (by decide)) dX2_longShare_15 ?_
            refine z_eqst (st' := [.long (d 5)]) rfl ?_
            refine z_sl (rest := []) C (c_X1_yearOfDay l hfl D cI cJ _ (d 5) ) q_X1_yearOfDay gX2_longShare_X1_yearOfDay ⟨rfl, rfl⟩ rfl rfl (Nat.le_of_ble_eq_true rfl) ⟨Nat.le_of_ble_eq_true rfl, Nat.le_of_ble_eq_true rfl⟩ ⟨Nat.le_of_ble_eq_true rfl, Nat.le_of_ble_eq_true rfl⟩ dX2_longShare_16 ?_
            refine z_si (rest := []) C (c_X1_isLongYear l hfl D cI cJ _ (f_X1_yearOfDay (d 5)) ) q_X1_isLongYear gX2_longShare_X1_isLongYear ⟨rfl, rfl⟩ rfl rfl (Nat.le_of_ble_eq_true rfl) ⟨Nat.le_of_ble_eq_true rfl, Nat.le_of_ble_eq_true rfl⟩ ⟨Nat.le_of_ble_eq_true rfl, Nat.le_of_ble_eq_true rfl⟩ dX2_longShare_19 ?_
            have K6 : ∀ (v6_0 : Int32), v6_0 = (f_X2_longShare_j6 d) → ZW p l e { frames := 3, cells := 0, slots := 0, locals := 71 } s m args below meth c 3 D (zTys cI cJ) A (zE D (zTys cI cJ) A below args s (fun v w => v = some (.float (f_X2_longShare d)) ∧ w = (wY cI cJ y d sy sm sd mi ti sL bL mD mT X)) (fun _ _ => False) 0 0) 0 0 (wY cI cJ y d sy sm sd mi ti sL bL mD mT X) 28 [(2, .int 5), (1, .int v6_0), (0, .ref (y 0))] [] := by
              rintro _ rfl
              refine z_iinc (q := 0) (v := 6) (lv' := [(2, .int 6), (1, .int (f_X2_longShare_j6 d)), (0, .ref (y 0))]) C dX2_longShare_28 rfl (by decide) (by decide) rfl ?_
              refine z_goto (tgt := 4) C dX2_longShare_31 (by decide) ?_
              refine z_iload_n C dX2_longShare_4 rfl 0 rfl ?_
              refine z_bipush (v := 6) C dX2_longShare_5 (by decide) ?_
              refine z_icmp_ge (tgt := 34) C dX2_longShare_7 (by decide) (fun _ => ?_) (fun h => absurd (by decide) h)
              refine z_iload_n C dX2_longShare_34 rfl 1 rfl ?_
              refine z_i2f C dX2_longShare_35 ?_
              refine z_ldcf (v := 1086324736) C w2 dX2_longShare_36 ?_
              refine z_fdiv C dX2_longShare_38 (g_0) ?_
              exact z_fret C ⟨congrArg (fun v => some (Value.float v)) (rfl : (FP.fdiv (FP.i2f (f_X2_longShare_j6 d)) 1086324736) = (f_X2_longShare d)), rfl⟩ (by decide) (by decide) dX2_longShare_39
            refine z_if_eq (tgt := 28) C dX2_longShare_22 (by decide) (fun h6 => ?_) (fun h6 => ?_)
            · exact K6 _ (by rw [f_X2_longShare_j6, if_pos h6])
            · refine z_iinc (q := 1) (v := ((f_X2_longShare_j5 d) + 1)) (lv' := [(1, .int ((f_X2_longShare_j5 d) + 1)), (2, .int 5), (0, .ref (y 0))]) C dX2_longShare_25 rfl rfl (by decide) rfl ?_
              refine z_sub [1, 0, 2] rfl ?_
              exact K6 _ (by rw [f_X2_longShare_j6, if_neg h6])
          refine z_if_eq (tgt := 28) C dX2_longShare_22 (by decide) (fun h5 => ?_) (fun h5 => ?_)
          · exact K5 _ (by rw [f_X2_longShare_j5, if_pos h5])
          · refine z_iinc (q := 1) (v := ((f_X2_longShare_j4 d) + 1)) (lv' := [(1, .int ((f_X2_longShare_j4 d) + 1)), (2, .int 4), (0, .ref (y 0))]) C dX2_longShare_25 rfl rfl (by decide) rfl ?_
            refine z_sub [1, 0, 2] rfl ?_
            exact K5 _ (by rw [f_X2_longShare_j5, if_neg h5])
        refine z_if_eq (tgt := 28) C dX2_longShare_22 (by decide) (fun h4 => ?_) (fun h4 => ?_)
        · exact K4 _ (by rw [f_X2_longShare_j4, if_pos h4])
        · refine z_iinc (q := 1) (v := ((f_X2_longShare_j3 d) + 1)) (lv' := [(1, .int ((f_X2_longShare_j3 d) + 1)), (2, .int 3), (0, .ref (y 0))]) C dX2_longShare_25 rfl rfl (by decide) rfl ?_
          refine z_sub [1, 0, 2] rfl ?_
          exact K4 _ (by rw [f_X2_longShare_j4, if_neg h4])
      refine z_if_eq (tgt := 28) C dX2_longShare_22 (by decide) (fun h3 => ?_) (fun h3 => ?_)
      · exact K3 _ (by rw [f_X2_longShare_j3, if_pos h3])
      · refine z_iinc (q := 1) (v := ((f_X2_longShare_j2 d) + 1)) (lv' := [(1, .int ((f_X2_longShare_j2 d) + 1)), (2, .int 2), (0, .ref (y 0))]) C dX2_longShare_25 rfl rfl (by decide) rfl ?_
        refine z_sub [1, 0, 2] rfl ?_
        exact K3 _ (by rw [f_X2_longShare_j3, if_neg h3])
    refine z_if_eq (tgt := 28) C dX2_longShare_22 (by decide) (fun h2 => ?_) (fun h2 => ?_)
    · exact K2 _ (by rw [f_X2_longShare_j2, if_pos h2])
    · refine z_iinc (q := 1) (v := ((f_X2_longShare_j1 d) + 1)) (lv' := [(1, .int ((f_X2_longShare_j1 d) + 1)), (2, .int 1), (0, .ref (y 0))]) C dX2_longShare_25 rfl rfl (by decide) rfl ?_
      refine z_sub [1, 0, 2] rfl ?_
      exact K2 _ (by rw [f_X2_longShare_j2, if_neg h2])
  refine z_if_eq (tgt := 28) C dX2_longShare_22 (by decide) (fun h1 => ?_) (fun h1 => ?_)
  · exact K1 _ (by rw [f_X2_longShare_j1, if_pos h1])
  · refine z_iinc (q := 1) (v := 1) (lv' := [(1, .int 1), (2, .int 0), (0, .ref (y 0))]) C dX2_longShare_25 rfl (by decide) (by decide) rfl ?_
    refine z_sub [1, 0, 2] rfl ?_
    exact K1 _ (by rw [f_X2_longShare_j1, if_neg h1])
def f_X2_meanDay (d : Nat → Int64) : UInt64 := (FP.ddiv (FP.l2d ((((((0 + (d 0)) + (d 1)) + (d 2)) + (d 3)) + (d 4)) + (d 5))) 4618441417868443648)
def pre_X2_meanDay (d : Nat → Int64) : Prop := ((vf_n64 (FP.ddiv (FP.l2d ((((((0 + (d 0)) + (d 1)) + (d 2)) + (d 3)) + (d 4)) + (d 5))) 4618441417868443648)))
theorem q_X2_meanDay : ZY yX2_meanDay wsX2_meanDay cX2_meanDay 4 (some .double) 0 := ⟨⟨_, rfl⟩, by decide +kernel, by decide +kernel, by decide +kernel⟩
set_option maxHeartbeats 4000000 in
set_option maxRecDepth 100000 in
theorem c_X2_meanDay (l : Launch) (hfl : l.stackTraces = false) (D : va_G) (cI cJ : ClassId) (X : va_W) (y : Nat → Nat) (d : Nat → Int64) (sy : Nat → Int32) (sm : Nat → Int32) (sd : Nat → Int32) (mi : Nat → Int32) (ti : Nat → Int64) (sL : Nat → Int64) (bL : Nat → Int64) (mD : Nat → Int64) (mT : Nat → Int64)  (h_g : pre_X2_meanDay d) : ZM l yX2_meanDay wsX2_meanDay { frames := 0, cells := 0, slots := 0, locals := 0 } [.ref (y 0)] D (zTys cI cJ) (wY cI cJ y d sy sm sd mi ti sL bL mD mT X) 0 0 (fun v w => v = some (.double (f_X2_meanDay d)) ∧ w = (wY cI cJ y d sy sm sd mi ti sL bL mD mT X)) (fun _ _ => False) := by
  refine z_open (own := RX2) hfl (cc := cX2_meanDay) (maxL := 4) (ret := (some .double)) (lv := [(0, .ref (y 0))]) rfl (by decide) rfl rfl (Nat.le_of_ble_eq_true rfl) ?_
  intro p e s m args below meth c A C hno hnm hargs
  have hin : ∀ w ∈ wsX20, w ∈ wsX2_meanDay := by decide +kernel
  have w1 := C.1.2.2.2.2 (.fieldLink RX2 9 "Yearwheel" "dates" "[J") (by decide +kernel)
  have w2 := C.1.2.2.2.2 (.constantDouble RX2 254 (4618441417868443648)) (by decide +kernel)
  have g_0 := h_g
  refine z_lconst (v := 0) C dX2_meanDay_0 (by decide) ?_
  refine z_lstore_n (lv' := [(1, .long 0), (0, .ref (y 0))]) C dX2_meanDay_1 rfl (by decide) rfl ?_
  refine z_iconst (v := 0) C dX2_meanDay_2 (by decide) ?_
  refine z_istore_n (lv' := [(3, .int 0), (1, .long 0), (0, .ref (y 0))]) C dX2_meanDay_3 rfl (by decide) rfl ?_
  refine z_iload_n C dX2_meanDay_4 rfl 0 rfl ?_
  refine z_bipush (v := 6) C dX2_meanDay_5 (by decide) ?_
  refine z_icmp_ge (tgt := 25) C dX2_meanDay_7 (by decide) (fun h => absurd h (by decide)) (fun _ => ?_)
  refine z_lload_n C dX2_meanDay_10 rfl 1 rfl ?_
  refine z_aload_n C dX2_meanDay_11 rfl 2 rfl ?_
  refine z_get (CC := RX2) (T := TX2) (N := 10) (ci := 2) C hin 0 rfl rfl 0 (by decide) w1 rfl rfl dX2_meanDay_12 ?_
  refine z_iload_n C dX2_meanDay_15 rfl 0 rfl ?_
  refine z_lald C 1 1 rfl rfl (zvpl 0 6 (by decide)) dX2_meanDay_16 ?_
  refine z_eqst (st' := [.long (d 0), .long 0]) rfl ?_
  refine z_ladd C dX2_meanDay_17 ?_
  refine z_lstore_n (lv' := [(1, .long (0 + (d 0))), (3, .int 0), (0, .ref (y 0))]) C dX2_meanDay_18 rfl (by decide) rfl ?_
  refine z_iinc (q := 1) (v := 1) (lv' := [(3, .int 1), (1, .long (0 + (d 0))), (0, .ref (y 0))]) C dX2_meanDay_19 rfl (by decide) (by decide) rfl ?_
  refine z_goto (tgt := 4) C dX2_meanDay_22 (by decide) ?_
  refine z_iload_n C dX2_meanDay_4 rfl 0 rfl ?_
  refine z_bipush (v := 6) C dX2_meanDay_5 (by decide) ?_
  refine z_icmp_ge (tgt := 25) C dX2_meanDay_7 (by decide) (fun h => absurd h (by decide)) (fun _ => ?_)
  refine z_lload_n C dX2_meanDay_10 rfl 1 rfl ?_
  refine z_aload_n C dX2_meanDay_11 rfl 2 rfl ?_
  refine z_get (CC := RX2) (T := TX2) (N := 10) (ci := 2) C hin 0 rfl rfl 0 (by decide) w1 rfl rfl dX2_meanDay_12 ?_
  refine z_iload_n C dX2_meanDay_15 rfl 0 rfl ?_
  refine z_lald C 1 1 rfl rfl (zvpl 1 6 (by decide)) dX2_meanDay_16 ?_
  refine z_eqst (st' := [.long (d 1), .long (0 + (d 0))]) rfl ?_
  refine z_ladd C dX2_meanDay_17 ?_
  refine z_lstore_n (lv' := [(1, .long ((0 + (d 0)) + (d 1))), (3, .int 1), (0, .ref (y 0))]) C dX2_meanDay_18 rfl (by decide) rfl ?_
  refine z_iinc (q := 1) (v := 2) (lv' := [(3, .int 2), (1, .long ((0 + (d 0)) + (d 1))), (0, .ref (y 0))]) C dX2_meanDay_19 rfl (by decide) (by decide) rfl ?_
  refine z_goto (tgt := 4) C dX2_meanDay_22 (by decide) ?_
  refine z_iload_n C dX2_meanDay_4 rfl 0 rfl ?_
  refine z_bipush (v := 6) C dX2_meanDay_5 (by decide) ?_
  refine z_icmp_ge (tgt := 25) C dX2_meanDay_7 (by decide) (fun h => absurd h (by decide)) (fun _ => ?_)
  refine z_lload_n C dX2_meanDay_10 rfl 1 rfl ?_
  refine z_aload_n C dX2_meanDay_11 rfl 2 rfl ?_
  refine z_get (CC := RX2) (T := TX2) (N := 10) (ci := 2) C hin 0 rfl rfl 0 (by decide) w1 rfl rfl dX2_meanDay_12 ?_
  refine z_iload_n C dX2_meanDay_15 rfl 0 rfl ?_
  refine z_lald C 1 1 rfl rfl (zvpl 2 6 (by decide)) dX2_meanDay_16 ?_
  refine z_eqst (st' := [.long (d 2), .long ((0 + (d 0)) + (d 1))]) rfl ?_
  refine z_ladd C dX2_meanDay_17 ?_
  refine z_lstore_n (lv' := [(1, .long (((0 + (d 0)) + (d 1)) + (d 2))), (3, .int 2), (0, .ref (y 0))]) C dX2_meanDay_18 rfl (by decide) rfl ?_
  refine z_iinc (q := 1) (v := 3) (lv' := [(3, .int 3), (1, .long (((0 + (d 0)) + (d 1)) + (d 2))), (0, .ref (y 0))]) C dX2_meanDay_19 rfl (by decide) (by decide) rfl ?_
  refine z_goto (tgt := 4) C dX2_meanDay_22 (by decide) ?_
  refine z_iload_n C dX2_meanDay_4 rfl 0 rfl ?_
  refine z_bipush (v := 6) C dX2_meanDay_5 (by decide) ?_
  refine z_icmp_ge (tgt := 25) C dX2_meanDay_7 (by decide) (fun h => absurd h (by decide)) (fun _ => ?_)
  refine z_lload_n C dX2_meanDay_10 rfl 1 rfl ?_
  refine z_aload_n C dX2_meanDay_11 rfl 2 rfl ?_
  refine z_get (CC := RX2) (T := TX2) (N := 10) (ci := 2) C hin 0 rfl rfl 0 (by decide) w1 rfl rfl dX2_meanDay_12 ?_
  refine z_iload_n C dX2_meanDay_15 rfl 0 rfl ?_
  refine z_lald C 1 1 rfl rfl (zvpl 3 6 (by decide)) dX2_meanDay_16 ?_
  refine z_eqst (st' := [.long (d 3), .long (((0 + (d 0)) + (d 1)) + (d 2))]) rfl ?_
  refine z_ladd C dX2_meanDay_17 ?_
  refine z_lstore_n (lv' := [(1, .long ((((0 + (d 0)) + (d 1)) + (d 2)) + (d 3))), (3, .int 3), (0, .ref (y 0))]) C dX2_meanDay_18 rfl (by decide) rfl ?_
  refine z_iinc (q := 1) (v := 4) (lv' := [(3, .int 4), (1, .long ((((0 + (d 0)) + (d 1)) + (d 2)) + (d 3))), (0, .ref (y 0))]) C dX2_meanDay_19 rfl (by decide) (by decide) rfl ?_
  refine z_goto (tgt := 4) C dX2_meanDay_22 (by decide) ?_
  refine z_iload_n C dX2_meanDay_4 rfl 0 rfl ?_
  refine z_bipush (v := 6) C dX2_meanDay_5 (by decide) ?_
  refine z_icmp_ge (tgt := 25) C dX2_meanDay_7 (by decide) (fun h => absurd h (by decide)) (fun _ => ?_)
  refine z_lload_n C dX2_meanDay_10 rfl 1 rfl ?_
  refine z_aload_n C dX2_meanDay_11 rfl 2 rfl ?_
  refine z_get (CC := RX2) (T := TX2) (N := 10) (ci := 2) C hin 0 rfl rfl 0 (by decide) w1 rfl rfl dX2_meanDay_12 ?_
  refine z_iload_n C dX2_meanDay_15 rfl 0 rfl ?_
  refine z_lald C 1 1 rfl rfl (zvpl 4 6 (by decide)) dX2_meanDay_16 ?_
  refine z_eqst (st' := [.long (d 4), .long ((((0 + (d 0)) + (d 1)) + (d 2)) + (d 3))]) rfl ?_
  refine z_ladd C dX2_meanDay_17 ?_
  refine z_lstore_n (lv' := [(1, .long (((((0 + (d 0)) + (d 1)) + (d 2)) + (d 3)) + (d 4))), (3, .int 4), (0, .ref (y 0))]) C dX2_meanDay_18 rfl (by decide) rfl ?_
  refine z_iinc (q := 1) (v := 5) (lv' := [(3, .int 5), (1, .long (((((0 + (d 0)) + (d 1)) + (d 2)) + (d 3)) + (d 4))), (0, .ref (y 0))]) C dX2_meanDay_19 rfl (by decide) (by decide) rfl ?_
  refine z_goto (tgt := 4) C dX2_meanDay_22 (by decide) ?_
  refine z_iload_n C dX2_meanDay_4 rfl 0 rfl ?_
  refine z_bipush (v := 6) C dX2_meanDay_5 (by decide) ?_
  refine z_icmp_ge (tgt := 25) C dX2_meanDay_7 (by decide) (fun h => absurd h (by decide)) (fun _ => ?_)
  refine z_lload_n C dX2_meanDay_10 rfl 1 rfl ?_
  refine z_aload_n C dX2_meanDay_11 rfl 2 rfl ?_
  refine z_get (CC := RX2) (T := TX2) (N := 10) (ci := 2) C hin 0 rfl rfl 0 (by decide) w1 rfl rfl dX2_meanDay_12 ?_
  refine z_iload_n C dX2_meanDay_15 rfl 0 rfl ?_
  refine z_lald C 1 1 rfl rfl (zvpl 5 6 (by decide)) dX2_meanDay_16 ?_
  refine z_eqst (st' := [.long (d 5), .long (((((0 + (d 0)) + (d 1)) + (d 2)) + (d 3)) + (d 4))]) rfl ?_
  refine z_ladd C dX2_meanDay_17 ?_
  refine z_lstore_n (lv' := [(1, .long ((((((0 + (d 0)) + (d 1)) + (d 2)) + (d 3)) + (d 4)) + (d 5))), (3, .int 5), (0, .ref (y 0))]) C dX2_meanDay_18 rfl (by decide) rfl ?_
  refine z_iinc (q := 1) (v := 6) (lv' := [(3, .int 6), (1, .long ((((((0 + (d 0)) + (d 1)) + (d 2)) + (d 3)) + (d 4)) + (d 5))), (0, .ref (y 0))]) C dX2_meanDay_19 rfl (by decide) (by decide) rfl ?_
  refine z_goto (tgt := 4) C dX2_meanDay_22 (by decide) ?_
  refine z_iload_n C dX2_meanDay_4 rfl 0 rfl ?_
  refine z_bipush (v := 6) C dX2_meanDay_5 (by decide) ?_
  refine z_icmp_ge (tgt := 25) C dX2_meanDay_7 (by decide) (fun _ => ?_) (fun h => absurd (by decide) h)
  refine z_lload_n C dX2_meanDay_25 rfl 1 rfl ?_
  refine z_l2d C dX2_meanDay_26 ?_
  refine z_ldc2d (v := 4618441417868443648) C w2 dX2_meanDay_27 ?_
  refine z_ddiv C dX2_meanDay_30 (g_0) ?_
  exact z_dret C ⟨congrArg (fun v => some (Value.double v)) (rfl : (FP.ddiv (FP.l2d ((((((0 + (d 0)) + (d 1)) + (d 2)) + (d 3)) + (d 4)) + (d 5))) 4618441417868443648) = (f_X2_meanDay d)), rfl⟩ (by decide) (by decide) dX2_meanDay_31
