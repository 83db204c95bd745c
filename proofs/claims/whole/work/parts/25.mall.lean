def f_X3_checksum (d : Nat → Int64) (ti : Nat → Int64) (sL : Nat → Int64) (bL : Nat → Int64) (mD : Nat → Int64) (mT : Nat → Int64) (sy : Nat → Int64) (sm : Nat → Int64) (sd : Nat → Int64) (mi : Nat → Int64) : Int64 := ((31 * ((31 * ((31 * ((31 * ((31 * ((31 * ((31 * ((31 * ((31 * ((31 * ((31 * ((31 * ((31 * ((31 * ((31 * ((31 * ((31 * ((31 * ((31 * ((31 * (((31 * ((31 * (((31 * ((31 * (((31 * ((31 * (((31 * ((31 * ((31 * ((31 * ((31 * ((31 * ((31 * ((31 * ((31 * ((31 * ((31 * ((31 * ((31 * ((31 * ((31 * ((31 * ((31 * ((31 * ((31 * (217 + (d 0))) + (d 1))) + (d 2))) + (d 3))) + (d 4))) + (d 5))) + (sy 0))) + (sm 0))) + (sd 0))) + (sy 1))) + (sm 1))) + (sd 1))) + (sy 2))) + (sm 2))) + (sd 2))) + (sy 3))) + (sm 3))) + (sd 3))) + (f_X3_floor (mi 0) 12))) + 1) + (f_X3_rest (mi 0) 12))) + (f_X3_floor (mi 1) 12))) + 1) + (f_X3_rest (mi 1) 12))) + (f_X3_floor (mi 2) 12))) + 1) + (f_X3_rest (mi 2) 12))) + (f_X3_floor (mi 3) 12))) + 1) + (f_X3_rest (mi 3) 12))) + (ti 0))) + (ti 1))) + (ti 2))) + (ti 3))) + (sL 0))) + (bL 0))) + (sL 1))) + (bL 1))) + (sL 2))) + (bL 2))) + (sL 3))) + (bL 3))) + (mD 0))) + (mT 0))) + (mD 1))) + (mT 1))) + (mD 2))) + (mT 2))) + (mD 3))) + (mT 3))
def s_X3_checksum_co  : Int32 := 0
theorem q_X3_checksum : ZY yX3_checksum wsX3_checksum cX3_checksum 4 (some .long) 0 := ⟨⟨_, rfl⟩, by decide +kernel, by decide +kernel, by decide +kernel⟩
set_option maxHeartbeats 4000000 in
set_option maxRecDepth 100000 in
theorem c_X3_checksum (l : Launch) (hfl : l.stackTraces = false) (D : va_G) (cI cJ : ClassId) (X : va_W) (z : Nat → Nat) (co : Int32) (d : Nat → Int64) (ti : Nat → Int64) (sL : Nat → Int64) (bL : Nat → Int64) (mD : Nat → Int64) (mT : Nat → Int64) (sy : Nat → Int64) (sm : Nat → Int64) (sd : Nat → Int64) (mi : Nat → Int64) (yr : Int64) (mo : Int32) (dy : Int32)  : ZM l yX3_checksum wsX3_checksum { frames := 2, cells := 0, slots := 0, locals := 46 } [.ref (z 0)] D (zTys cI cJ) (wM cI cJ z co d ti sL bL mD mT sy sm sd mi yr mo dy X) 0 0 (fun v w => v = some (.long (f_X3_checksum d ti sL bL mD mT sy sm sd mi)) ∧ w = (wM cI cJ z s_X3_checksum_co d ti sL bL mD mT sy sm sd mi yr mo dy X)) (fun _ _ => False) := by
  refine z_open (own := RX3) hfl (cc := cX3_checksum) (maxL := 4) (ret := (some .long)) (lv := [(0, .ref (z 0))]) rfl (by decide) rfl rfl (Nat.le_of_ble_eq_true rfl) ?_
  intro p e s m args below meth c A C hno hnm hargs
  have hin : ∀ w ∈ wsX30, w ∈ wsX3_checksum := by decide +kernel
  have w1 := C.1.2.2.2.2 (.fieldLink RX3 1 "YearwheelModel" "code" "I") (by decide +kernel)
  have w2 := C.1.2.2.2.2 (.constantLong RX3 111 (7)) (by decide +kernel)
  have w3 := C.1.2.2.2.2 (.constantLong RX3 240 (31)) (by decide +kernel)
  have w4 := C.1.2.2.2.2 (.fieldLink RX3 13 "YearwheelModel" "dates" "[J") (by decide +kernel)
  have w5 := C.1.2.2.2.2 (.fieldLink RX3 32 "YearwheelModel" "spanYears" "[J") (by decide +kernel)
  have w6 := C.1.2.2.2.2 (.fieldLink RX3 35 "YearwheelModel" "spanMonths" "[J") (by decide +kernel)
  have w7 := C.1.2.2.2.2 (.fieldLink RX3 38 "YearwheelModel" "spanDays" "[J") (by decide +kernel)
  have w8 := C.1.2.2.2.2 (.fieldLink RX3 41 "YearwheelModel" "months" "[J") (by decide +kernel)
  have w9 := C.1.2.2.2.2 (.constantLong RX3 113 (12)) (by decide +kernel)
  have w10 := C.1.2.2.2.2 (.fieldLink RX3 17 "YearwheelModel" "times" "[J") (by decide +kernel)
  have w11 := C.1.2.2.2.2 (.fieldLink RX3 20 "YearwheelModel" "seconds" "[J") (by decide +kernel)
  have w12 := C.1.2.2.2.2 (.fieldLink RX3 23 "YearwheelModel" "fines" "[J") (by decide +kernel)
  have w13 := C.1.2.2.2.2 (.fieldLink RX3 26 "YearwheelModel" "days" "[J") (by decide +kernel)
  have w14 := C.1.2.2.2.2 (.fieldLink RX3 29 "YearwheelModel" "clocks" "[J") (by decide +kernel)
  refine z_aload_n C dX3_checksum_0 rfl 0 rfl ?_
  refine z_iconst (v := 0) C dX3_checksum_1 (by decide) ?_
  refine z_put (CC := RX3) (T := TX3) (N := 14) (ci := 3) C hin tyX3 tyX3_ok nmX3 0 rfl rfl 0 (by decide) w1 rfl rfl rfl rfl rfl (Nat.le_of_ble_eq_true rfl) (ws' := (wM cI cJ z 0 d ti sL bL mD mT sy sm sd mi yr mo dy X)) rfl dX3_checksum_2 ?_
  refine z_ldc2 (v := 7) C w2 dX3_checksum_5 ?_
  refine z_lstore_n (lv' := [(1, .long 7), (0, .ref (z 0))]) C dX3_checksum_8 rfl (by decide) rfl ?_
  refine z_iconst (v := 0) C dX3_checksum_9 (by decide) ?_
  refine z_istore_n (lv' := [(3, .int 0), (1, .long 7), (0, .ref (z 0))]) C dX3_checksum_10 rfl (by decide) rfl ?_
  refine z_iload_n C dX3_checksum_11 rfl 0 rfl ?_
  refine z_bipush (v := 6) C dX3_checksum_12 (by decide) ?_
  refine z_icmp_ge (tgt := 36) C dX3_checksum_14 (by decide) (fun h => absurd h (by decide)) (fun _ => ?_)
  refine z_ldc2 (v := 31) C w3 dX3_checksum_17 ?_
  refine z_lload_n C dX3_checksum_20 rfl 1 rfl ?_
  refine z_lmul C dX3_checksum_21 ?_
  refine z_eqst (st' := [.long 217]) (congrArg (fun v => Value.long v :: _) (by decide : (31 * 7) = (217 : Int64))) ?_
  refine z_aload_n C dX3_checksum_22 rfl 2 rfl ?_
  refine z_get (CC := RX3) (T := TX3) (N := 14) (ci := 3) C hin 0 rfl rfl 1 (by decide) w4 rfl rfl dX3_checksum_23 ?_
  refine z_iload_n C dX3_checksum_26 rfl 0 rfl ?_
  refine z_lald C 1 1 rfl rfl (zvpl 0 6 (by decide)) dX3_checksum_27 ?_
  refine z_eqst (st' := [.long (d 0), .long 217]) rfl ?_
  refine z_ladd C dX3_checksum_28 ?_
  refine z_lstore_n (lv' := [(1, .long (217 + (d 0))), (3, .int 0), (0, .ref (z 0))]) C dX3_checksum_29 rfl (by decide) rfl ?_
  refine z_iinc (q := 1) (v := 1) (lv' := [(3, .int 1), (1, .long (217 + (d 0))), (0, .ref (z 0))]) C dX3_checksum_30 rfl (by decide) (by decide) rfl ?_
  refine z_goto (tgt := 11) C dX3_checksum_33 (by decide) ?_
  refine z_iload_n C dX3_checksum_11 rfl 0 rfl ?_
  refine z_bipush (v := 6) C dX3_checksum_12 (by decide) ?_
  refine z_icmp_ge (tgt := 36) C dX3_checksum_14 (by decide) (fun h => absurd h (by decide)) (fun _ => ?_)
  refine z_ldc2 (v := 31) C w3 dX3_checksum_17 ?_
  refine z_lload_n C dX3_checksum_20 rfl 1 rfl ?_
  refine z_lmul C dX3_checksum_21 ?_
  refine z_aload_n C dX3_checksum_22 rfl 2 rfl ?_
  refine z_get (CC := RX3) (T := TX3) (N := 14) (ci := 3) C hin 0 rfl rfl 1 (by decide) w4 rfl rfl dX3_checksum_23 ?_
  refine z_iload_n C dX3_checksum_26 rfl 0 rfl ?_
  refine z_lald C 1 1 rfl rfl (zvpl 1 6 (by decide)) dX3_checksum_27 ?_
  refine z_eqst (st' := [.long (d 1), .long (31 * (217 + (d 0)))]) rfl ?_
  refine z_ladd C dX3_checksum_28 ?_
  refine z_lstore_n (lv' := [(1, .long ((31 * (217 + (d 0))) + (d 1))), (3, .int 1), (0, .ref (z 0))]) C dX3_checksum_29 rfl (by decide) rfl ?_
  refine z_iinc (q := 1) (v := 2) (lv' := [(3, .int 2), (1, .long ((31 * (217 + (d 0))) + (d 1))), (0, .ref (z 0))]) C dX3_checksum_30 rfl (by decide) (by decide) rfl ?_
  refine z_goto (tgt := 11) C dX3_checksum_33 (by decide) ?_
  refine z_iload_n C dX3_checksum_11 rfl 0 rfl ?_
  refine z_bipush (v := 6) C dX3_checksum_12 (by decide) ?_
  refine z_icmp_ge (tgt := 36) C dX3_checksum_14 (by decide) (fun h => absurd h (by decide)) (fun _ => ?_)
  refine z_ldc2 (v := 31) C w3 dX3_checksum_17 ?_
  refine z_lload_n C dX3_checksum_20 rfl 1 rfl ?_
  refine z_lmul C dX3_checksum_21 ?_
  refine z_aload_n C dX3_checksum_22 rfl 2 rfl ?_
  refine z_get (CC := RX3) (T := TX3) (N := 14) (ci := 3) C hin 0 rfl rfl 1 (by decide) w4 rfl rfl dX3_checksum_23 ?_
  refine z_iload_n C dX3_checksum_26 rfl 0 rfl ?_
  refine z_lald C 1 1 rfl rfl (zvpl 2 6 (by decide)) dX3_checksum_27 ?_
  refine z_eqst (st' := [.long (d 2), .long (31 * ((31 * (217 + (d 0))) + (d 1)))]) rfl ?_
  refine z_ladd C dX3_checksum_28 ?_
  refine z_lstore_n (lv' := [(1, .long ((31 * ((31 * (217 + (d 0))) + (d 1))) + (d 2))), (3, .int 2), (0, .ref (z 0))]) C dX3_checksum_29 rfl (by decide) rfl ?_
  refine z_iinc (q := 1) (v := 3) (lv' := [(3, .int 3), (1, .long ((31 * ((31 * (217 + (d 0))) + (d 1))) + (d 2))), (0, .ref (z 0))]) C dX3_checksum_30 rfl (by decide) (by decide) rfl ?_
  refine z_goto (tgt := 11) C dX3_checksum_33 (by decide) ?_
  refine z_iload_n C dX3_checksum_11 rfl 0 rfl ?_
  refine z_bipush (v := 6) C dX3_checksum_12 (by decide) ?_
  refine z_icmp_ge (tgt := 36) C dX3_checksum_14 (by decide) (fun h => absurd h (by decide)) (fun _ => ?_)
  refine z_ldc2 (v := 31) C w3 dX3_checksum_17 ?_
  refine z_lload_n C dX3_checksum_20 rfl 1 rfl ?_
  refine z_lmul C dX3_checksum_21 ?_
  refine z_aload_n C dX3_checksum_22 rfl 2 rfl ?_
  refine z_get (CC := RX3) (T := TX3) (N := 14) (ci := 3) C hin 0 rfl rfl 1 (by decide) w4 rfl rfl dX3_checksum_23 ?_
  refine z_iload_n C dX3_checksum_26 rfl 0 rfl ?_
  refine z_lald C 1 1 rfl rfl (zvpl 3 6 (by decide)) dX3_checksum_27 ?_
  refine z_eqst (st' := [.long (d 3), .long (31 * ((31 * ((31 * (217 + (d 0))) + (d 1))) + (d 2)))]) rfl ?_
  refine z_ladd C dX3_checksum_28 ?_
  refine z_lstore_n (lv' := [(1, .long ((31 * ((31 * ((31 * (217 + (d 0))) + (d 1))) + (d 2))) + (d 3))), (3, .int 3), (0, .ref (z 0))]) C dX3_checksum_29 rfl (by decide) rfl ?_
  refine z_iinc (q := 1) (v := 4) (lv' := [(3, .int 4), (1, .long ((31 * ((31 * ((31 * (217 + (d 0))) + (d 1))) + (d 2))) + (d 3))), (0, .ref (z 0))]) C dX3_checksum_30 rfl (by decide) (by decide) rfl ?_
  refine z_goto (tgt := 11) C dX3_checksum_33 (by decide) ?_
  refine z_iload_n C dX3_checksum_11 rfl 0 rfl ?_
  refine z_bipush (v := 6) C dX3_checksum_12 (by decide) ?_
  refine z_icmp_ge (tgt := 36) C dX3_checksum_14 (by decide) (fun h => absurd h (by decide)) (fun _ => ?_)
  refine z_ldc2 (v := 31) C w3 dX3_checksum_17 ?_
  refine z_lload_n C dX3_checksum_20 rfl 1 rfl ?_
  refine z_lmul C dX3_checksum_21 ?_
  refine z_aload_n C dX3_checksum_22 rfl 2 rfl ?_
  refine z_get (CC := RX3) (T := TX3) (N := 14) (ci := 3) C hin 0 rfl rfl 1 (by decide) w4 rfl rfl dX3_checksum_23 ?_
  refine z_iload_n C dX3_checksum_26 rfl 0 rfl ?_
  refine z_lald C 1 1 rfl rfl (zvpl 4 6 (by decide)) dX3_checksum_27 ?_
  refine z_eqst (st' := [.long (d 4), .long (31 * ((31 * ((31 * ((31 * (217 + (d 0))) + (d 1))) + (d 2))) + (d 3)))]) rfl ?_
  refine z_ladd C dX3_checksum_28 ?_
  refine z_lstore_n (lv' := [(1, .long ((31 * ((31 * ((31 * ((31 * (217 + (d 0))) + (d 1))) + (d 2))) + (d 3))) + (d 4))), (3, .int 4), (0, .ref (z 0))]) C dX3_checksum_29 rfl (by decide) rfl ?_
  refine z_iinc (q := 1) (v := 5) (lv' := [(3, .int 5), (1, .long ((31 * ((31 * ((31 * ((31 * (217 + (d 0))) + (d 1))) + (d 2))) + (d 3))) + (d 4))), (0, .ref (z 0))]) C dX3_checksum_30 rfl (by decide) (by decide) rfl ?_
  refine z_goto (tgt := 11) C dX3_checksum_33 (by decide) ?_
  refine z_iload_n C dX3_checksum_11 rfl 0 rfl ?_
  refine z_bipush (v := 6) C dX3_checksum_12 (by decide) ?_
  refine z_icmp_ge (tgt := 36) C dX3_checksum_14 (by decide) (fun h => absurd h (by decide)) (fun _ => ?_)
  refine z_ldc2 (v := 31) C w3 dX3_checksum_17 ?_
  refine z_lload_n C dX3_checksum_20 rfl 1 rfl ?_
  refine z_lmul C dX3_checksum_21 ?_
  refine z_aload_n C dX3_checksum_22 rfl 2 rfl ?_
  refine z_get (CC := RX3) (T := TX3) (N := 14) (ci := 3) C hin 0 rfl rfl 1 (by decide) w4 rfl rfl dX3_checksum_23 ?_
  refine z_iload_n C dX3_checksum_26 rfl 0 rfl ?_
  refine z_lald C 1 1 rfl rfl (zvpl 5 6 (by decide)) dX3_checksum_27 ?_
  refine z_eqst (st' := [.long (d 5), .long (31 * ((31 * ((31 * ((31 * ((31 * (217 + (d 0))) + (d 1))) + (d 2))) + (d 3))) + (d 4)))]) rfl ?_
  refine z_ladd C dX3_checksum_28 ?_
  refine z_lstore_n (lv' := [(1, .long ((31 * ((31 * ((31 * ((31 * ((31 * (217 + (d 0))) + (d 1))) + (d 2))) + (d 3))) + (d 4))) + (d 5))), (3, .int 5), (0, .ref (z 0))]) C dX3_checksum_29 rfl (by decide) rfl ?_
  refine z_iinc (q := 1) (v := 6) (lv' := [(3, .int 6), (1, .long ((31 * ((31 * ((31 * ((31 * ((31 * (217 + (d 0))) + (d 1))) + (d 2))) + (d 3))) + (d 4))) + (d 5))), (0, .ref (z 0))]) C dX3_checksum_30 rfl (by decide) (by decide) rfl ?_
  refine z_goto (tgt := 11) C dX3_checksum_33 (by decide) ?_
  refine z_iload_n C dX3_checksum_11 rfl 0 rfl ?_
  refine z_bipush (v := 6) C dX3_checksum_12 (by decide) ?_
  refine z_icmp_ge (tgt := 36) C dX3_checksum_14 (by decide) (fun _ => ?_) (fun h => absurd (by decide) h)
  refine z_iconst (v := 0) C dX3_checksum_36 (by decide) ?_
  refine z_istore_n (lv' := [(3, .int 0), (1, .long ((31 * ((31 * ((31 * ((31 * ((31 * (217 + (d 0))) + (d 1))) + (d 2))) + (d 3))) + (d 4))) + (d 5))), (0, .ref (z 0))]) C dX3_checksum_37 rfl (by decide) rfl ?_
  refine z_iload_n C dX3_checksum_38 rfl 0 rfl ?_
  refine z_iconst (v := 4) C dX3_checksum_39 (by decide) ?_
  refine z_icmp_ge (tgt := 84) C dX3_checksum_40 (by decide) (fun h => absurd h (by decide)) (fun _ => ?_)
  refine z_ldc2 (v := 31) C w3 dX3_checksum_43 ?_
  refine z_ldc2 (v := 31) C w3 dX3_checksum_46 ?_
  refine z_ldc2 (v := 31) C w3 dX3_checksum_49 ?_
  refine z_lload_n C dX3_checksum_52 rfl 1 rfl ?_
  refine z_lmul C dX3_checksum_53 ?_
  refine z_aload_n C dX3_checksum_54 rfl 2 rfl ?_
  refine z_get (CC := RX3) (T := TX3) (N := 14) (ci := 3) C hin 0 rfl rfl 7 (by decide) w5 rfl rfl dX3_checksum_55 ?_
  refine z_iload_n C dX3_checksum_58 rfl 0 rfl ?_
  refine z_lald C 7 1 rfl rfl (zvpl 0 4 (by decide)) dX3_checksum_59 ?_
  refine z_eqst (st' := [.long (sy 0), .long (31 * ((31 * ((31 * ((31 * ((31 * ((31 * (217 + (d 0))) + (d 1))) + (d 2))) + (d 3))) + (d 4))) + (d 5))), .long 31, .long 31]) rfl ?_
  refine z_ladd C dX3_checksum_60 ?_
  refine z_lmul C dX3_checksum_61 ?_
  refine z_aload_n C dX3_checksum_62 rfl 2 rfl ?_
  refine z_get (CC := RX3) (T := TX3) (N := 14) (ci := 3) C hin 0 rfl rfl 8 (by decide) w6 rfl rfl dX3_checksum_63 ?_
  refine z_iload_n C dX3_checksum_66 rfl 0 rfl ?_
  refine z_lald C 8 1 rfl rfl (zvpl 0 4 (by decide)) dX3_checksum_67 ?_
  refine z_eqst (st' := [.long (sm 0), .long (31 * ((31 * ((31 * ((31 * ((31 * ((31 * ((31 * (217 + (d 0))) + (d 1))) + (d 2))) + (d 3))) + (d 4))) + (d 5))) + (sy 0))), .long 31]) rfl ?_
  refine z_ladd C dX3_checksum_68 ?_
  refine z_lmul C dX3_checksum_69 ?_
  refine z_aload_n C dX3_checksum_70 rfl 2 rfl ?_
  refine z_get (CC := RX3) (T := TX3) (N := 14) (ci := 3) C hin 0 rfl rfl 9 (by decide) w7 rfl rfl dX3_checksum_71 ?_
  refine z_iload_n C dX3_checksum_74 rfl 0 rfl ?_
  refine z_lald C 9 1 rfl rfl (zvpl 0 4 (by decide)) dX3_checksum_75 ?_
  refine z_eqst (st' := [.long (sd 0), .long (31 * ((31 * ((31 * ((31 * ((31 * ((31 * ((31 * ((31 * (217 + (d 0))) + (d 1))) + (d 2))) + (d 3))) + (d 4))) + (d 5))) + (sy 0))) + (sm 0)))]) rfl ?_
  refine z_ladd C dX3_checksum_76 ?_
  refine z_lstore_n (lv' := [(1, .long ((31 * ((31 * ((31 * ((31 * ((31 * ((31 * ((31 * ((31 * (217 + (d 0))) + (d 1))) + (d 2))) + (d 3))) + (d 4))) + (d 5))) + (sy 0))) + (sm 0))) + (sd 0))), (3, .int 0), (0, .ref (z 0))]) C dX3_checksum_77 rfl (by decide) rfl ?_
  refine z_iinc (q := 1) (v := 1) (lv' := [(3, .int 1), (1, .long ((31 * ((31 * ((31 * ((31 * ((31 * ((31 * ((31 * ((31 * (217 + (d 0))) + (d 1))) + (d 2))) + (d 3))) + (d 4))) + (d 5))) + (sy 0))) + (sm 0))) + (sd 0))), (0, .ref (z 0))]) C dX3_checksum_78 rfl (by decide) (by decide) rfl ?_
  refine z_goto (tgt := 38) C dX3_checksum_81 (by decide) ?_
  refine z_iload_n C dX3_checksum_38 rfl 0 rfl ?_
  refine z_iconst (v := 4) C dX3_checksum_39 (by decide) ?_
  refine z_icmp_ge (tgt := 84) C dX3_checksum_40 (by decide) (fun h => absurd h (by decide)) (fun _ => ?_)
  refine z_ldc2 (v := 31) C w3 dX3_checksum_43 ?_
  refine z_ldc2 (v := 31) C w3 dX3_checksum_46 ?_
  refine z_ldc2 (v := 31) C w3 dX3_checksum_49 ?_
  refine z_lload_n C dX3_checksum_52 rfl 1 rfl ?_
  refine z_lmul C dX3_checksum_53 ?_
  refine z_aload_n C dX3_checksum_54 rfl 2 rfl ?_
  refine z_get (CC := RX3) (T := TX3) (N := 14) (ci := 3) C hin 0 rfl rfl 7 (by decide) w5 rfl rfl dX3_checksum_55 ?_
  refine z_iload_n C dX3_checksum_58 rfl 0 rfl ?_
  refine z_lald C 7 1 rfl rfl (zvpl 1 4 (by decide)) dX3_checksum_59 ?_
  refine z_eqst (st' := [.long (sy 1), .long (31 * ((31 * ((31 * ((31 * ((31 * ((31 * ((31 * ((31 * ((31 * (217 + (d 0))) + (d 1))) + (d 2))) + (d 3))) + (d 4))) + (d 5))) + (sy 0))) + (sm 0))) + (sd 0))), .long 31, .long 31]) rfl ?_
  refine z_ladd C dX3_checksum_60 ?_
  refine z_lmul C dX3_checksum_61 ?_
  refine z_aload_n C dX3_checksum_62 rfl 2 rfl ?_
  refine z_get (CC := RX3) (T := TX3) (N := 14) (ci := 3) C hin 0 rfl rfl 8 (by decide) w6 rfl rfl dX3_checksum_63 ?_
  refine z_iload_n C dX3_checksum_66 rfl 0 rfl ?_
  refine z_lald C 8 1 rfl rfl (zvpl 1 4 (by decide)) dX3_checksum_67 ?_
  refine z_eqst (st' := [.long (sm 1), .long (31 * ((31 * ((31 * ((31 * ((31 * ((31 * ((31 * ((31 * ((31 * ((31 * (217 + (d 0))) + (d 1))) + (d 2))) + (d 3))) + (d 4))) + (d 5))) + (sy 0))) + (sm 0))) + (sd 0))) + (sy 1))), .long 31]) rfl ?_
  refine z_ladd C dX3_checksum_68 ?_
  refine z_lmul C dX3_checksum_69 ?_
  refine z_aload_n C dX3_checksum_70 rfl 2 rfl ?_
  refine z_get (CC := RX3) (T := TX3) (N := 14) (ci := 3) C hin 0 rfl rfl 9 (by decide) w7 rfl rfl dX3_checksum_71 ?_
  refine z_iload_n C dX3_checksum_74 rfl 0 rfl ?_
  refine z_lald C 9 1 rfl rfl (zvpl 1 4 (by decide)) dX3_checksum_75 ?_
  refine z_eqst (st' := [.long (sd 1), .long (31 * ((31 * ((31 * ((31 * ((31 * ((31 * ((31 * ((31 * ((31 * ((31 * ((31 * (217 + (d 0))) + (d 1))) + (d 2))) + (d 3))) + (d 4))) + (d 5))) + (sy 0))) + (sm 0))) + (sd 0))) + (sy 1))) + (sm 1)))]) rfl ?_
  refine z_ladd C dX3_checksum_76 ?_
  refine z_lstore_n (lv' := [(1, .long ((31 * ((31 * ((31 * ((31 * ((31 * ((31 * ((31 * ((31 * ((31 * ((31 * ((31 * (217 + (d 0))) + (d 1))) + (d 2))) + (d 3))) + (d 4))) + (d 5))) + (sy 0))) + (sm 0))) + (sd 0))) + (sy 1))) + (sm 1))) + (sd 1))), (3, .int 1), (0, .ref (z 0))]) C dX3_checksum_77 rfl (by decide) rfl ?_
  refine z_iinc (q := 1) (v := 2) (lv' := [(3, .int 2), (1, .long ((31 * ((31 * ((31 * ((31 * ((31 * ((31 * ((31 * ((31 * ((31 * ((31 * ((31 * (217 + (d 0))) + (d 1))) + (d 2))) + (d 3))) + (d 4))) + (d 5))) + (sy 0))) + (sm 0))) + (sd 0))) + (sy 1))) + (sm 1))) + (sd 1))), (0, .ref (z 0))]) C dX3_checksum_78 rfl (by decide) (by decide) rfl ?_
  refine z_goto (tgt := 38) C dX3_checksum_81 (by decide) ?_
  refine z_iload_n C dX3_checksum_38 rfl 0 rfl ?_
  refine z_iconst (v := 4) C dX3_checksum_39 (by decide) ?_
  refine z_icmp_ge (tgt := 84) C dX3_checksum_40 (by decide) (fun h => absurd h (by decide)) (fun _ => ?_)
  refine z_ldc2 (v := 31) C w3 dX3_checksum_43 ?_
  refine z_ldc2 (v := 31) C w3 dX3_checksum_46 ?_
  refine z_ldc2 (v := 31) C w3 dX3_checksum_49 ?_
  refine z_lload_n C dX3_checksum_52 rfl 1 rfl ?_
  refine z_lmul C dX3_checksum_53 ?_
  refine z_aload_n C dX3_checksum_54 rfl 2 rfl ?_
  refine z_get (CC := RX3) (T := TX3) (N := 14) (ci := 3) C hin 0 rfl rfl 7 (by decide) w5 rfl rfl dX3_checksum_55 ?_
  refine z_iload_n C dX3_checksum_58 rfl 0 rfl ?_
  refine z_lald C 7 1 rfl rfl (zvpl 2 4 (by decide)) dX3_checksum_59 ?_
  refine z_eqst (st' := [.long (sy 2), .long (31 * ((31 * ((31 * ((31 * ((31 * ((31 * ((31 * ((31 * ((31 * ((31 * ((31 * ((31 * (217 + (d 0))) + (d 1))) + (d 2))) + (d 3))) + (d 4))) + (d 5))) + (sy 0))) + (sm 0))) + (sd 0))) + (sy 1))) + (sm 1))) + (sd 1))), .long 31, .long 31]) rfl ?_
  refine z_ladd C dX3_checksum_60 ?_
  refine z_lmul C dX3_checksum_61 ?_
  refine z_aload_n C dX3_checksum_62 rfl 2 rfl ?_
  refine z_get (CC := RX3) (T := TX3) (N := 14) (ci := 3) C hin 0 rfl rfl 8 (by decide) w6 rfl rfl dX3_checksum_63 ?_
  refine z_iload_n C dX3_checksum_66 rfl 0 rfl ?_
  refine z_lald C 8 1 rfl rfl (zvpl 2 4 (by decide)) dX3_checksum_67 ?_
  refine z_eqst (st' := [.long (sm 2), .long (31 * ((31 * ((31 * ((31 * ((31 * ((31 * ((31 * ((31 * ((31 * ((31 * ((31 * ((31 * ((31 * (217 + (d 0))) + (d 1))) + (d 2))) + (d 3))) + (d 4))) + (d 5))) + (sy 0))) + (sm 0))) + (sd 0))) + (sy 1))) + (sm 1))) + (sd 1))) + (sy 2))), .long 31]) rfl ?_
  refine z_ladd C dX3_checksum_68 ?_
  refine z_lmul C dX3_checksum_69 ?_
  refine z_aload_n C dX3_checksum_70 rfl 2 rfl ?_
  refine z_get (CC := RX3) (T := TX3) (N := 14) (ci := 3) C hin 0 rfl rfl 9 (by decide) w7 rfl rfl dX3_checksum_71 ?_
  refine z_iload_n C dX3_checksum_74 rfl 0 rfl ?_
  refine z_lald C 9 1 rfl rfl (zvpl 2 4 (by decide)) dX3_checksum_75 ?_
  refine z_eqst (st' := [.long (sd 2), .long (31 * ((31 * ((31 * ((31 * ((31 * ((31 * ((31 * ((31 * ((31 * ((31 * ((31 * ((31 * ((31 * ((31 * (217 + (d 0))) + (d 1))) + (d 2))) + (d 3))) + (d 4))) + (d 5))) + (sy 0))) + (sm 0))) + (sd 0))) + (sy 1))) + (sm 1))) + (sd 1))) + (sy 2))) + (sm 2)))]) rfl ?_
  refine z_ladd C dX3_checksum_76 ?_
  refine z_lstore_n (lv' := [(1, .long ((31 * ((31 * ((31 * ((31 * ((31 * ((31 * ((31 * ((31 * ((31 * ((31 * ((31 * ((31 * ((31 * ((31 * (217 + (d 0))) + (d 1))) + (d 2))) + (d 3))) + (d 4))) + (d 5))) + (sy 0))) + (sm 0))) + (sd 0))) + (sy 1))) + (sm 1))) + (sd 1))) + (sy 2))) + (sm 2))) + (sd 2))), (3, .int 2), (0, .ref (z 0))]) C dX3_checksum_77 rfl (by decide) rfl ?_
  refine z_iinc (q := 1) (v := 3) (lv' := [(3, .int 3), (1, .long ((31 * ((31 * ((31 * ((31 * ((31 * ((31 * ((31 * ((31 * ((31 * ((31 * ((31 * ((31 * ((31 * ((31 * (217 + (d 0))) + (d 1))) + (d 2))) + (d 3))) + (d 4))) + (d 5))) + (sy 0))) + (sm 0))) + (sd 0))) + (sy 1))) + (sm 1))) + (sd 1))) + (sy 2))) + (sm 2))) + (sd 2))), (0, .ref (z 0))]) C dX3_checksum_78 rfl (by decide) (by decide) rfl ?_
  refine z_goto (tgt := 38) C dX3_checksum_81 (by decide) ?_
  refine z_iload_n C dX3_checksum_38 rfl 0 rfl ?_
  refine z_iconst (v := 4) C dX3_checksum_39 (by decide) ?_
  refine z_icmp_ge (tgt := 84) C dX3_checksum_40 (by decide) (fun h => absurd h (by decide)) (fun _ => ?_)
  refine z_ldc2 (v := 31) C w3 dX3_checksum_43 ?_
  refine z_ldc2 (v := 31) C w3 dX3_checksum_46 ?_
  refine z_ldc2 (v := 31) C w3 dX3_checksum_49 ?_
  refine z_lload_n C dX3_checksum_52 rfl 1 rfl ?_
  refine z_lmul C dX3_checksum_53 ?_
  refine z_aload_n C dX3_checksum_54 rfl 2 rfl ?_
  refine z_get (CC := RX3) (T := TX3) (N := 14) (ci := 3) C hin 0 rfl rfl 7 (by decide) w5 rfl rfl dX3_checksum_55 ?_
  refine z_iload_n C dX3_checksum_58 rfl 0 rfl ?_
  refine z_lald C 7 1 rfl rfl (zvpl 3 4 (by decide)) dX3_checksum_59 ?_
  refine z_eqst (st' := [.long (sy 3), .long (31 * ((31 * ((31 * ((31 * ((31 * ((31 * ((31 * ((31 * ((31 * ((31 * ((31 * ((31 * ((31 * ((31 * ((31 * (217 + (d 0))) + (d 1))) + (d 2))) + (d 3))) + (d 4))) + (d 5))) + (sy 0))) + (sm 0))) + (sd 0))) + (sy 1))) + (sm 1))) + (sd 1))) + (sy 2))) + (sm 2))) + (sd 2))), .long 31, .long 31]) rfl ?_
  refine z_ladd C dX3_checksum_60 ?_
  refine z_lmul C dX3_checksum_61 ?_
  refine z_aload_n C dX3_checksum_62 rfl 2 rfl ?_
  refine z_get (CC := RX3) (T := TX3) (N := 14) (ci := 3) C hin 0 rfl rfl 8 (by decide) w6 rfl rfl dX3_checksum_63 ?_
  refine z_iload_n C dX3_checksum_66 rfl 0 rfl ?_
  refine z_lald C 8 1 rfl rfl (zvpl 3 4 (by decide)) dX3_checksum_67 ?_
  refine z_eqst (st' := [.long (sm 3), .long (31 * ((31 * ((31 * ((31 * ((31 * ((31 * ((31 * ((31 * ((31 * ((31 * ((31 * ((31 * ((31 * ((31 * ((31 * ((31 * (217 + (d 0))) + (d 1))) + (d 2))) + (d 3))) + (d 4))) + (d 5))) + (sy 0))) + (sm 0))) + (sd 0))) + (sy 1))) + (sm 1))) + (sd 1))) + (sy 2))) + (sm 2))) + (sd 2))) + (sy 3))), .long 31]) rfl ?_
  refine z_ladd C dX3_checksum_68 ?_
  refine z_lmul C dX3_checksum_69 ?_
  refine z_aload_n C dX3_checksum_70 rfl 2 rfl ?_
  refine z_get (CC := RX3) (T := TX3) (N := 14) (ci := 3) C hin 0 rfl rfl 9 (by decide) w7 rfl rfl dX3_checksum_71 ?_
  refine z_iload_n C dX3_checksum_74 rfl 0 rfl ?_
  refine z_lald C 9 1 rfl rfl (zvpl 3 4 (by decide)) dX3_checksum_75 ?_
  refine z_eqst (st' := [.long (sd 3), .long (31 * ((31 * ((31 * ((31 * ((31 * ((31 * ((31 * ((31 * ((31 * ((31 * ((31 * ((31 * ((31 * ((31 * ((31 * ((31 * ((31 * (217 + (d 0))) + (d 1))) + (d 2))) + (d 3))) + (d 4))) + (d 5))) + (sy 0))) + (sm 0))) + (sd 0))) + (sy 1))) + (sm 1))) + (sd 1))) + (sy 2))) + (sm 2))) + (sd 2))) + (sy 3))) + (sm 3)))]) rfl ?_
  refine z_ladd C dX3_checksum_76 ?_
  refine z_lstore_n (lv' := [(1, .long ((31 * ((31 * ((31 * ((31 * ((31 * ((31 * ((31 * ((31 * ((31 * ((31 * ((31 * ((31 * ((31 * ((31 * ((31 * ((31 * ((31 * (217 + (d 0))) + (d 1))) + (d 2))) + (d 3))) + (d 4))) + (d 5))) + (sy 0))) + (sm 0))) + (sd 0))) + (sy 1))) + (sm 1))) + (sd 1))) + (sy 2))) + (sm 2))) + (sd 2))) + (sy 3))) + (sm 3))) + (sd 3))), (3, .int 3), (0, .ref (z 0))]) C dX3_checksum_77 rfl (by decide) rfl ?_
  refine z_iinc (q := 1) (v := 4) (lv' := [(3, .int 4), (1, .long ((31 * ((31 * ((31 * ((31 * ((31 * ((31 * ((31 * ((31 * ((31 * ((31 * ((31 * ((31 * ((31 * ((31 * ((31 * ((31 * ((31 * (217 + (d 0))) + (d 1))) + (d 2))) + (d 3))) + (d 4))) + (d 5))) + (sy 0))) + (sm 0))) + (sd 0))) + (sy 1))) + (sm 1))) + (sd 1))) + (sy 2))) + (sm 2))) + (sd 2))) + (sy 3))) + (sm 3))) + (sd 3))), (0, .ref (z 0))]) C dX3_checksum_78 rfl (by decide) (by decide) rfl ?_
  refine z_goto (tgt := 38) C dX3_checksum_81 (by decide) ?_
  refine z_iload_n C dX3_checksum_38 rfl 0 rfl ?_
  refine z_iconst (v := 4) C dX3_checksum_39 (by decide) ?_
  refine z_icmp_ge (tgt := 84) C dX3_checksum_40 (by decide) (fun _ => ?_) (fun h => absurd (by decide) h)
  refine z_iconst (v := 0) C dX3_checksum_84 (by decide) ?_
  refine z_istore_n (lv' := [(3, .int 0), (1, .long ((31 * ((31 * ((31 * ((31 * ((31 * ((31 * ((31 * ((31 * ((31 * ((31 * ((31 * ((31 * ((31 * ((31 * ((31 * ((31 * ((31 * (217 + (d 0))) + (d 1))) + (d 2))) + (d 3))) + (d 4))) + (d 5))) + (sy 0))) + (sm 0))) + (sd 0))) + (sy 1))) + (sm 1))) + (sd 1))) + (sy 2))) + (sm 2))) + (sd 2))) + (sy 3))) + (sm 3))) + (sd 3))), (0, .ref (z 0))]) C dX3_checksum_85 rfl (by decide) rfl ?_
  refine z_iload_n C dX3_checksum_86 rfl 0 rfl ?_
  refine z_iconst (v := 4) C dX3_checksum_87 (by decide) ?_
  refine z_icmp_ge (tgt := 135) C dX3_checksum_88 (by decide) (fun h => absurd h (by decide)) (fun _ => ?_)
  refine z_ldc2 (v := 31) C w3 dX3_checksum_91 ?_
  refine z_ldc2 (v := 31) C w3 dX3_checksum_94 ?_
  refine z_lload_n C dX3_checksum_97 rfl 1 rfl ?_
  refine z_lmul C dX3_checksum_98 ?_
  refine z_aload_n C dX3_checksum_99 rfl 2 rfl ?_
  refine z_get (CC := RX3) (T := TX3) (N := 14) (ci := 3) C hin 0 rfl rfl 10 (by decide) w8 rfl rfl dX3_checksum_100 ?_
  refine z_iload_n C dX3_checksum_103 rfl 0 rfl ?_
  refine z_lald C 10 1 rfl rfl (zvpl 0 4 (by decide)) dX3_checksum_104 ?_
  refine z_eqst (st' := [.long (mi 0), .long (31 * ((31 * ((31 * ((31 * ((31 * ((31 * ((31 * ((31 * ((31 * ((31 * ((31 * ((31 * ((31 * ((31 * ((31 * ((31 * ((31 * ((31 * (217 + (d 0))) + (d 1))) + (d 2))) + (d 3))) + (d 4))) + (d 5))) + (sy 0))) + (sm 0))) + (sd 0))) + (sy 1))) + (sm 1))) + (sd 1))) + (sy 2))) + (sm 2))) + (sd 2))) + (sy 3))) + (sm 3))) + (sd 3))), .long 31]) rfl ?_
  refine z_ldc2 (v := 12) C w9 dX3_checksum_105 ?_
  refine z_sl (rest := [.long (31 * ((31 * ((31 * ((31 * ((31 * ((31 * ((31 * ((31 * ((31 * ((31 * ((31 * ((31 * ((31 * ((31 * ((31 * ((31 * ((31 * ((31 * (217 + (d 0))) + (d 1))) + (d 2))) + (d 3))) + (d 4))) + (d 5))) + (sy 0))) + (sm 0))) + (sd 0))) + (sy 1))) + (sm 1))) + (sd 1))) + (sy 2))) + (sm 2))) + (sd 2))) + (sy 3))) + (sm 3))) + (sd 3))), .long 31]) C (c_X3_floor l hfl D cI cJ _ (mi 0) (12 : Int64) (by decide)) q_X3_floor gX3_checksum_X3_floor ⟨rfl, rfl⟩ rfl rfl (Nat.le_of_ble_eq_true rfl) ⟨Nat.le_of_ble_eq_true rfl, Nat.le_of_ble_eq_true rfl⟩ ⟨Nat.le_of_ble_eq_true rfl, Nat.le_of_ble_eq_true rfl⟩ dX3_checksum_108 ?_
  refine z_ladd C dX3_checksum_111 ?_
  refine z_lmul C dX3_checksum_112 ?_
  refine z_lconst (v := 1) C dX3_checksum_113 (by decide) ?_
  refine z_ladd C dX3_checksum_114 ?_
  refine z_aload_n C dX3_checksum_115 rfl 2 rfl ?_
  refine z_get (CC := RX3) (T := TX3) (N := 14) (ci := 3) C hin 0 rfl rfl 10 (by decide) w8 rfl rfl dX3_checksum_116 ?_
  refine z_iload_n C dX3_checksum_119 rfl 0 rfl ?_
  refine z_lald C 10 1 rfl rfl (zvpl 0 4 (by decide)) dX3_checksum_120 ?_
  refine z_eqst (st' := [.long (mi 0), .long ((31 * ((31 * ((31 * ((31 * ((31 * ((31 * ((31 * ((31 * ((31 * ((31 * ((31 * ((31 * ((31 * ((31 * ((31 * ((31 * ((31 * ((31 * ((31 * (217 + (d 0))) + (d 1))) + (d 2))) + (d 3))) + (d 4))) + (d 5))) + (sy 0))) + (sm 0))) + (sd 0))) + (sy 1))) + (sm 1))) + (sd 1))) + (sy 2))) + (sm 2))) + (sd 2))) + (sy 3))) + (sm 3))) + (sd 3))) + (f_X3_floor (mi 0) 12))) + 1)]) rfl ?_
  refine z_ldc2 (v := 12) C w9 dX3_checksum_121 ?_
  refine z_sl (rest := [.long ((31 * ((31 * ((31 * ((31 * ((31 * ((31 * ((31 * ((31 * ((31 * ((31 * ((31 * ((31 * ((31 * ((31 * ((31 * ((31 * ((31 * ((31 * ((31 * (217 + (d 0))) + (d 1))) + (d 2))) + (d 3))) + (d 4))) + (d 5))) + (sy 0))) + (sm 0))) + (sd 0))) + (sy 1))) + (sm 1))) + (sd 1))) + (sy 2))) + (sm 2))) + (sd 2))) + (sy 3))) + (sm 3))) + (sd 3))) + (f_X3_floor (mi 0) 12))) + 1)]) C (c_X3_rest l hfl D cI cJ _ (mi 0) (12 : Int64) (by decide)) q_X3_rest gX3_checksum_X3_rest ⟨rfl, rfl⟩ rfl rfl (Nat.le_of_ble_eq_true rfl) ⟨Nat.le_of_ble_eq_true rfl, Nat.le_of_ble_eq_true rfl⟩ ⟨Nat.le_of_ble_eq_true rfl, Nat.le_of_ble_eq_true rfl⟩ dX3_checksum_124 ?_
  refine z_ladd C dX3_checksum_127 ?_
  refine z_lstore_n (lv' := [(1, .long (((31 * ((31 * ((31 * ((31 * ((31 * ((31 * ((31 * ((31 * ((31 * ((31 * ((31 * ((31 * ((31 * ((31 * ((31 * ((31 * ((31 * ((31 * ((31 * (217 + (d 0))) + (d 1))) + (d 2))) + (d 3))) + (d 4))) + (d 5))) + (sy 0))) + (sm 0))) + (sd 0))) + (sy 1))) + (sm 1))) + (sd 1))) + (sy 2))) + (sm 2))) + (sd 2))) + (sy 3))) + (sm 3))) + (sd 3))) + (f_X3_floor (mi 0) 12))) + 1) + (f_X3_rest (mi 0) 12))), (3, .int 0), (0, .ref (z 0))]) C dX3_checksum_128 rfl (by decide) rfl ?_
  refine z_iinc (q := 1) (v := 1) (lv' := [(3, .int 1), (1, .long (((31 * ((31 * ((31 * ((31 * ((31 * ((31 * ((31 * ((31 * ((31 * ((31 * ((31 * ((31 * ((31 * ((31 * ((31 * ((31 * ((31 * ((31 * ((31 * (217 + (d 0))) + (d 1))) + (d 2))) + (d 3))) + (d 4))) + (d 5))) + (sy 0))) + (sm 0))) + (sd 0))) + (sy 1))) + (sm 1))) + (sd 1))) + (sy 2))) + (sm 2))) + (sd 2))) + (sy 3))) + (sm 3))) + (sd 3))) + (f_X3_floor (mi 0) 12))) + 1) + (f_X3_rest (mi 0) 12))), (0, .ref (z 0))]) C dX3_checksum_129 rfl (by decide) (by decide) rfl ?_
  refine z_goto (tgt := 86) C dX3_checksum_132 (by decide) ?_
  refine z_iload_n C dX3_checksum_86 rfl 0 rfl ?_
  refine z_iconst (v := 4) C dX3_checksum_87 (by decide) ?_
  refine z_icmp_ge (tgt := 135) C dX3_checksum_88 (by decide) (fun h => absurd h (by decide)) (fun _ => ?_)
  refine z_ldc2 (v := 31) C w3 dX3_checksum_91 ?_
  refine z_ldc2 (v := 31) C w3 dX3_checksum_94 ?_
  refine z_lload_n C dX3_checksum_97 rfl 1 rfl ?_
  refine z_lmul C dX3_checksum_98 ?_
  refine z_aload_n C dX3_checksum_99 rfl 2 rfl ?_
  refine z_get (CC := RX3) (T := TX3) (N := 14) (ci := 3) C hin 0 rfl rfl 10 (by decide) w8 rfl rfl dX3_checksum_100 ?_
  refine z_iload_n C dX3_checksum_103 rfl 0 rfl ?_
  refine z_lald C 10 1 rfl rfl (zvpl 1 4 (by decide)) dX3_checksum_104 ?_
  refine z_eqst (st' := [.long (mi 1), .long (31 * (((31 * ((31 * ((31 * ((31 * ((31 * ((31 * ((31 * ((31 * ((31 * ((31 * ((31 * ((31 * ((31 * ((31 * ((31 * ((31 * ((31 * ((31 * ((31 * (217 + (d 0))) + (d 1))) + (d 2))) + (d 3))) + (d 4))) + (d 5))) + (sy 0))) + (sm 0))) + (sd 0))) + (sy 1))) + (sm 1))) + (sd 1))) + (sy 2))) + (sm 2))) + (sd 2))) + (sy 3))) + (sm 3))) + (sd 3))) + (f_X3_floor (mi 0) 12))) + 1) + (f_X3_rest (mi 0) 12))), .long 31]) rfl ?_
  refine z_ldc2 (v := 12) C w9 dX3_checksum_105 ?_
  refine z_sl (rest := [.long (31 * (((31 * ((31 * ((31 * ((31 * ((31 * ((31 * ((31 * ((31 * ((31 * ((31 * ((31 * ((31 * ((31 * ((31 * ((31 * ((31 * ((31 * ((31 * ((31 * (217 + (d 0))) + (d 1))) + (d 2))) + (d 3))) + (d 4))) + (d 5))) + (sy 0))) + (sm 0))) + (sd 0))) + (sy 1))) + (sm 1))) + (sd 1))) + (sy 2))) + (sm 2))) + (sd 2))) + (sy 3))) + (sm 3))) + (sd 3))) + (f_X3_floor (mi 0) 12))) + 1) + (f_X3_rest (mi 0) 12))), .long 31]) C (c_X3_floor l hfl D cI cJ _ (mi 1) (12 : Int64) (by decide)) q_X3_floor gX3_checksum_X3_floor ⟨rfl, rfl⟩ rfl rfl (Nat.le_of_ble_eq_true rfl) ⟨Nat.le_of_ble_eq_true rfl, Nat.le_of_ble_eq_true rfl⟩ ⟨Nat.le_of_ble_eq_true rfl, Nat.le_of_ble_eq_true rfl⟩ dX3_checksum_108 ?_
  refine z_ladd C dX3_checksum_111 ?_
  refine z_lmul C dX3_checksum_112 ?_
  refine z_lconst (v := 1) C dX3_checksum_113 (by decide) ?_
  refine z_ladd C dX3_checksum_114 ?_
  refine z_aload_n C dX3_checksum_115 rfl 2 rfl ?_
  refine z_get (CC := RX3) (T := TX3) (N := 14) (ci := 3) C hin 0 rfl rfl 10 (by decide) w8 rfl rfl dX3_checksum_116 ?_
  refine z_iload_n C dX3_checksum_119 rfl 0 rfl ?_
  refine z_lald C 10 1 rfl rfl (zvpl 1 4 (by decide)) dX3_checksum_120 ?_
  refine z_eqst (st' := [.long (mi 1), .long ((31 * ((31 * (((31 * ((31 * ((31 * ((31 * ((31 * ((31 * ((31 * ((31 * ((31 * ((31 * ((31 * ((31 * ((31 * ((31 * ((31 * ((31 * ((31 * ((31 * ((31 * (217 + (d 0))) + (d 1))) + (d 2))) + (d 3))) + (d 4))) + (d 5))) + (sy 0))) + (sm 0))) + (sd 0))) + (sy 1))) + (sm 1))) + (sd 1))) + (sy 2))) + (sm 2))) + (sd 2))) + (sy 3))) + (sm 3))) + (sd 3))) + (f_X3_floor (mi 0) 12))) + 1) + (f_X3_rest (mi 0) 12))) + (f_X3_floor (mi 1) 12))) + 1)]) rfl ?_
  refine z_ldc2 (v := 12) C w9 dX3_checksum_121 ?_
  refine z_sl (rest := [.long ((31 * ((31 * (((31 * ((31 * ((31 * ((31 * ((31 * ((31 * ((31 * ((31 * ((31 * ((31 * ((31 * ((31 * ((31 * ((31 * ((31 * ((31 * ((31 * ((31 * ((31 * (217 + (d 0))) + (d 1))) + (d 2))) + (d 3))) + (d 4))) + (d 5))) + (sy 0))) + (sm 0))) + (sd 0))) + (sy 1))) + (sm 1))) + (sd 1))) + (sy 2))) + (sm 2))) + (sd 2))) + (sy 3))) + (sm 3))) + (sd 3))) + (f_X3_floor (mi 0) 12))) + 1) + (f_X3_rest (mi 0) 12))) + (f_X3_floor (mi 1) 12))) + 1)]) C (c_X3_rest l hfl D cI cJ _ (mi 1) (12 : Int64) (by decide)) q_X3_rest gX3_checksum_X3_rest ⟨rfl, rfl⟩ rfl rfl (Nat.le_of_ble_eq_true rfl) ⟨Nat.le_of_ble_eq_true rfl, Nat.le_of_ble_eq_true rfl⟩ ⟨Nat.le_of_ble_eq_true rfl, Nat.le_of_ble_eq_true rfl⟩ dX3_checksum_124 ?_
  refine z_ladd C dX3_checksum_127 ?_
  refine z_lstore_n (lv' := [(1, .long (((31 * ((31 * (((31 * ((31 * ((31 * ((31 * ((31 * ((31 * ((31 * ((31 * ((31 * ((31 * ((31 * ((31 * ((31 * ((31 * ((31 * ((31 * ((31 * ((31 * ((31 * (217 + (d 0))) + (d 1))) + (d 2))) + (d 3))) + (d 4))) + (d 5))) + (sy 0))) + (sm 0))) + (sd 0))) + (sy 1))) + (sm 1))) + (sd 1))) + (sy 2))) + (sm 2))) + (sd 2))) + (sy 3))) + (sm 3))) + (sd 3))) + (f_X3_floor (mi 0) 12))) + 1) + (f_X3_rest (mi 0) 12))) + (f_X3_floor (mi 1) 12))) + 1) + (f_X3_rest (mi 1) 12))), (3, .int 1), (0, .ref (z 0))]) C dX3_checksum_128 rfl (by decide) rfl ?_
  refine z_iinc (q := 1) (v := 2) (lv' := [(3, .int 2), (1, .long (((31 * ((31 * (((31 * ((31 * ((31 * ((31 * ((31 * ((31 * ((31 * ((31 * ((31 * ((31 * ((31 * ((31 * ((31 * ((31 * ((31 * ((31 * ((31 * ((31 * ((31 * (217 + (d 0))) + (d 1))) + (d 2))) + (d 3))) + (d 4))) + (d 5))) + (sy 0))) + (sm 0))) + (sd 0))) + (sy 1))) + (sm 1))) + (sd 1))) + (sy 2))) + (sm 2))) + (sd 2))) + (sy 3))) + (sm 3))) + (sd 3))) + (f_X3_floor (mi 0) 12))) + 1) + (f_X3_rest (mi 0) 12))) + (f_X3_floor (mi 1) 12))) + 1) + (f_X3_rest (mi 1) 12))), (0, .ref (z 0))]) C dX3_checksum_129 rfl (by decide) (by decide) rfl ?_
  refine z_goto (tgt := 86) C dX3_checksum_132 (by decide) ?_
  refine z_iload_n C dX3_checksum_86 rfl 0 rfl ?_
  refine z_iconst (v := 4) C dX3_checksum_87 (by decide) ?_
  refine z_icmp_ge (tgt := 135) C dX3_checksum_88 (by decide) (fun h => absurd h (by decide)) (fun _ => ?_)
  refine z_ldc2 (v := 31) C w3 dX3_checksum_91 ?_
  refine z_ldc2 (v := 31) C w3 dX3_checksum_94 ?_
  refine z_lload_n C dX3_checksum_97 rfl 1 rfl ?_
  refine z_lmul C dX3_checksum_98 ?_
  refine z_aload_n C dX3_checksum_99 rfl 2 rfl ?_
  refine z_get (CC := RX3) (T := TX3) (N := 14) (ci := 3) C hin 0 rfl rfl 10 (by decide) w8 rfl rfl dX3_checksum_100 ?_
  refine z_iload_n C dX3_checksum_103 rfl 0 rfl ?_
  refine z_lald C 10 1 rfl rfl (zvpl 2 4 (by decide)) dX3_checksum_104 ?_
  refine z_eqst (st' := [.long (mi 2), .long (31 * (((31 * ((31 * (((31 * ((31 * ((31 * ((31 * ((31 * ((31 * ((31 * ((31 * ((31 * ((31 * ((31 * ((31 * ((31 * ((31 * ((31 * ((31 * ((31 * ((31 * ((31 * (217 + (d 0))) + (d 1))) + (d 2))) + (d 3))) + (d 4))) + (d 5))) + (sy 0))) + (sm 0))) + (sd 0))) + (sy 1))) + (sm 1))) + (sd 1))) + (sy 2))) + (sm 2))) + (sd 2))) + (sy 3))) + (sm 3))) + (sd 3))) + (f_X3_floor (mi 0) 12))) + 1) + (f_X3_rest (mi 0) 12))) + (f_X3_floor (mi 1) 12))) + 1) + (f_X3_rest (mi 1) 12))), .long 31]) rfl ?_
  refine z_ldc2 (v := 12) C w9 dX3_checksum_105 ?_
  refine z_sl (rest := [.long (31 * (((31 * ((31 * (((31 * ((31 * ((31 * ((31 * ((31 * ((31 * ((31 * ((31 * ((31 * ((31 * ((31 * ((31 * ((31 * ((31 * ((31 * ((31 * ((31 * ((31 * ((31 * (217 + (d 0))) + (d 1))) + (d 2))) + (d 3))) + (d 4))) + (d 5))) + (sy 0))) + (sm 0))) + (sd 0))) + (sy 1))) + (sm 1))) + (sd 1))) + (sy 2))) + (sm 2))) + (sd 2))) + (sy 3))) + (sm 3))) + (sd 3))) + (f_X3_floor (mi 0) 12))) + 1) + (f_X3_rest (mi 0) 12))) + (f_X3_floor (mi 1) 12))) + 1) + (f_X3_rest (mi 1) 12))), .long 31]) C (c_X3_floor l hfl D cI cJ _ (mi 2) (12 : Int64) (by decide)) q_X3_floor gX3_checksum_X3_floor ⟨rfl, rfl⟩ rfl rfl (Nat.le_of_ble_eq_true rfl) ⟨Nat.le_of_ble_eq_true rfl, Nat.le_of_ble_eq_true rfl⟩ ⟨Nat.le_of_ble_eq_true rfl, Nat.le_of_ble_eq_true rfl⟩ dX3_checksum_108 ?_
  refine z_ladd C dX3_checksum_111 ?_
  refine z_lmul C dX3_checksum_112 ?_
  refine z_lconst (v := 1) C dX3_checksum_113 (by decide) ?_
  refine z_ladd C dX3_checksum_114 ?_
  refine z_aload_n C dX3_checksum_115 rfl 2 rfl ?_
  refine z_get (CC := RX3) (T := TX3) (N := 14) (ci := 3) C hin 0 rfl rfl 10 (by decide) w8 rfl rfl dX3_checksum_116 ?_
  refine z_iload_n C dX3_checksum_119 rfl 0 rfl ?_
  refine z_lald C 10 1 rfl rfl (zvpl 2 4 (by decide)) dX3_checksum_120 ?_
  refine z_eqst (st' := [.long (mi 2), .long ((31 * ((31 * (((31 * ((31 * (((31 * ((31 * ((31 * ((31 * ((31 * ((31 * ((31 * ((31 * ((31 * ((31 * ((31 * ((31 * ((31 * ((31 * ((31 * ((31 * ((31 * ((31 * ((31 * (217 + (d 0))) + (d 1))) + (d 2))) + (d 3))) + (d 4))) + (d 5))) + (sy 0))) + (sm 0))) + (sd 0))) + (sy 1))) + (sm 1))) + (sd 1))) + (sy 2))) + (sm 2))) + (sd 2))) + (sy 3))) + (sm 3))) + (sd 3))) + (f_X3_floor (mi 0) 12))) + 1) + (f_X3_rest (mi 0) 12))) + (f_X3_floor (mi 1) 12))) + 1) + (f_X3_rest (mi 1) 12))) + (f_X3_floor (mi 2) 12))) + 1)]) rfl ?_
  refine z_ldc2 (v := 12) C w9 dX3_checksum_121 ?_
  refine z_sl (rest := [.long ((31 * ((31 * (((31 * ((31 * (((31 * ((31 * ((31 * ((31 * ((31 * ((31 * ((31 * ((31 * ((31 * ((31 * ((31 * ((31 * ((31 * ((31 * ((31 * ((31 * ((31 * ((31 * ((31 * (217 + (d 0))) + (d 1))) + (d 2))) + (d 3))) + (d 4))) + (d 5))) + (sy 0))) + (sm 0))) + (sd 0))) + (sy 1))) + (sm 1))) + (sd 1))) + (sy 2))) + (sm 2))) + (sd 2))) + (sy 3))) + (sm 3))) + (sd 3))) + (f_X3_floor (mi 0) 12))) + 1) + (f_X3_rest (mi 0) 12))) + (f_X3_floor (mi 1) 12))) + 1) + (f_X3_rest (mi 1) 12))) + (f_X3_floor (mi 2) 12))) + 1)]) C (c_X3_rest l hfl D cI cJ _ (mi 2) (12 : Int64) (by decide)) q_X3_rest gX3_checksum_X3_rest ⟨rfl, rfl⟩ rfl rfl (Nat.le_of_ble_eq_true rfl) ⟨Nat.le_of_ble_eq_true rfl, Nat.le_of_ble_eq_true rfl⟩ ⟨Nat.le_of_ble_eq_true rfl, Nat.le_of_ble_eq_true rfl⟩ dX3_checksum_124 ?_
  refine z_ladd C dX3_checksum_127 ?_
  refine z_lstore_n (lv' := [(1, .long (((31 * ((31 * (((31 * ((31 * (((31 * ((31 * ((31 * ((31 * ((31 * ((31 * ((31 * ((31 * ((31 * ((31 * ((31 * ((31 * ((31 * ((31 * ((31 * ((31 * ((31 * ((31 * ((31 * (217 + (d 0))) + (d 1))) + (d 2))) + (d 3))) + (d 4))) + (d 5))) + (sy 0))) + (sm 0))) + (sd 0))) + (sy 1))) + (sm 1))) + (sd 1))) + (sy 2))) + (sm 2))) + (sd 2))) + (sy 3))) + (sm 3))) + (sd 3))) + (f_X3_floor (mi 0) 12))) + 1) + (f_X3_rest (mi 0) 12))) + (f_X3_floor (mi 1) 12))) + 1) + (f_X3_rest (mi 1) 12))) + (f_X3_floor (mi 2) 12))) + 1) + (f_X3_rest (mi 2) 12))), (3, .int 2), (0, .ref (z 0))]) C dX3_checksum_128 rfl (by decide) rfl ?_
  refine z_iinc (q := 1) (v := 3) (lv' := [(3, .int 3), (1, .long (((31 * ((31 * (((31 * ((31 * (((31 * ((31 * ((31 * ((31 * ((31 * ((31 * ((31 * ((31 * ((31 * ((31 * ((31 * ((31 * ((31 * ((31 * ((31 * ((31 * ((31 * ((31 * ((31 * (217 + (d 0))) + (d 1))) + (d 2))) + (d 3))) + (d 4))) + (d 5))) + (sy 0))) + (sm 0))) + (sd 0))) + (sy 1))) + (sm 1))) + (sd 1))) + (sy 2))) + (sm 2))) + (sd 2))) + (sy 3))) + (sm 3))) + (sd 3))) + (f_X3_floor (mi 0) 12))) + 1) + (f_X3_rest (mi 0) 12))) + (f_X3_floor (mi 1) 12))) + 1) + (f_X3_rest (mi 1) 12))) + (f_X3_floor (mi 2) 12))) + 1) + (f_X3_rest (mi 2) 12))), (0, .ref (z 0))]) C dX3_checksum_129 rfl (by decide) (by decide) rfl ?_
  refine z_goto (tgt := 86) C dX3_checksum_132 (by decide) ?_
  refine z_iload_n C dX3_checksum_86 rfl 0 rfl ?_
  refine z_iconst (v := 4) C dX3_checksum_87 (by decide) ?_
  refine z_icmp_ge (tgt := 135) C dX3_checksum_88 (by decide) (fun h => absurd h (by decide)) (fun _ => ?_)
  refine z_ldc2 (v := 31) C w3 dX3_checksum_91 ?_
  refine z_ldc2 (v := 31) C w3 dX3_checksum_94 ?_
  refine z_lload_n C dX3_checksum_97 rfl 1 rfl ?_
  refine z_lmul C dX3_checksum_98 ?_
  refine z_aload_n C dX3_checksum_99 rfl 2 rfl ?_
  refine z_get (CC := RX3) (T := TX3) (N := 14) (ci := 3) C hin 0 rfl rfl 10 (by decide) w8 rfl rfl dX3_checksum_100 ?_
  refine z_iload_n C dX3_checksum_103 rfl 0 rfl ?_
  refine z_lald C 10 1 rfl rfl (zvpl 3 4 (by decide)) dX3_checksum_104 ?_
  refine z_eqst (st' := [.long (mi 3), .long (31 * (((31 * ((31 * (((31 * ((31 * (((31 * ((31 * ((31 * ((31 * ((31 * ((31 * ((31 * ((31 * ((31 * ((31 * ((31 * ((31 * ((31 * ((31 * ((31 * ((31 * ((31 * ((31 * ((31 * (217 + (d 0))) + (d 1))) + (d 2))) + (d 3))) + (d 4))) + (d 5))) + (sy 0))) + (sm 0))) + (sd 0))) + (sy 1))) + (sm 1))) + (sd 1))) + (sy 2))) + (sm 2))) + (sd 2))) + (sy 3))) + (sm 3))) + (sd 3))) + (f_X3_floor (mi 0) 12))) + 1) + (f_X3_rest (mi 0) 12))) + (f_X3_floor (mi 1) 12))) + 1) + (f_X3_rest (mi 1) 12))) + (f_X3_floor (mi 2) 12))) + 1) + (f_X3_rest (mi 2) 12))), .long 31]) rfl ?_
  refine z_ldc2 (v := 12) C w9 dX3_checksum_105 ?_
  refine z_sl (rest := [.long (31 * (((31 * ((31 * (((31 * ((31 * (((31 * ((31 * ((31 * ((31 * ((31 * ((31 * ((31 * ((31 * ((31 * ((31 * ((31 * ((31 * ((31 * ((31 * ((31 * ((31 * ((31 * ((31 * ((31 * (217 + (d 0))) + (d 1))) + (d 2))) + (d 3))) + (d 4))) + (d 5))) + (sy 0))) + (sm 0))) + (sd 0))) + (sy 1))) + (sm 1))) + (sd 1))) + (sy 2))) + (sm 2))) + (sd 2))) + (sy 3))) + (sm 3))) + (sd 3))) + (f_X3_floor (mi 0) 12))) + 1) + (f_X3_rest (mi 0) 12))) + (f_X3_floor (mi 1) 12))) + 1) + (f_X3_rest (mi 1) 12))) + (f_X3_floor (mi 2) 12))) + 1) + (f_X3_rest (mi 2) 12))), .long 31]) C (c_X3_floor l hfl D cI cJ _ (mi 3) (12 : Int64) (by decide)) q_X3_floor gX3_checksum_X3_floor ⟨rfl, rfl⟩ rfl rfl (Nat.le_of_ble_eq_true rfl) ⟨Nat.le_of_ble_eq_true rfl, Nat.le_of_ble_eq_true rfl⟩ ⟨Nat.le_of_ble_eq_true rfl, Nat.le_of_ble_eq_true rfl⟩ dX3_checksum_108 ?_
  refine z_ladd C dX3_checksum_111 ?_
  refine z_lmul C dX3_checksum_112 ?_
  refine z_lconst (v := 1) C dX3_checksum_113 (by decide) ?_
  refine z_ladd C dX3_checksum_114 ?_
  refine z_aload_n C dX3_checksum_115 rfl 2 rfl ?_
  refine z_get (CC := RX3) (T := TX3) (N := 14) (ci := 3) C hin 0 rfl rfl 10 (by decide) w8 rfl rfl dX3_checksum_116 ?_
  refine z_iload_n C dX3_checksum_119 rfl 0 rfl ?_
  refine z_lald C 10 1 rfl rfl (zvpl 3 4 (by decide)) dX3_checksum_120 ?_
  refine z_eqst (st' := [.long (mi 3), .long ((31 * ((31 * (((31 * ((31 * (((31 * ((31 * (((31 * ((31 * ((31 * ((31 * ((31 * ((31 * ((31 * ((31 * ((31 * ((31 * ((31 * ((31 * ((31 * ((31 * ((31 * ((31 * ((31 * ((31 * ((31 * (217 + (d 0))) + (d 1))) + (d 2))) + (d 3))) + (d 4))) + (d 5))) + (sy 0))) + (sm 0))) + (sd 0))) + (sy 1))) + (sm 1))) + (sd 1))) + (sy 2))) + (sm 2))) + (sd 2))) + (sy 3))) + (sm 3))) + (sd 3))) + (f_X3_floor (mi 0) 12))) + 1) + (f_X3_rest (mi 0) 12))) + (f_X3_floor (mi 1) 12))) + 1) + (f_X3_rest (mi 1) 12))) + (f_X3_floor (mi 2) 12))) + 1) + (f_X3_rest (mi 2) 12))) + (f_X3_floor (mi 3) 12))) + 1)]) rfl ?_
  refine z_ldc2 (v := 12) C w9 dX3_checksum_121 ?_
  refine z_sl (rest := [.long ((31 * ((31 * (((31 * ((31 * (((31 * ((31 * (((31 * ((31 * ((31 * ((31 * ((31 * ((31 * ((31 * ((31 * ((31 * ((31 * ((31 * ((31 * ((31 * ((31 * ((31 * ((31 * ((31 * ((31 * ((31 * (217 + (d 0))) + (d 1))) + (d 2))) + (d 3))) + (d 4))) + (d 5))) + (sy 0))) + (sm 0))) + (sd 0))) + (sy 1))) + (sm 1))) + (sd 1))) + (sy 2))) + (sm 2))) + (sd 2))) + (sy 3))) + (sm 3))) + (sd 3))) + (f_X3_floor (mi 0) 12))) + 1) + (f_X3_rest (mi 0) 12))) + (f_X3_floor (mi 1) 12))) + 1) + (f_X3_rest (mi 1) 12))) + (f_X3_floor (mi 2) 12))) + 1) + (f_X3_rest (mi 2) 12))) + (f_X3_floor (mi 3) 12))) + 1)]) C (c_X3_rest l hfl D cI cJ _ (mi 3) (12 : Int64) (by decide)) q_X3_rest gX3_checksum_X3_rest ⟨rfl, rfl⟩ rfl rfl (Nat.le_of_ble_eq_true rfl) ⟨Nat.le_of_ble_eq_true rfl, Nat.le_of_ble_eq_true rfl⟩ ⟨Nat.le_of_ble_eq_true rfl, Nat.le_of_ble_eq_true rfl⟩ dX3_checksum_124 ?_
  refine z_ladd C dX3_checksum_127 ?_
  refine z_lstore_n (lv' := [(1, .long (((31 * ((31 * (((31 * ((31 * (((31 * ((31 * (((31 * ((31 * ((31 * ((31 * ((31 * ((31 * ((31 * ((31 * ((31 * ((31 * ((31 * ((31 * ((31 * ((31 * ((31 * ((31 * ((31 * ((31 * ((31 * (217 + (d 0))) + (d 1))) + (d 2))) + (d 3))) + (d 4))) + (d 5))) + (sy 0))) + (sm 0))) + (sd 0))) + (sy 1))) + (sm 1))) + (sd 1))) + (sy 2))) + (sm 2))) + (sd 2))) + (sy 3))) + (sm 3))) + (sd 3))) + (f_X3_floor (mi 0) 12))) + 1) + (f_X3_rest (mi 0) 12))) + (f_X3_floor (mi 1) 12))) + 1) + (f_X3_rest (mi 1) 12))) + (f_X3_floor (mi 2) 12))) + 1) + (f_X3_rest (mi 2) 12))) + (f_X3_floor (mi 3) 12))) + 1) + (f_X3_rest (mi 3) 12))), (3, .int 3), (0, .ref (z 0))]) C dX3_checksum_128 rfl (by decide) rfl ?_
  refine z_iinc (q := 1) (v := 4) (lv' := [(3, .int 4), (1, .long (((31 * ((31 * (((31 * ((31 * (((31 * ((31 * (((31 * ((31 * ((31 * ((31 * ((31 * ((31 * ((31 * ((31 * ((31 * ((31 * ((31 * ((31 * ((31 * ((31 * ((31 * ((31 * ((31 * ((31 * ((31 * (217 + (d 0))) + (d 1))) + (d 2))) + (d 3))) + (d 4))) + (d 5))) + (sy 0))) + (sm 0))) + (sd 0))) + (sy 1))) + (sm 1))) + (sd 1))) + (sy 2))) + (sm 2))) + (sd 2))) + (sy 3))) + (sm 3))) + (sd 3))) + (f_X3_floor (mi 0) 12))) + 1) + (f_X3_rest (mi 0) 12))) + (f_X3_floor (mi 1) 12))) + 1) + (f_X3_rest (mi 1) 12))) + (f_X3_floor (mi 2) 12))) + 1) + (f_X3_rest (mi 2) 12))) + (f_X3_floor (mi 3) 12))) + 1) + (f_X3_rest (mi 3) 12))), (0, .ref (z 0))]) C dX3_checksum_129 rfl (by decide) (by decide) rfl ?_
  refine z_goto (tgt := 86) C dX3_checksum_132 (by decide) ?_
  refine z_iload_n C dX3_checksum_86 rfl 0 rfl ?_
  refine z_iconst (v := 4) C dX3_checksum_87 (by decide) ?_
  refine z_icmp_ge (tgt := 135) C dX3_checksum_88 (by decide) (fun _ => ?_) (fun h => absurd (by decide) h)
  refine z_iconst (v := 0) C dX3_checksum_135 (by decide) ?_
  refine z_istore_n (lv' := [(3, .int 0), (1, .long (((31 * ((31 * (((31 * ((31 * (((31 * ((31 * (((31 * ((31 * ((31 * ((31 * ((31 * ((31 * ((31 * ((31 * ((31 * ((31 * ((31 * ((31 * ((31 * ((31 * ((31 * ((31 * ((31 * ((31 * ((31 * (217 + (d 0))) + (d 1))) + (d 2))) + (d 3))) + (d 4))) + (d 5))) + (sy 0))) + (sm 0))) + (sd 0))) + (sy 1))) + (sm 1))) + (sd 1))) + (sy 2))) + (sm 2))) + (sd 2))) + (sy 3))) + (sm 3))) + (sd 3))) + (f_X3_floor (mi 0) 12))) + 1) + (f_X3_rest (mi 0) 12))) + (f_X3_floor (mi 1) 12))) + 1) + (f_X3_rest (mi 1) 12))) + (f_X3_floor (mi 2) 12))) + 1) + (f_X3_rest (mi 2) 12))) + (f_X3_floor (mi 3) 12))) + 1) + (f_X3_rest (mi 3) 12))), (0, .ref (z 0))]) C dX3_checksum_136 rfl (by decide) rfl ?_
  refine z_iload_n C dX3_checksum_137 rfl 0 rfl ?_
  refine z_iconst (v := 4) C dX3_checksum_138 (by decide) ?_
  refine z_icmp_ge (tgt := 161) C dX3_checksum_139 (by decide) (fun h => absurd h (by decide)) (fun _ => ?_)
  refine z_ldc2 (v := 31) C w3 dX3_checksum_142 ?_
  refine z_lload_n C dX3_checksum_145 rfl 1 rfl ?_
  refine z_lmul C dX3_checksum_146 ?_
  refine z_aload_n C dX3_checksum_147 rfl 2 rfl ?_
  refine z_get (CC := RX3) (T := TX3) (N := 14) (ci := 3) C hin 0 rfl rfl 2 (by decide) w10 rfl rfl dX3_checksum_148 ?_
  refine z_iload_n C dX3_checksum_151 rfl 0 rfl ?_
  refine z_lald C 2 1 rfl rfl (zvpl 0 4 (by decide)) dX3_checksum_152 ?_
  refine z_eqst (st' := [.long (ti 0), .long (31 * (((31 * ((31 * (((31 * ((31 * (((31 * ((31 * (((31 * ((31 * ((31 * ((31 * ((31 * ((31 * ((31 * ((31 * ((31 * ((31 * ((31 * ((31 * ((31 * ((31 * ((31 * ((31 * ((31 * ((31 * ((31 * (217 + (d 0))) + (d 1))) + (d 2))) + (d 3))) + (d 4))) + (d 5))) + (sy 0))) + (sm 0))) + (sd 0))) + (sy 1))) + (sm 1))) + (sd 1))) + (sy 2))) + (sm 2))) + (sd 2))) + (sy 3))) + (sm 3))) + (sd 3))) + (f_X3_floor (mi 0) 12))) + 1) + (f_X3_rest (mi 0) 12))) + (f_X3_floor (mi 1) 12))) + 1) + (f_X3_rest (mi 1) 12))) + (f_X3_floor (mi 2) 12))) + 1) + (f_X3_rest (mi 2) 12))) + (f_X3_floor (mi 3) 12))) + 1) + (f_X3_rest (mi 3) 12)))]) rfl ?_
  refine z_ladd C dX3_checksum_153 ?_
  refine z_lstore_n (lv' := [(1, .long ((31 * (((31 * ((31 * (((31 * ((31 * (((31 * ((31 * (((31 * ((31 * ((31 * ((31 * ((31 * ((31 * ((31 * ((31 * ((31 * ((31 * ((31 * ((31 * ((31 * ((31 * ((31 * ((31 * ((31 * ((31 * ((31 * (217 + (d 0))) + (d 1))) + (d 2))) + (d 3))) + (d 4))) + (d 5))) + (sy 0))) + (sm 0))) + (sd 0))) + (sy 1))) + (sm 1))) + (sd 1))) + (sy 2))) + (sm 2))) + (sd 2))) + (sy 3))) + (sm 3))) + (sd 3))) + (f_X3_floor (mi 0) 12))) + 1) + (f_X3_rest (mi 0) 12))) + (f_X3_floor (mi 1) 12))) + 1) + (f_X3_rest (mi 1) 12))) + (f_X3_floor (mi 2) 12))) + 1) + (f_X3_rest (mi 2) 12))) + (f_X3_floor (mi 3) 12))) + 1) + (f_X3_rest (mi 3) 12))) + (ti 0))), (3, .int 0), (0, .ref (z 0))]) C dX3_checksum_154 rfl (by decide) rfl ?_
  refine z_iinc (q := 1) (v := 1) (lv' := [(3, .int 1), (1, .long ((31 * (((31 * ((31 * (((31 * ((31 * (((31 * ((31 * (((31 * ((31 * ((31 * ((31 * ((31 * ((31 * ((31 * ((31 * ((31 * ((31 * ((31 * ((31 * ((31 * ((31 * ((31 * ((31 * ((31 * ((31 * ((31 * (217 + (d 0))) + (d 1))) + (d 2))) + (d 3))) + (d 4))) + (d 5))) + (sy 0))) + (sm 0))) + (sd 0))) + (sy 1))) + (sm 1))) + (sd 1))) + (sy 2))) + (sm 2))) + (sd 2))) + (sy 3))) + (sm 3))) + (sd 3))) + (f_X3_floor (mi 0) 12))) + 1) + (f_X3_rest (mi 0) 12))) + (f_X3_floor (mi 1) 12))) + 1) + (f_X3_rest (mi 1) 12))) + (f_X3_floor (mi 2) 12))) + 1) + (f_X3_rest (mi 2) 12))) + (f_X3_floor (mi 3) 12))) + 1) + (f_X3_rest (mi 3) 12))) + (ti 0))), (0, .ref (z 0))]) C dX3_checksum_155 rfl (by decide) (by decide) rfl ?_
  refine z_goto (tgt := 137) C dX3_checksum_158 (by decide) ?_
  refine z_iload_n C dX3_checksum_137 rfl 0 rfl ?_
  refine z_iconst (v := 4) C dX3_checksum_138 (by decide) ?_
  refine z_icmp_ge (tgt := 161) C dX3_checksum_139 (by decide) (fun h => absurd h (by decide)) (fun _ => ?_)
  refine z_ldc2 (v := 31) C w3 dX3_checksum_142 ?_
  refine z_lload_n C dX3_checksum_145 rfl 1 rfl ?_
  refine z_lmul C dX3_checksum_146 ?_
  refine z_aload_n C dX3_checksum_147 rfl 2 rfl ?_
  refine z_get (CC := RX3) (T := TX3) (N := 14) (ci := 3) C hin 0 rfl rfl 2 (by decide) w10 rfl rfl dX3_checksum_148 ?_
  refine z_iload_n C dX3_checksum_151 rfl 0 rfl ?_
  refine z_lald C 2 1 rfl rfl (zvpl 1 4 (by decide)) dX3_checksum_152 ?_
  refine z_eqst (st' := [.long (ti 1), .long (31 * ((31 * (((31 * ((31 * (((31 * ((31 * (((31 * ((31 * (((31 * ((31 * ((31 * ((31 * ((31 * ((31 * ((31 * ((31 * ((31 * ((31 * ((31 * ((31 * ((31 * ((31 * ((31 * ((31 * ((31 * ((31 * ((31 * (217 + (d 0))) + (d 1))) + (d 2))) + (d 3))) + (d 4))) + (d 5))) + (sy 0))) + (sm 0))) + (sd 0))) + (sy 1))) + (sm 1))) + (sd 1))) + (sy 2))) + (sm 2))) + (sd 2))) + (sy 3))) + (sm 3))) + (sd 3))) + (f_X3_floor (mi 0) 12))) + 1) + (f_X3_rest (mi 0) 12))) + (f_X3_floor (mi 1) 12))) + 1) + (f_X3_rest (mi 1) 12))) + (f_X3_floor (mi 2) 12))) + 1) + (f_X3_rest (mi 2) 12))) + (f_X3_floor (mi 3) 12))) + 1) + (f_X3_rest (mi 3) 12))) + (ti 0)))]) rfl ?_
  refine z_ladd C dX3_checksum_153 ?_
  refine z_lstore_n (lv' := [(1, .long ((31 * ((31 * (((31 * ((31 * (((31 * ((31 * (((31 * ((31 * (((31 * ((31 * ((31 * ((31 * ((31 * ((31 * ((31 * ((31 * ((31 * ((31 * ((31 * ((31 * ((31 * ((31 * ((31 * ((31 * ((31 * ((31 * ((31 * (217 + (d 0))) + (d 1))) + (d 2))) + (d 3))) + (d 4))) + (d 5))) + (sy 0))) + (sm 0))) + (sd 0))) + (sy 1))) + (sm 1))) + (sd 1))) + (sy 2))) + (sm 2))) + (sd 2))) + (sy 3))) + (sm 3))) + (sd 3))) + (f_X3_floor (mi 0) 12))) + 1) + (f_X3_rest (mi 0) 12))) + (f_X3_floor (mi 1) 12))) + 1) + (f_X3_rest (mi 1) 12))) + (f_X3_floor (mi 2) 12))) + 1) + (f_X3_rest (mi 2) 12))) + (f_X3_floor (mi 3) 12))) + 1) + (f_X3_rest (mi 3) 12))) + (ti 0))) + (ti 1))), (3, .int 1), (0, .ref (z 0))]) C dX3_checksum_154 rfl (by decide) rfl ?_
  refine z_iinc (q := 1) (v := 2) (lv' := [(3, .int 2), (1, .long ((31 * ((31 * (((31 * ((31 * (((31 * ((31 * (((31 * ((31 * (((31 * ((31 * ((31 * ((31 * ((31 * ((31 * ((31 * ((31 * ((31 * ((31 * ((31 * ((31 * ((31 * ((31 * ((31 * ((31 * ((31 * ((31 * ((31 * (217 + (d 0))) + (d 1))) + (d 2))) + (d 3))) + (d 4))) + (d 5))) + (sy 0))) + (sm 0))) + (sd 0))) + (sy 1))) + (sm 1))) + (sd 1))) + (sy 2))) + (sm 2))) + (sd 2))) + (sy 3))) + (sm 3))) + (sd 3))) + (f_X3_floor (mi 0) 12))) + 1) + (f_X3_rest (mi 0) 12))) + (f_X3_floor (mi 1) 12))) + 1) + (f_X3_rest (mi 1) 12))) + (f_X3_floor (mi 2) 12))) + 1) + (f_X3_rest (mi 2) 12))) + (f_X3_floor (mi 3) 12))) + 1) + (f_X3_rest (mi 3) 12))) + (ti 0))) + (ti 1))), (0, .ref (z 0))]) C dX3_checksum_155 rfl (by decide) (by decide) rfl ?_
  refine z_goto (tgt := 137) C dX3_checksum_158 (by decide) ?_
  refine z_iload_n C dX3_checksum_137 rfl 0 rfl ?_
  refine z_iconst (v := 4) C dX3_checksum_138 (by decide) ?_
  refine z_icmp_ge (tgt := 161) C dX3_checksum_139 (by decide) (fun h => absurd h (by decide)) (fun _ => ?_)
  refine z_ldc2 (v := 31) C w3 dX3_checksum_142 ?_
  refine z_lload_n C dX3_checksum_145 rfl 1 rfl ?_
  refine z_lmul C dX3_checksum_146 ?_
  refine z_aload_n C dX3_checksum_147 rfl 2 rfl ?_
  refine z_get (CC := RX3) (T := TX3) (N := 14) (ci := 3) C hin 0 rfl rfl 2 (by decide) w10 rfl rfl dX3_checksum_148 ?_
  refine z_iload_n C dX3_checksum_151 rfl 0 rfl ?_
  refine z_lald C 2 1 rfl rfl (zvpl 2 4 (by decide)) dX3_checksum_152 ?_
  refine z_eqst (st' := [.long (ti 2), .long (31 * ((31 * ((31 * (((31 * ((31 * (((31 * ((31 * (((31 * ((31 * (((31 * ((31 * ((31 * ((31 * ((31 * ((31 * ((31 * ((31 * ((31 * ((31 * ((31 * ((31 * ((31 * ((31 * ((31 * ((31 * ((31 * ((31 * ((31 * (217 + (d 0))) + (d 1))) + (d 2))) + (d 3))) + (d 4))) + (d 5))) + (sy 0))) + (sm 0))) + (sd 0))) + (sy 1))) + (sm 1))) + (sd 1))) + (sy 2))) + (sm 2))) + (sd 2))) + (sy 3))) + (sm 3))) + (sd 3))) + (f_X3_floor (mi 0) 12))) + 1) + (f_X3_rest (mi 0) 12))) + (f_X3_floor (mi 1) 12))) + 1) + (f_X3_rest (mi 1) 12))) + (f_X3_floor (mi 2) 12))) + 1) + (f_X3_rest (mi 2) 12))) + (f_X3_floor (mi 3) 12))) + 1) + (f_X3_rest (mi 3) 12))) + (ti 0))) + (ti 1)))]) rfl ?_
  refine z_ladd C dX3_checksum_153 ?_
  refine z_lstore_n (lv' := [(1, .long ((31 * ((31 * ((31 * (((31 * ((31 * (((31 * ((31 * (((31 * ((31 * (((31 * ((31 * ((31 * ((31 * ((31 * ((31 * ((31 * ((31 * ((31 * ((31 * ((31 * ((31 * ((31 * ((31 * ((31 * ((31 * ((31 * ((31 * ((31 * (217 + (d 0))) + (d 1))) + (d 2))) + (d 3))) + (d 4))) + (d 5))) + (sy 0))) + (sm 0))) + (sd 0))) + (sy 1))) + (sm 1))) + (sd 1))) + (sy 2))) + (sm 2))) + (sd 2))) + (sy 3))) + (sm 3))) + (sd 3))) + (f_X3_floor (mi 0) 12))) + 1) + (f_X3_rest (mi 0) 12))) + (f_X3_floor (mi 1) 12))) + 1) + (f_X3_rest (mi 1) 12))) + (f_X3_floor (mi 2) 12))) + 1) + (f_X3_rest (mi 2) 12))) + (f_X3_floor (mi 3) 12))) + 1) + (f_X3_rest (mi 3) 12))) + (ti 0))) + (ti 1))) + (ti 2))), (3, .int 2), (0, .ref (z 0))]) C dX3_checksum_154 rfl (by decide) rfl ?_
  refine z_iinc (q := 1) (v := 3) (lv' := [(3, .int 3), (1, .long ((31 * ((31 * ((31 * (((31 * ((31 * (((31 * ((31 * (((31 * ((31 * (((31 * ((31 * ((31 * ((31 * ((31 * ((31 * ((31 * ((31 * ((31 * ((31 * ((31 * ((31 * ((31 * ((31 * ((31 * ((31 * ((31 * ((31 * ((31 * (217 + (d 0))) + (d 1))) + (d 2))) + (d 3))) + (d 4))) + (d 5))) + (sy 0))) + (sm 0))) + (sd 0))) + (sy 1))) + (sm 1))) + (sd 1))) + (sy 2))) + (sm 2))) + (sd 2))) + (sy 3))) + (sm 3))) + (sd 3))) + (f_X3_floor (mi 0) 12))) + 1) + (f_X3_rest (mi 0) 12))) + (f_X3_floor (mi 1) 12))) + 1) + (f_X3_rest (mi 1) 12))) + (f_X3_floor (mi 2) 12))) + 1) + (f_X3_rest (mi 2) 12))) + (f_X3_floor (mi 3) 12))) + 1) + (f_X3_rest (mi 3) 12))) + (ti 0))) + (ti 1))) + (ti 2))), (0, .ref (z 0))]) C dX3_checksum_155 rfl (by decide) (by decide) rfl ?_
  refine z_goto (tgt := 137) C dX3_checksum_158 (by decide) ?_
  refine z_iload_n C dX3_checksum_137 rfl 0 rfl ?_
  refine z_iconst (v := 4) C dX3_checksum_138 (by decide) ?_
  refine z_icmp_ge (tgt := 161) C dX3_checksum_139 (by decide) (fun h => absurd h (by decide)) (fun _ => ?_)
  refine z_ldc2 (v := 31) C w3 dX3_checksum_142 ?_
  refine z_lload_n C dX3_checksum_145 rfl 1 rfl ?_
  refine z_lmul C dX3_checksum_146 ?_
  refine z_aload_n C dX3_checksum_147 rfl 2 rfl ?_
  refine z_get (CC := RX3) (T := TX3) (N := 14) (ci := 3) C hin 0 rfl rfl 2 (by decide) w10 rfl rfl dX3_checksum_148 ?_
  refine z_iload_n C dX3_checksum_151 rfl 0 rfl ?_
  refine z_lald C 2 1 rfl rfl (zvpl 3 4 (by decide)) dX3_checksum_152 ?_
  refine z_eqst (st' := [.long (ti 3), .long (31 * ((31 * ((31 * ((31 * (((31 * ((31 * (((31 * ((31 * (((31 * ((31 * (((31 * ((31 * ((31 * ((31 * ((31 * ((31 * ((31 * ((31 * ((31 * ((31 * ((31 * ((31 * ((31 * ((31 * ((31 * ((31 * ((31 * ((31 * ((31 * (217 + (d 0))) + (d 1))) + (d 2))) + (d 3))) + (d 4))) + (d 5))) + (sy 0))) + (sm 0))) + (sd 0))) + (sy 1))) + (sm 1))) + (sd 1))) + (sy 2))) + (sm 2))) + (sd 2))) + (sy 3))) + (sm 3))) + (sd 3))) + (f_X3_floor (mi 0) 12))) + 1) + (f_X3_rest (mi 0) 12))) + (f_X3_floor (mi 1) 12))) + 1) + (f_X3_rest (mi 1) 12))) + (f_X3_floor (mi 2) 12))) + 1) + (f_X3_rest (mi 2) 12))) + (f_X3_floor (mi 3) 12))) + 1) + (f_X3_rest (mi 3) 12))) + (ti 0))) + (ti 1))) + (ti 2)))]) rfl ?_
  refine z_ladd C dX3_checksum_153 ?_
  refine z_lstore_n (lv' := [(1, .long ((31 * ((31 * ((31 * ((31 * (((31 * ((31 * (((31 * ((31 * (((31 * ((31 * (((31 * ((31 * ((31 * ((31 * ((31 * ((31 * ((31 * ((31 * ((31 * ((31 * ((31 * ((31 * ((31 * ((31 * ((31 * ((31 * ((31 * ((31 * ((31 * (217 + (d 0))) + (d 1))) + (d 2))) + (d 3))) + (d 4))) + (d 5))) + (sy 0))) + (sm 0))) + (sd 0))) + (sy 1))) + (sm 1))) + (sd 1))) + (sy 2))) + (sm 2))) + (sd 2))) + (sy 3))) + (sm 3))) + (sd 3))) + (f_X3_floor (mi 0) 12))) + 1) + (f_X3_rest (mi 0) 12))) + (f_X3_floor (mi 1) 12))) + 1) + (f_X3_rest (mi 1) 12))) + (f_X3_floor (mi 2) 12))) + 1) + (f_X3_rest (mi 2) 12))) + (f_X3_floor (mi 3) 12))) + 1) + (f_X3_rest (mi 3) 12))) + (ti 0))) + (ti 1))) + (ti 2))) + (ti 3))), (3, .int 3), (0, .ref (z 0))]) C dX3_checksum_154 rfl (by decide) rfl ?_
  refine z_iinc (q := 1) (v := 4) (lv' := [(3, .int 4), (1, .long ((31 * ((31 * ((31 * ((31 * (((31 * ((31 * (((31 * ((31 * (((31 * ((31 * (((31 * ((31 * ((31 * ((31 * ((31 * ((31 * ((31 * ((31 * ((31 * ((31 * ((31 * ((31 * ((31 * ((31 * ((31 * ((31 * ((31 * ((31 * ((31 * (217 + (d 0))) + (d 1))) + (d 2))) + (d 3))) + (d 4))) + (d 5))) + (sy 0))) + (sm 0))) + (sd 0))) + (sy 1))) + (sm 1))) + (sd 1))) + (sy 2))) + (sm 2))) + (sd 2))) + (sy 3))) + (sm 3))) + (sd 3))) + (f_X3_floor (mi 0) 12))) + 1) + (f_X3_rest (mi 0) 12))) + (f_X3_floor (mi 1) 12))) + 1) + (f_X3_rest (mi 1) 12))) + (f_X3_floor (mi 2) 12))) + 1) + (f_X3_rest (mi 2) 12))) + (f_X3_floor (mi 3) 12))) + 1) + (f_X3_rest (mi 3) 12))) + (ti 0))) + (ti 1))) + (ti 2))) + (ti 3))), (0, .ref (z 0))]) C dX3_checksum_155 rfl (by decide) (by decide) rfl ?_
  refine z_goto (tgt := 137) C dX3_checksum_158 (by decide) ?_
  refine z_iload_n C dX3_checksum_137 rfl 0 rfl ?_
  refine z_iconst (v := 4) C dX3_checksum_138 (by decide) ?_
  refine z_icmp_ge (tgt := 161) C dX3_checksum_139 (by decide) (fun _ => ?_) (fun h => absurd (by decide) h)
  refine z_iconst (v := 0) C dX3_checksum_161 (by decide) ?_
  refine z_istore_n (lv' := [(3, .int 0), (1, .long ((31 * ((31 * ((31 * ((31 * (((31 * ((31 * (((31 * ((31 * (((31 * ((31 * (((31 * ((31 * ((31 * ((31 * ((31 * ((31 * ((31 * ((31 * ((31 * ((31 * ((31 * ((31 * ((31 * ((31 * ((31 * ((31 * ((31 * ((31 * ((31 * (217 + (d 0))) + (d 1))) + (d 2))) + (d 3))) + (d 4))) + (d 5))) + (sy 0))) + (sm 0))) + (sd 0))) + (sy 1))) + (sm 1))) + (sd 1))) + (sy 2))) + (sm 2))) + (sd 2))) + (sy 3))) + (sm 3))) + (sd 3))) + (f_X3_floor (mi 0) 12))) + 1) + (f_X3_rest (mi 0) 12))) + (f_X3_floor (mi 1) 12))) + 1) + (f_X3_rest (mi 1) 12))) + (f_X3_floor (mi 2) 12))) + 1) + (f_X3_rest (mi 2) 12))) + (f_X3_floor (mi 3) 12))) + 1) + (f_X3_rest (mi 3) 12))) + (ti 0))) + (ti 1))) + (ti 2))) + (ti 3))), (0, .ref (z 0))]) C dX3_checksum_162 rfl (by decide) rfl ?_
  refine z_iload_n C dX3_checksum_163 rfl 0 rfl ?_
  refine z_iconst (v := 4) C dX3_checksum_164 (by decide) ?_
  refine z_icmp_ge (tgt := 198) C dX3_checksum_165 (by decide) (fun h => absurd h (by decide)) (fun _ => ?_)
  refine z_ldc2 (v := 31) C w3 dX3_checksum_168 ?_
  refine z_ldc2 (v := 31) C w3 dX3_checksum_171 ?_
  refine z_lload_n C dX3_checksum_174 rfl 1 rfl ?_
  refine z_lmul C dX3_checksum_175 ?_
  refine z_aload_n C dX3_checksum_176 rfl 2 rfl ?_
  refine z_get (CC := RX3) (T := TX3) (N := 14) (ci := 3) C hin 0 rfl rfl 3 (by decide) w11 rfl rfl dX3_checksum_177 ?_
  refine z_iload_n C dX3_checksum_180 rfl 0 rfl ?_
  refine z_lald C 3 1 rfl rfl (zvpl 0 4 (by decide)) dX3_checksum_181 ?_
  refine z_eqst (st' := [.long (sL 0), .long (31 * ((31 * ((31 * ((31 * ((31 * (((31 * ((31 * (((31 * ((31 * (((31 * ((31 * (((31 * ((31 * ((31 * ((31 * ((31 * ((31 * ((31 * ((31 * ((31 * ((31 * ((31 * ((31 * ((31 * ((31 * ((31 * ((31 * ((31 * ((31 * ((31 * (217 + (d 0))) + (d 1))) + (d 2))) + (d 3))) + (d 4))) + (d 5))) + (sy 0))) + (sm 0))) + (sd 0))) + (sy 1))) + (sm 1))) + (sd 1))) + (sy 2))) + (sm 2))) + (sd 2))) + (sy 3))) + (sm 3))) + (sd 3))) + (f_X3_floor (mi 0) 12))) + 1) + (f_X3_rest (mi 0) 12))) + (f_X3_floor (mi 1) 12))) + 1) + (f_X3_rest (mi 1) 12))) + (f_X3_floor (mi 2) 12))) + 1) + (f_X3_rest (mi 2) 12))) + (f_X3_floor (mi 3) 12))) + 1) + (f_X3_rest (mi 3) 12))) + (ti 0))) + (ti 1))) + (ti 2))) + (ti 3))), .long 31]) rfl ?_
  refine z_ladd C dX3_checksum_182 ?_
  refine z_lmul C dX3_checksum_183 ?_
  refine z_aload_n C dX3_checksum_184 rfl 2 rfl ?_
  refine z_get (CC := RX3) (T := TX3) (N := 14) (ci := 3) C hin 0 rfl rfl 4 (by decide) w12 rfl rfl dX3_checksum_185 ?_
  refine z_iload_n C dX3_checksum_188 rfl 0 rfl ?_
  refine z_lald C 4 1 rfl rfl (zvpl 0 4 (by decide)) dX3_checksum_189 ?_
  refine z_eqst (st' := [.long (bL 0), .long (31 * ((31 * ((31 * ((31 * ((31 * ((31 * (((31 * ((31 * (((31 * ((31 * (((31 * ((31 * (((31 * ((31 * ((31 * ((31 * ((31 * ((31 * ((31 * ((31 * ((31 * ((31 * ((31 * ((31 * ((31 * ((31 * ((31 * ((31 * ((31 * ((31 * ((31 * (217 + (d 0))) + (d 1))) + (d 2))) + (d 3))) + (d 4))) + (d 5))) + (sy 0))) + (sm 0))) + (sd 0))) + (sy 1))) + (sm 1))) + (sd 1))) + (sy 2))) + (sm 2))) + (sd 2))) + (sy 3))) + (sm 3))) + (sd 3))) + (f_X3_floor (mi 0) 12))) + 1) + (f_X3_rest (mi 0) 12))) + (f_X3_floor (mi 1) 12))) + 1) + (f_X3_rest (mi 1) 12))) + (f_X3_floor (mi 2) 12))) + 1) + (f_X3_rest (mi 2) 12))) + (f_X3_floor (mi 3) 12))) + 1) + (f_X3_rest (mi 3) 12))) + (ti 0))) + (ti 1))) + (ti 2))) + (ti 3))) + (sL 0)))]) rfl ?_
  refine z_ladd C dX3_checksum_190 ?_
  refine z_lstore_n (lv' := [(1, .long ((31 * ((31 * ((31 * ((31 * ((31 * ((31 * (((31 * ((31 * (((31 * ((31 * (((31 * ((31 * (((31 * ((31 * ((31 * ((31 * ((31 * ((31 * ((31 * ((31 * ((31 * ((31 * ((31 * ((31 * ((31 * ((31 * ((31 * ((31 * ((31 * ((31 * ((31 * (217 + (d 0))) + (d 1))) + (d 2))) + (d 3))) + (d 4))) + (d 5))) + (sy 0))) + (sm 0))) + (sd 0))) + (sy 1))) + (sm 1))) + (sd 1))) + (sy 2))) + (sm 2))) + (sd 2))) + (sy 3))) + (sm 3))) + (sd 3))) + (f_X3_floor (mi 0) 12))) + 1) + (f_X3_rest (mi 0) 12))) + (f_X3_floor (mi 1) 12))) + 1) + (f_X3_rest (mi 1) 12))) + (f_X3_floor (mi 2) 12))) + 1) + (f_X3_rest (mi 2) 12))) + (f_X3_floor (mi 3) 12))) + 1) + (f_X3_rest (mi 3) 12))) + (ti 0))) + (ti 1))) + (ti 2))) + (ti 3))) + (sL 0))) + (bL 0))), (3, .int 0), (0, .ref (z 0))]) C dX3_checksum_191 rfl (by decide) rfl ?_
  refine z_iinc (q := 1) (v := 1) (lv' := [(3, .int 1), (1, .long ((31 * ((31 * ((31 * ((31 * ((31 * ((31 * (((31 * ((31 * (((31 * ((31 * (((31 * ((31 * (((31 * ((31 * ((31 * ((31 * ((31 * ((31 * ((31 * ((31 * ((31 * ((31 * ((31 * ((31 * ((31 * ((31 * ((31 * ((31 * ((31 * ((31 * ((31 * (217 + (d 0))) + (d 1))) + (d 2))) + (d 3))) + (d 4))) + (d 5))) + (sy 0))) + (sm 0))) + (sd 0))) + (sy 1))) + (sm 1))) + (sd 1))) + (sy 2))) + (sm 2))) + (sd 2))) + (sy 3))) + (sm 3))) + (sd 3))) + (f_X3_floor (mi 0) 12))) + 1) + (f_X3_rest (mi 0) 12))) + (f_X3_floor (mi 1) 12))) + 1) + (f_X3_rest (mi 1) 12))) + (f_X3_floor (mi 2) 12))) + 1) + (f_X3_rest (mi 2) 12))) + (f_X3_floor (mi 3) 12))) + 1) + (f_X3_rest (mi 3) 12))) + (ti 0))) + (ti 1))) + (ti 2))) + (ti 3))) + (sL 0))) + (bL 0))), (0, .ref (z 0))]) C dX3_checksum_192 rfl (by decide) (by decide) rfl ?_
  refine z_goto (tgt := 163) C dX3_checksum_195 (by decide) ?_
  refine z_iload_n C dX3_checksum_163 rfl 0 rfl ?_
  refine z_iconst (v := 4) C dX3_checksum_164 (by decide) ?_
  refine z_icmp_ge (tgt := 198) C dX3_checksum_165 (by decide) (fun h => absurd h (by decide)) (fun _ => ?_)
  refine z_ldc2 (v := 31) C w3 dX3_checksum_168 ?_
  refine z_ldc2 (v := 31) C w3 dX3_checksum_171 ?_
  refine z_lload_n C dX3_checksum_174 rfl 1 rfl ?_
  refine z_lmul C dX3_checksum_175 ?_
  refine z_aload_n C dX3_checksum_176 rfl 2 rfl ?_
  refine z_get (CC := RX3) (T := TX3) (N := 14) (ci := 3) C hin 0 rfl rfl 3 (by decide) w11 rfl rfl dX3_checksum_177 ?_
  refine z_iload_n C dX3_checksum_180 rfl 0 rfl ?_
  refine z_lald C 3 1 rfl rfl (zvpl 1 4 (by decide)) dX3_checksum_181 ?_
  refine z_eqst (st' := [.long (sL 1), .long (31 * ((31 * ((31 * ((31 * ((31 * ((31 * ((31 * (((31 * ((31 * (((31 * ((31 * (((31 * ((31 * (((31 * ((31 * ((31 * ((31 * ((31 * ((31 * ((31 * ((31 * ((31 * ((31 * ((31 * ((31 * ((31 * ((31 * ((31 * ((31 * ((31 * ((31 * ((31 * (217 + (d 0))) + (d 1))) + (d 2))) + (d 3))) + (d 4))) + (d 5))) + (sy 0))) + (sm 0))) + (sd 0))) + (sy 1))) + (sm 1))) + (sd 1))) + (sy 2))) + (sm 2))) + (sd 2))) + (sy 3))) + (sm 3))) + (sd 3))) + (f_X3_floor (mi 0) 12))) + 1) + (f_X3_rest (mi 0) 12))) + (f_X3_floor (mi 1) 12))) + 1) + (f_X3_rest (mi 1) 12))) + (f_X3_floor (mi 2) 12))) + 1) + (f_X3_rest (mi 2) 12))) + (f_X3_floor (mi 3) 12))) + 1) + (f_X3_rest (mi 3) 12))) + (ti 0))) + (ti 1))) + (ti 2))) + (ti 3))) + (sL 0))) + (bL 0))), .long 31]) rfl ?_
  refine z_ladd C dX3_checksum_182 ?_
  refine z_lmul C dX3_checksum_183 ?_
  refine z_aload_n C dX3_checksum_184 rfl 2 rfl ?_
  refine z_get (CC := RX3) (T := TX3) (N := 14) (ci := 3) C hin 0 rfl rfl 4 (by decide) w12 rfl rfl dX3_checksum_185 ?_
  refine z_iload_n C dX3_checksum_188 rfl 0 rfl ?_
  refine z_lald C 4 1 rfl rfl (zvpl 1 4 (by decide)) dX3_checksum_189 ?_
  refine z_eqst (st' := [.long (bL 1), .long (31 * ((31 * ((31 * ((31 * ((31 * ((31 * ((31 * ((31 * (((31 * ((31 * (((31 * ((31 * (((31 * ((31 * (((31 * ((31 * ((31 * ((31 * ((31 * ((31 * ((31 * ((31 * ((31 * ((31 * ((31 * ((31 * ((31 * ((31 * ((31 * ((31 * ((31 * ((31 * ((31 * (217 + (d 0))) + (d 1))) + (d 2))) + (d 3))) + (d 4))) + (d 5))) + (sy 0))) + (sm 0))) + (sd 0))) + (sy 1))) + (sm 1))) + (sd 1))) + (sy 2))) + (sm 2))) + (sd 2))) + (sy 3))) + (sm 3))) + (sd 3))) + (f_X3_floor (mi 0) 12))) + 1) + (f_X3_rest (mi 0) 12))) + (f_X3_floor (mi 1) 12))) + 1) + (f_X3_rest (mi 1) 12))) + (f_X3_floor (mi 2) 12))) + 1) + (f_X3_rest (mi 2) 12))) + (f_X3_floor (mi 3) 12))) + 1) + (f_X3_rest (mi 3) 12))) + (ti 0))) + (ti 1))) + (ti 2))) + (ti 3))) + (sL 0))) + (bL 0))) + (sL 1)))]) rfl ?_
  refine z_ladd C dX3_checksum_190 ?_
  refine z_lstore_n (lv' := [(1, .long ((31 * ((31 * ((31 * ((31 * ((31 * ((31 * ((31 * ((31 * (((31 * ((31 * (((31 * ((31 * (((31 * ((31 * (((31 * ((31 * ((31 * ((31 * ((31 * ((31 * ((31 * ((31 * ((31 * ((31 * ((31 * ((31 * ((31 * ((31 * ((31 * ((31 * ((31 * ((31 * ((31 * (217 + (d 0))) + (d 1))) + (d 2))) + (d 3))) + (d 4))) + (d 5))) + (sy 0))) + (sm 0))) + (sd 0))) + (sy 1))) + (sm 1))) + (sd 1))) + (sy 2))) + (sm 2))) + (sd 2))) + (sy 3))) + (sm 3))) + (sd 3))) + (f_X3_floor (mi 0) 12))) + 1) + (f_X3_rest (mi 0) 12))) + (f_X3_floor (mi 1) 12))) + 1) + (f_X3_rest (mi 1) 12))) + (f_X3_floor (mi 2) 12))) + 1) + (f_X3_rest (mi 2) 12))) + (f_X3_floor (mi 3) 12))) + 1) + (f_X3_rest (mi 3) 12))) + (ti 0))) + (ti 1))) + (ti 2))) + (ti 3))) + (sL 0))) + (bL 0))) + (sL 1))) + (bL 1))), (3, .int 1), (0, .ref (z 0))]) C dX3_checksum_191 rfl (by decide) rfl ?_
  refine z_iinc (q := 1) (v := 2) (lv' := [(3, .int 2), (1, .long ((31 * ((31 * ((31 * ((31 * ((31 * ((31 * ((31 * ((31 * (((31 * ((31 * (((31 * ((31 * (((31 * ((31 * (((31 * ((31 * ((31 * ((31 * ((31 * ((31 * ((31 * ((31 * ((31 * ((31 * ((31 * ((31 * ((31 * ((31 * ((31 * ((31 * ((31 * ((31 * ((31 * (217 + (d 0))) + (d 1))) + (d 2))) + (d 3))) + (d 4))) + (d 5))) + (sy 0))) + (sm 0))) + (sd 0))) + (sy 1))) + (sm 1))) + (sd 1))) + (sy 2))) + (sm 2))) + (sd 2))) + (sy 3))) + (sm 3))) + (sd 3))) + (f_X3_floor (mi 0) 12))) + 1) + (f_X3_rest (mi 0) 12))) + (f_X3_floor (mi 1) 12))) + 1) + (f_X3_rest (mi 1) 12))) + (f_X3_floor (mi 2) 12))) + 1) + (f_X3_rest (mi 2) 12))) + (f_X3_floor (mi 3) 12))) + 1) + (f_X3_rest (mi 3) 12))) + (ti 0))) + (ti 1))) + (ti 2))) + (ti 3))) + (sL 0))) + (bL 0))) + (sL 1))) + (bL 1))), (0, .ref (z 0))]) C dX3_checksum_192 rfl (by decide) (by decide) rfl ?_
  refine z_goto (tgt := 163) C dX3_checksum_195 (by decide) ?_
  refine z_iload_n C dX3_checksum_163 rfl 0 rfl ?_
  refine z_iconst (v := 4) C dX3_checksum_164 (by decide) ?_
  refine z_icmp_ge (tgt := 198) C dX3_checksum_165 (by decide) (fun h => absurd h (by decide)) (fun _ => ?_)
  refine z_ldc2 (v := 31) C w3 dX3_checksum_168 ?_
  refine z_ldc2 (v := 31) C w3 dX3_checksum_171 ?_
  refine z_lload_n C dX3_checksum_174 rfl 1 rfl ?_
  refine z_lmul C dX3_checksum_175 ?_
  refine z_aload_n C dX3_checksum_176 rfl 2 rfl ?_
  refine z_get (CC := RX3) (T := TX3) (N := 14) (ci := 3) C hin 0 rfl rfl 3 (by decide) w11 rfl rfl dX3_checksum_177 ?_
  refine z_iload_n C dX3_checksum_180 rfl 0 rfl ?_
  refine z_lald C 3 1 rfl rfl (zvpl 2 4 (by decide)) dX3_checksum_181 ?_
  refine z_eqst (st' := [.long (sL 2), .long (31 * ((31 * ((31 * ((31 * ((31 * ((31 * ((31 * ((31 * ((31 * (((31 * ((31 * (((31 * ((31 * (((31 * ((31 * (((31 * ((31 * ((31 * ((31 * ((31 * ((31 * ((31 * ((31 * ((31 * ((31 * ((31 * ((31 * ((31 * ((31 * ((31 * ((31 * ((31 * ((31 * ((31 * (217 + (d 0))) + (d 1))) + (d 2))) + (d 3))) + (d 4))) + (d 5))) + (sy 0))) + (sm 0))) + (sd 0))) + (sy 1))) + (sm 1))) + (sd 1))) + (sy 2))) + (sm 2))) + (sd 2))) + (sy 3))) + (sm 3))) + (sd 3))) + (f_X3_floor (mi 0) 12))) + 1) + (f_X3_rest (mi 0) 12))) + (f_X3_floor (mi 1) 12))) + 1) + (f_X3_rest (mi 1) 12))) + (f_X3_floor (mi 2) 12))) + 1) + (f_X3_rest (mi 2) 12))) + (f_X3_floor (mi 3) 12))) + 1) + (f_X3_rest (mi 3) 12))) + (ti 0))) + (ti 1))) + (ti 2))) + (ti 3))) + (sL 0))) + (bL 0))) + (sL 1))) + (bL 1))), .long 31]) rfl ?_
  refine z_ladd C dX3_checksum_182 ?_
  refine z_lmul C dX3_checksum_183 ?_
  refine z_aload_n C dX3_checksum_184 rfl 2 rfl ?_
  refine z_get (CC := RX3) (T := TX3) (N := 14) (ci := 3) C hin 0 rfl rfl 4 (by decide) w12 rfl rfl dX3_checksum_185 ?_
  refine z_iload_n C dX3_checksum_188 rfl 0 rfl ?_
  refine z_lald C 4 1 rfl rfl (zvpl 2 4 (by decide)) dX3_checksum_189 ?_
  refine z_eqst (st' := [.long (bL 2), .long (31 * ((31 * ((31 * ((31 * ((31 * ((31 * ((31 * ((31 * ((31 * ((31 * (((31 * ((31 * (((31 * ((31 * (((31 * ((31 * (((31 * ((31 * ((31 * ((31 * ((31 * ((31 * ((31 * ((31 * ((31 * ((31 * ((31 * ((31 * ((31 * ((31 * ((31 * ((31 * ((31 * ((31 * ((31 * (217 + (d 0))) + (d 1))) + (d 2))) + (d 3))) + (d 4))) + (d 5))) + (sy 0))) + (sm 0))) + (sd 0))) + (sy 1))) + (sm 1))) + (sd 1))) + (sy 2))) + (sm 2))) + (sd 2))) + (sy 3))) + (sm 3))) + (sd 3))) + (f_X3_floor (mi 0) 12))) + 1) + (f_X3_rest (mi 0) 12))) + (f_X3_floor (mi 1) 12))) + 1) + (f_X3_rest (mi 1) 12))) + (f_X3_floor (mi 2) 12))) + 1) + (f_X3_rest (mi 2) 12))) + (f_X3_floor (mi 3) 12))) + 1) + (f_X3_rest (mi 3) 12))) + (ti 0))) + (ti 1))) + (ti 2))) + (ti 3))) + (sL 0))) + (bL 0))) + (sL 1))) + (bL 1))) + (sL 2)))]) rfl ?_
  refine z_ladd C dX3_checksum_190 ?_
  refine z_lstore_n (lv' := [(1, .long ((31 * ((31 * ((31 * ((31 * ((31 * ((31 * ((31 * ((31 * ((31 * ((31 * (((31 * ((31 * (((31 * ((31 * (((31 * ((31 * (((31 * ((31 * ((31 * ((31 * ((31 * ((31 * ((31 * ((31 * ((31 * ((31 * ((31 * ((31 * ((31 * ((31 * ((31 * ((31 * ((31 * ((31 * ((31 * (217 + (d 0))) + (d 1))) + (d 2))) + (d 3))) + (d 4))) + (d 5))) + (sy 0))) + (sm 0))) + (sd 0))) + (sy 1))) + (sm 1))) + (sd 1))) + (sy 2))) + (sm 2))) + (sd 2))) + (sy 3))) + (sm 3))) + (sd 3))) + (f_X3_floor (mi 0) 12))) + 1) + (f_X3_rest (mi 0) 12))) + (f_X3_floor (mi 1) 12))) + 1) + (f_X3_rest (mi 1) 12))) + (f_X3_floor (mi 2) 12))) + 1) + (f_X3_rest (mi 2) 12))) + (f_X3_floor (mi 3) 12))) + 1) + (f_X3_rest (mi 3) 12))) + (ti 0))) + (ti 1))) + (ti 2))) + (ti 3))) + (sL 0))) + (bL 0))) + (sL 1))) + (bL 1))) + (sL 2))) + (bL 2))), (3, .int 2), (0, .ref (z 0))]) C dX3_checksum_191 rfl (by decide) rfl ?_
  refine z_iinc (q := 1) (v := 3) (lv' := [(3, .int 3), (1, .long ((31 * ((31 * ((31 * ((31 * ((31 * ((31 * ((31 * ((31 * ((31 * ((31 * (((31 * ((31 * (((31 * ((31 * (((31 * ((31 * (((31 * ((31 * ((31 * ((31 * ((31 * ((31 * ((31 * ((31 * ((31 * ((31 * ((31 * ((31 * ((31 * ((31 * ((31 * ((31 * ((31 * ((31 * ((31 * (217 + (d 0))) + (d 1))) + (d 2))) + (d 3))) + (d 4))) + (d 5))) + (sy 0))) + (sm 0))) + (sd 0))) + (sy 1))) + (sm 1))) + (sd 1))) + (sy 2))) + (sm 2))) + (sd 2))) + (sy 3))) + (sm 3))) + (sd 3))) + (f_X3_floor (mi 0) 12))) + 1) + (f_X3_rest (mi 0) 12))) + (f_X3_floor (mi 1) 12))) + 1) + (f_X3_rest (mi 1) 12))) + (f_X3_floor (mi 2) 12))) + 1) + (f_X3_rest (mi 2) 12))) + (f_X3_floor (mi 3) 12))) + 1) + (f_X3_rest (mi 3) 12))) + (ti 0))) + (ti 1))) + (ti 2))) + (ti 3))) + (sL 0))) + (bL 0))) + (sL 1))) + (bL 1))) + (sL 2))) + (bL 2))), (0, .ref (z 0))]) C dX3_checksum_192 rfl (by decide) (by decide) rfl ?_
  refine z_goto (tgt := 163) C dX3_checksum_195 (by decide) ?_
  refine z_iload_n C dX3_checksum_163 rfl 0 rfl ?_
  refine z_iconst (v := 4) C dX3_checksum_164 (by decide) ?_
  refine z_icmp_ge (tgt := 198) C dX3_checksum_165 (by decide) (fun h => absurd h (by decide)) (fun _ => ?_)
  refine z_ldc2 (v := 31) C w3 dX3_checksum_168 ?_
  refine z_ldc2 (v := 31) C w3 dX3_checksum_171 ?_
  refine z_lload_n C dX3_checksum_174 rfl 1 rfl ?_
  refine z_lmul C dX3_checksum_175 ?_
  refine z_aload_n C dX3_checksum_176 rfl 2 rfl ?_
  refine z_get (CC := RX3) (T := TX3) (N := 14) (ci := 3) C hin 0 rfl rfl 3 (by decide) w11 rfl rfl dX3_checksum_177 ?_
  refine z_iload_n C dX3_checksum_180 rfl 0 rfl ?_
  refine z_lald C 3 1 rfl rfl (zvpl 3 4 (by decide)) dX3_checksum_181 ?_
  refine z_eqst (st' := [.long (sL 3), .long (31 * ((31 * ((31 * ((31 * ((31 * ((31 * ((31 * ((31 * ((31 * ((31 * ((31 * (((31 * ((31 * (((31 * ((31 * (((31 * ((31 * (((31 * ((31 * ((31 * ((31 * ((31 * ((31 * ((31 * ((31 * ((31 * ((31 * ((31 * ((31 * ((31 * ((31 * ((31 * ((31 * ((31 * ((31 * ((31 * (217 + (d 0))) + (d 1))) + (d 2))) + (d 3))) + (d 4))) + (d 5))) + (sy 0))) + (sm 0))) + (sd 0))) + (sy 1))) + (sm 1))) + (sd 1))) + (sy 2))) + (sm 2))) + (sd 2))) + (sy 3))) + (sm 3))) + (sd 3))) + (f_X3_floor (mi 0) 12))) + 1) + (f_X3_rest (mi 0) 12))) + (f_X3_floor (mi 1) 12))) + 1) + (f_X3_rest (mi 1) 12))) + (f_X3_floor (mi 2) 12))) + 1) + (f_X3_rest (mi 2) 12))) + (f_X3_floor (mi 3) 12))) + 1) + (f_X3_rest (mi 3) 12))) + (ti 0))) + (ti 1))) + (ti 2))) + (ti 3))) + (sL 0))) + (bL 0))) + (sL 1))) + (bL 1))) + (sL 2))) + (bL 2))), .long 31]) rfl ?_
  refine z_ladd C dX3_checksum_182 ?_
  refine z_lmul C dX3_checksum_183 ?_
  refine z_aload_n C dX3_checksum_184 rfl 2 rfl ?_
  refine z_get (CC := RX3) (T := TX3) (N := 14) (ci := 3) C hin 0 rfl rfl 4 (by decide) w12 rfl rfl dX3_checksum_185 ?_
  refine z_iload_n C dX3_checksum_188 rfl 0 rfl ?_
  refine z_lald C 4 1 rfl rfl (zvpl 3 4 (by decide)) dX3_checksum_189 ?_
  refine z_eqst (st' := [.long (bL 3), .long (31 * ((31 * ((31 * ((31 * ((31 * ((31 * ((31 * ((31 * ((31 * ((31 * ((31 * ((31 * (((31 * ((31 * (((31 * ((31 * (((31 * ((31 * (((31 * ((31 * ((31 * ((31 * ((31 * ((31 * ((31 * ((31 * ((31 * ((31 * ((31 * ((31 * ((31 * ((31 * ((31 * ((31 * ((31 * ((31 * ((31 * (217 + (d 0))) + (d 1))) + (d 2))) + (d 3))) + (d 4))) + (d 5))) + (sy 0))) + (sm 0))) + (sd 0))) + (sy 1))) + (sm 1))) + (sd 1))) + (sy 2))) + (sm 2))) + (sd 2))) + (sy 3))) + (sm 3))) + (sd 3))) + (f_X3_floor (mi 0) 12))) + 1) + (f_X3_rest (mi 0) 12))) + (f_X3_floor (mi 1) 12))) + 1) + (f_X3_rest (mi 1) 12))) + (f_X3_floor (mi 2) 12))) + 1) + (f_X3_rest (mi 2) 12))) + (f_X3_floor (mi 3) 12))) + 1) + (f_X3_rest (mi 3) 12))) + (ti 0))) + (ti 1))) + (ti 2))) + (ti 3))) + (sL 0))) + (bL 0))) + (sL 1))) + (bL 1))) + (sL 2))) + (bL 2))) + (sL 3)))]) rfl ?_
  refine z_ladd C dX3_checksum_190 ?_
  refine z_lstore_n (lv' := [(1, .long ((31 * ((31 * ((31 * ((31 * ((31 * ((31 * ((31 * ((31 * ((31 * ((31 * ((31 * ((31 * (((31 * ((31 * (((31 * ((31 * (((31 * ((31 * (((31 * ((31 * ((31 * ((31 * ((31 * ((31 * ((31 * ((31 * ((31 * ((31 * ((31 * ((31 * ((31 * ((31 * ((31 * ((31 * ((31 * ((31 * ((31 * (217 + (d 0))) + (d 1))) + (d 2))) + (d 3))) + (d 4))) + (d 5))) + (sy 0))) + (sm 0))) + (sd 0))) + (sy 1))) + (sm 1))) + (sd 1))) + (sy 2))) + (sm 2))) + (sd 2))) + (sy 3))) + (sm 3))) + (sd 3))) + (f_X3_floor (mi 0) 12))) + 1) + (f_X3_rest (mi 0) 12))) + (f_X3_floor (mi 1) 12))) + 1) + (f_X3_rest (mi 1) 12))) + (f_X3_floor (mi 2) 12))) + 1) + (f_X3_rest (mi 2) 12))) + (f_X3_floor (mi 3) 12))) + 1) + (f_X3_rest (mi 3) 12))) + (ti 0))) + (ti 1))) + (ti 2))) + (ti 3))) + (sL 0))) + (bL 0))) + (sL 1))) + (bL 1))) + (sL 2))) + (bL 2))) + (sL 3))) + (bL 3))), (3, .int 3), (0, .ref (z 0))]) C dX3_checksum_191 rfl (by decide) rfl ?_
  refine z_iinc (q := 1) (v := 4) (lv' := [(3, .int 4), (1, .long ((31 * ((31 * ((31 * ((31 * ((31 * ((31 * ((31 * ((31 * ((31 * ((31 * ((31 * ((31 * (((31 * ((31 * (((31 * ((31 * (((31 * ((31 * (((31 * ((31 * ((31 * ((31 * ((31 * ((31 * ((31 * ((31 * ((31 * ((31 * ((31 * ((31 * ((31 * ((31 * ((31 * ((31 * ((31 * ((31 * ((31 * (217 + (d 0))) + (d 1))) + (d 2))) + (d 3))) + (d 4))) + (d 5))) + (sy 0))) + (sm 0))) + (sd 0))) + (sy 1))) + (sm 1))) + (sd 1))) + (sy 2))) + (sm 2))) + (sd 2))) + (sy 3))) + (sm 3))) + (sd 3))) + (f_X3_floor (mi 0) 12))) + 1) + (f_X3_rest (mi 0) 12))) + (f_X3_floor (mi 1) 12))) + 1) + (f_X3_rest (mi 1) 12))) + (f_X3_floor (mi 2) 12))) + 1) + (f_X3_rest (mi 2) 12))) + (f_X3_floor (mi 3) 12))) + 1) + (f_X3_rest (mi 3) 12))) + (ti 0))) + (ti 1))) + (ti 2))) + (ti 3))) + (sL 0))) + (bL 0))) + (sL 1))) + (bL 1))) + (sL 2))) + (bL 2))) + (sL 3))) + (bL 3))), (0, .ref (z 0))]) C dX3_checksum_192 rfl (by decide) (by decide) rfl ?_
  refine z_goto (tgt := 163) C dX3_checksum_195 (by decide) ?_
  refine z_iload_n C dX3_checksum_163 rfl 0 rfl ?_
  refine z_iconst (v := 4) C dX3_checksum_164 (by decide) ?_
  refine z_icmp_ge (tgt := 198) C dX3_checksum_165 (by decide) (fun _ => ?_) (fun h => absurd (by decide) h)
  refine z_iconst (v := 0) C dX3_checksum_198 (by decide) ?_
  refine z_istore_n (lv' := [(3, .int 0), (1, .long ((31 * ((31 * ((31 * ((31 * ((31 * ((31 * ((31 * ((31 * ((31 * ((31 * ((31 * ((31 * (((31 * ((31 * (((31 * ((31 * (((31 * ((31 * (((31 * ((31 * ((31 * ((31 * ((31 * ((31 * ((31 * ((31 * ((31 * ((31 * ((31 * ((31 * ((31 * ((31 * ((31 * ((31 * ((31 * ((31 * ((31 * (217 + (d 0))) + (d 1))) + (d 2))) + (d 3))) + (d 4))) + (d 5))) + (sy 0))) + (sm 0))) + (sd 0))) + (sy 1))) + (sm 1))) + (sd 1))) + (sy 2))) + (sm 2))) + (sd 2))) + (sy 3))) + (sm 3))) + (sd 3))) + (f_X3_floor (mi 0) 12))) + 1) + (f_X3_rest (mi 0) 12))) + (f_X3_floor (mi 1) 12))) + 1) + (f_X3_rest (mi 1) 12))) + (f_X3_floor (mi 2) 12))) + 1) + (f_X3_rest (mi 2) 12))) + (f_X3_floor (mi 3) 12))) + 1) + (f_X3_rest (mi 3) 12))) + (ti 0))) + (ti 1))) + (ti 2))) + (ti 3))) + (sL 0))) + (bL 0))) + (sL 1))) + (bL 1))) + (sL 2))) + (bL 2))) + (sL 3))) + (bL 3))), (0, .ref (z 0))]) C dX3_checksum_199 rfl (by decide) rfl ?_
  refine z_iload_n C dX3_checksum_200 rfl 0 rfl ?_
  refine z_iconst (v := 4) C dX3_checksum_201 (by decide) ?_
  refine z_icmp_ge (tgt := 235) C dX3_checksum_202 (by decide) (fun h => absurd h (by decide)) (fun _ => ?_)
  refine z_ldc2 (v := 31) C w3 dX3_checksum_205 ?_
  refine z_ldc2 (v := 31) C w3 dX3_checksum_208 ?_
  refine z_lload_n C dX3_checksum_211 rfl 1 rfl ?_
  refine z_lmul C dX3_checksum_212 ?_
  refine z_aload_n C dX3_checksum_213 rfl 2 rfl ?_
  refine z_get (CC := RX3) (T := TX3) (N := 14) (ci := 3) C hin 0 rfl rfl 5 (by decide) w13 rfl rfl dX3_checksum_214 ?_
  refine z_iload_n C dX3_checksum_217 rfl 0 rfl ?_
  refine z_lald C 5 1 rfl rfl (zvpl 0 4 (by decide)) dX3_checksum_218 ?_
  refine z_eqst (st' := [.long (mD 0), .long (31 * ((31 * ((31 * ((31 * ((31 * ((31 * ((31 * ((31 * ((31 * ((31 * ((31 * ((31 * ((31 * (((31 * ((31 * (((31 * ((31 * (((31 * ((31 * (((31 * ((31 * ((31 * ((31 * ((31 * ((31 * ((31 * ((31 * ((31 * ((31 * ((31 * ((31 * ((31 * ((31 * ((31 * ((31 * ((31 * ((31 * ((31 * (217 + (d 0))) + (d 1))) + (d 2))) + (d 3))) + (d 4))) + (d 5))) + (sy 0))) + (sm 0))) + (sd 0))) + (sy 1))) + (sm 1))) + (sd 1))) + (sy 2))) + (sm 2))) + (sd 2))) + (sy 3))) + (sm 3))) + (sd 3))) + (f_X3_floor (mi 0) 12))) + 1) + (f_X3_rest (mi 0) 12))) + (f_X3_floor (mi 1) 12))) + 1) + (f_X3_rest (mi 1) 12))) + (f_X3_floor (mi 2) 12))) + 1) + (f_X3_rest (mi 2) 12))) + (f_X3_floor (mi 3) 12))) + 1) + (f_X3_rest (mi 3) 12))) + (ti 0))) + (ti 1))) + (ti 2))) + (ti 3))) + (sL 0))) + (bL 0))) + (sL 1))) + (bL 1))) + (sL 2))) + (bL 2))) + (sL 3))) + (bL 3))), .long 31]) rfl ?_
  refine z_ladd C dX3_checksum_219 ?_
  refine z_lmul C dX3_checksum_220 ?_
  refine z_aload_n C dX3_checksum_221 rfl 2 rfl ?_
  refine z_get (CC := RX3) (T := TX3) (N := 14) (ci := 3) C hin 0 rfl rfl 6 (by decide) w14 rfl rfl dX3_checksum_222 ?_
  refine z_iload_n C dX3_checksum_225 rfl 0 rfl ?_
  refine z_lald C 6 1 rfl rfl (zvpl 0 4 (by decide)) dX3_checksum_226 ?_
  refine z_eqst (st' := [.long (mT 0), .long (31 * ((31 * ((31 * ((31 * ((31 * ((31 * ((31 * ((31 * ((31 * ((31 * ((31 * ((31 * ((31 * ((31 * (((31 * ((31 * (((31 * ((31 * (((31 * ((31 * (((31 * ((31 * ((31 * ((31 * ((31 * ((31 * ((31 * ((31 * ((31 * ((31 * ((31 * ((31 * ((31 * ((31 * ((31 * ((31 * ((31 * ((31 * ((31 * (217 + (d 0))) + (d 1))) + (d 2))) + (d 3))) + (d 4))) + (d 5))) + (sy 0))) + (sm 0))) + (sd 0))) + (sy 1))) + (sm 1))) + (sd 1))) + (sy 2))) + (sm 2))) + (sd 2))) + (sy 3))) + (sm 3))) + (sd 3))) + (f_X3_floor (mi 0) 12))) + 1) + (f_X3_rest (mi 0) 12))) + (f_X3_floor (mi 1) 12))) + 1) + (f_X3_rest (mi 1) 12))) + (f_X3_floor (mi 2) 12))) + 1) + (f_X3_rest (mi 2) 12))) + (f_X3_floor (mi 3) 12))) + 1) + (f_X3_rest (mi 3) 12))) + (ti 0))) + (ti 1))) + (ti 2))) + (ti 3))) + (sL 0))) + (bL 0))) + (sL 1))) + (bL 1))) + (sL 2))) + (bL 2))) + (sL 3))) + (bL 3))) + (mD 0)))]) rfl ?_
  refine z_ladd C dX3_checksum_227 ?_
  refine z_lstore_n (lv' := [(1, .long ((31 * ((31 * ((31 * ((31 * ((31 * ((31 * ((31 * ((31 * ((31 * ((31 * ((31 * ((31 * ((31 * ((31 * (((31 * ((31 * (((31 * ((31 * (((31 * ((31 * (((31 * ((31 * ((31 * ((31 * ((31 * ((31 * ((31 * ((31 * ((31 * ((31 * ((31 * ((31 * ((31 * ((31 * ((31 * ((31 * ((31 * ((31 * ((31 * (217 + (d 0))) + (d 1))) + (d 2))) + (d 3))) + (d 4))) + (d 5))) + (sy 0))) + (sm 0))) + (sd 0))) + (sy 1))) + (sm 1))) + (sd 1))) + (sy 2))) + (sm 2))) + (sd 2))) + (sy 3))) + (sm 3))) + (sd 3))) + (f_X3_floor (mi 0) 12))) + 1) + (f_X3_rest (mi 0) 12))) + (f_X3_floor (mi 1) 12))) + 1) + (f_X3_rest (mi 1) 12))) + (f_X3_floor (mi 2) 12))) + 1) + (f_X3_rest (mi 2) 12))) + (f_X3_floor (mi 3) 12))) + 1) + (f_X3_rest (mi 3) 12))) + (ti 0))) + (ti 1))) + (ti 2))) + (ti 3))) + (sL 0))) + (bL 0))) + (sL 1))) + (bL 1))) + (sL 2))) + (bL 2))) + (sL 3))) + (bL 3))) + (mD 0))) + (mT 0))), (3, .int 0), (0, .ref (z 0))]) C dX3_checksum_228 rfl (by decide) rfl ?_
  refine z_iinc (q := 1) (v := 1) (lv' := [(3, .int 1), (1, .long ((31 * ((31 * ((31 * ((31 * ((31 * ((31 * ((31 * ((31 * ((31 * ((31 * ((31 * ((31 * ((31 * ((31 * (((31 * ((31 * (((31 * ((31 * (((31 * ((31 * (((31 * ((31 * ((31 * ((31 * ((31 * ((31 * ((31 * ((31 * ((31 * ((31 * ((31 * ((31 * ((31 * ((31 * ((31 * ((31 * ((31 * ((31 * ((31 * (217 + (d 0))) + (d 1))) + (d 2))) + (d 3))) + (d 4))) + (d 5))) + (sy 0))) + (sm 0))) + (sd 0))) + (sy 1))) + (sm 1))) + (sd 1))) + (sy 2))) + (sm 2))) + (sd 2))) + (sy 3))) + (sm 3))) + (sd 3))) + (f_X3_floor (mi 0) 12))) + 1) + (f_X3_rest (mi 0) 12))) + (f_X3_floor (mi 1) 12))) + 1) + (f_X3_rest (mi 1) 12))) + (f_X3_floor (mi 2) 12))) + 1) + (f_X3_rest (mi 2) 12))) + (f_X3_floor (mi 3) 12))) + 1) + (f_X3_rest (mi 3) 12))) + (ti 0))) + (ti 1))) + (ti 2))) + (ti 3))) + (sL 0))) + (bL 0))) + (sL 1))) + (bL 1))) + (sL 2))) + (bL 2))) + (sL 3))) + (bL 3))) + (mD 0))) + (mT 0))), (0, .ref (z 0))]) C dX3_checksum_229 rfl (by decide) (by decide) rfl ?_
  refine z_goto (tgt := 200) C dX3_checksum_232 (by decide) ?_
  refine z_iload_n C dX3_checksum_200 rfl 0 rfl ?_
  refine z_iconst (v := 4) C dX3_checksum_201 (by decide) ?_
  refine z_icmp_ge (tgt := 235) C dX3_checksum_202 (by decide) (fun h => absurd h (by decide)) (fun _ => ?_)
  refine z_ldc2 (v := 31) C w3 dX3_checksum_205 ?_
  refine z_ldc2 (v := 31) C w3 dX3_checksum_208 ?_
  refine z_lload_n C dX3_checksum_211 rfl 1 rfl ?_
  refine z_lmul C dX3_checksum_212 ?_
  refine z_aload_n C dX3_checksum_213 rfl 2 rfl ?_
  refine z_get (CC := RX3) (T := TX3) (N := 14) (ci := 3) C hin 0 rfl rfl 5 (by decide) w13 rfl rfl dX3_checksum_214 ?_
  refine z_iload_n C dX3_checksum_217 rfl 0 rfl ?_
  refine z_lald C 5 1 rfl rfl (zvpl 1 4 (by decide)) dX3_checksum_218 ?_
  refine z_eqst (st' := [.long (mD 1), .long (31 * ((31 * ((31 * ((31 * ((31 * ((31 * ((31 * ((31 * ((31 * ((31 * ((31 * ((31 * ((31 * ((31 * ((31 * (((31 * ((31 * (((31 * ((31 * (((31 * ((31 * (((31 * ((31 * ((31 * ((31 * ((31 * ((31 * ((31 * ((31 * ((31 * ((31 * ((31 * ((31 * ((31 * ((31 * ((31 * ((31 * ((31 * ((31 * ((31 * (217 + (d 0))) + (d 1))) + (d 2))) + (d 3))) + (d 4))) + (d 5))) + (sy 0))) + (sm 0))) + (sd 0))) + (sy 1))) + (sm 1))) + (sd 1))) + (sy 2))) + (sm 2))) + (sd 2))) + (sy 3))) + (sm 3))) + (sd 3))) + (f_X3_floor (mi 0) 12))) + 1) + (f_X3_rest (mi 0) 12))) + (f_X3_floor (mi 1) 12))) + 1) + (f_X3_rest (mi 1) 12))) + (f_X3_floor (mi 2) 12))) + 1) + (f_X3_rest (mi 2) 12))) + (f_X3_floor (mi 3) 12))) + 1) + (f_X3_rest (mi 3) 12))) + (ti 0))) + (ti 1))) + (ti 2))) + (ti 3))) + (sL 0))) + (bL 0))) + (sL 1))) + (bL 1))) + (sL 2))) + (bL 2))) + (sL 3))) + (bL 3))) + (mD 0))) + (mT 0))), .long 31]) rfl ?_
  refine z_ladd C dX3_checksum_219 ?_
  refine z_lmul C dX3_checksum_220 ?_
  refine z_aload_n C dX3_checksum_221 rfl 2 rfl ?_
  refine z_get (CC := RX3) (T := TX3) (N := 14) (ci := 3) C hin 0 rfl rfl 6 (by decide) w14 rfl rfl dX3_checksum_222 ?_
  refine z_iload_n C dX3_checksum_225 rfl 0 rfl ?_
  refine z_lald C 6 1 rfl rfl (zvpl 1 4 (by decide)) dX3_checksum_226 ?_
  refine z_eqst (st' := [.long (mT 1), .long (31 * ((31 * ((31 * ((31 * ((31 * ((31 * ((31 * ((31 * ((31 * ((31 * ((31 * ((31 * ((31 * ((31 * ((31 * ((31 * (((31 * ((31 * (((31 * ((31 * (((31 * ((31 * (((31 * ((31 * ((31 * ((31 * ((31 * ((31 * ((31 * ((31 * ((31 * ((31 * ((31 * ((31 * ((31 * ((31 * ((31 * ((31 * ((31 * ((31 * ((31 * (217 + (d 0))) + (d 1))) + (d 2))) + (d 3))) + (d 4))) + (d 5))) + (sy 0))) + (sm 0))) + (sd 0))) + (sy 1))) + (sm 1))) + (sd 1))) + (sy 2))) + (sm 2))) + (sd 2))) + (sy 3))) + (sm 3))) + (sd 3))) + (f_X3_floor (mi 0) 12))) + 1) + (f_X3_rest (mi 0) 12))) + (f_X3_floor (mi 1) 12))) + 1) + (f_X3_rest (mi 1) 12))) + (f_X3_floor (mi 2) 12))) + 1) + (f_X3_rest (mi 2) 12))) + (f_X3_floor (mi 3) 12))) + 1) + (f_X3_rest (mi 3) 12))) + (ti 0))) + (ti 1))) + (ti 2))) + (ti 3))) + (sL 0))) + (bL 0))) + (sL 1))) + (bL 1))) + (sL 2))) + (bL 2))) + (sL 3))) + (bL 3))) + (mD 0))) + (mT 0))) + (mD 1)))]) rfl ?_
  refine z_ladd C dX3_checksum_227 ?_
  refine z_lstore_n (lv' := [(1, .long ((31 * ((31 * ((31 * ((31 * ((31 * ((31 * ((31 * ((31 * ((31 * ((31 * ((31 * ((31 * ((31 * ((31 * ((31 * ((31 * (((31 * ((31 * (((31 * ((31 * (((31 * ((31 * (((31 * ((31 * ((31 * ((31 * ((31 * ((31 * ((31 * ((31 * ((31 * ((31 * ((31 * ((31 * ((31 * ((31 * ((31 * ((31 * ((31 * ((31 * ((31 * (217 + (d 0))) + (d 1))) + (d 2))) + (d 3))) + (d 4))) + (d 5))) + (sy 0))) + (sm 0))) + (sd 0))) + (sy 1))) + (sm 1))) + (sd 1))) + (sy 2))) + (sm 2))) + (sd 2))) + (sy 3))) + (sm 3))) + (sd 3))) + (f_X3_floor (mi 0) 12))) + 1) + (f_X3_rest (mi 0) 12))) + (f_X3_floor (mi 1) 12))) + 1) + (f_X3_rest (mi 1) 12))) + (f_X3_floor (mi 2) 12))) + 1) + (f_X3_rest (mi 2) 12))) + (f_X3_floor (mi 3) 12))) + 1) + (f_X3_rest (mi 3) 12))) + (ti 0))) + (ti 1))) + (ti 2))) + (ti 3))) + (sL 0))) + (bL 0))) + (sL 1))) + (bL 1))) + (sL 2))) + (bL 2))) + (sL 3))) + (bL 3))) + (mD 0))) + (mT 0))) + (mD 1))) + (mT 1))), (3, .int 1), (0, .ref (z 0))]) C dX3_checksum_228 rfl (by decide) rfl ?_
  refine z_iinc (q := 1) (v := 2) (lv' := [(3, .int 2), (1, .long ((31 * ((31 * ((31 * ((31 * ((31 * ((31 * ((31 * ((31 * ((31 * ((31 * ((31 * ((31 * ((31 * ((31 * ((31 * ((31 * (((31 * ((31 * (((31 * ((31 * (((31 * ((31 * (((31 * ((31 * ((31 * ((31 * ((31 * ((31 * ((31 * ((31 * ((31 * ((31 * ((31 * ((31 * ((31 * ((31 * ((31 * ((31 * ((31 * ((31 * ((31 * (217 + (d 0))) + (d 1))) + (d 2))) + (d 3))) + (d 4))) + (d 5))) + (sy 0))) + (sm 0))) + (sd 0))) + (sy 1))) + (sm 1))) + (sd 1))) + (sy 2))) + (sm 2))) + (sd 2))) + (sy 3))) + (sm 3))) + (sd 3))) + (f_X3_floor (mi 0) 12))) + 1) + (f_X3_rest (mi 0) 12))) + (f_X3_floor (mi 1) 12))) + 1) + (f_X3_rest (mi 1) 12))) + (f_X3_floor (mi 2) 12))) + 1) + (f_X3_rest (mi 2) 12))) + (f_X3_floor (mi 3) 12))) + 1) + (f_X3_rest (mi 3) 12))) + (ti 0))) + (ti 1))) + (ti 2))) + (ti 3))) + (sL 0))) + (bL 0))) + (sL 1))) + (bL 1))) + (sL 2))) + (bL 2))) + (sL 3))) + (bL 3))) + (mD 0))) + (mT 0))) + (mD 1))) + (mT 1))), (0, .ref (z 0))]) C dX3_checksum_229 rfl (by decide) (by decide) rfl ?_
  refine z_goto (tgt := 200) C dX3_checksum_232 (by decide) ?_
  refine z_iload_n C dX3_checksum_200 rfl 0 rfl ?_
  refine z_iconst (v := 4) C dX3_checksum_201 (by decide) ?_
  refine z_icmp_ge (tgt := 235) C dX3_checksum_202 (by decide) (fun h => absurd h (by decide)) (fun _ => ?_)
  refine z_ldc2 (v := 31) C w3 dX3_checksum_205 ?_
  refine z_ldc2 (v := 31) C w3 dX3_checksum_208 ?_
  refine z_lload_n C dX3_checksum_211 rfl 1 rfl ?_
  refine z_lmul C dX3_checksum_212 ?_
  refine z_aload_n C dX3_checksum_213 rfl 2 rfl ?_
  refine z_get (CC := RX3) (T := TX3) (N := 14) (ci := 3) C hin 0 rfl rfl 5 (by decide) w13 rfl rfl dX3_checksum_214 ?_
  refine z_iload_n C dX3_checksum_217 rfl 0 rfl ?_
  refine z_lald C 5 1 rfl rfl (zvpl 2 4 (by decide)) dX3_checksum_218 ?_
  refine z_eqst (st' := [.long (mD 2), .long (31 * ((31 * ((31 * ((31 * ((31 * ((31 * ((31 * ((31 * ((31 * ((31 * ((31 * ((31 * ((31 * ((31 * ((31 * ((31 * ((31 * (((31 * ((31 * (((31 * ((31 * (((31 * ((31 * (((31 * ((31 * ((31 * ((31 * ((31 * ((31 * ((31 * ((31 * ((31 * ((31 * ((31 * ((31 * ((31 * ((31 * ((31 * ((31 * ((31 * ((31 * ((31 * (217 + (d 0))) + (d 1))) + (d 2))) + (d 3))) + (d 4))) + (d 5))) + (sy 0))) + (sm 0))) + (sd 0))) + (sy 1))) + (sm 1))) + (sd 1))) + (sy 2))) + (sm 2))) + (sd 2))) + (sy 3))) + (sm 3))) + (sd 3))) + (f_X3_floor (mi 0) 12))) + 1) + (f_X3_rest (mi 0) 12))) + (f_X3_floor (mi 1) 12))) + 1) + (f_X3_rest (mi 1) 12))) + (f_X3_floor (mi 2) 12))) + 1) + (f_X3_rest (mi 2) 12))) + (f_X3_floor (mi 3) 12))) + 1) + (f_X3_rest (mi 3) 12))) + (ti 0))) + (ti 1))) + (ti 2))) + (ti 3))) + (sL 0))) + (bL 0))) + (sL 1))) + (bL 1))) + (sL 2))) + (bL 2))) + (sL 3))) + (bL 3))) + (mD 0))) + (mT 0))) + (mD 1))) + (mT 1))), .long 31]) rfl ?_
  refine z_ladd C dX3_checksum_219 ?_
  refine z_lmul C dX3_checksum_220 ?_
  refine z_aload_n C dX3_checksum_221 rfl 2 rfl ?_
  refine z_get (CC := RX3) (T := TX3) (N := 14) (ci := 3) C hin 0 rfl rfl 6 (by decide) w14 rfl rfl dX3_checksum_222 ?_
  refine z_iload_n C dX3_checksum_225 rfl 0 rfl ?_
  refine z_lald C 6 1 rfl rfl (zvpl 2 4 (by decide)) dX3_checksum_226 ?_
  refine z_eqst (st' := [.long (mT 2), .long (31 * ((31 * ((31 * ((31 * ((31 * ((31 * ((31 * ((31 * ((31 * ((31 * ((31 * ((31 * ((31 * ((31 * ((31 * ((31 * ((31 * ((31 * (((31 * ((31 * (((31 * ((31 * (((31 * ((31 * (((31 * ((31 * ((31 * ((31 * ((31 * ((31 * ((31 * ((31 * ((31 * ((31 * ((31 * ((31 * ((31 * ((31 * ((31 * ((31 * ((31 * ((31 * ((31 * (217 + (d 0))) + (d 1))) + (d 2))) + (d 3))) + (d 4))) + (d 5))) + (sy 0))) + (sm 0))) + (sd 0))) + (sy 1))) + (sm 1))) + (sd 1))) + (sy 2))) + (sm 2))) + (sd 2))) + (sy 3))) + (sm 3))) + (sd 3))) + (f_X3_floor (mi 0) 12))) + 1) + (f_X3_rest (mi 0) 12))) + (f_X3_floor (mi 1) 12))) + 1) + (f_X3_rest (mi 1) 12))) + (f_X3_floor (mi 2) 12))) + 1) + (f_X3_rest (mi 2) 12))) + (f_X3_floor (mi 3) 12))) + 1) + (f_X3_rest (mi 3) 12))) + (ti 0))) + (ti 1))) + (ti 2))) + (ti 3))) + (sL 0))) + (bL 0))) + (sL 1))) + (bL 1))) + (sL 2))) + (bL 2))) + (sL 3))) + (bL 3))) + (mD 0))) + (mT 0))) + (mD 1))) + (mT 1))) + (mD 2)))]) rfl ?_
  refine z_ladd C dX3_checksum_227 ?_
  refine z_lstore_n (lv' := [(1, .long ((31 * ((31 * ((31 * ((31 * ((31 * ((31 * ((31 * ((31 * ((31 * ((31 * ((31 * ((31 * ((31 * ((31 * ((31 * ((31 * ((31 * ((31 * (((31 * ((31 * (((31 * ((31 * (((31 * ((31 * (((31 * ((31 * ((31 * ((31 * ((31 * ((31 * ((31 * ((31 * ((31 * ((31 * ((31 * ((31 * ((31 * ((31 * ((31 * ((31 * ((31 * ((31 * ((31 * (217 + (d 0))) + (d 1))) + (d 2))) + (d 3))) + (d 4))) + (d 5))) + (sy 0))) + (sm 0))) + (sd 0))) + (sy 1))) + (sm 1))) + (sd 1))) + (sy 2))) + (sm 2))) + (sd 2))) + (sy 3))) + (sm 3))) + (sd 3))) + (f_X3_floor (mi 0) 12))) + 1) + (f_X3_rest (mi 0) 12))) + (f_X3_floor (mi 1) 12))) + 1) + (f_X3_rest (mi 1) 12))) + (f_X3_floor (mi 2) 12))) + 1) + (f_X3_rest (mi 2) 12))) + (f_X3_floor (mi 3) 12))) + 1) + (f_X3_rest (mi 3) 12))) + (ti 0))) + (ti 1))) + (ti 2))) + (ti 3))) + (sL 0))) + (bL 0))) + (sL 1))) + (bL 1))) + (sL 2))) + (bL 2))) + (sL 3))) + (bL 3))) + (mD 0))) + (mT 0))) + (mD 1))) + (mT 1))) + (mD 2))) + (mT 2))), (3, .int 2), (0, .ref (z 0))]) C dX3_checksum_228 rfl (by decide) rfl ?_
  refine z_iinc (q := 1) (v := 3) (lv' := [(3, .int 3), (1, .long ((31 * ((31 * ((31 * ((31 * ((31 * ((31 * ((31 * ((31 * ((31 * ((31 * ((31 * ((31 * ((31 * ((31 * ((31 * ((31 * ((31 * ((31 * (((31 * ((31 * (((31 * ((31 * (((31 * ((31 * (((31 * ((31 * ((31 * ((31 * ((31 * ((31 * ((31 * ((31 * ((31 * ((31 * ((31 * ((31 * ((31 * ((31 * ((31 * ((31 * ((31 * ((31 * ((31 * (217 + (d 0))) + (d 1))) + (d 2))) + (d 3))) + (d 4))) + (d 5))) + (sy 0))) + (sm 0))) + (sd 0))) + (sy 1))) + (sm 1))) + (sd 1))) + (sy 2))) + (sm 2))) + (sd 2))) + (sy 3))) + (sm 3))) + (sd 3))) + (f_X3_floor (mi 0) 12))) + 1) + (f_X3_rest (mi 0) 12))) + (f_X3_floor (mi 1) 12))) + 1) + (f_X3_rest (mi 1) 12))) + (f_X3_floor (mi 2) 12))) + 1) + (f_X3_rest (mi 2) 12))) + (f_X3_floor (mi 3) 12))) + 1) + (f_X3_rest (mi 3) 12))) + (ti 0))) + (ti 1))) + (ti 2))) + (ti 3))) + (sL 0))) + (bL 0))) + (sL 1))) + (bL 1))) + (sL 2))) + (bL 2))) + (sL 3))) + (bL 3))) + (mD 0))) + (mT 0))) + (mD 1))) + (mT 1))) + (mD 2))) + (mT 2))), (0, .ref (z 0))]) C dX3_checksum_229 rfl (by decide) (by decide) rfl ?_
  refine z_goto (tgt := 200) C dX3_checksum_232 (by decide) ?_
  refine z_iload_n C dX3_checksum_200 rfl 0 rfl ?_
  refine z_iconst (v := 4) C dX3_checksum_201 (by decide) ?_
  refine z_icmp_ge (tgt := 235) C dX3_checksum_202 (by decide) (fun h => absurd h (by decide)) (fun _ => ?_)
  refine z_ldc2 (v := 31) C w3 dX3_checksum_205 ?_
  refine z_ldc2 (v := 31) C w3 dX3_checksum_208 ?_
  refine z_lload_n C dX3_checksum_211 rfl 1 rfl ?_
  refine z_lmul C dX3_checksum_212 ?_
  refine z_aload_n C dX3_checksum_213 rfl 2 rfl ?_
  refine z_get (CC := RX3) (T := TX3) (N := 14) (ci := 3) C hin 0 rfl rfl 5 (by decide) w13 rfl rfl dX3_checksum_214 ?_
  refine z_iload_n C dX3_checksum_217 rfl 0 rfl ?_
  refine z_lald C 5 1 rfl rfl (zvpl 3 4 (by decide)) dX3_checksum_218 ?_
  refine z_eqst (st' := [.long (mD 3), .long (31 * ((31 * ((31 * ((31 * ((31 * ((31 * ((31 * ((31 * ((31 * ((31 * ((31 * ((31 * ((31 * ((31 * ((31 * ((31 * ((31 * ((31 * ((31 * (((31 * ((31 * (((31 * ((31 * (((31 * ((31 * (((31 * ((31 * ((31 * ((31 * ((31 * ((31 * ((31 * ((31 * ((31 * ((31 * ((31 * ((31 * ((31 * ((31 * ((31 * ((31 * ((31 * ((31 * ((31 * (217 + (d 0))) + (d 1))) + (d 2))) + (d 3))) + (d 4))) + (d 5))) + (sy 0))) + (sm 0))) + (sd 0))) + (sy 1))) + (sm 1))) + (sd 1))) + (sy 2))) + (sm 2))) + (sd 2))) + (sy 3))) + (sm 3))) + (sd 3))) + (f_X3_floor (mi 0) 12))) + 1) + (f_X3_rest (mi 0) 12))) + (f_X3_floor (mi 1) 12))) + 1) + (f_X3_rest (mi 1) 12))) + (f_X3_floor (mi 2) 12))) + 1) + (f_X3_rest (mi 2) 12))) + (f_X3_floor (mi 3) 12))) + 1) + (f_X3_rest (mi 3) 12))) + (ti 0))) + (ti 1))) + (ti 2))) + (ti 3))) + (sL 0))) + (bL 0))) + (sL 1))) + (bL 1))) + (sL 2))) + (bL 2))) + (sL 3))) + (bL 3))) + (mD 0))) + (mT 0))) + (mD 1))) + (mT 1))) + (mD 2))) + (mT 2))), .long 31]) rfl ?_
  refine z_ladd C dX3_checksum_219 ?_
  refine z_lmul C dX3_checksum_220 ?_
  refine z_aload_n C dX3_checksum_221 rfl 2 rfl ?_
  refine z_get (CC := RX3) (T := TX3) (N := 14) (ci := 3) C hin 0 rfl rfl 6 (by decide) w14 rfl rfl dX3_checksum_222 ?_
  refine z_iload_n C dX3_checksum_225 rfl 0 rfl ?_
  refine z_lald C 6 1 rfl rfl (zvpl 3 4 (by decide)) dX3_checksum_226 ?_
  refine z_eqst (st' := [.long (mT 3), .long (31 * ((31 * ((31 * ((31 * ((31 * ((31 * ((31 * ((31 * ((31 * ((31 * ((31 * ((31 * ((31 * ((31 * ((31 * ((31 * ((31 * ((31 * ((31 * ((31 * (((31 * ((31 * (((31 * ((31 * (((31 * ((31 * (((31 * ((31 * ((31 * ((31 * ((31 * ((31 * ((31 * ((31 * ((31 * ((31 * ((31 * ((31 * ((31 * ((31 * ((31 * ((31 * ((31 * ((31 * ((31 * (217 + (d 0))) + (d 1))) + (d 2))) + (d 3))) + (d 4))) + (d 5))) + (sy 0))) + (sm 0))) + (sd 0))) + (sy 1))) + (sm 1))) + (sd 1))) + (sy 2))) + (sm 2))) + (sd 2))) + (sy 3))) + (sm 3))) + (sd 3))) + (f_X3_floor (mi 0) 12))) + 1) + (f_X3_rest (mi 0) 12))) + (f_X3_floor (mi 1) 12))) + 1) + (f_X3_rest (mi 1) 12))) + (f_X3_floor (mi 2) 12))) + 1) + (f_X3_rest (mi 2) 12))) + (f_X3_floor (mi 3) 12))) + 1) + (f_X3_rest (mi 3) 12))) + (ti 0))) + (ti 1))) + (ti 2))) + (ti 3))) + (sL 0))) + (bL 0))) + (sL 1))) + (bL 1))) + (sL 2))) + (bL 2))) + (sL 3))) + (bL 3))) + (mD 0))) + (mT 0))) + (mD 1))) + (mT 1))) + (mD 2))) + (mT 2))) + (mD 3)))]) rfl ?_
  refine z_ladd C dX3_checksum_227 ?_
  refine z_lstore_n (lv' := [(1, .long ((31 * ((31 * ((31 * ((31 * ((31 * ((31 * ((31 * ((31 * ((31 * ((31 * ((31 * ((31 * ((31 * ((31 * ((31 * ((31 * ((31 * ((31 * ((31 * ((31 * (((31 * ((31 * (((31 * ((31 * (((31 * ((31 * (((31 * ((31 * ((31 * ((31 * ((31 * ((31 * ((31 * ((31 * ((31 * ((31 * ((31 * ((31 * ((31 * ((31 * ((31 * ((31 * ((31 * ((31 * ((31 * (217 + (d 0))) + (d 1))) + (d 2))) + (d 3))) + (d 4))) + (d 5))) + (sy 0))) + (sm 0))) + (sd 0))) + (sy 1))) + (sm 1))) + (sd 1))) + (sy 2))) + (sm 2))) + (sd 2))) + (sy 3))) + (sm 3))) + (sd 3))) + (f_X3_floor (mi 0) 12))) + 1) + (f_X3_rest (mi 0) 12))) + (f_X3_floor (mi 1) 12))) + 1) + (f_X3_rest (mi 1) 12))) + (f_X3_floor (mi 2) 12))) + 1) + (f_X3_rest (mi 2) 12))) + (f_X3_floor (mi 3) 12))) + 1) + (f_X3_rest (mi 3) 12))) + (ti 0))) + (ti 1))) + (ti 2))) + (ti 3))) + (sL 0))) + (bL 0))) + (sL 1))) + (bL 1))) + (sL 2))) + (bL 2))) + (sL 3))) + (bL 3))) + (mD 0))) + (mT 0))) + (mD 1))) + (mT 1))) + (mD 2))) + (mT 2))) + (mD 3))) + (mT 3))), (3, .int 3), (0, .ref (z 0))]) C dX3_checksum_228 rfl (by decide) rfl ?_
  refine z_iinc (q := 1) (v := 4) (lv' := [(3, .int 4), (1, .long ((31 * ((31 * ((31 * ((31 * ((31 * ((31 * ((31 * ((31 * ((31 * ((31 * ((31 * ((31 * ((31 * ((31 * ((31 * ((31 * ((31 * ((31 * ((31 * ((31 * (((31 * ((31 * (((31 * ((31 * (((31 * ((31 * (((31 * ((31 * ((31 * ((31 * ((31 * ((31 * ((31 * ((31 * ((31 * ((31 * ((31 * ((31 * ((31 * ((31 * ((31 * ((31 * ((31 * ((31 * ((31 * (217 + (d 0))) + (d 1))) + (d 2))) + (d 3))) + (d 4))) + (d 5))) + (sy 0))) + (sm 0))) + (sd 0))) + (sy 1))) + (sm 1))) + (sd 1))) + (sy 2))) + (sm 2))) + (sd 2))) + (sy 3))) + (sm 3))) + (sd 3))) + (f_X3_floor (mi 0) 12))) + 1) + (f_X3_rest (mi 0) 12))) + (f_X3_floor (mi 1) 12))) + 1) + (f_X3_rest (mi 1) 12))) + (f_X3_floor (mi 2) 12))) + 1) + (f_X3_rest (mi 2) 12))) + (f_X3_floor (mi 3) 12))) + 1) + (f_X3_rest (mi 3) 12))) + (ti 0))) + (ti 1))) + (ti 2))) + (ti 3))) + (sL 0))) + (bL 0))) + (sL 1))) + (bL 1))) + (sL 2))) + (bL 2))) + (sL 3))) + (bL 3))) + (mD 0))) + (mT 0))) + (mD 1))) + (mT 1))) + (mD 2))) + (mT 2))) + (mD 3))) + (mT 3))), (0, .ref (z 0))]) C dX3_checksum_229 rfl (by decide) (by decide) rfl ?_
  refine z_goto (tgt := 200) C dX3_checksum_232 (by decide) ?_
  refine z_iload_n C dX3_checksum_200 rfl 0 rfl ?_
  refine z_iconst (v := 4) C dX3_checksum_201 (by decide) ?_
  refine z_icmp_ge (tgt := 235) C dX3_checksum_202 (by decide) (fun _ => ?_) (fun h => absurd (by decide) h)
  refine z_lload_n C dX3_checksum_235 rfl 1 rfl ?_
  exact z_lret C ⟨congrArg (fun v => some (Value.long v)) (rfl : ((31 * ((31 * ((31 * ((31 * ((31 * ((31 * ((31 * ((31 * ((31 * ((31 * ((31 * ((31 * ((31 * ((31 * ((31 * ((31 * ((31 * ((31 * ((31 * ((31 * (((31 * ((31 * (((31 * ((31 * (((31 * ((31 * (((31 * ((31 * ((31 * ((31 * ((31 * ((31 * ((31 * ((31 * ((31 * ((31 * ((31 * ((31 * ((31 * ((31 * ((31 * ((31 * ((31 * ((31 * ((31 * (217 + (d 0))) + (d 1))) + (d 2))) + (d 3))) + (d 4))) + (d 5))) + (sy 0))) + (sm 0))) + (sd 0))) + (sy 1))) + (sm 1))) + (sd 1))) + (sy 2))) + (sm 2))) + (sd 2))) + (sy 3))) + (sm 3))) + (sd 3))) + (f_X3_floor (mi 0) 12))) + 1) + (f_X3_rest (mi 0) 12))) + (f_X3_floor (mi 1) 12))) + 1) + (f_X3_rest (mi 1) 12))) + (f_X3_floor (mi 2) 12))) + 1) + (f_X3_rest (mi 2) 12))) + (f_X3_floor (mi 3) 12))) + 1) + (f_X3_rest (mi 3) 12))) + (ti 0))) + (ti 1))) + (ti 2))) + (ti 3))) + (sL 0))) + (bL 0))) + (sL 1))) + (bL 1))) + (sL 2))) + (bL 2))) + (sL 3))) + (bL 3))) + (mD 0))) + (mT 0))) + (mD 1))) + (mT 1))) + (mD 2))) + (mT 2))) + (mD 3))) + (mT 3)) = (f_X3_checksum d ti sL bL mD mT sy sm sd mi)), rfl⟩ (by decide) (by decide) dX3_checksum_236
def f_X3_isSound  : Int32 := 1
def s_X3_isSound_co  : Int32 := 0
theorem q_X3_isSound : ZY yX3_isSound wsX3_isSound cX3_isSound 1 (some .boolean) 0 := ⟨⟨_, rfl⟩, by decide +kernel, by decide +kernel, by decide +kernel⟩
set_option maxHeartbeats 4000000 in
set_option maxRecDepth 100000 in
theorem c_X3_isSound (l : Launch) (hfl : l.stackTraces = false) (D : va_G) (cI cJ : ClassId) (X : va_W) (z : Nat → Nat) (co : Int32) (d : Nat → Int64) (ti : Nat → Int64) (sL : Nat → Int64) (bL : Nat → Int64) (mD : Nat → Int64) (mT : Nat → Int64) (sy : Nat → Int64) (sm : Nat → Int64) (sd : Nat → Int64) (mi : Nat → Int64) (yr : Int64) (mo : Int32) (dy : Int32)  : ZM l yX3_isSound wsX3_isSound { frames := 0, cells := 0, slots := 0, locals := 0 } [.ref (z 0)] D (zTys cI cJ) (wM cI cJ z co d ti sL bL mD mT sy sm sd mi yr mo dy X) 0 0 (fun v w => v = some (.int f_X3_isSound) ∧ w = (wM cI cJ z s_X3_isSound_co d ti sL bL mD mT sy sm sd mi yr mo dy X)) (fun _ _ => False) := by
  refine z_open (own := RX3) hfl (cc := cX3_isSound) (maxL := 1) (ret := (some .boolean)) (lv := [(0, .ref (z 0))]) rfl (by decide) rfl rfl (Nat.le_of_ble_eq_true rfl) ?_
  intro p e s m args below meth c A C hno hnm hargs
  have hin : ∀ w ∈ wsX30, w ∈ wsX3_isSound := by decide +kernel
  have w1 := C.1.2.2.2.2 (.fieldLink RX3 1 "YearwheelModel" "code" "I") (by decide +kernel)
  refine z_aload_n C dX3_isSound_0 rfl 0 rfl ?_
  refine z_iconst (v := 0) C dX3_isSound_1 (by decide) ?_
  refine z_put (CC := RX3) (T := TX3) (N := 14) (ci := 3) C hin tyX3 tyX3_ok nmX3 0 rfl rfl 0 (by decide) w1 rfl rfl rfl rfl rfl (Nat.le_of_ble_eq_true rfl) (ws' := (wM cI cJ z 0 d ti sL bL mD mT sy sm sd mi yr mo dy X)) rfl dX3_isSound_2 ?_
  refine z_iconst (v := 1) C dX3_isSound_5 (by decide) ?_
  exact z_zret C (by decide) ⟨congrArg (fun v => some (Value.int v)) (rfl : (1 : Int32) = f_X3_isSound), rfl⟩ (by decide) (by decide) dX3_isSound_6
theorem b_X3_isSound  : f_X3_isSound = 0 ∨ f_X3_isSound = 1 := by
  unfold f_X3_isSound
  repeat (first | apply z01_ite | exact Or.inl rfl | exact Or.inr rfl | apply zbor)
def f_X3_longShare_j1 (d : Nat → Int64) : Int32 := (if (f_X3_isLong (s_X3_parts_yr (d 0))) = 0 then 0 else 1)
def f_X3_longShare_j2 (d : Nat → Int64) : Int32 := (if (f_X3_isLong (s_X3_parts_yr (d 1))) = 0 then 0 else 1)
def f_X3_longShare_j3 (d : Nat → Int64) : Int32 := (if (f_X3_isLong (s_X3_parts_yr (d 2))) = 0 then 0 else 1)
def f_X3_longShare_j4 (d : Nat → Int64) : Int32 := (if (f_X3_isLong (s_X3_parts_yr (d 3))) = 0 then 0 else 1)
def f_X3_longShare_j5 (d : Nat → Int64) : Int32 := (if (f_X3_isLong (s_X3_parts_yr (d 4))) = 0 then 0 else 1)
def f_X3_longShare_j6 (d : Nat → Int64) : Int32 := (if (f_X3_isLong (s_X3_parts_yr (d 5))) = 0 then 0 else 1)
def f_X3_longShare (d : Nat → Int64) : UInt32 := (FP.fdiv (FP.i2f ((((((0 + (f_X3_longShare_j1 d)) + (f_X3_longShare_j2 d)) + (f_X3_longShare_j3 d)) + (f_X3_longShare_j4 d)) + (f_X3_longShare_j5 d)) + (f_X3_longShare_j6 d))) 1086324736)
def s_X3_longShare_co  : Int32 := 0
def s_X3_longShare_yr (d : Nat → Int64) : Int64 := (s_X3_parts_yr (d 5))
def s_X3_longShare_mo (d : Nat → Int64) : Int32 := (s_X3_parts_mo (d 5))
def s_X3_longShare_dy (d : Nat → Int64) : Int32 := (s_X3_parts_dy (d 5))
def pre_X3_longShare (d : Nat → Int64) : Prop := ((pre_X3_parts (d 0))) ∧ ((pre_X3_parts (d 1))) ∧ ((pre_X3_parts (d 2))) ∧ ((pre_X3_parts (d 3))) ∧ ((pre_X3_parts (d 4))) ∧ ((pre_X3_parts (d 5))) ∧ ((vf_n32 (FP.fdiv (FP.i2f ((((((0 + (f_X3_longShare_j1 d)) + (f_X3_longShare_j2 d)) + (f_X3_longShare_j3 d)) + (f_X3_longShare_j4 d)) + (f_X3_longShare_j5 d)) + (f_X3_longShare_j6 d))) 1086324736)))
theorem q_X3_longShare : ZY yX3_longShare wsX3_longShare cX3_longShare 3 (some .float) 0 := ⟨⟨_, rfl⟩, by decide +kernel, by decide +kernel, by decide +kernel⟩
set_option maxHeartbeats 4000000 in
set_option maxRecDepth 100000 in
theorem c_X3_longShare (l : Launch) (hfl : l.stackTraces = false) (D : va_G) (cI cJ : ClassId) (X : va_W) (z : Nat → Nat) (co : Int32) (d : Nat → Int64) (ti : Nat → Int64) (sL : Nat → Int64) (bL : Nat → Int64) (mD : Nat → Int64) (mT : Nat → Int64) (sy : Nat → Int64) (sm : Nat → Int64) (sd : Nat → Int64) (mi : Nat → Int64) (yr : Int64) (mo : Int32) (dy : Int32)  (h_g : pre_X3_longShare d) : ZM l yX3_longShare wsX3_longShare { frames := 5, cells := 0, slots := 0, locals := 113 } [.ref (z 0)] D (zTys cI cJ) (wM cI cJ z co d ti sL bL mD mT sy sm sd mi yr mo dy X) 0 0 (fun v w => v = some (.float (f_X3_longShare d)) ∧ w = (wM cI cJ z s_X3_longShare_co d ti sL bL mD mT sy sm sd mi (s_X3_longShare_yr d) (s_X3_longShare_mo d) (s_X3_longShare_dy d) X)) (fun _ _ => False) := by
  refine z_open (own := RX3) hfl (cc := cX3_longShare) (maxL := 3) (ret := (some .float)) (lv := [(0, .ref (z 0))]) rfl (by decide) rfl rfl (Nat.le_of_ble_eq_true rfl) ?_
  intro p e s m args below meth c A C hno hnm hargs
  have hin : ∀ w ∈ wsX30, w ∈ wsX3_longShare := by decide +kernel
  have w1 := C.1.2.2.2.2 (.fieldLink RX3 1 "YearwheelModel" "code" "I") (by decide +kernel)
  have w2 := C.1.2.2.2.2 (.fieldLink RX3 13 "YearwheelModel" "dates" "[J") (by decide +kernel)
  have w3 := C.1.2.2.2.2 (.fieldLink RX3 86 "YearwheelModel" "year" "J") (by decide +kernel)
  have w4 := C.1.2.2.2.2 (.constantFloat RX3 237 (1086324736)) (by decide +kernel)
  obtain ⟨g_0, g_1, g_2, g_3, g_4, g_5, g_6⟩ := h_g
  refine z_aload_n C dX3_longShare_0 rfl 0 rfl ?_
  refine z_iconst (v := 0) C dX3_longShare_1 (by decide) ?_
  refine z_put (CC := RX3) (T := TX3) (N := 14) (ci := 3) C hin tyX3 tyX3_ok nmX3 0 rfl rfl 0 (by decide) w1 rfl rfl rfl rfl rfl (Nat.le_of_ble_eq_true rfl) (ws' := (wM cI cJ z 0 d ti sL bL mD mT sy sm sd mi yr mo dy X)) rfl dX3_longShare_2 ?_
  refine z_iconst (v := 0) C dX3_longShare_5 (by decide) ?_
  refine z_istore_n (lv' := [(1, .int 0), (0, .ref (z 0))]) C dX3_longShare_6 rfl (by decide) rfl ?_
  refine z_iconst (v := 0) C dX3_longShare_7 (by decide) ?_
  refine z_istore_n (lv' := [(2, .int 0), (1, .int 0), (0, .ref (z 0))]) C dX3_longShare_8 rfl (by decide) rfl ?_
  refine z_iload_n C dX3_longShare_9 rfl 0 rfl ?_
  refine z_bipush (v := 6) C dX3_longShare_10 (by decide) ?_
  refine z_icmp_ge (tgt := 49) C dX3_longShare_12 (by decide) (fun h => absurd h (by decide)) (fun _ => ?_)
  refine z_aload_n C dX3_longShare_15 rfl 2 rfl ?_
  refine z_aload_n C dX3_longShare_16 rfl 2 rfl ?_
  refine z_get (CC := RX3) (T := TX3) (N := 14) (ci := 3) C hin 0 rfl rfl 1 (by decide) w2 rfl rfl dX3_longShare_17 ?_
  refine z_iload_n C dX3_longShare_20 rfl 0 rfl ?_
  refine z_lald C 1 1 rfl rfl (zvpl 0 6 (by decide)) dX3_longShare_21 ?_
  refine z_eqst (st' := [.long (d 0), .ref (z 0)]) rfl ?_
  refine z_wv (ws' := (wM cI cJ z 0 d ti sL bL mD mT sy sm sd mi (s_X3_parts_yr (d 0)) (s_X3_parts_mo (d 0)) (s_X3_parts_dy (d 0)) X)) (rest := []) (ci := 3) (q0 := 0) C (c_X3_parts l hfl D cI cJ X z 0 d ti sL bL mD mT sy sm sd mi yr mo dy (d 0) (g_0)) q_X3_parts rfl rfl rfl gX3_longShare_X3_parts ⟨rfl, rfl⟩ rfl rfl (Nat.le_of_ble_eq_true rfl) ⟨Nat.le_of_ble_eq_true rfl, Nat.le_of_ble_eq_true rfl⟩ ⟨Nat.le_of_ble_eq_true rfl, Nat.le_of_ble_eq_true rfl⟩ dX3_longShare_22 ?_
  refine z_iload_n C dX3_longShare_25 rfl 1 rfl ?_
  refine z_aload_n C dX3_longShare_26 rfl 2 rfl ?_
  refine z_get (CC := RX3) (T := TX3) (N := 14) (ci := 3) C hin 0 rfl rfl 11 (by decide) w3 rfl rfl dX3_longShare_27 ?_
  refine z_si (rest := [.int 0]) C (c_X3_isLong l hfl D cI cJ _ (s_X3_parts_yr (d 0)) ) q_X3_isLong gX3_longShare_X3_isLong ⟨rfl, rfl⟩ rfl rfl (Nat.le_of_ble_eq_true rfl) ⟨Nat.le_of_ble_eq_true rfl, Nat.le_of_ble_eq_true rfl⟩ ⟨Nat.le_of_ble_eq_true rfl, Nat.le_of_ble_eq_true rfl⟩ dX3_longShare_30 ?_
  have K1 : ∀ (v1_0 : Int32), (f_X3_longShare_j1 d) = v1_0 → ZW p l e { frames := 5, cells := 0, slots := 0, locals := 113 } s m args below meth c 3 D (zTys cI cJ) A (zE D (zTys cI cJ) A below args s (fun v w => v = some (.float (f_X3_longShare d)) ∧ w = (wM cI cJ z s_X3_longShare_co d ti sL bL mD mT sy sm sd mi (s_X3_longShare_yr d) (s_X3_longShare_mo d) (s_X3_longShare_dy d) X)) (fun _ _ => False) 0 0) 0 0 (wM cI cJ z 0 d ti sL bL mD mT sy sm sd mi (s_X3_parts_yr (d 0)) (s_X3_parts_mo (d 0)) (s_X3_parts_dy (d 0)) X) 41 [(2, .int 0), (1, .int 0), (0, .ref (z 0))] [.int v1_0, .int 0] := by
    rintro _ rfl
    refine z_iadd C dX3_longShare_41 ?_
    refine z_istore_n (lv' := [(1, .int (0 + (f_X3_longShare_j1 d))), (2, .int 0), (0, .ref (z 0))]) C dX3_longShare_42 rfl (by decide) rfl ?_
    refine z_iinc (q := 1) (v := 1) (lv' := [(2, .int 1), (1, .int (0 + (f_X3_longShare_j1 d))), (0, .ref (z 0))]) C dX3_longShare_43 rfl (by decide) (by decide) rfl ?_
    refine z_goto (tgt := 9) C dX3_longShare_46 (by decide) ?_
    refine z_iload_n C dX3_longShare_9 rfl 0 rfl ?_
    refine z_bipush (v := 6) C dX3_longShare_10 (by decide) ?_
    refine z_icmp_ge (tgt := 49) C dX3_longShare_12 (by decide) (fun h => absurd h (by decide)) (fun _ => ?_)
    refine z_aload_n C dX3_longShare_15 rfl 2 rfl ?_
    refine z_aload_n C dX3_longShare_16 rfl 2 rfl ?_
    refine z_get (CC := RX3) (T := TX3) (N := 14) (ci := 3) C hin 0 rfl rfl 1 (by decide) w2 rfl rfl dX3_longShare_17 ?_
    refine z_iload_n C dX3_longShare_20 rfl 0 rfl ?_
    refine z_lald C 1 1 rfl rfl (zvpl 1 6 (by decide)) dX3_longShare_21 ?_
    refine z_eqst (st' := [.long (d 1), .ref (z 0)]) rfl ?_
    refine z_wv (ws' := (wM cI cJ z 0 d ti sL bL mD mT sy sm sd mi (s_X3_parts_yr (d 1)) (s_X3_parts_mo (d 1)) (s_X3_parts_dy (d 1)) X)) (rest := []) (ci := 3) (q0 := 0) C (c_X3_parts l hfl D cI cJ X z 0 d ti sL bL mD mT sy sm sd mi (s_X3_parts_yr (d 0)) (s_X3_parts_mo (d 0)) (s_X3_parts_dy (d 0)) (d 1) (g_1)) q_X3_parts rfl rfl rfl gX3_longShare_X3_parts ⟨rfl, rfl⟩ rfl rfl (Nat.le_of_ble_eq_true rfl) ⟨Nat.le_of_ble_eq_true rfl, Nat.le_of_ble_eq_true rfl⟩ ⟨Nat.le_of_ble_eq_true rfl, Nat.le_of_ble_eq_true rfl⟩ dX3_longShare_22 ?_
    refine z_iload_n C dX3_longShare_25 rfl 1 rfl ?_
    refine z_aload_n C dX3_longShare_26 rfl 2 rfl ?_
    refine z_get (CC := RX3) (T := TX3) (N := 14) (ci := 3) C hin 0 rfl rfl 11 (by decide) w3 rfl rfl dX3_longShare_27 ?_
    refine z_si (rest := [.int (0 + (f_X3_longShare_j1 d))]) C (c_X3_isLong l hfl D cI cJ _ (s_X3_parts_yr (d 1)) ) q_X3_isLong gX3_longShare_X3_isLong ⟨rfl, rfl⟩ rfl rfl (Nat.le_of_ble_eq_true rfl) ⟨Nat.le_of_ble_eq_true rfl, Nat.le_of_ble_eq_true rfl⟩ ⟨Nat.le_of_ble_eq_true rfl, Nat.le_of_ble_eq_true rfl⟩ dX3_longShare_30 ?_
    have K2 : ∀ (v2_0 : Int32), (f_X3_longShare_j2 d) = v2_0 → ZW p l e { frames := 5, cells := 0, slots := 0, locals := 113 } s m args below meth c 3 D (zTys cI cJ) A (zE D (zTys cI cJ) A below args s (fun v w => v = some (.float (f_X3_longShare d)) ∧ w = (wM cI cJ z s_X3_longShare_co d ti sL bL mD mT sy sm sd mi (s_X3_longShare_yr d) (s_X3_longShare_mo d) (s_X3_longShare_dy d) X)) (fun _ _ => False) 0 0) 0 0 (wM cI cJ z 0 d ti sL bL mD mT sy sm sd mi (s_X3_parts_yr (d 1)) (s_X3_parts_mo (d 1)) (s_X3_parts_dy (d 1)) X) 41 [(2, .int 1), (1, .int (0 + (f_X3_longShare_j1 d))), (0, .ref (z 0))] [.int v2_0, .int (0 + (f_X3_longShare_j1 d))] := by
      rintro _ rfl
      refine z_iadd C dX3_longShare_41 ?_
      refine z_istore_n (lv' := [(1, .int ((0 + (f_X3_longShare_j1 d)) + (f_X3_longShare_j2 d))), (2, .int 1), (0, .ref (z 0))]) C dX3_longShare_42 rfl (by decide) rfl ?_
      refine z_iinc (q := 1) (v := 2) (lv' := [(2, .int 2), (1, .int ((0 + (f_X3_longShare_j1 d)) + (f_X3_longShare_j2 d))), (0, .ref (z 0))]) C dX3_longShare_43 rfl (by decide) (by decide) rfl ?_
      refine z_goto (tgt := 9) C dX3_longShare_46 (by decide) ?_
      refine z_iload_n C dX3_longShare_9 rfl 0 rfl ?_
      refine z_bipush (v := 6) C dX3_longShare_10 (by decide) ?_
      refine z_icmp_ge (tgt := 49) C dX3_longShare_12 (by decide) (fun h => absurd h (by decide)) (fun _ => ?_)
      refine z_aload_n C dX3_longShare_15 rfl 2 rfl ?_
      refine z_aload_n C dX3_longShare_16 rfl 2 rfl ?_
      refine z_get (CC := RX3) (T := TX3) (N := 14) (ci := 3) C hin 0 rfl rfl 1 (by decide) w2 rfl rfl dX3_longShare_17 ?_
      refine z_iload_n C dX3_longShare_20 rfl 0 rfl ?_
      refine z_lald C 1 1 rfl rfl (zvpl 2 6 (by decide)) dX3_longShare_21 ?_
      refine z_eqst (st' := [.long (d 2), .ref (z 0)]) rfl ?_
      refine z_wv (ws' := (wM cI cJ z 0 d ti sL bL mD mT sy sm sd mi (s_X3_parts_yr (d 2)) (s_X3_parts_mo (d 2)) (s_X3_parts_dy (d 2)) X)) (rest := []) (ci := 3) (q0 := 0) C (c_X3_parts l hfl D cI cJ X z 0 d ti sL bL mD mT sy sm sd mi (s_X3_parts_yr (d 1)) (s_X3_parts_mo (d 1)) (s_X3_parts_dy (d 1)) (d 2) (g_2)) q_X3_parts rfl rfl rfl gX3_longShare_X3_parts ⟨rfl, rfl⟩ rfl rfl (Nat.le_of_ble_eq_true rfl) ⟨Nat.le_of_ble_eq_true rfl, Nat.le_of_ble_eq_true rfl⟩ ⟨Nat.le_of_ble_eq_true rfl, Nat.le_of_ble_eq_true rfl⟩ dX3_longShare_22 ?_
      refine z_iload_n C dX3_longShare_25 rfl 1 rfl ?_
      refine z_aload_n C dX3_longShare_26 rfl 2 rfl ?_
      refine z_get (CC := RX3) (T := TX3) (N := 14) (ci := 3) C hin 0 rfl rfl 11 (by decide) w3 rfl rfl dX3_longShare_27 ?_
      refine z_si (rest := [.int ((0 + (f_X3_longShare_j1 d)) + (f_X3_longShare_j2 d))]) C (c_X3_isLong l hfl D cI cJ _ (s_X3_parts_yr (d 2)) ) q_X3_isLong gX3_longShare_X3_isLong ⟨rfl, rfl⟩ rfl rfl (Nat.le_of_ble_eq_true rfl) ⟨Nat.le_of_ble_eq_true rfl, Nat.le_of_ble_eq_true rfl⟩ ⟨Nat.le_of_ble_eq_true rfl, Nat.le_of_ble_eq_true rfl⟩ dX3_longShare_30 ?_
      have K3 : ∀ (v3_0 : Int32), (f_X3_longShare_j3 d) = v3_0 → ZW p l e { frames := 5, cells := 0, slots := 0, locals := 113 } s m args below meth c 3 D (zTys cI cJ) A (zE D (zTys cI cJ) A below args s (fun v w => v = some (.float (f_X3_longShare d)) ∧ w = (wM cI cJ z s_X3_longShare_co d ti sL bL mD mT sy sm sd mi (s_X3_longShare_yr d) (s_X3_longShare_mo d) (s_X3_longShare_dy d) X)) (fun _ _ => False) 0 0) 0 0 (wM cI cJ z 0 d ti sL bL mD mT sy sm sd mi (s_X3_parts_yr (d 2)) (s_X3_parts_mo (d 2)) (s_X3_parts_dy (d 2)) X) 41 [(2, .int 2), (1, .int ((0 + (f_X3_longShare_j1 d)) + (f_X3_longShare_j2 d))), (0, .ref (z 0))] [.int v3_0, .int ((0 + (f_X3_longShare_j1 d)) + (f_X3_longShare_j2 d))] := by
        rintro _ rfl
        refine z_iadd C dX3_longShare_41 ?_
        refine z_istore_n (lv' := [(1, .int (((0 + (f_X3_longShare_j1 d)) + (f_X3_longShare_j2 d)) + (f_X3_longShare_j3 d))), (2, .int 2), (0, .ref (z 0))]) C dX3_longShare_42 rfl (by decide) rfl ?_
        refine z_iinc (q := 1) (v := 3) (lv' := [(2, .int 3), (1, .int (((0 + (f_X3_longShare_j1 d)) + (f_X3_longShare_j2 d)) + (f_X3_longShare_j3 d))), (0, .ref (z 0))]) C dX3_longShare_43 rfl (by decide) (by decide) rfl ?_
        refine z_goto (tgt := 9) C dX3_longShare_46 (by decide) ?_
        refine z_iload_n C dX3_longShare_9 rfl 0 rfl ?_
        refine z_bipush (v := 6) C dX3_longShare_10 (by decide) ?_
        refine z_icmp_ge (tgt := 49) C dX3_longShare_12 (by decide) (fun h => absurd h (by decide)) (fun _ => ?_)
        refine z_aload_n C dX3_longShare_15 rfl 2 rfl ?_
        refine z_aload_n C dX3_longShare_16 rfl 2 rfl ?_
        refine z_get (CC := RX3) (T := TX3) (N := 14) (ci := 3) C hin 0 rfl rfl 1 (by decide) w2 rfl rfl dX3_longShare_17 ?_
        refine z_iload_n C dX3_longShare_20 rfl 0 rfl ?_
        refine z_lald C 1 1 rfl rfl (zvpl 3 6 (by decide)) dX3_longShare_21 ?_
        refine z_eqst (st' := [.long (d 3), .ref (z 0)]) rfl ?_
        refine z_wv (ws' := (wM cI cJ z 0 d ti sL bL mD mT sy sm sd mi (s_X3_parts_yr (d 3)) (s_X3_parts_mo (d 3)) (s_X3_parts_dy (d 3)) X)) (rest := []) (ci := 3) (q0 := 0) C (c_X3_parts l hfl D cI cJ X z 0 d ti sL bL mD mT sy sm sd mi (s_X3_parts_yr (d 2)) (s_X3_parts_mo (d 2)) (s_X3_parts_dy (d 2)) (d 3) (g_3)) q_X3_parts rfl rfl rfl gX3_longShare_X3_parts ⟨rfl, rfl⟩ rfl rfl (Nat.le_of_ble_eq_true rfl) ⟨Nat.le_of_ble_eq_true rfl, Nat.le_of_ble_eq_true rfl⟩ ⟨Nat.le_of_ble_eq_true rfl, Nat.le_of_ble_eq_true rfl⟩ dX3_longShare_22 ?_
        refine z_iload_n C dX3_longShare_25 rfl 1 rfl ?_
        refine z_aload_n C dX3_longShare_26 rfl 2 rfl ?_
        refine z_get (CC := RX3) (T := TX3) (N := 14) (ci := 3) C hin 0 rfl rfl 11 (by decide) w3 rfl rfl dX3_longShare_27 ?_
        refine z_si (rest := [.int (((0 + (f_X3_longShare_j1 d)) + (f_X3_longShare_j2 d)) + (f_X3_longShare_j3 d))]) C (c_X3_isLong l hfl D cI cJ _ (s_X3_parts_yr (d 3)) ) q_X3_isLong gX3_longShare_X3_isLong ⟨rfl, rfl⟩ rfl rfl (Nat.le_of_ble_eq_true rfl) ⟨Nat.le_of_ble_eq_true rfl, Nat.le_of_ble_eq_true rfl⟩ ⟨Nat.le_of_ble_eq_true rfl, Nat.le_of_ble_eq_true rfl⟩ dX3_longShare_30 ?_
        have K4 : ∀ (v4_0 : Int32), (f_X3_longShare_j4 d) = v4_0 → ZW p l e { frames := 5, cells := 0, slots := 0, locals := 113 } s m args below meth c 3 D (zTys cI cJ) A (zE D (zTys cI cJ) A below args s (fun v w => v = some (.float (f_X3_longShare d)) ∧ w = (wM cI cJ z s_X3_longShare_co d ti sL bL mD mT sy sm sd mi (s_X3_longShare_yr d) (s_X3_longShare_mo d) (s_X3_longShare_dy d) X)) (fun _ _ => False) 0 0) 0 0 (wM cI cJ z 0 d ti sL bL mD mT sy sm sd mi (s_X3_parts_yr (d 3)) (s_X3_parts_mo (d 3)) (s_X3_parts_dy (d 3)) X) 41 [(2, .int 3), (1, .int (((0 + (f_X3_longShare_j1 d)) + (f_X3_longShare_j2 d)) + (f_X3_longShare_j3 d))), (0, .ref (z 0))] [.int v4_0, .int (((0 + (f_X3_longShare_j1 d)) + (f_X3_longShare_j2 d)) + (f_X3_longShare_j3 d))] := by
          rintro _ rfl
          refine z_iadd C dX3_longShare_41 ?_
          refine z_istore_n (lv' := [(1, .int ((((0 + (f_X3_longShare_j1 d)) + (f_X3_longShare_j2 d)) + (f_X3_longShare_j3 d)) + (f_X3_longShare_j4 d))), (2, .int 3), (0, .ref (z 0))]) C dX3_longShare_42 rfl (by decide) rfl ?_
          refine z_iinc (q := 1) (v := 4) (lv' := [(2, .int 4), (1, .int ((((0 + (f_X3_longShare_j1 d)) + (f_X3_longShare_j2 d)) + (f_X3_longShare_j3 d)) + (f_X3_longShare_j4 d))), (0, .ref (z 0))]) C dX3_longShare_43 rfl (by decide) (by decide) rfl ?_
          refine z_goto (tgt := 9) C dX3_longShare_46 (by decide) ?_
          refine z_iload_n C dX3_longShare_9 rfl 0 rfl ?_
          refine z_bipush (v := 6) C dX3_longShare_10 (by decide) ?_
          refine z_icmp_ge (tgt := 49) C dX3_longShare_12 (by decide) (fun h => absurd h (by decide)) (fun _ => ?_)
          refine z_aload_n C dX3_longShare_15 rfl 2 rfl ?_
          refine z_aload_n C dX3_longShare_16 rfl 2 rfl ?_
          refine z_get (CC := RX3) (T := TX3) (N := 14) (ci := 3) C hin 0 rfl rfl 1 (by decide) w2 rfl rfl dX3_longShare_17 ?_
          refine z_iload_n C dX3_longShare_20 rfl 0 rfl ?_
          refine z_lald C 1 1 rfl rfl (zvpl 4 6 (by decide)) dX3_longShare_21 ?_
          refine z_eqst (st' := [.long (d 4), .ref (z 0)]) rfl ?_
          refine z_wv (ws' := (wM cI cJ z 0 d ti sL bL mD mT sy sm sd mi (s_X3_parts_yr (d 4)) (s_X3_parts_mo (d 4)) (s_X3_parts_dy (d 4)) X)) (rest := []) (ci := 3) (q0 := 0) C (c_X3_parts l hfl D cI cJ X z 0 d ti sL bL mD mT sy sm sd mi (s_X3_parts_yr (d 3)) (s_X3_parts_mo (d 3)) (s_X3_parts_dy (d 3)) (d 4) (g_4)) q_X3_parts rfl rfl rfl gX3_longShare_X3_parts ⟨rfl, rfl⟩ rfl rfl (Nat.le_of_ble_eq_true rfl) ⟨Nat.le_of_ble_eq_true rfl, Nat.le_of_ble_eq_true rfl⟩ ⟨Nat.le_of_ble_eq_true rfl, Nat.le_of_ble_eq_true rfl⟩ dX3_longShare_22 ?_
          refine z_iload_n C dX3_longShare_25 rfl 1 rfl ?_
          refine z_aload_n C dX3_longShare_26 rfl 2 rfl ?_
          refine z_get (CC := RX3) (T := TX3) (N := 14) (ci := 3) C hin 0 rfl rfl 11 (by decide) w3 rfl rfl dX3_longShare_27 ?_
          refine z_si (rest := [.int ((((0 + (f_X3_longShare_j1 d)) + (f_X3_longShare_j2 d)) + (f_X3_longShare_j3 d)) + (f_X3_longShare_j4 d))]) C (c_X3_isLong l hfl D cI cJ _ (s_X3_parts_yr (d 4)) ) q_X3_isLong gX3_longShare_X3_isLong ⟨rfl, rfl⟩ rfl rfl (Nat.le_of_ble_eq_true rfl) ⟨Nat.le_of_ble_eq_true rfl, Nat.le_of_ble_eq_true rfl⟩ ⟨Nat.le_of_ble_eq_true rfl, Nat.le_of_ble_eq_true rfl⟩ dX3_longShare_30 ?_
          have K5 : ∀ (v5_0 : Int32), (f_X3_longShare_j5 d) = v5_0 → ZW p l e { frames := 5, cells := 0, slots := 0, locals := 113 } s m args below meth c 3 D (zTys cI cJ) A (zE D (zTys cI cJ) A below args s (fun v w => v = some (.float (f_X3_longShare d)) ∧ w = (wM cI cJ z s_X3_longShare_co d ti sL bL mD mT sy sm sd mi (s_X3_longShare_yr d) (s_X3_longShare_mo d) (s_X3_longShare_dy d) X)) (fun _ _ => False) 0 0) 0 0 (wM cI cJ z 0 d ti sL bL mD mT sy sm sd mi (s_X3_parts_yr (d 4)) (s_X3_parts_mo (d 4)) (s_X3_parts_dy (d 4)) X) 41 [(2, .int 4), (1, .int ((((0 + (f_X3_longShare_j1 d)) + (f_X3_longShare_j2 d)) + (f_X3_longShare_j3 d)) + (f_X3_longShare_j4 d))), (0, .ref (z 0))] [.int v5_0, .int ((((0 + (f_X3_longShare_j1 d)) + (f_X3_longShare_j2 d)) + (f_X3_longShare_j3 d)) + (f_X3_longShare_j4 d))] := by
            rintro _ rfl
            refine z_iadd C dX3_longShare_41 ?_
            refine z_istore_n (lv' := [(1, .int (((((0 + (f_X3_longShare_j1 d)) + (f_X3_longShare_j2 d)) + (f_X3_longShare_j3 d)) + (f_X3_longShare_j4 d)) + (f_X3_longShare_j5 d))), (2, .int 4), (0, .ref (z 0))]) C dX3_longShare_42 rfl (by decide) rfl ?_
            refine z_iinc (q := 1) (v := 5) (lv' := [(2, .int 5), (1, .int (((((0 + (f_X3_longShare_j1 d)) + (f_X3_longShare_j2 d)) + (f_X3_longShare_j3 d)) + (f_X3_longShare_j4 d)) + (f_X3_longShare_j5 d))), (0, .ref (z 0))]) C dX3_longShare_43 rfl (by decide) (by decide) rfl ?_
            refine z_goto (tgt := 9) C dX3_longShare_46 (by decide) ?_
            refine z_iload_n C dX3_longShare_9 rfl 0 rfl ?_
            refine z_bipush (v := 6) C dX3_longShare_10 (by decide) ?_
            refine z_icmp_ge (tgt := 49) C dX3_longShare_12 (by decide) (fun h => absurd h (by decide)) (fun _ => ?_)
            refine z_aload_n C dX3_longShare_15 rfl 2 rfl ?_
            refine z_aload_n C dX3_longShare_16 rfl 2 rfl ?_
            refine z_get (CC := RX3) (T := TX3) (N := 14) (ci := 3) C hin 0 rfl rfl 1 (by decide) w2 rfl rfl dX3_longShare_17 ?_
            refine z_iload_n C dX3_longShare_20 rfl 0 rfl ?_
            refine z_lald C 1 1 rfl rfl (zvpl 5 6 (by decide)) dX3_longShare_21 ?_
            refine z_eqst (st' := [.long (d 5), .ref (z 0)]) rfl ?_
            refine z_wv (ws' := (wM cI cJ z 0 d ti sL bL mD mT sy sm sd mi (s_X3_parts_yr (d 5)) (s_X3_parts_mo (d 5)) (s_X3_parts_dy (d 5)) X)) (rest := []) (ci := 3) (q0 := 0) C (c_X3_parts l hfl D cI cJ X z 0 d ti sL bL mD mT sy sm sd mi (s_X3_parts_yr (d 4)) (s_X3_parts_mo (d 4)) (s_X3_parts_dy (d 4)) (d 5) (g_5)) q_X3_parts rfl rfl rfl gX3_longShare_X3_parts ⟨rfl, rfl⟩ rfl rfl (Nat.le_of_ble_eq_true rfl) ⟨Nat.le_of_ble_eq_true rfl, Nat.le_of_ble_eq_true rfl⟩ ⟨Nat.le_of_ble_eq_true rfl, Nat.le_of_ble_eq_true rfl⟩ dX3_longShare_22 ?_
            refine z_iload_n C dX3_longShare_25 rfl 1 rfl ?_
            refine z_aload_n C dX3_longShare_26 rfl 2 rfl ?_
            refine z_get (CC := RX3) (T := TX3) (N := 14) (ci := 3) C hin 0 rfl rfl 11 (by decide) w3 rfl rfl dX3_longShare_27 ?_
            refine z_si (rest := [.int (((((0 + (f_X3_longShare_j1 d)) + (f_X3_longShare_j2 d)) + (f_X3_longShare_j3 d)) + (f_X3_longShare_j4 d)) + (f_X3_longShare_j5 d))]) C (c_X3_isLong l hfl D cI cJ _ (s_X3_parts_yr (d 5)) ) q_X3_isLong gX3_longShare_X3_isLong ⟨rfl, rfl⟩ rfl rfl (Nat.le_of_ble_eq_true rfl) ⟨Nat.le_of_ble_eq_true rfl, Nat.le_of_ble_eq_true rfl⟩ ⟨Nat.le_of_ble_eq_true rfl, Nat.le_of_ble_eq_true rfl⟩ dX3_longShare_30 ?_
            have K6 : ∀ (v6_0 : Int32), (f_X3_longShare_j6 d) = v6_0 → ZW p l e { frames := 5, cells := 0, slots := 0, locals := 113 } s m args below meth c 3 D (zTys cI cJ) A (zE D (zTys cI cJ) A below args s (fun v w => v = some (.float (f_X3_longShare d)) ∧ w = (wM cI cJ z s_X3_longShare_co d ti sL bL mD mT sy sm sd mi (s_X3_longShare_yr d) (s_X3_longShare_mo d) (s_X3_longShare_dy d) X)) (fun _ _ => False) 0 0) 0 0 (wM cI cJ z 0 d ti sL bL mD mT sy sm sd mi (s_X3_parts_yr (d 5)) (s_X3_parts_mo (d 5)) (s_X3_parts_dy (d 5)) X) 41 [(2, .int 5), (1, .int (((((0 + (f_X3_longShare_j1 d)) + (f_X3_longShare_j2 d)) + (f_X3_longShare_j3 d)) + (f_X3_longShare_j4 d)) + (f_X3_longShare_j5 d))), (0, .ref (z 0))] [.int v6_0, .int (((((0 + (f_X3_longShare_j1 d)) + (f_X3_longShare_j2 d)) + (f_X3_longShare_j3 d)) + (f_X3_longShare_j4 d)) + (f_X3_longShare_j5 d))] := by
              rintro _ rfl
              refine z_iadd C dX3_longShare_41 ?_
              refine z_istore_n (lv' := [(1, .int ((((((0 + (f_X3_longShare_j1 d)) + (f_X3_longShare_j2 d)) + (f_X3_longShare_j3 d)) + (f_X3_longShare_j4 d)) + (f_X3_longShare_j5 d)) + (f_X3_longShare_j6 d))), (2, .int 5), (0, .ref (z 0))]) C dX3_longShare_42 rfl (by decide) rfl ?_
              refine z_iinc (q := 1) (v := 6) (lv' := [(2, .int 6), (1, .int ((((((0 + (f_X3_longShare_j1 d)) + (f_X3_longShare_j2 d)) + (f_X3_longShare_j3 d)) + (f_X3_longShare_j4 d)) + (f_X3_longShare_j5 d)) + (f_X3_longShare_j6 d))), (0, .ref (z 0))]) C dX3_longShare_43 rfl (by decide) (by decide) rfl ?_
              refine z_goto (tgt := 9) C dX3_longShare_46 (by decide) ?_
              refine z_iload_n C dX3_longShare_9 rfl 0 rfl ?_
              refine z_bipush (v := 6) C dX3_longShare_10 (by decide) ?_
              refine z_icmp_ge (tgt := 49) C dX3_longShare_12 (by decide) (fun _ => ?_) (fun h => absurd (by decide) h)
              refine z_iload_n C dX3_longShare_49 rfl 1 rfl ?_
              refine z_i2f C dX3_longShare_50 ?_
              refine z_ldcf (v := 1086324736) C w4 dX3_longShare_51 ?_
              refine z_fdiv C dX3_longShare_53 (g_6) ?_
              exact z_fret C ⟨congrArg (fun v => some (Value.float v)) (rfl : (FP.fdiv (FP.i2f ((((((0 + (f_X3_longShare_j1 d)) + (f_X3_longShare_j2 d)) + (f_X3_longShare_j3 d)) + (f_X3_longShare_j4 d)) + (f_X3_longShare_j5 d)) + (f_X3_longShare_j6 d))) 1086324736) = (f_X3_longShare d)), rfl⟩ (by decide) (by decide) dX3_longShare_54
            refine z_if_eq (tgt := 40) C dX3_longShare_33 (by decide) (fun h6 => ?_) (fun h6 => ?_)
            · refine z_iconst (v := 0) C dX3_longShare_40 (by decide) ?_
              exact K6 _ (by rw [f_X3_longShare_j6, if_pos h6])
            · refine z_iconst (v := 1) C dX3_longShare_36 (by decide) ?_
              refine z_goto (tgt := 41) C dX3_longShare_37 (by decide) ?_
              exact K6 _ (by rw [f_X3_longShare_j6, if_neg h6])
          refine z_if_eq (tgt := 40) C dX3_longShare_33 (by decide) (fun h5 => ?_) (fun h5 => ?_)
          · refine z_iconst (v := 0) C dX3_longShare_40 (by decide) ?_
            exact K5 _ (by rw [f_X3_longShare_j5, if_pos h5])
          · refine z_iconst (v := 1) C dX3_longShare_36 (by decide) ?_
            refine z_goto (tgt := 41) C dX3_longShare_37 (by decide) ?_
            exact K5 _ (by rw [f_X3_longShare_j5, if_neg h5])
        refine z_if_eq (tgt := 40) C dX3_longShare_33 (by decide) (fun h4 => ?_) (fun h4 => ?_)
        · refine z_iconst (v := 0) C dX3_longShare_40 (by decide) ?_
          exact K4 _ (by rw [f_X3_longShare_j4, if_pos h4])
        · refine z_iconst (v := 1) C dX3_longShare_36 (by decide) ?_
          refine z_goto (tgt := 41) C dX3_longShare_37 (by decide) ?_
          exact K4 _ (by rw [f_X3_longShare_j4, if_neg h4])
      refine z_if_eq (tgt := 40) C dX3_longShare_33 (by decide) (fun h3 => ?_) (fun h3 => ?_)
      · refine z_iconst (v := 0) C dX3_longShare_40 (by decide) ?_
        exact K3 _ (by rw [f_X3_longShare_j3, if_pos h3])
      · refine z_iconst (v := 1) C dX3_longShare_36 (by decide) ?_
        refine z_goto (tgt := 41) C dX3_longShare_37 (by decide) ?_
        exact K3 _ (by rw [f_X3_longShare_j3, if_neg h3])
    refine z_if_eq (tgt := 40) C dX3_longShare_33 (by decide) (fun h2 => ?_) (fun h2 => ?_)
    · refine z_iconst (v := 0) C dX3_longShare_40 (by decide) ?_
      exact K2 _ (by rw [f_X3_longShare_j2, if_pos h2])
    · refine z_iconst (v := 1) C dX3_longShare_36 (by decide) ?_
      refine z_goto (tgt := 41) C dX3_longShare_37 (by decide) ?_
      exact K2 _ (by rw [f_X3_longShare_j2, if_neg h2])
  refine z_if_eq (tgt := 40) C dX3_longShare_33 (by decide) (fun h1 => ?_) (fun h1 => ?_)
  · refine z_iconst (v := 0) C dX3_longShare_40 (by decide) ?_
    exact K1 _ (by rw [f_X3_longShare_j1, if_pos h1])
  · refine z_iconst (v := 1) C dX3_longShare_36 (by decide) ?_
    refine z_goto (tgt := 41) C dX3_longShare_37 (by decide) ?_
    exact K1 _ (by rw [f_X3_longShare_j1, if_neg h1])
def f_X3_meanDay (d : Nat → Int64) : UInt64 := (FP.ddiv (FP.l2d ((((((0 + (d 0)) + (d 1)) + (d 2)) + (d 3)) + (d 4)) + (d 5))) 4618441417868443648)
def s_X3_meanDay_co  : Int32 := 0
def pre_X3_meanDay (d : Nat → Int64) : Prop := ((vf_n64 (FP.ddiv (FP.l2d ((((((0 + (d 0)) + (d 1)) + (d 2)) + (d 3)) + (d 4)) + (d 5))) 4618441417868443648)))
theorem q_X3_meanDay : ZY yX3_meanDay wsX3_meanDay cX3_meanDay 4 (some .double) 0 := ⟨⟨_, rfl⟩, by decide +kernel, by decide +kernel, by decide +kernel⟩
set_option maxHeartbeats 4000000 in
set_option maxRecDepth 100000 in
theorem c_X3_meanDay (l : Launch) (hfl : l.stackTraces = false) (D : va_G) (cI cJ : ClassId) (X : va_W) (z : Nat → Nat) (co : Int32) (d : Nat → Int64) (ti : Nat → Int64) (sL : Nat → Int64) (bL : Nat → Int64) (mD : Nat → Int64) (mT : Nat → Int64) (sy : Nat → Int64) (sm : Nat → Int64) (sd : Nat → Int64) (mi : Nat → Int64) (yr : Int64) (mo : Int32) (dy : Int32)  (h_g : pre_X3_meanDay d) : ZM l yX3_meanDay wsX3_meanDay { frames := 0, cells := 0, slots := 0, locals := 0 } [.ref (z 0)] D (zTys cI cJ) (wM cI cJ z co d ti sL bL mD mT sy sm sd mi yr mo dy X) 0 0 (fun v w => v = some (.double (f_X3_meanDay d)) ∧ w = (wM cI cJ z s_X3_meanDay_co d ti sL bL mD mT sy sm sd mi yr mo dy X)) (fun _ _ => False) := by
  refine z_open (own := RX3) hfl (cc := cX3_meanDay) (maxL := 4) (ret := (some .double)) (lv := [(0, .ref (z 0))]) rfl (by decide) rfl rfl (Nat.le_of_ble_eq_true rfl) ?_
  intro p e s m args below meth c A C hno hnm hargs
  have hin : ∀ w ∈ wsX30, w ∈ wsX3_meanDay := by decide +kernel
  have w1 := C.1.2.2.2.2 (.fieldLink RX3 1 "YearwheelModel" "code" "I") (by decide +kernel)
  have w2 := C.1.2.2.2.2 (.fieldLink RX3 13 "YearwheelModel" "dates" "[J") (by decide +kernel)
  have w3 := C.1.2.2.2.2 (.constantDouble RX3 238 (4618441417868443648)) (by decide +kernel)
  have g_0 := h_g
  refine z_aload_n C dX3_meanDay_0 rfl 0 rfl ?_
  refine z_iconst (v := 0) C dX3_meanDay_1 (by decide) ?_
  refine z_put (CC := RX3) (T := TX3) (N := 14) (ci := 3) C hin tyX3 tyX3_ok nmX3 0 rfl rfl 0 (by decide) w1 rfl rfl rfl rfl rfl (Nat.le_of_ble_eq_true rfl) (ws' := (wM cI cJ z 0 d ti sL bL mD mT sy sm sd mi yr mo dy X)) rfl dX3_meanDay_2 ?_
  refine z_lconst (v := 0) C dX3_meanDay_5 (by decide) ?_
  refine z_lstore_n (lv' := [(1, .long 0), (0, .ref (z 0))]) C dX3_meanDay_6 rfl (by decide) rfl ?_
  refine z_iconst (v := 0) C dX3_meanDay_7 (by decide) ?_
  refine z_istore_n (lv' := [(3, .int 0), (1, .long 0), (0, .ref (z 0))]) C dX3_meanDay_8 rfl (by decide) rfl ?_
  refine z_iload_n C dX3_meanDay_9 rfl 0 rfl ?_
  refine z_bipush (v := 6) C dX3_meanDay_10 (by decide) ?_
  refine z_icmp_ge (tgt := 30) C dX3_meanDay_12 (by decide) (fun h => absurd h (by decide)) (fun _ => ?_)
  refine z_lload_n C dX3_meanDay_15 rfl 1 rfl ?_
  refine z_aload_n C dX3_meanDay_16 rfl 2 rfl ?_
  refine z_get (CC := RX3) (T := TX3) (N := 14) (ci := 3) C hin 0 rfl rfl 1 (by decide) w2 rfl rfl dX3_meanDay_17 ?_
  refine z_iload_n C dX3_meanDay_20 rfl 0 rfl ?_
  refine z_lald C 1 1 rfl rfl (zvpl 0 6 (by decide)) dX3_meanDay_21 ?_
  refine z_eqst (st' := [.long (d 0), .long 0]) rfl ?_
  refine z_ladd C dX3_meanDay_22 ?_
  refine z_lstore_n (lv' := [(1, .long (0 + (d 0))), (3, .int 0), (0, .ref (z 0))]) C dX3_meanDay_23 rfl (by decide) rfl ?_
  refine z_iinc (q := 1) (v := 1) (lv' := [(3, .int 1), (1, .long (0 + (d 0))), (0, .ref (z 0))]) C dX3_meanDay_24 rfl (by decide) (by decide) rfl ?_
  refine z_goto (tgt := 9) C dX3_meanDay_27 (by decide) ?_
  refine z_iload_n C dX3_meanDay_9 rfl 0 rfl ?_
  refine z_bipush (v := 6) C dX3_meanDay_10 (by decide) ?_
  refine z_icmp_ge (tgt := 30) C dX3_meanDay_12 (by decide) (fun h => absurd h (by decide)) (fun _ => ?_)
  refine z_lload_n C dX3_meanDay_15 rfl 1 rfl ?_
  refine z_aload_n C dX3_meanDay_16 rfl 2 rfl ?_
  refine z_get (CC := RX3) (T := TX3) (N := 14) (ci := 3) C hin 0 rfl rfl 1 (by decide) w2 rfl rfl dX3_meanDay_17 ?_
  refine z_iload_n C dX3_meanDay_20 rfl 0 rfl ?_
  refine z_lald C 1 1 rfl rfl (zvpl 1 6 (by decide)) dX3_meanDay_21 ?_
  refine z_eqst (st' := [.long (d 1), .long (0 + (d 0))]) rfl ?_
  refine z_ladd C dX3_meanDay_22 ?_
  refine z_lstore_n (lv' := [(1, .long ((0 + (d 0)) + (d 1))), (3, .int 1), (0, .ref (z 0))]) C dX3_meanDay_23 rfl (by decide) rfl ?_
  refine z_iinc (q := 1) (v := 2) (lv' := [(3, .int 2), (1, .long ((0 + (d 0)) + (d 1))), (0, .ref (z 0))]) C dX3_meanDay_24 rfl (by decide) (by decide) rfl ?_
  refine z_goto (tgt := 9) C dX3_meanDay_27 (by decide) ?_
  refine z_iload_n C dX3_meanDay_9 rfl 0 rfl ?_
  refine z_bipush (v := 6) C dX3_meanDay_10 (by decide) ?_
  refine z_icmp_ge (tgt := 30) C dX3_meanDay_12 (by decide) (fun h => absurd h (by decide)) (fun _ => ?_)
  refine z_lload_n C dX3_meanDay_15 rfl 1 rfl ?_
  refine z_aload_n C dX3_meanDay_16 rfl 2 rfl ?_
  refine z_get (CC := RX3) (T := TX3) (N := 14) (ci := 3) C hin 0 rfl rfl 1 (by decide) w2 rfl rfl dX3_meanDay_17 ?_
  refine z_iload_n C dX3_meanDay_20 rfl 0 rfl ?_
  refine z_lald C 1 1 rfl rfl (zvpl 2 6 (by decide)) dX3_meanDay_21 ?_
  refine z_eqst (st' := [.long (d 2), .long ((0 + (d 0)) + (d 1))]) rfl ?_
  refine z_ladd C dX3_meanDay_22 ?_
  refine z_lstore_n (lv' := [(1, .long (((0 + (d 0)) + (d 1)) + (d 2))), (3, .int 2), (0, .ref (z 0))]) C dX3_meanDay_23 rfl (by decide) rfl ?_
  refine z_iinc (q := 1) (v := 3) (lv' := [(3, .int 3), (1, .long (((0 + (d 0)) + (d 1)) + (d 2))), (0, .ref (z 0))]) C dX3_meanDay_24 rfl (by decide) (by decide) rfl ?_
  refine z_goto (tgt := 9) C dX3_meanDay_27 (by decide) ?_
  refine z_iload_n C dX3_meanDay_9 rfl 0 rfl ?_
  refine z_bipush (v := 6) C dX3_meanDay_10 (by decide) ?_
  refine z_icmp_ge (tgt := 30) C dX3_meanDay_12 (by decide) (fun h => absurd h (by decide)) (fun _ => ?_)
  refine z_lload_n C dX3_meanDay_15 rfl 1 rfl ?_
  refine z_aload_n C dX3_meanDay_16 rfl 2 rfl ?_
  refine z_get (CC := RX3) (T := TX3) (N := 14) (ci := 3) C hin 0 rfl rfl 1 (by decide) w2 rfl rfl dX3_meanDay_17 ?_
  refine z_iload_n C dX3_meanDay_20 rfl 0 rfl ?_
  refine z_lald C 1 1 rfl rfl (zvpl 3 6 (by decide)) dX3_meanDay_21 ?_
  refine z_eqst (st' := [.long (d 3), .long (((0 + (d 0)) + (d 1)) + (d 2))]) rfl ?_
  refine z_ladd C dX3_meanDay_22 ?_
  refine z_lstore_n (lv' := [(1, .long ((((0 + (d 0)) + (d 1)) + (d 2)) + (d 3))), (3, .int 3), (0, .ref (z 0))]) C dX3_meanDay_23 rfl (by decide) rfl ?_
  refine z_iinc (q := 1) (v := 4) (lv' := [(3, .int 4), (1, .long ((((0 + (d 0)) + (d 1)) + (d 2)) + (d 3))), (0, .ref (z 0))]) C dX3_meanDay_24 rfl (by decide) (by decide) rfl ?_
  refine z_goto (tgt := 9) C dX3_meanDay_27 (by decide) ?_
  refine z_iload_n C dX3_meanDay_9 rfl 0 rfl ?_
  refine z_bipush (v := 6) C dX3_meanDay_10 (by decide) ?_
  refine z_icmp_ge (tgt := 30) C dX3_meanDay_12 (by decide) (fun h => absurd h (by decide)) (fun _ => ?_)
  refine z_lload_n C dX3_meanDay_15 rfl 1 rfl ?_
  refine z_aload_n C dX3_meanDay_16 rfl 2 rfl ?_
  refine z_get (CC := RX3) (T := TX3) (N := 14) (ci := 3) C hin 0 rfl rfl 1 (by decide) w2 rfl rfl dX3_meanDay_17 ?_
  refine z_iload_n C dX3_meanDay_20 rfl 0 rfl ?_
  refine z_lald C 1 1 rfl rfl (zvpl 4 6 (by decide)) dX3_meanDay_21 ?_
  refine z_eqst (st' := [.long (d 4), .long ((((0 + (d 0)) + (d 1)) + (d 2)) + (d 3))]) rfl ?_
  refine z_ladd C dX3_meanDay_22 ?_
  refine z_lstore_n (lv' := [(1, .long (((((0 + (d 0)) + (d 1)) + (d 2)) + (d 3)) + (d 4))), (3, .int 4), (0, .ref (z 0))]) C dX3_meanDay_23 rfl (by decide) rfl ?_
  refine z_iinc (q := 1) (v := 5) (lv' := [(3, .int 5), (1, .long (((((0 + (d 0)) + (d 1)) + (d 2)) + (d 3)) + (d 4))), (0, .ref (z 0))]) C dX3_meanDay_24 rfl (by decide) (by decide) rfl ?_
  refine z_goto (tgt := 9) C dX3_meanDay_27 (by decide) ?_
  refine z_iload_n C dX3_meanDay_9 rfl 0 rfl ?_
  refine z_bipush (v := 6) C dX3_meanDay_10 (by decide) ?_
  refine z_icmp_ge (tgt := 30) C dX3_meanDay_12 (by decide) (fun h => absurd h (by decide)) (fun _ => ?_)
  refine z_lload_n C dX3_meanDay_15 rfl 1 rfl ?_
  refine z_aload_n C dX3_meanDay_16 rfl 2 rfl ?_
  refine z_get (CC := RX3) (T := TX3) (N := 14) (ci := 3) C hin 0 rfl rfl 1 (by decide) w2 rfl rfl dX3_meanDay_17 ?_
  refine z_iload_n C dX3_meanDay_20 rfl 0 rfl ?_
  refine z_lald C 1 1 rfl rfl (zvpl 5 6 (by decide)) dX3_meanDay_21 ?_
  refine z_eqst (st' := [.long (d 5), .long (((((0 + (d 0)) + (d 1)) + (d 2)) + (d 3)) + (d 4))]) rfl ?_
  refine z_ladd C dX3_meanDay_22 ?_
  refine z_lstore_n (lv' := [(1, .long ((((((0 + (d 0)) + (d 1)) + (d 2)) + (d 3)) + (d 4)) + (d 5))), (3, .int 5), (0, .ref (z 0))]) C dX3_meanDay_23 rfl (by decide) rfl ?_
  refine z_iinc (q := 1) (v := 6) (lv' := [(3, .int 6), (1, .long ((((((0 + (d 0)) + (d 1)) + (d 2)) + (d 3)) + (d 4)) + (d 5))), (0, .ref (z 0))]) C dX3_meanDay_24 rfl (by decide) (by decide) rfl ?_
  refine z_goto (tgt := 9) C dX3_meanDay_27 (by decide) ?_
  refine z_iload_n C dX3_meanDay_9 rfl 0 rfl ?_
  refine z_bipush (v := 6) C dX3_meanDay_10 (by decide) ?_
  refine z_icmp_ge (tgt := 30) C dX3_meanDay_12 (by decide) (fun _ => ?_) (fun h => absurd (by decide) h)
  refine z_lload_n C dX3_meanDay_30 rfl 1 rfl ?_
  refine z_l2d C dX3_meanDay_31 ?_
  refine z_ldc2d (v := 4618441417868443648) C w3 dX3_meanDay_32 ?_
  refine z_ddiv C dX3_meanDay_35 (g_0) ?_
  exact z_dret C ⟨congrArg (fun v => some (Value.double v)) (rfl : (FP.ddiv (FP.l2d ((((((0 + (d 0)) + (d 1)) + (d 2)) + (d 3)) + (d 4)) + (d 5))) 4618441417868443648) = (f_X3_meanDay d)), rfl⟩ (by decide) (by decide) dX3_meanDay_36
