theorem q_X2_init : ZY yX2_init wsX2_init cX2_init 2 none 0 := ⟨⟨_, rfl⟩, by decide +kernel, by decide +kernel, by decide +kernel⟩
set_option maxHeartbeats 4000000 in
set_option maxRecDepth 100000 in
theorem c_X2_init (l : Launch) (hfl : l.stackTraces = false) (D : va_G) (cI cJ : ClassId) (h0 : Nat) : ZM l yX2_init wsX2_init { frames := 1, cells := 10, slots := 42, locals := 24 } [.ref h0] D (zTys cI cJ) [(h0, .inr (2, [.null, .null, .null, .null, .null, .null, .null, .null, .null, .null]))] 10 42 (fun v w => v = none ∧ ∃ y : Nat → Nat, y 0 = h0 ∧ w = (wY cI cJ y (fun _ => 0) (fun _ => 0) (fun _ => 0) (fun _ => 0) (upd (upd (upd (upd (fun _ => 0) 0 23640) 1 23640) 2 23640) 3 23640) (fun _ => 0) (fun _ => 0) (fun _ => 0) (fun _ => 0) (fun _ => 0) [])) (fun _ _ => False) := by
  refine z_open (own := RX2) hfl (cc := cX2_init) (maxL := 2) (ret := none) (lv := [(0, .ref h0)]) rfl (by decide) rfl rfl (Nat.le_of_ble_eq_true rfl) ?_
  intro p e s m args below meth c A C hno hnm hargs
  have hin : ∀ w ∈ wsX20, w ∈ wsX2_init := by decide +kernel
  have w1 := C.1.2.2.2.2 (.methodLink RX2 1 objectInit) (by decide +kernel)
  have w2 := C.1.2.2.2.2 (.instanceMethod objectInit) (by decide +kernel)
  have w3 := C.1.2.2.2.2 (.code objectInit ⟨#[0xb1]⟩ 1 none) (by decide +kernel)
  have w4 := C.1.2.2.2.2 (.arrayClass .long) (by decide +kernel)
  have w5 := C.1.2.2.2.2 (.fieldLink RX2 9 "Yearwheel" "dates" "[J") (by decide +kernel)
  have w6 := C.1.2.2.2.2 (.arrayClass .int) (by decide +kernel)
  have w7 := C.1.2.2.2.2 (.fieldLink RX2 13 "Yearwheel" "spanYears" "[I") (by decide +kernel)
  have w8 := C.1.2.2.2.2 (.fieldLink RX2 17 "Yearwheel" "spanMonths" "[I") (by decide +kernel)
  have w9 := C.1.2.2.2.2 (.fieldLink RX2 20 "Yearwheel" "spanDays" "[I") (by decide +kernel)
  have w10 := C.1.2.2.2.2 (.fieldLink RX2 23 "Yearwheel" "monthIndices" "[I") (by decide +kernel)
  have w11 := C.1.2.2.2.2 (.fieldLink RX2 26 "Yearwheel" "times" "[J") (by decide +kernel)
  have w12 := C.1.2.2.2.2 (.fieldLink RX2 29 "Yearwheel" "lengthSeconds" "[J") (by decide +kernel)
  have w13 := C.1.2.2.2.2 (.fieldLink RX2 32 "Yearwheel" "lengthBillionths" "[J") (by decide +kernel)
  have w14 := C.1.2.2.2.2 (.fieldLink RX2 35 "Yearwheel" "momentDays" "[J") (by decide +kernel)
  have w15 := C.1.2.2.2.2 (.fieldLink RX2 38 "Yearwheel" "momentTimes" "[J") (by decide +kernel)
  refine z_aload_n C dX2_init_0 rfl 0 rfl ?_
  refine z_objInit C w1 w2 w3 dX2_init_1 (Nat.le_of_ble_eq_true rfl) (Nat.le_of_ble_eq_true rfl) ?_
  refine z_aload_n C dX2_init_4 rfl 0 rfl ?_
  refine z_bipush (v := 6) C dX2_init_5 (by decide) ?_
  refine z_newJ C (cI := cI) (cJ := cJ) (N := 6) rfl w4 (by decide) (by decide) (Nat.le_of_ble_eq_true rfl) (Nat.le_of_ble_eq_true rfl) (Nat.le_of_ble_eq_true rfl) dX2_init_7 (fun r1 => ?_)
  refine z_putF (CC := RX2) (T := TX2) (N := 10) (ci := 2) C hin tyX2 tyX2_ok nmX2 0 rfl rfl 0 (by decide) w5 rfl rfl hnm rfl (ty := .array .long) rfl rfl rfl (Nat.le_of_ble_eq_true rfl) (ws' := [(h0, .inr (2, [.ref r1, .null, .null, .null, .null, .null, .null, .null, .null, .null])), (r1, .inl (cJ, 6, .inr (.inl (fun _ => 0))))]) rfl dX2_init_9 ?_
  refine z_aload_n C dX2_init_12 rfl 0 rfl ?_
  refine z_iconst (v := 4) C dX2_init_13 (by decide) ?_
  refine z_newI C (cI := cI) (cJ := cJ) (N := 4) rfl w6 (by decide) (by decide) (Nat.le_of_ble_eq_true rfl) (Nat.le_of_ble_eq_true rfl) (Nat.le_of_ble_eq_true rfl) dX2_init_14 (fun r2 => ?_)
  refine z_putF (CC := RX2) (T := TX2) (N := 10) (ci := 2) C hin tyX2 tyX2_ok nmX2 0 rfl rfl 1 (by decide) w7 rfl rfl hnm rfl (ty := .array .int) rfl rfl rfl (Nat.le_of_ble_eq_true rfl) (ws' := [(h0, .inr (2, [.ref r1, .ref r2, .null, .null, .null, .null, .null, .null, .null, .null])), (r1, .inl (cJ, 6, .inr (.inl (fun _ => 0)))), (r2, .inl (cI, 4, .inl (fun _ => 0)))]) rfl dX2_init_16 ?_
  refine z_aload_n C dX2_init_19 rfl 0 rfl ?_
  refine z_iconst (v := 4) C dX2_init_20 (by decide) ?_
  refine z_newI C (cI := cI) (cJ := cJ) (N := 4) rfl w6 (by decide) (by decide) (Nat.le_of_ble_eq_true rfl) (Nat.le_of_ble_eq_true rfl) (Nat.le_of_ble_eq_true rfl) dX2_init_21 (fun r3 => ?_)
  refine z_putF (CC := RX2) (T := TX2) (N := 10) (ci := 2) C hin tyX2 tyX2_ok nmX2 0 rfl rfl 2 (by decide) w8 rfl rfl hnm rfl (ty := .array .int) rfl rfl rfl (Nat.le_of_ble_eq_true rfl) (ws' := [(h0, .inr (2, [.ref r1, .ref r2, .ref r3, .null, .null, .null, .null, .null, .null, .null])), (r1, .inl (cJ, 6, .inr (.inl (fun _ => 0)))), (r2, .inl (cI, 4, .inl (fun _ => 0))), (r3, .inl (cI, 4, .inl (fun _ => 0)))]) rfl dX2_init_23 ?_
  refine z_aload_n C dX2_init_26 rfl 0 rfl ?_
  refine z_iconst (v := 4) C dX2_init_27 (by decide) ?_
  refine z_newI C (cI := cI) (cJ := cJ) (N := 4) rfl w6 (by decide) (by decide) (Nat.le_of_ble_eq_true rfl) (Nat.le_of_ble_eq_true rfl) (Nat.le_of_ble_eq_true rfl) dX2_init_28 (fun r4 => ?_)
  refine z_putF (CC := RX2) (T := TX2) (N := 10) (ci := 2) C hin tyX2 tyX2_ok nmX2 0 rfl rfl 3 (by decide) w9 rfl rfl hnm rfl (ty := .array .int) rfl rfl rfl (Nat.le_of_ble_eq_true rfl) (ws' := [(h0, .inr (2, [.ref r1, .ref r2, .ref r3, .ref r4, .null, .null, .null, .null, .null, .null])), (r1, .inl (cJ, 6, .inr (.inl (fun _ => 0)))), (r2, .inl (cI, 4, .inl (fun _ => 0))), (r3, .inl (cI, 4, .inl (fun _ => 0))), (r4, .inl (cI, 4, .inl (fun _ => 0)))]) rfl dX2_init_30 ?_
  refine z_aload_n C dX2_init_33 rfl 0 rfl ?_
  refine z_iconst (v := 4) C dX2_init_34 (by decide) ?_
  refine z_newI C (cI := cI) (cJ := cJ) (N := 4) rfl w6 (by decide) (by decide) (Nat.le_of_ble_eq_true rfl) (Nat.le_of_ble_eq_true rfl) (Nat.le_of_ble_eq_true rfl) dX2_init_35 (fun r5 => ?_)
  refine z_putF (CC := RX2) (T := TX2) (N := 10) (ci := 2) C hin tyX2 tyX2_ok nmX2 0 rfl rfl 4 (by decide) w10 rfl rfl hnm rfl (ty := .array .int) rfl rfl rfl (Nat.le_of_ble_eq_true rfl) (ws' := [(h0, .inr (2, [.ref r1, .ref r2, .ref r3, .ref r4, .ref r5, .null, .null, .null, .null, .null])), (r1, .inl (cJ, 6, .inr (.inl (fun _ => 0)))), (r2, .inl (cI, 4, .inl (fun _ => 0))), (r3, .inl (cI, 4, .inl (fun _ => 0))), (r4, .inl (cI, 4, .inl (fun _ => 0))), (r5, .inl (cI, 4, .inl (fun _ => 0)))]) rfl dX2_init_37 ?_
  refine z_aload_n C dX2_init_40 rfl 0 rfl ?_
  refine z_iconst (v := 4) C dX2_init_41 (by decide) ?_
  refine z_newJ C (cI := cI) (cJ := cJ) (N := 4) rfl w4 (by decide) (by decide) (Nat.le_of_ble_eq_true rfl) (Nat.le_of_ble_eq_true rfl) (Nat.le_of_ble_eq_true rfl) dX2_init_42 (fun r6 => ?_)
  refine z_putF (CC := RX2) (T := TX2) (N := 10) (ci := 2) C hin tyX2 tyX2_ok nmX2 0 rfl rfl 5 (by decide) w11 rfl rfl hnm rfl (ty := .array .long) rfl rfl rfl (Nat.le_of_ble_eq_true rfl) (ws' := [(h0, .inr (2, [.ref r1, .ref r2, .ref r3, .ref r4, .ref r5, .ref r6, .null, .null, .null, .null])), (r1, .inl (cJ, 6, .inr (.inl (fun _ => 0)))), (r2, .inl (cI, 4, .inl (fun _ => 0))), (r3, .inl (cI, 4, .inl (fun _ => 0))), (r4, .inl (cI, 4, .inl (fun _ => 0))), (r5, .inl (cI, 4, .inl (fun _ => 0))), (r6, .inl (cJ, 4, .inr (.inl (fun _ => 0))))]) rfl dX2_init_44 ?_
  refine z_aload_n C dX2_init_47 rfl 0 rfl ?_
  refine z_iconst (v := 4) C dX2_init_48 (by decide) ?_
  refine z_newJ C (cI := cI) (cJ := cJ) (N := 4) rfl w4 (by decide) (by decide) (Nat.le_of_ble_eq_true rfl) (Nat.le_of_ble_eq_true rfl) (Nat.le_of_ble_eq_true rfl) dX2_init_49 (fun r7 => ?_)
  refine z_putF (CC := RX2) (T := TX2) (N := 10) (ci := 2) C hin tyX2 tyX2_ok nmX2 0 rfl rfl 6 (by decide) w12 rfl rfl hnm rfl (ty := .array .long) rfl rfl rfl (Nat.le_of_ble_eq_true rfl) (ws' := [(h0, .inr (2, [.ref r1, .ref r2, .ref r3, .ref r4, .ref r5, .ref r6, .ref r7, .null, .null, .null])), (r1, .inl (cJ, 6, .inr (.inl (fun _ => 0)))), (r2, .inl (cI, 4, .inl (fun _ => 0))), (r3, .inl (cI, 4, .inl (fun _ => 0))), (r4, .inl (cI, 4, .inl (fun _ => 0))), (r5, .inl (cI, 4, .inl (fun _ => 0))), (r6, .inl (cJ, 4, .inr (.inl (fun _ => 0)))), (r7, .inl (cJ, 4, .inr (.inl (fun _ => 0))))]) rfl dX2_init_51 ?_
  refine z_aload_n C dX2_init_54 rfl 0 rfl ?_
  refine z_iconst (v := 4) C dX2_init_55 (by decide) ?_
  refine z_newJ C (cI := cI) (cJ := cJ) (N := 4) rfl w4 (by decide) (by decide) (Nat.le_of_ble_eq_true rfl) (Nat.le_of_ble_eq_true rfl) (Nat.le_of_ble_eq_true rfl) dX2_init_56 (fun r8 => ?_)
  refine z_putF (CC := RX2) (T := TX2) (N := 10) (ci := 2) C hin tyX2 tyX2_ok nmX2 0 rfl rfl 7 (by decide) w13 rfl rfl hnm rfl (ty := .array .long) rfl rfl rfl (Nat.le_of_ble_eq_true rfl) (ws' := [(h0, .inr (2, [.ref r1, .ref r2, .ref r3, .ref r4, .ref r5, .ref r6, .ref r7, .ref r8, .null, .null])), (r1, .inl (cJ, 6, .inr (.inl (fun _ => 0)))), (r2, .inl (cI, 4, .inl (fun _ => 0))), (r3, .inl (cI, 4, .inl (fun _ => 0))), (r4, .inl (cI, 4, .inl (fun _ => 0))), (r5, .inl (cI, 4, .inl (fun _ => 0))), (r6, .inl (cJ, 4, .inr (.inl (fun _ => 0)))), (r7, .inl (cJ, 4, .inr (.inl (fun _ => 0)))), (r8, .inl (cJ, 4, .inr (.inl (fun _ => 0))))]) rfl dX2_init_58 ?_
  refine z_aload_n C dX2_init_61 rfl 0 rfl ?_
  refine z_iconst (v := 4) C dX2_init_62 (by decide) ?_
  refine z_newJ C (cI := cI) (cJ := cJ) (N := 4) rfl w4 (by decide) (by decide) (Nat.le_of_ble_eq_true rfl) (Nat.le_of_ble_eq_true rfl) (Nat.le_of_ble_eq_true rfl) dX2_init_63 (fun r9 => ?_)
  refine z_putF (CC := RX2) (T := TX2) (N := 10) (ci := 2) C hin tyX2 tyX2_ok nmX2 0 rfl rfl 8 (by decide) w14 rfl rfl hnm rfl (ty := .array .long) rfl rfl rfl (Nat.le_of_ble_eq_true rfl) (ws' := [(h0, .inr (2, [.ref r1, .ref r2, .ref r3, .ref r4, .ref r5, .ref r6, .ref r7, .ref r8, .ref r9, .null])), (r1, .inl (cJ, 6, .inr (.inl (fun _ => 0)))), (r2, .inl (cI, 4, .inl (fun _ => 0))), (r3, .inl (cI, 4, .inl (fun _ => 0))), (r4, .inl (cI, 4, .inl (fun _ => 0))), (r5, .inl (cI, 4, .inl (fun _ => 0))), (r6, .inl (cJ, 4, .inr (.inl (fun _ => 0)))), (r7, .inl (cJ, 4, .inr (.inl (fun _ => 0)))), (r8, .inl (cJ, 4, .inr (.inl (fun _ => 0)))), (r9, .inl (cJ, 4, .inr (.inl (fun _ => 0))))]) rfl dX2_init_65 ?_
  refine z_aload_n C dX2_init_68 rfl 0 rfl ?_
  refine z_iconst (v := 4) C dX2_init_69 (by decide) ?_
  refine z_newJ C (cI := cI) (cJ := cJ) (N := 4) rfl w4 (by decide) (by decide) (Nat.le_of_ble_eq_true rfl) (Nat.le_of_ble_eq_true rfl) (Nat.le_of_ble_eq_true rfl) dX2_init_70 (fun r10 => ?_)
  refine z_putF (CC := RX2) (T := TX2) (N := 10) (ci := 2) C hin tyX2 tyX2_ok nmX2 0 rfl rfl 9 (by decide) w15 rfl rfl hnm rfl (ty := .array .long) rfl rfl rfl (Nat.le_of_ble_eq_true rfl) (ws' := [(h0, .inr (2, [.ref r1, .ref r2, .ref r3, .ref r4, .ref r5, .ref r6, .ref r7, .ref r8, .ref r9, .ref r10])), (r1, .inl (cJ, 6, .inr (.inl (fun _ => 0)))), (r2, .inl (cI, 4, .inl (fun _ => 0))), (r3, .inl (cI, 4, .inl (fun _ => 0))), (r4, .inl (cI, 4, .inl (fun _ => 0))), (r5, .inl (cI, 4, .inl (fun _ => 0))), (r6, .inl (cJ, 4, .inr (.inl (fun _ => 0)))), (r7, .inl (cJ, 4, .inr (.inl (fun _ => 0)))), (r8, .inl (cJ, 4, .inr (.inl (fun _ => 0)))), (r9, .inl (cJ, 4, .inr (.inl (fun _ => 0)))), (r10, .inl (cJ, 4, .inr (.inl (fun _ => 0))))]) rfl dX2_init_72 ?_
  refine z_iconst (v := 0) C dX2_init_75 (by decide) ?_
  refine z_istore_n (lv' := [(1, .int 0), (0, .ref h0)]) C dX2_init_76 rfl (by decide) rfl ?_
  refine z_iload_n C dX2_init_77 rfl 0 rfl ?_
  refine z_iconst (v := 4) C dX2_init_78 (by decide) ?_
  refine z_icmp_ge (tgt := 97) C dX2_init_79 (by decide) (fun h => absurd h (by decide)) (fun _ => ?_)
  refine z_aload_n C dX2_init_82 rfl 1 rfl ?_
  refine z_get (CC := RX2) (T := TX2) (N := 10) (ci := 2) C hin 0 rfl rfl 4 (by decide) w10 rfl rfl dX2_init_83 ?_
  refine z_iload_n C dX2_init_86 rfl 0 rfl ?_
  refine z_sipush (v := 23640) C dX2_init_87 (by decide) ?_
  refine z_iast C 5 0 rfl rfl (zvpl 0 4 (by decide)) (ws' := [(h0, .inr (2, [.ref r1, .ref r2, .ref r3, .ref r4, .ref r5, .ref r6, .ref r7, .ref r8, .ref r9, .ref r10])), (r1, .inl (cJ, 6, .inr (.inl (fun _ => 0)))), (r2, .inl (cI, 4, .inl (fun _ => 0))), (r3, .inl (cI, 4, .inl (fun _ => 0))), (r4, .inl (cI, 4, .inl (fun _ => 0))), (r5, .inl (cI, 4, .inl (upd (fun _ => 0) 0 23640))), (r6, .inl (cJ, 4, .inr (.inl (fun _ => 0)))), (r7, .inl (cJ, 4, .inr (.inl (fun _ => 0)))), (r8, .inl (cJ, 4, .inr (.inl (fun _ => 0)))), (r9, .inl (cJ, 4, .inr (.inl (fun _ => 0)))), (r10, .inl (cJ, 4, .inr (.inl (fun _ => 0))))]) rfl dX2_init_90 ?_
  refine z_iinc (q := 0) (v := 1) (lv' := [(1, .int 1), (0, .ref h0)]) C dX2_init_91 rfl (by decide) (by decide) rfl ?_
  refine z_goto (tgt := 77) C dX2_init_94 (by decide) ?_
  refine z_iload_n C dX2_init_77 rfl 0 rfl ?_
  refine z_iconst (v := 4) C dX2_init_78 (by decide) ?_
  refine z_icmp_ge (tgt := 97) C dX2_init_79 (by decide) (fun h => absurd h (by decide)) (fun _ => ?_)
  refine z_aload_n C dX2_init_82 rfl 1 rfl ?_
  refine z_get (CC := RX2) (T := TX2) (N := 10) (ci := 2) C hin 0 rfl rfl 4 (by decide) w10 rfl rfl dX2_init_83 ?_
  refine z_iload_n C dX2_init_86 rfl 0 rfl ?_
  refine z_sipush (v := 23640) C dX2_init_87 (by decide) ?_
  refine z_iast C 5 0 rfl rfl (zvpl 1 4 (by decide)) (ws' := [(h0, .inr (2, [.ref r1, .ref r2, .ref r3, .ref r4, .ref r5, .ref r6, .ref r7, .ref r8, .ref r9, .ref r10])), (r1, .inl (cJ, 6, .inr (.inl (fun _ => 0)))), (r2, .inl (cI, 4, .inl (fun _ => 0))), (r3, .inl (cI, 4, .inl (fun _ => 0))), (r4, .inl (cI, 4, .inl (fun _ => 0))), (r5, .inl (cI, 4, .inl (upd (upd (fun _ => 0) 0 23640) 1 23640))), (r6, .inl (cJ, 4, .inr (.inl (fun _ => 0)))), (r7, .inl (cJ, 4, .inr (.inl (fun _ => 0)))), (r8, .inl (cJ, 4, .inr (.inl (fun _ => 0)))), (r9, .inl (cJ, 4, .inr (.inl (fun _ => 0)))), (r10, .inl (cJ, 4, .inr (.inl (fun _ => 0))))]) rfl dX2_init_90 ?_
  refine z_iinc (q := 0) (v := 2) (lv' := [(1, .int 2), (0, .ref h0)]) C dX2_init_91 rfl (by decide) (by decide) rfl ?_
  refine z_goto (tgt := 77) C dX2_init_94 (by decide) ?_
  refine z_iload_n C dX2_init_77 rfl 0 rfl ?_
  refine z_iconst (v := 4) C dX2_init_78 (by decide) ?_
  refine z_icmp_ge (tgt := 97) C dX2_init_79 (by decide) (fun h => absurd h (by decide)) (fun _ => ?_)
  refine z_aload_n C dX2_init_82 rfl 1 rfl ?_
  refine z_get (CC := RX2) (T := TX2) (N := 10) (ci := 2) C hin 0 rfl rfl 4 (by decide) w10 rfl rfl dX2_init_83 ?_
  refine z_iload_n C dX2_init_86 rfl 0 rfl ?_
  refine z_sipush (v := 23640) C dX2_init_87 (by decide) ?_
  refine z_iast C 5 0 rfl rfl (zvpl 2 4 (by decide)) (ws' := [(h0, .inr (2, [.ref r1, .ref r2, .ref r3, .ref r4, .ref r5, .ref r6, .ref r7, .ref r8, .ref r9, .ref r10])), (r1, .inl (cJ, 6, .inr (.inl (fun _ => 0)))), (r2, .inl (cI, 4, .inl (fun _ => 0))), (r3, .inl (cI, 4, .inl (fun _ => 0))), (r4, .inl (cI, 4, .inl (fun _ => 0))), (r5, .inl (cI, 4, .inl (upd (upd (upd (fun _ => 0) 0 23640) 1 23640) 2 23640))), (r6, .inl (cJ, 4, .inr (.inl (fun _ => 0)))), (r7, .inl (cJ, 4, .inr (.inl (fun _ => 0)))), (r8, .inl (cJ, 4, .inr (.inl (fun _ => 0)))), (r9, .inl (cJ, 4, .inr (.inl (fun _ => 0)))), (r10, .inl (cJ, 4, .inr (.inl (fun _ => 0))))]) rfl dX2_init_90 ?_
  refine z_iinc (q := 0) (v := 3) (lv' := [(1, .int 3), (0, .ref h0)]) C dX2_init_91 rfl (by decide) (by decide) rfl ?_
  refine z_goto (tgt := 77) C dX2_init_94 (by decide) ?_
  refine z_iload_n C dX2_init_77 rfl 0 rfl ?_
  refine z_iconst (v := 4) C dX2_init_78 (by decide) ?_
  refine z_icmp_ge (tgt := 97) C dX2_init_79 (by decide) (fun h => absurd h (by decide)) (fun _ => ?_)
  refine z_aload_n C dX2_init_82 rfl 1 rfl ?_
  refine z_get (CC := RX2) (T := TX2) (N := 10) (ci := 2) C hin 0 rfl rfl 4 (by decide) w10 rfl rfl dX2_init_83 ?_
  refine z_iload_n C dX2_init_86 rfl 0 rfl ?_
  refine z_sipush (v := 23640) C dX2_init_87 (by decide) ?_
  refine z_iast C 5 0 rfl rfl (zvpl 3 4 (by decide)) (ws' := [(h0, .inr (2, [.ref r1, .ref r2, .ref r3, .ref r4, .ref r5, .ref r6, .ref r7, .ref r8, .ref r9, .ref r10])), (r1, .inl (cJ, 6, .inr (.inl (fun _ => 0)))), (r2, .inl (cI, 4, .inl (fun _ => 0))), (r3, .inl (cI, 4, .inl (fun _ => 0))), (r4, .inl (cI, 4, .inl (fun _ => 0))), (r5, .inl (cI, 4, .inl (upd (upd (upd (upd (fun _ => 0) 0 23640) 1 23640) 2 23640) 3 23640))), (r6, .inl (cJ, 4, .inr (.inl (fun _ => 0)))), (r7, .inl (cJ, 4, .inr (.inl (fun _ => 0)))), (r8, .inl (cJ, 4, .inr (.inl (fun _ => 0)))), (r9, .inl (cJ, 4, .inr (.inl (fun _ => 0)))), (r10, .inl (cJ, 4, .inr (.inl (fun _ => 0))))]) rfl dX2_init_90 ?_
  refine z_iinc (q := 0) (v := 4) (lv' := [(1, .int 4), (0, .ref h0)]) C dX2_init_91 rfl (by decide) (by decide) rfl ?_
  refine z_goto (tgt := 77) C dX2_init_94 (by decide) ?_
  refine z_iload_n C dX2_init_77 rfl 0 rfl ?_
  refine z_iconst (v := 4) C dX2_init_78 (by decide) ?_
  refine z_icmp_ge (tgt := 97) C dX2_init_79 (by decide) (fun _ => ?_) (fun h => absurd (by decide) h)
  exact z_vret C ⟨rfl, fun k => ([h0, r1, r2, r3, r4, r5, r6, r7, r8, r9, r10] : List Nat).getD k 0, rfl, rfl⟩ (by decide) (by decide) dX2_init_97
theorem q_X3_init : ZY yX3_init wsX3_init cX3_init 2 none 0 := ⟨⟨_, rfl⟩, by decide +kernel, by decide +kernel, by decide +kernel⟩
set_option maxHeartbeats 4000000 in
set_option maxRecDepth 100000 in
theorem c_X3_init (l : Launch) (hfl : l.stackTraces = false) (D : va_G) (cI cJ : ClassId) (h0 : Nat) (y : Nat → Nat) (d : Nat → Int64) (sy : Nat → Int32) (sm : Nat → Int32) (sd : Nat → Int32) (mi : Nat → Int32) (ti : Nat → Int64) (sL : Nat → Int64) (bL : Nat → Int64) (mD : Nat → Int64) (mT : Nat → Int64) : ZM l yX3_init wsX3_init { frames := 1, cells := 10, slots := 42, locals := 24 } [.ref h0] D (zTys cI cJ) ((h0, .inr (3, [.int 0, .null, .null, .null, .null, .null, .null, .null, .null, .null, .null, .long 0, .int 0, .int 0])) :: (wY cI cJ y d sy sm sd mi ti sL bL mD mT [])) 10 42 (fun v w => v = none ∧ ∃ z : Nat → Nat, z 0 = h0 ∧ w = ((z 0, .inr (3, [.int 0, .ref (z 1), .ref (z 2), .ref (z 3), .ref (z 4), .ref (z 5), .ref (z 6), .ref (z 7), .ref (z 8), .ref (z 9), .ref (z 10), .long 0, .int 0, .int 0])) :: (wY cI cJ y d sy sm sd mi ti sL bL mD mT [(z 1, .inl (cJ, 6, .inr (.inl (fun _ => 0)))), (z 2, .inl (cJ, 4, .inr (.inl (fun _ => 0)))), (z 3, .inl (cJ, 4, .inr (.inl (fun _ => 0)))), (z 4, .inl (cJ, 4, .inr (.inl (fun _ => 0)))), (z 5, .inl (cJ, 4, .inr (.inl (fun _ => 0)))), (z 6, .inl (cJ, 4, .inr (.inl (fun _ => 0)))), (z 7, .inl (cJ, 4, .inr (.inl (fun _ => 0)))), (z 8, .inl (cJ, 4, .inr (.inl (fun _ => 0)))), (z 9, .inl (cJ, 4, .inr (.inl (fun _ => 0)))), (z 10, .inl (cJ, 4, .inr (.inl (vp_updL (vp_updL (vp_updL (vp_updL (fun _ => 0) 0 23640) 1 23640) 2 23640) 3 23640))))]))) (fun _ _ => False) := by
  refine z_open (own := RX3) hfl (cc := cX3_init) (maxL := 2) (ret := none) (lv := [(0, .ref h0)]) rfl (by decide) rfl rfl (Nat.le_of_ble_eq_true rfl) ?_
  intro p e s m args below meth c A C hno hnm hargs
  have hin : ∀ w ∈ wsX30, w ∈ wsX3_init := by decide +kernel
  have w1 := C.1.2.2.2.2 (.methodLink RX3 7 objectInit) (by decide +kernel)
  have w2 := C.1.2.2.2.2 (.instanceMethod objectInit) (by decide +kernel)
  have w3 := C.1.2.2.2.2 (.code objectInit ⟨#[0xb1]⟩ 1 none) (by decide +kernel)
  have w4 := C.1.2.2.2.2 (.arrayClass .long) (by decide +kernel)
  have w5 := C.1.2.2.2.2 (.fieldLink RX3 13 "YearwheelModel" "dates" "[J") (by decide +kernel)
  have w6 := C.1.2.2.2.2 (.fieldLink RX3 17 "YearwheelModel" "times" "[J") (by decide +kernel)
  have w7 := C.1.2.2.2.2 (.fieldLink RX3 20 "YearwheelModel" "seconds" "[J") (by decide +kernel)
  have w8 := C.1.2.2.2.2 (.fieldLink RX3 23 "YearwheelModel" "fines" "[J") (by decide +kernel)
  have w9 := C.1.2.2.2.2 (.fieldLink RX3 26 "YearwheelModel" "days" "[J") (by decide +kernel)
  have w10 := C.1.2.2.2.2 (.fieldLink RX3 29 "YearwheelModel" "clocks" "[J") (by decide +kernel)
  have w11 := C.1.2.2.2.2 (.fieldLink RX3 32 "YearwheelModel" "spanYears" "[J") (by decide +kernel)
  have w12 := C.1.2.2.2.2 (.fieldLink RX3 35 "YearwheelModel" "spanMonths" "[J") (by decide +kernel)
  have w13 := C.1.2.2.2.2 (.fieldLink RX3 38 "YearwheelModel" "spanDays" "[J") (by decide +kernel)
  have w14 := C.1.2.2.2.2 (.fieldLink RX3 41 "YearwheelModel" "months" "[J") (by decide +kernel)
  have w15 := C.1.2.2.2.2 (.constantLong RX3 44 (23640)) (by decide +kernel)
  refine z_aload_n C dX3_init_0 rfl 0 rfl ?_
  refine z_objInit C w1 w2 w3 dX3_init_1 (Nat.le_of_ble_eq_true rfl) (Nat.le_of_ble_eq_true rfl) ?_
  refine z_aload_n C dX3_init_4 rfl 0 rfl ?_
  refine z_bipush (v := 6) C dX3_init_5 (by decide) ?_
  refine z_newJ C (cI := cI) (cJ := cJ) (N := 6) rfl w4 (by decide) (by decide) (Nat.le_of_ble_eq_true rfl) (Nat.le_of_ble_eq_true rfl) (Nat.le_of_ble_eq_true rfl) dX3_init_7 (fun r1 => ?_)
  refine z_putF (CC := RX3) (T := TX3) (N := 14) (ci := 3) C hin tyX3 tyX3_ok nmX3 0 rfl rfl 1 (by decide) w5 rfl rfl hnm rfl (ty := .array .long) rfl rfl rfl (Nat.le_of_ble_eq_true rfl) (ws' := ((h0, .inr (3, [.int 0, .ref r1, .null, .null, .null, .null, .null, .null, .null, .null, .null, .long 0, .int 0, .int 0])) :: (wY cI cJ y d sy sm sd mi ti sL bL mD mT [(r1, .inl (cJ, 6, .inr (.inl (fun _ => 0))))]))) rfl dX3_init_9 ?_
  refine z_aload_n C dX3_init_12 rfl 0 rfl ?_
  refine z_iconst (v := 4) C dX3_init_13 (by decide) ?_
  refine z_newJ C (cI := cI) (cJ := cJ) (N := 4) rfl w4 (by decide) (by decide) (Nat.le_of_ble_eq_true rfl) (Nat.le_of_ble_eq_true rfl) (Nat.le_of_ble_eq_true rfl) dX3_init_14 (fun r2 => ?_)
  refine z_putF (CC := RX3) (T := TX3) (N := 14) (ci := 3) C hin tyX3 tyX3_ok nmX3 0 rfl rfl 2 (by decide) w6 rfl rfl hnm rfl (ty := .array .long) rfl rfl rfl (Nat.le_of_ble_eq_true rfl) (ws' := ((h0, .inr (3, [.int 0, .ref r1, .ref r2, .null, .null, .null, .null, .null, .null, .null, .null, .long 0, .int 0, .int 0])) :: (wY cI cJ y d sy sm sd mi ti sL bL mD mT [(r1, .inl (cJ, 6, .inr (.inl (fun _ => 0)))), (r2, .inl (cJ, 4, .inr (.inl (fun _ => 0))))]))) rfl dX3_init_16 ?_
  refine z_aload_n C dX3_init_19 rfl 0 rfl ?_
  refine z_iconst (v := 4) C dX3_init_20 (by decide) ?_
  refine z_newJ C (cI := cI) (cJ := cJ) (N := 4) rfl w4 (by decide) (by decide) (Nat.le_of_ble_eq_true rfl) (Nat.le_of_ble_eq_true rfl) (Nat.le_of_ble_eq_true rfl) dX3_init_21 (fun r3 => ?_)
  refine z_putF (CC := RX3) (T := TX3) (N := 14) (ci := 3) C hin tyX3 tyX3_ok nmX3 0 rfl rfl 3 (by decide) w7 rfl rfl hnm rfl (ty := .array .long) rfl rfl rfl (Nat.le_of_ble_eq_true rfl) (ws' := ((h0, .inr (3, [.int 0, .ref r1, .ref r2, .ref r3, .null, .null, .null, .null, .null, .null, .null, .long 0, .int 0, .int 0])) :: (wY cI cJ y d sy sm sd mi ti sL bL mD mT [(r1, .inl (cJ, 6, .inr (.inl (fun _ => 0)))), (r2, .inl (cJ, 4, .inr (.inl (fun _ => 0)))), (r3, .inl (cJ, 4, .inr (.inl (fun _ => 0))))]))) rfl dX3_init_23 ?_
  refine z_aload_n C dX3_init_26 rfl 0 rfl ?_
  refine z_iconst (v := 4) C dX3_init_27 (by decide) ?_
  refine z_newJ C (cI := cI) (cJ := cJ) (N := 4) rfl w4 (by decide) (by decide) (Nat.le_of_ble_eq_true rfl) (Nat.le_of_ble_eq_true rfl) (Nat.le_of_ble_eq_true rfl) dX3_init_28 (fun r4 => ?_)
  refine z_putF (CC := RX3) (T := TX3) (N := 14) (ci := 3) C hin tyX3 tyX3_ok nmX3 0 rfl rfl 4 (by decide) w8 rfl rfl hnm rfl (ty := .array .long) rfl rfl rfl (Nat.le_of_ble_eq_true rfl) (ws' := ((h0, .inr (3, [.int 0, .ref r1, .ref r2, .ref r3, .ref r4, .null, .null, .null, .null, .null, .null, .long 0, .int 0, .int 0])) :: (wY cI cJ y d sy sm sd mi ti sL bL mD mT [(r1, .inl (cJ, 6, .inr (.inl (fun _ => 0)))), (r2, .inl (cJ, 4, .inr (.inl (fun _ => 0)))), (r3, .inl (cJ, 4, .inr (.inl (fun _ => 0)))), (r4, .inl (cJ, 4, .inr (.inl (fun _ => 0))))]))) rfl dX3_init_30 ?_
  refine z_aload_n C dX3_init_33 rfl 0 rfl ?_
  refine z_iconst (v := 4) C dX3_init_34 (by decide) ?_
  refine z_newJ C (cI := cI) (cJ := cJ) (N := 4) rfl w4 (by decide) (by decide) (Nat.le_of_ble_eq_true rfl) (Nat.le_of_ble_eq_true rfl) (Nat.le_of_ble_eq_true rfl) dX3_init_35 (fun r5 => ?_)
  refine z_putF (CC := RX3) (T := TX3) (N := 14) (ci := 3) C hin tyX3 tyX3_ok nmX3 0 rfl rfl 5 (by decide) w9 rfl rfl hnm rfl (ty := .array .long) rfl rfl rfl (Nat.le_of_ble_eq_true rfl) (ws' := ((h0, .inr (3, [.int 0, .ref r1, .ref r2, .ref r3, .ref r4, .ref r5, .null, .null, .null, .null, .null, .long 0, .int 0, .int 0])) :: (wY cI cJ y d sy sm sd mi ti sL bL mD mT [(r1, .inl (cJ, 6, .inr (.inl (fun _ => 0)))), (r2, .inl (cJ, 4, .inr (.inl (fun _ => 0)))), (r3, .inl (cJ, 4, .inr (.inl (fun _ => 0)))), (r4, .inl (cJ, 4, .inr (.inl (fun _ => 0)))), (r5, .inl (cJ, 4, .inr (.inl (fun _ => 0))))]))) rfl dX3_init_37 ?_
  refine z_aload_n C dX3_init_40 rfl 0 rfl ?_
  refine z_iconst (v := 4) C dX3_init_41 (by decide) ?_
  refine z_newJ C (cI := cI) (cJ := cJ) (N := 4) rfl w4 (by decide) (by decide) (Nat.le_of_ble_eq_true rfl) (Nat.le_of_ble_eq_true rfl) (Nat.le_of_ble_eq_true rfl) dX3_init_42 (fun r6 => ?_)
  refine z_putF (CC := RX3) (T := TX3) (N := 14) (ci := 3) C hin tyX3 tyX3_ok nmX3 0 rfl rfl 6 (by decide) w10 rfl rfl hnm rfl (ty := .array .long) rfl rfl rfl (Nat.le_of_ble_eq_true rfl) (ws' := ((h0, .inr (3, [.int 0, .ref r1, .ref r2, .ref r3, .ref r4, .ref r5, .ref r6, .null, .null, .null, .null, .long 0, .int 0, .int 0])) :: (wY cI cJ y d sy sm sd mi ti sL bL mD mT [(r1, .inl (cJ, 6, .inr (.inl (fun _ => 0)))), (r2, .inl (cJ, 4, .inr (.inl (fun _ => 0)))), (r3, .inl (cJ, 4, .inr (.inl (fun _ => 0)))), (r4, .inl (cJ, 4, .inr (.inl (fun _ => 0)))), (r5, .inl (cJ, 4, .inr (.inl (fun _ => 0)))), (r6, .inl (cJ, 4, .inr (.inl (fun _ => 0))))]))) rfl dX3_init_44 ?_
  refine z_aload_n C dX3_init_47 rfl 0 rfl ?_
  refine z_iconst (v := 4) C dX3_init_48 (by decide) ?_
  refine z_newJ C (cI := cI) (cJ := cJ) (N := 4) rfl w4 (by decide) (by decide) (Nat.le_of_ble_eq_true rfl) (Nat.le_of_ble_eq_true rfl) (Nat.le_of_ble_eq_true rfl) dX3_init_49 (fun r7 => ?_)
  refine z_putF (CC := RX3) (T := TX3) (N := 14) (ci := 3) C hin tyX3 tyX3_ok nmX3 0 rfl rfl 7 (by decide) w11 rfl rfl hnm rfl (ty := .array .long) rfl rfl rfl (Nat.le_of_ble_eq_true rfl) (ws' := ((h0, .inr (3, [.int 0, .ref r1, .ref r2, .ref r3, .ref r4, .ref r5, .ref r6, .ref r7, .null, .null, .null, .long 0, .int 0, .int 0])) :: (wY cI cJ y d sy sm sd mi ti sL bL mD mT [(r1, .inl (cJ, 6, .inr (.inl (fun _ => 0)))), (r2, .inl (cJ, 4, .inr (.inl (fun _ => 0)))), (r3, .inl (cJ, 4, .inr (.inl (fun _ => 0)))), (r4, .inl (cJ, 4, .inr (.inl (fun _ => 0)))), (r5, .inl (cJ, 4, .inr (.inl (fun _ => 0)))), (r6, .inl (cJ, 4, .inr (.inl (fun _ => 0)))), (r7, .inl (cJ, 4, .inr (.inl (fun _ => 0))))]))) rfl dX3_init_51 ?_
  refine z_aload_n C dX3_init_54 rfl 0 rfl ?_
  refine z_iconst (v := 4) C dX3_init_55 (by decide) ?_
  refine z_newJ C (cI := cI) (cJ := cJ) (N := 4) rfl w4 (by decide) (by decide) (Nat.le_of_ble_eq_true rfl) (Nat.le_of_ble_eq_true rfl) (Nat.le_of_ble_eq_true rfl) dX3_init_56 (fun r8 => ?_)
  refine z_putF (CC := RX3) (T := TX3) (N := 14) (ci := 3) C hin tyX3 tyX3_ok nmX3 0 rfl rfl 8 (by decide) w12 rfl rfl hnm rfl (ty := .array .long) rfl rfl rfl (Nat.le_of_ble_eq_true rfl) (ws' := ((h0, .inr (3, [.int 0, .ref r1, .ref r2, .ref r3, .ref r4, .ref r5, .ref r6, .ref r7, .ref r8, .null, .null, .long 0, .int 0, .int 0])) :: (wY cI cJ y d sy sm sd mi ti sL bL mD mT [(r1, .inl (cJ, 6, .inr (.inl (fun _ => 0)))), (r2, .inl (cJ, 4, .inr (.inl (fun _ => 0)))), (r3, .inl (cJ, 4, .inr (.inl (fun _ => 0)))), (r4, .inl (cJ, 4, .inr (.inl (fun _ => 0)))), (r5, .inl (cJ, 4, .inr (.inl (fun _ => 0)))), (r6, .inl (cJ, 4, .inr (.inl (fun _ => 0)))), (r7, .inl (cJ, 4, .inr (.inl (fun _ => 0)))), (r8, .inl (cJ, 4, .inr (.inl (fun _ => 0))))]))) rfl dX3_init_58 ?_
  refine z_aload_n C dX3_init_61 rfl 0 rfl ?_
  refine z_iconst (v := 4) C dX3_init_62 (by decide) ?_
  refine z_newJ C (cI := cI) (cJ := cJ) (N := 4) rfl w4 (by decide) (by decide) (Nat.le_of_ble_eq_true rfl) (Nat.le_of_ble_eq_true rfl) (Nat.le_of_ble_eq_true rfl) dX3_init_63 (fun r9 => ?_)
  refine z_putF (CC := RX3) (T := TX3) (N := 14) (ci := 3) C hin tyX3 tyX3_ok nmX3 0 rfl rfl 9 (by decide) w13 rfl rfl hnm rfl (ty := .array .long) rfl rfl rfl (Nat.le_of_ble_eq_true rfl) (ws' := ((h0, .inr (3, [.int 0, .ref r1, .ref r2, .ref r3, .ref r4, .ref r5, .ref r6, .ref r7, .ref r8, .ref r9, .null, .long 0, .int 0, .int 0])) :: (wY cI cJ y d sy sm sd mi ti sL bL mD mT [(r1, .inl (cJ, 6, .inr (.inl (fun _ => 0)))), (r2, .inl (cJ, 4, .inr (.inl (fun _ => 0)))), (r3, .inl (cJ, 4, .inr (.inl (fun _ => 0)))), (r4, .inl (cJ, 4, .inr (.inl (fun _ => 0)))), (r5, .inl (cJ, 4, .inr (.inl (fun _ => 0)))), (r6, .inl (cJ, 4, .inr (.inl (fun _ => 0)))), (r7, .inl (cJ, 4, .inr (.inl (fun _ => 0)))), (r8, .inl (cJ, 4, .inr (.inl (fun _ => 0)))), (r9, .inl (cJ, 4, .inr (.inl (fun _ => 0))))]))) rfl dX3_init_65 ?_
  refine z_aload_n C dX3_init_68 rfl 0 rfl ?_
  refine z_iconst (v := 4) C dX3_init_69 (by decide) ?_
  refine z_newJ C (cI := cI) (cJ := cJ) (N := 4) rfl w4 (by decide) (by decide) (Nat.le_of_ble_eq_true rfl) (Nat.le_of_ble_eq_true rfl) (Nat.le_of_ble_eq_true rfl) dX3_init_70 (fun r10 => ?_)
  refine z_putF (CC := RX3) (T := TX3) (N := 14) (ci := 3) C hin tyX3 tyX3_ok nmX3 0 rfl rfl 10 (by decide) w14 rfl rfl hnm rfl (ty := .array .long) rfl rfl rfl (Nat.le_of_ble_eq_true rfl) (ws' := ((h0, .inr (3, [.int 0, .ref r1, .ref r2, .ref r3, .ref r4, .ref r5, .ref r6, .ref r7, .ref r8, .ref r9, .ref r10, .long 0, .int 0, .int 0])) :: (wY cI cJ y d sy sm sd mi ti sL bL mD mT [(r1, .inl (cJ, 6, .inr (.inl (fun _ => 0)))), (r2, .inl (cJ, 4, .inr (.inl (fun _ => 0)))), (r3, .inl (cJ, 4, .inr (.inl (fun _ => 0)))), (r4, .inl (cJ, 4, .inr (.inl (fun _ => 0)))), (r5, .inl (cJ, 4, .inr (.inl (fun _ => 0)))), (r6, .inl (cJ, 4, .inr (.inl (fun _ => 0)))), (r7, .inl (cJ, 4, .inr (.inl (fun _ => 0)))), (r8, .inl (cJ, 4, .inr (.inl (fun _ => 0)))), (r9, .inl (cJ, 4, .inr (.inl (fun _ => 0)))), (r10, .inl (cJ, 4, .inr (.inl (fun _ => 0))))]))) rfl dX3_init_72 ?_
  refine z_iconst (v := 0) C dX3_init_75 (by decide) ?_
  refine z_istore_n (lv' := [(1, .int 0), (0, .ref h0)]) C dX3_init_76 rfl (by decide) rfl ?_
  refine z_iload_n C dX3_init_77 rfl 0 rfl ?_
  refine z_iconst (v := 4) C dX3_init_78 (by decide) ?_
  refine z_icmp_ge (tgt := 97) C dX3_init_79 (by decide) (fun h => absurd h (by decide)) (fun _ => ?_)
  refine z_aload_n C dX3_init_82 rfl 1 rfl ?_
  refine z_get (CC := RX3) (T := TX3) (N := 14) (ci := 3) C hin 0 rfl rfl 10 (by decide) w14 rfl rfl dX3_init_83 ?_
  refine z_iload_n C dX3_init_86 rfl 0 rfl ?_
  refine z_ldc2 (v := 23640) C w15 dX3_init_87 ?_
  refine z_last C 21 1 rfl rfl (zvpl 0 4 (by decide)) (ws' := ((h0, .inr (3, [.int 0, .ref r1, .ref r2, .ref r3, .ref r4, .ref r5, .ref r6, .ref r7, .ref r8, .ref r9, .ref r10, .long 0, .int 0, .int 0])) :: (wY cI cJ y d sy sm sd mi ti sL bL mD mT [(r1, .inl (cJ, 6, .inr (.inl (fun _ => 0)))), (r2, .inl (cJ, 4, .inr (.inl (fun _ => 0)))), (r3, .inl (cJ, 4, .inr (.inl (fun _ => 0)))), (r4, .inl (cJ, 4, .inr (.inl (fun _ => 0)))), (r5, .inl (cJ, 4, .inr (.inl (fun _ => 0)))), (r6, .inl (cJ, 4, .inr (.inl (fun _ => 0)))), (r7, .inl (cJ, 4, .inr (.inl (fun _ => 0)))), (r8, .inl (cJ, 4, .inr (.inl (fun _ => 0)))), (r9, .inl (cJ, 4, .inr (.inl (fun _ => 0)))), (r10, .inl (cJ, 4, .inr (.inl (vp_updL (fun _ => 0) 0 23640))))]))) rfl dX3_init_90 ?_
  refine z_iinc (q := 0) (v := 1) (lv' := [(1, .int 1), (0, .ref h0)]) C dX3_init_91 rfl (by decide) (by decide) rfl ?_
  refine z_goto (tgt := 77) C dX3_init_94 (by decide) ?_
  refine z_iload_n C dX3_init_77 rfl 0 rfl ?_
  refine z_iconst (v := 4) C dX3_init_78 (by decide) ?_
  refine z_icmp_ge (tgt := 97) C dX3_init_79 (by decide) (fun h => absurd h (by decide)) (fun _ => ?_)
  refine z_aload_n C dX3_init_82 rfl 1 rfl ?_
  refine z_get (CC := RX3) (T := TX3) (N := 14) (ci := 3) C hin 0 rfl rfl 10 (by decide) w14 rfl rfl dX3_init_83 ?_
  refine z_iload_n C dX3_init_86 rfl 0 rfl ?_
  refine z_ldc2 (v := 23640) C w15 dX3_init_87 ?_
  refine z_last C 21 1 rfl rfl (zvpl 1 4 (by decide)) (ws' := ((h0, .inr (3, [.int 0, .ref r1, .ref r2, .ref r3, .ref r4, .ref r5, .ref r6, .ref r7, .ref r8, .ref r9, .ref r10, .long 0, .int 0, .int 0])) :: (wY cI cJ y d sy sm sd mi ti sL bL mD mT [(r1, .inl (cJ, 6, .inr (.inl (fun _ => 0)))), (r2, .inl (cJ, 4, .inr (.inl (fun _ => 0)))), (r3, .inl (cJ, 4, .inr (.inl (fun _ => 0)))), (r4, .inl (cJ, 4, .inr (.inl (fun _ => 0)))), (r5, .inl (cJ, 4, .inr (.inl (fun _ => 0)))), (r6, .inl (cJ, 4, .inr (.inl (fun _ => 0)))), (r7, .inl (cJ, 4, .inr (.inl (fun _ => 0)))), (r8, .inl (cJ, 4, .inr (.inl (fun _ => 0)))), (r9, .inl (cJ, 4, .inr (.inl (fun _ => 0)))), (r10, .inl (cJ, 4, .inr (.inl (vp_updL (vp_updL (fun _ => 0) 0 23640) 1 23640))))]))) rfl dX3_init_90 ?_
  refine z_iinc (q := 0) (v := 2) (lv' := [(1, .int 2), (0, .ref h0)]) C dX3_init_91 rfl (by decide) (by decide) rfl ?_
  refine z_goto (tgt := 77) C dX3_init_94 (by decide) ?_
  refine z_iload_n C dX3_init_77 rfl 0 rfl ?_
  refine z_iconst (v := 4) C dX3_init_78 (by decide) ?_
  refine z_icmp_ge (tgt := 97) C dX3_init_79 (by decide) (fun h => absurd h (by decide)) (fun _ => ?_)
  refine z_aload_n C dX3_init_82 rfl 1 rfl ?_
  refine z_get (CC := RX3) (T := TX3) (N := 14) (ci := 3) C hin 0 rfl rfl 10 (by decide) w14 rfl rfl dX3_init_83 ?_
  refine z_iload_n C dX3_init_86 rfl 0 rfl ?_
  refine z_ldc2 (v := 23640) C w15 dX3_init_87 ?_
  refine z_last C 21 1 rfl rfl (zvpl 2 4 (by decide)) (ws' := ((h0, .inr (3, [.int 0, .ref r1, .ref r2, .ref r3, .ref r4, .ref r5, .ref r6, .ref r7, .ref r8, .ref r9, .ref r10, .long 0, .int 0, .int 0])) :: (wY cI cJ y d sy sm sd mi ti sL bL mD mT [(r1, .inl (cJ, 6, .inr (.inl (fun _ => 0)))), (r2, .inl (cJ, 4, .inr (.inl (fun _ => 0)))), (r3, .inl (cJ, 4, .inr (.inl (fun _ => 0)))), (r4, .inl (cJ, 4, .inr (.inl (fun _ => 0)))), (r5, .inl (cJ, 4, .inr (.inl (fun _ => 0)))), (r6, .inl (cJ, 4, .inr (.inl (fun _ => 0)))), (r7, .inl (cJ, 4, .inr (.inl (fun _ => 0)))), (r8, .inl (cJ, 4, .inr (.inl (fun _ => 0)))), (r9, .inl (cJ, 4, .inr (.inl (fun _ => 0)))), (r10, .inl (cJ, 4, .inr (.inl (vp_updL (vp_updL (vp_updL (fun _ => 0) 0 23640) 1 23640) 2 23640))))]))) rfl dX3_init_90 ?_
  refine z_iinc (q := 0) (v := 3) (lv' := [(1, .int 3), (0, .ref h0)]) C dX3_init_91 rfl (by decide) (by decide) rfl ?_
  refine z_goto (tgt := 77) C dX3_init_94 (by decide) ?_
  refine z_iload_n C dX3_init_77 rfl 0 rfl ?_
  refine z_iconst (v := 4) C dX3_init_78 (by decide) ?_
  refine z_icmp_ge (tgt := 97) C dX3_init_79 (by decide) (fun h => absurd h (by decide)) (fun _ => ?_)
  refine z_aload_n C dX3_init_82 rfl 1 rfl ?_
  refine z_get (CC := RX3) (T := TX3) (N := 14) (ci := 3) C hin 0 rfl rfl 10 (by decide) w14 rfl rfl dX3_init_83 ?_
  refine z_iload_n C dX3_init_86 rfl 0 rfl ?_
  refine z_ldc2 (v := 23640) C w15 dX3_init_87 ?_
  refine z_last C 21 1 rfl rfl (zvpl 3 4 (by decide)) (ws' := ((h0, .inr (3, [.int 0, .ref r1, .ref r2, .ref r3, .ref r4, .ref r5, .ref r6, .ref r7, .ref r8, .ref r9, .ref r10, .long 0, .int 0, .int 0])) :: (wY cI cJ y d sy sm sd mi ti sL bL mD mT [(r1, .inl (cJ, 6, .inr (.inl (fun _ => 0)))), (r2, .inl (cJ, 4, .inr (.inl (fun _ => 0)))), (r3, .inl (cJ, 4, .inr (.inl (fun _ => 0)))), (r4, .inl (cJ, 4, .inr (.inl (fun _ => 0)))), (r5, .inl (cJ, 4, .inr (.inl (fun _ => 0)))), (r6, .inl (cJ, 4, .inr (.inl (fun _ => 0)))), (r7, .inl (cJ, 4, .inr (.inl (fun _ => 0)))), (r8, .inl (cJ, 4, .inr (.inl (fun _ => 0)))), (r9, .inl (cJ, 4, .inr (.inl (fun _ => 0)))), (r10, .inl (cJ, 4, .inr (.inl (vp_updL (vp_updL (vp_updL (vp_updL (fun _ => 0) 0 23640) 1 23640) 2 23640) 3 23640))))]))) rfl dX3_init_90 ?_
  refine z_iinc (q := 0) (v := 4) (lv' := [(1, .int 4), (0, .ref h0)]) C dX3_init_91 rfl (by decide) (by decide) rfl ?_
  refine z_goto (tgt := 77) C dX3_init_94 (by decide) ?_
  refine z_iload_n C dX3_init_77 rfl 0 rfl ?_
  refine z_iconst (v := 4) C dX3_init_78 (by decide) ?_
  refine z_icmp_ge (tgt := 97) C dX3_init_79 (by decide) (fun _ => ?_) (fun h => absurd (by decide) h)
  exact z_vret C ⟨rfl, fun k => ([h0, r1, r2, r3, r4, r5, r6, r7, r8, r9, r10] : List Nat).getD k 0, rfl, rfl⟩ (by decide) (by decide) dX3_init_97
