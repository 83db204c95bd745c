def f_X2_isSound  : Int32 := 1
def pre_X2_isSound (d : Nat → Int64) (ti : Nat → Int64) (mD : Nat → Int64) (mT : Nat → Int64) : Prop := ((f_X2_isSoundDay (d 0) = 1)) ∧ ((f_X2_isSoundWay (d 0) (d 0) = 1)) ∧ ((f_X2_isSoundWay (d 0) (d 1) = 1)) ∧ ((f_X2_isSoundWay (d 0) (d 2) = 1)) ∧ ((f_X2_isSoundWay (d 0) (d 3) = 1)) ∧ ((f_X2_isSoundWay (d 0) (d 4) = 1)) ∧ ((f_X2_isSoundWay (d 0) (d 5) = 1)) ∧ ((f_X2_isSoundDay (d 1) = 1)) ∧ ((f_X2_isSoundWay (d 1) (d 0) = 1)) ∧ ((f_X2_isSoundWay (d 1) (d 1) = 1)) ∧ ((f_X2_isSoundWay (d 1) (d 2) = 1)) ∧ ((f_X2_isSoundWay (d 1) (d 3) = 1)) ∧ ((f_X2_isSoundWay (d 1) (d 4) = 1)) ∧ ((f_X2_isSoundWay (d 1) (d 5) = 1)) ∧ ((f_X2_isSoundDay (d 2) = 1)) ∧ ((f_X2_isSoundWay (d 2) (d 0) = 1)) ∧ ((f_X2_isSoundWay (d 2) (d 1) = 1)) ∧ ((f_X2_isSoundWay (d 2) (d 2) = 1)) ∧ ((f_X2_isSoundWay (d 2) (d 3) = 1)) ∧ ((f_X2_isSoundWay (d 2) (d 4) = 1)) ∧ ((f_X2_isSoundWay (d 2) (d 5) = 1)) ∧ ((f_X2_isSoundDay (d 3) = 1)) ∧ ((f_X2_isSoundWay (d 3) (d 0) = 1)) ∧ ((f_X2_isSoundWay (d 3) (d 1) = 1)) ∧ ((f_X2_isSoundWay (d 3) (d 2) = 1)) ∧ ((f_X2_isSoundWay (d 3) (d 3) = 1)) ∧ ((f_X2_isSoundWay (d 3) (d 4) = 1)) ∧ ((f_X2_isSoundWay (d 3) (d 5) = 1)) ∧ ((f_X2_isSoundDay (d 4) = 1)) ∧ ((f_X2_isSoundWay (d 4) (d 0) = 1)) ∧ ((f_X2_isSoundWay (d 4) (d 1) = 1)) ∧ ((f_X2_isSoundWay (d 4) (d 2) = 1)) ∧ ((f_X2_isSoundWay (d 4) (d 3) = 1)) ∧ ((f_X2_isSoundWay (d 4) (d 4) = 1)) ∧ ((f_X2_isSoundWay (d 4) (d 5) = 1)) ∧ ((f_X2_isSoundDay (d 5) = 1)) ∧ ((f_X2_isSoundWay (d 5) (d 0) = 1)) ∧ ((f_X2_isSoundWay (d 5) (d 1) = 1)) ∧ ((f_X2_isSoundWay (d 5) (d 2) = 1)) ∧ ((f_X2_isSoundWay (d 5) (d 3) = 1)) ∧ ((f_X2_isSoundWay (d 5) (d 4) = 1)) ∧ ((f_X2_isSoundWay (d 5) (d 5) = 1)) ∧ ((f_X2_isSoundDay (mD 0) = 1)) ∧ ((f_X2_isSoundTimeWay (ti 0) (ti 0) = 1)) ∧ ((f_X2_isSoundMomentWay mD mT 0 0 = 1)) ∧ ((f_X2_isSoundTimeWay (ti 0) (ti 1) = 1)) ∧ ((f_X2_isSoundMomentWay mD mT 0 1 = 1)) ∧ ((f_X2_isSoundTimeWay (ti 0) (ti 2) = 1)) ∧ ((f_X2_isSoundMomentWay mD mT 0 2 = 1)) ∧ ((f_X2_isSoundTimeWay (ti 0) (ti 3) = 1)) ∧ ((f_X2_isSoundMomentWay mD mT 0 3 = 1)) ∧ ((f_X2_isSoundDay (mD 1) = 1)) ∧ ((f_X2_isSoundTimeWay (ti 1) (ti 0) = 1)) ∧ ((f_X2_isSoundMomentWay mD mT 1 0 = 1)) ∧ ((f_X2_isSoundTimeWay (ti 1) (ti 1) = 1)) ∧ ((f_X2_isSoundMomentWay mD mT 1 1 = 1)) ∧ ((f_X2_isSoundTimeWay (ti 1) (ti 2) = 1)) ∧ ((f_X2_isSoundMomentWay mD mT 1 2 = 1)) ∧ ((f_X2_isSoundTimeWay (ti 1) (ti 3) = 1)) ∧ ((f_X2_isSoundMomentWay mD mT 1 3 = 1)) ∧ ((f_X2_isSoundDay (mD 2) = 1)) ∧ ((f_X2_isSoundTimeWay (ti 2) (ti 0) = 1)) ∧ ((f_X2_isSoundMomentWay mD mT 2 0 = 1)) ∧ ((f_X2_isSoundTimeWay (ti 2) (ti 1) = 1)) ∧ ((f_X2_isSoundMomentWay mD mT 2 1 = 1)) ∧ ((f_X2_isSoundTimeWay (ti 2) (ti 2) = 1)) ∧ ((f_X2_isSoundMomentWay mD mT 2 2 = 1)) ∧ ((f_X2_isSoundTimeWay (ti 2) (ti 3) = 1)) ∧ ((f_X2_isSoundMomentWay mD mT 2 3 = 1)) ∧ ((f_X2_isSoundDay (mD 3) = 1)) ∧ ((f_X2_isSoundTimeWay (ti 3) (ti 0) = 1)) ∧ ((f_X2_isSoundMomentWay mD mT 3 0 = 1)) ∧ ((f_X2_isSoundTimeWay (ti 3) (ti 1) = 1)) ∧ ((f_X2_isSoundMomentWay mD mT 3 1 = 1)) ∧ ((f_X2_isSoundTimeWay (ti 3) (ti 2) = 1)) ∧ ((f_X2_isSoundMomentWay mD mT 3 2 = 1)) ∧ ((f_X2_isSoundTimeWay (ti 3) (ti 3) = 1)) ∧ ((f_X2_isSoundMomentWay mD mT 3 3 = 1))
theorem q_X2_isSound : ZY yX2_isSound wsX2_isSound cX2_isSound 4 (some .boolean) 0 := ⟨⟨_, rfl⟩, by decide +kernel, by decide +kernel, by decide +kernel⟩
set_option maxHeartbeats 4000000 in
set_option maxRecDepth 100000 in
theorem c_X2_isSound (l : Launch) (hfl : l.stackTraces = false) (D : va_G) (cI cJ : ClassId) (X : va_W) (y : Nat → Nat) (d : Nat → Int64) (sy : Nat → Int32) (sm : Nat → Int32) (sd : Nat → Int32) (mi : Nat → Int32) (ti : Nat → Int64) (sL : Nat → Int64) (bL : Nat → Int64) (mD : Nat → Int64) (mT : Nat → Int64)  (h_g : pre_X2_isSound d ti mD mT) : ZM l yX2_isSound wsX2_isSound { frames := 6, cells := 0, slots := 0, locals := 157 } [.ref (y 0)] D (zTys cI cJ) (wY cI cJ y d sy sm sd mi ti sL bL mD mT X) 0 0 (fun v w => v = some (.int f_X2_isSound) ∧ w = (wY cI cJ y d sy sm sd mi ti sL bL mD mT X)) (fun _ _ => False) := by
  refine z_open (own := RX2) hfl (cc := cX2_isSound) (maxL := 4) (ret := (some .boolean)) (lv := [(0, .ref (y 0))]) rfl (by decide) rfl rfl (Nat.le_of_ble_eq_true rfl) ?_
  intro p e s m args below meth c A C hno hnm hargs
  have hin : ∀ w ∈ wsX20, w ∈ wsX2_isSound := by decide +kernel
  have w1 := C.1.2.2.2.2 (.fieldLink RX2 9 "Yearwheel" "dates" "[J") (by decide +kernel)
  have w2 := C.1.2.2.2.2 (.fieldLink RX2 35 "Yearwheel" "momentDays" "[J") (by decide +kernel)
  have w3 := C.1.2.2.2.2 (.fieldLink RX2 26 "Yearwheel" "times" "[J") (by decide +kernel)
  obtain ⟨g_0, g_1, g_2, g_3, g_4, g_5, g_6, g_7, g_8, g_9, g_10, g_11, g_12, g_13, g_14, g_15, g_16, g_17, g_18, g_19, g_20, g_21, g_22, g_23, g_24, g_25, g_26, g_27, g_28, g_29, g_30, g_31, g_32, g_33, g_34, g_35, g_36, g_37, g_38, g_39, g_40, g_41, g_42, g_43, g_44, g_45, g_46, g_47, g_48, g_49, g_50, g_51, g_52, g_53, g_54, g_55, g_56, g_57, g_58, g_59, g_60, g_61, g_62, g_63, g_64, g_65, g_66, g_67, g_68, g_69, g_70, g_71, g_72, g_73, g_74, g_75, g_76, g_77⟩ := h_g
  refine z_iconst (v := 1) C dX2_isSound_0 (by decide) ?_
  refine z_istore_n (lv' := [(1, .int 1), (0, .ref (y 0))]) C dX2_isSound_1 rfl (by decide) rfl ?_
  refine z_iconst (v := 0) C dX2_isSound_2 (by decide) ?_
  refine z_istore_n (lv' := [(2, .int 0), (1, .int 1), (0, .ref (y 0))]) C dX2_isSound_3 rfl (by decide) rfl ?_
  refine z_iload_n C dX2_isSound_4 rfl 0 rfl ?_
  refine z_bipush (v := 6) C dX2_isSound_5 (by decide) ?_
  refine z_icmp_ge (tgt := 80) C dX2_isSound_7 (by decide) (fun h => absurd h (by decide)) (fun _ => ?_)
  refine z_iload_n C dX2_isSound_10 rfl 1 rfl ?_
  refine z_if_eq (tgt := 30) C dX2_isSound_11 (by decide) (fun h => absurd h (by decide)) (fun _ => ?_)
  refine z_aload_n C dX2_isSound_14 rfl 2 rfl ?_
  refine z_get (CC := RX2) (T := TX2) (N := 10) (ci := 2) C hin 0 rfl rfl 0 (by decide) w1 rfl rfl dX2_isSound_15 ?_
  refine z_iload_n C dX2_isSound_18 rfl 0 rfl ?_
  refine z_lald C 1 1 rfl rfl (zvpl 0 6 (by decide)) dX2_isSound_19 ?_
  refine z_eqst (st' := [.long (d 0)]) rfl ?_
  refine z_si (rest := []) C (c_X2_isSoundDay l hfl D cI cJ _ (d 0) ) q_X2_isSoundDay gX2_isSound_X2_isSoundDay ⟨rfl, rfl⟩ rfl rfl (Nat.le_of_ble_eq_true rfl) ⟨Nat.le_of_ble_eq_true rfl, Nat.le_of_ble_eq_true rfl⟩ ⟨Nat.le_of_ble_eq_true rfl, Nat.le_of_ble_eq_true rfl⟩ dX2_isSound_20 ?_
  refine z_eqst (st' := [.int 1]) (congrArg (fun v => Value.int v :: _) (g_0)) ?_
  refine z_if_eq (tgt := 30) C dX2_isSound_23 (by decide) (fun h => absurd h (by decide)) (fun _ => ?_)
  refine z_iconst (v := 1) C dX2_isSound_26 (by decide) ?_
  refine z_goto (tgt := 31) C dX2_isSound_27 (by decide) ?_
  refine z_istore_n (lv' := [(1, .int 1), (2, .int 0), (0, .ref (y 0))]) C dX2_isSound_31 rfl (by decide) rfl ?_
  refine z_iconst (v := 0) C dX2_isSound_32 (by decide) ?_
  refine z_istore_n (lv' := [(3, .int 0), (1, .int 1), (2, .int 0), (0, .ref (y 0))]) C dX2_isSound_33 rfl (by decide) rfl ?_
  refine z_iload_n C dX2_isSound_34 rfl 0 rfl ?_
  refine z_bipush (v := 6) C dX2_isSound_35 (by decide) ?_
  refine z_icmp_ge (tgt := 74) C dX2_isSound_37 (by decide) (fun h => absurd h (by decide)) (fun _ => ?_)
  refine z_iload_n C dX2_isSound_40 rfl 1 rfl ?_
  refine z_if_eq (tgt := 66) C dX2_isSound_41 (by decide) (fun h => absurd h (by decide)) (fun _ => ?_)
  refine z_aload_n C dX2_isSound_44 rfl 3 rfl ?_
  refine z_get (CC := RX2) (T := TX2) (N := 10) (ci := 2) C hin 0 rfl rfl 0 (by decide) w1 rfl rfl dX2_isSound_45 ?_
  refine z_iload_n C dX2_isSound_48 rfl 2 rfl ?_
  refine z_lald C 1 1 rfl rfl (zvpl 0 6 (by decide)) dX2_isSound_49 ?_
  refine z_eqst (st' := [.long (d 0)]) rfl ?_
  refine z_aload_n C dX2_isSound_50 rfl 3 rfl ?_
  refine z_get (CC := RX2) (T := TX2) (N := 10) (ci := 2) C hin 0 rfl rfl 0 (by decide) w1 rfl rfl dX2_isSound_51 ?_
  refine z_iload_n C dX2_isSound_54 rfl 0 rfl ?_
  refine z_lald C 1 1 rfl rfl (zvpl 0 6 (by decide)) dX2_isSound_55 ?_
  refine z_eqst (st' := [.long (d 0), .long (d 0)]) rfl ?_
  refine z_si (rest := []) C (c_X2_isSoundWay l hfl D cI cJ _ (d 0) (d 0) ) q_X2_isSoundWay gX2_isSound_X2_isSoundWay ⟨rfl, rfl⟩ rfl rfl (Nat.le_of_ble_eq_true rfl) ⟨Nat.le_of_ble_eq_true rfl, Nat.le_of_ble_eq_true rfl⟩ ⟨Nat.le_of_ble_eq_true rfl, Nat.le_of_ble_eq_true rfl⟩ dX2_isSound_56 ?_
  refine z_eqst (st' := [.int 1]) (congrArg (fun v => Value.int v :: _) (g_1)) ?_
  refine z_if_eq (tgt := 66) C dX2_isSound_59 (by decide) (fun h => absurd h (by decide)) (fun _ => ?_)
  refine z_iconst (v := 1) C dX2_isSound_62 (by decide) ?_
  refine z_goto (tgt := 67) C dX2_isSound_63 (by decide) ?_
  refine z_istore_n (lv' := [(1, .int 1), (3, .int 0), (2, .int 0), (0, .ref (y 0))]) C dX2_isSound_67 rfl (by decide) rfl ?_
  refine z_iinc (q := 1) (v := 1) (lv' := [(3, .int 1), (1, .int 1), (2, .int 0), (0, .ref (y 0))]) C dX2_isSound_68 rfl (by decide) (by decide) rfl ?_
  refine z_goto (tgt := 34) C dX2_isSound_71 (by decide) ?_
  refine z_iload_n C dX2_isSound_34 rfl 0 rfl ?_
  refine z_bipush (v := 6) C dX2_isSound_35 (by decide) ?_
  refine z_icmp_ge (tgt := 74) C dX2_isSound_37 (by decide) (fun h => absurd h (by decide)) (fun _ => ?_)
  refine z_iload_n C dX2_isSound_40 rfl 1 rfl ?_
  refine z_if_eq (tgt := 66) C dX2_isSound_41 (by decide) (fun h => absurd h (by decide)) (fun _ => ?_)
  refine z_aload_n C dX2_isSound_44 rfl 3 rfl ?_
  refine z_get (CC := RX2) (T := TX2) (N := 10) (ci := 2) C hin 0 rfl rfl 0 (by decide) w1 rfl rfl dX2_isSound_45 ?_
  refine z_iload_n C dX2_isSound_48 rfl 2 rfl ?_
  refine z_lald C 1 1 rfl rfl (zvpl 0 6 (by decide)) dX2_isSound_49 ?_
  refine z_eqst (st' := [.long (d 0)]) rfl ?_
  refine z_aload_n C dX2_isSound_50 rfl 3 rfl ?_
  refine z_get (CC := RX2) (T := TX2) (N := 10) (ci := 2) C hin 0 rfl rfl 0 (by decide) w1 rfl rfl dX2_isSound_51 ?_
  refine z_iload_n C dX2_isSound_54 rfl 0 rfl ?_
  refine z_lald C 1 1 rfl rfl (zvpl 1 6 (by decide)) dX2_isSound_55 ?_
  refine z_eqst (st' := [.long (d 1), .long (d 0)]) rfl ?_
  refine z_si (rest := []) C (c_X2_isSoundWay l hfl D cI cJ _ (d 0) (d 1) ) q_X2_isSoundWay gX2_isSound_X2_isSoundWay ⟨rfl, rfl⟩ rfl rfl (Nat.le_of_ble_eq_true rfl) ⟨Nat.le_of_ble_eq_true rfl, Nat.le_of_ble_eq_true rfl⟩ ⟨Nat.le_of_ble_eq_true rfl, Nat.le_of_ble_eq_true rfl⟩ dX2_isSound_56 ?_
  refine z_eqst (st' := [.int 1]) (congrArg (fun v => Value.int v :: _) (g_2)) ?_
  refine z_if_eq (tgt := 66) C dX2_isSound_59 (by decide) (fun h => absurd h (by decide)) (fun _ => ?_)
  refine z_iconst (v := 1) C dX2_isSound_62 (by decide) ?_
  refine z_goto (tgt := 67) C dX2_isSound_63 (by decide) ?_
  refine z_istore_n (lv' := [(1, .int 1), (3, .int 1), (2, .int 0), (0, .ref (y 0))]) C dX2_isSound_67 rfl (by decide) rfl ?_
  refine z_iinc (q := 1) (v := 2) (lv' := [(3, .int 2), (1, .int 1), (2, .int 0), (0, .ref (y 0))]) C dX2_isSound_68 rfl (by decide) (by decide) rfl ?_
  refine z_goto (tgt := 34) C dX2_isSound_71 (by decide) ?_
  refine z_iload_n C dX2_isSound_34 rfl 0 rfl ?_
  refine z_bipush (v := 6) C dX2_isSound_35 (by decide) ?_
  refine z_icmp_ge (tgt := 74) C dX2_isSound_37 (by decide) (fun h => absurd h (by decide)) (fun _ => ?_)
  refine z_iload_n C dX2_isSound_40 rfl 1 rfl ?_
  refine z_if_eq (tgt := 66) C dX2_isSound_41 (by decide) (fun h => absurd h (by decide)) (fun _ => ?_)
  refine z_aload_n C dX2_isSound_44 rfl 3 rfl ?_
  refine z_get (CC := RX2) (T := TX2) (N := 10) (ci := 2) C hin 0 rfl rfl 0 (by decide) w1 rfl rfl dX2_isSound_45 ?_
  refine z_iload_n C dX2_isSound_48 rfl 2 rfl ?_
  refine z_lald C 1 1 rfl rfl (zvpl 0 6 (by decide)) dX2_isSound_49 ?_
  refine z_eqst (st' := [.long (d 0)]) rfl ?_
  refine z_aload_n C dX2_isSound_50 rfl 3 rfl ?_
  refine z_get (CC := RX2) (T := TX2) (N := 10) (ci := 2) C hin 0 rfl rfl 0 (by decide) w1 rfl rfl dX2_isSound_51 ?_
  refine z_iload_n C dX2_isSound_54 rfl 0 rfl ?_
  refine z_lald C 1 1 rfl rfl (zvpl 2 6 (by decide)) dX2_isSound_55 ?_
  refine z_eqst (st' := [.long (d 2), .long (d 0)]) rfl ?_
  refine z_si (rest := []) C (c_X2_isSoundWay l hfl D cI cJ _ (d 0) (d 2) ) q_X2_isSoundWay gX2_isSound_X2_isSoundWay ⟨rfl, rfl⟩ rfl rfl (Nat.le_of_ble_eq_true rfl) ⟨Nat.le_of_ble_eq_true rfl, Nat.le_of_ble_eq_true rfl⟩ ⟨Nat.le_of_ble_eq_true rfl, Nat.le_of_ble_eq_true rfl⟩ dX2_isSound_56 ?_
  refine z_eqst (st' := [.int 1]) (congrArg (fun v => Value.int v :: _) (g_3)) ?_
  refine z_if_eq (tgt := 66) C dX2_isSound_59 (by decide) (fun h => absurd h (by decide)) (fun _ => ?_)
  refine z_iconst (v := 1) C dX2_isSound_62 (by decide) ?_
  refine z_goto (tgt := 67) C dX2_isSound_63 (by decide) ?_
  refine z_istore_n (lv' := [(1, .int 1), (3, .int 2), (2, .int 0), (0, .ref (y 0))]) C dX2_isSound_67 rfl (by decide) rfl ?_
  refine z_iinc (q := 1) (v := 3) (lv' := [(3, .int 3), (1, .int 1), (2, .int 0), (0, .ref (y 0))]) C dX2_isSound_68 rfl (by decide) (by decide) rfl ?_
  refine z_goto (tgt := 34) C dX2_isSound_71 (by decide) ?_
  refine z_iload_n C dX2_isSound_34 rfl 0 rfl ?_
  refine z_bipush (v := 6) C dX2_isSound_35 (by decide) ?_
  refine z_icmp_ge (tgt := 74) C dX2_isSound_37 (by decide) (fun h => absurd h (by decide)) (fun _ => ?_)
  refine z_iload_n C dX2_isSound_40 rfl 1 rfl ?_
  refine z_if_eq (tgt := 66) C dX2_isSound_41 (by decide) (fun h => absurd h (by decide)) (fun _ => ?_)
  refine z_aload_n C dX2_isSound_44 rfl 3 rfl ?_
  refine z_get (CC := RX2) (T := TX2) (N := 10) (ci := 2) C hin 0 rfl rfl 0 (by decide) w1 rfl rfl dX2_isSound_45 ?_
  refine z_iload_n C dX2_isSound_48 rfl 2 rfl ?_
  refine z_lald C 1 1 rfl rfl (zvpl 0 6 (by decide)) dX2_isSound_49 ?_
  refine z_eqst (st' := [.long (d 0)]) rfl ?_
  refine z_aload_n C dX2_isSound_50 rfl 3 rfl ?_
  refine z_get (CC := RX2) (T := TX2) (N := 10) (ci := 2) C hin 0 rfl rfl 0 (by decide) w1 rfl rfl dX2_isSound_51 ?_
  refine z_iload_n C dX2_isSound_54 rfl 0 rfl ?_
  refine z_lald C 1 1 rfl rfl (zvpl 3 6 (by decide)) dX2_isSound_55 ?_
  refine z_eqst (st' := [.long (d 3), .long (d 0)]) rfl ?_
  refine z_si (rest := []) C (c_X2_isSoundWay l hfl D cI cJ _ (d 0) (d 3) ) q_X2_isSoundWay gX2_isSound_X2_isSoundWay ⟨rfl, rfl⟩ rfl rfl (Nat.le_of_ble_eq_true rfl) ⟨Nat.le_of_ble_eq_true rfl, Nat.le_of_ble_eq_true rfl⟩ ⟨Nat.le_of_ble_eq_true rfl, Nat.le_of_ble_eq_true rfl⟩ dX2_isSound_56 ?_
  refine z_eqst (st' := [.int 1]) (congrArg (fun v => Value.int v :: _) (g_4)) ?_
  refine z_if_eq (tgt := 66) C dX2_isSound_59 (by decide) (fun h => absurd h (by decide)) (fun _ => ?_)
  refine z_iconst (v := 1) C dX2_isSound_62 (by decide) ?_
  refine z_goto (tgt := 67) C dX2_isSound_63 (by decide) ?_
  refine z_istore_n (lv' := [(1, .int 1), (3, .int 3), (2, .int 0), (0, .ref (y 0))]) C dX2_isSound_67 rfl (by decide) rfl ?_
  refine z_iinc (q := 1) (v := 4) (lv' := [(3, .int 4), (1, .int 1), (2, .int 0), (0, .ref (y 0))]) C dX2_isSound_68 rfl (by decide) (by decide) rfl ?_
  refine z_goto (tgt := 34) C dX2_isSound_71 (by decide) ?_
  refine z_iload_n C dX2_isSound_34 rfl 0 rfl ?_
  refine z_bipush (v := 6) C dX2_isSound_35 (by decide) ?_
  refine z_icmp_ge (tgt := 74) C dX2_isSound_37 (by decide) (fun h => absurd h (by decide)) (fun _ => ?_)
  refine z_iload_n C dX2_isSound_40 rfl 1 rfl ?_
  refine z_if_eq (tgt := 66) C dX2_isSound_41 (by decide) (fun h => absurd h (by decide)) (fun _ => ?_)
  refine z_aload_n C dX2_isSound_44 rfl 3 rfl ?_
  refine z_get (CC := RX2) (T := TX2) (N := 10) (ci := 2) C hin 0 rfl rfl 0 (by decide) w1 rfl rfl dX2_isSound_45 ?_
  refine z_iload_n C dX2_isSound_48 rfl 2 rfl ?_
  refine z_lald C 1 1 rfl rfl (zvpl 0 6 (by decide)) dX2_isSound_49 ?_
  refine z_eqst (st' := [.long (d 0)]) rfl ?_
  refine z_aload_n C dX2_isSound_50 rfl 3 rfl ?_
  refine z_get (CC := RX2) (T := TX2) (N := 10) (ci := 2) C hin 0 rfl rfl 0 (by decide) w1 rfl rfl dX2_isSound_51 ?_
  refine z_iload_n C dX2_isSound_54 rfl 0 rfl ?_
  refine z_lald C 1 1 rfl rfl (zvpl 4 6 (by decide)) dX2_isSound_55 ?_
  refine z_eqst (st' := [.long (d 4), .long (d 0)]) rfl ?_
  refine z_si (rest := []) C (c_X2_isSoundWay l hfl D cI cJ _ (d 0) (d 4) ) q_X2_isSoundWay gX2_isSound_X2_isSoundWay ⟨rfl, rfl⟩ rfl rfl (Nat.le_of_ble_eq_true rfl) ⟨Nat.le_of_ble_eq_true rfl, Nat.le_of_ble_eq_true rfl⟩ ⟨Nat.le_of_ble_eq_true rfl, Nat.le_of_ble_eq_true rfl⟩ dX2_isSound_56 ?_
  refine z_eqst (st' := [.int 1]) (congrArg (fun v => Value.int v :: _) (g_5)) ?_
  refine z_if_eq (tgt := 66) C dX2_isSound_59 (by decide) (fun h => absurd h (by decide)) (fun _ => ?_)
  refine z_iconst (v := 1) C dX2_isSound_62 (by decide) ?_
  refine z_goto (tgt := 67) C dX2_isSound_63 (by decide) ?_
  refine z_istore_n (lv' := [(1, .int 1), (3, .int 4), (2, .int 0), (0, .ref (y 0))]) C dX2_isSound_67 rfl (by decide) rfl ?_
  refine z_iinc (q := 1) (v := 5) (lv' := [(3, .int 5), (1, .int 1), (2, .int 0), (0, .ref (y 0))]) C dX2_isSound_68 rfl (by decide) (by decide) rfl ?_
  refine z_goto (tgt := 34) C dX2_isSound_71 (by decide) ?_
  refine z_iload_n C dX2_isSound_34 rfl 0 rfl ?_
  refine z_bipush (v := 6) C dX2_isSound_35 (by decide) ?_
  refine z_icmp_ge (tgt := 74) C dX2_isSound_37 (by decide) (fun h => absurd h (by decide)) (fun _ => ?_)
  refine z_iload_n C dX2_isSound_40 rfl 1 rfl ?_
  refine z_if_eq (tgt := 66) C dX2_isSound_41 (by decide) (fun h => absurd h (by decide)) (fun _ => ?_)
  refine z_aload_n C dX2_isSound_44 rfl 3 rfl ?_
  refine z_get (CC := RX2) (T := TX2) (N := 10) (ci := 2) C hin 0 rfl rfl 0 (by decide) w1 rfl rfl dX2_isSound_45 ?_
  refine z_iload_n C dX2_isSound_48 rfl 2 rfl ?_
  refine z_lald C 1 1 rfl rfl (zvpl 0 6 (by decide)) dX2_isSound_49 ?_
  refine z_eqst (st' := [.long (d 0)]) rfl ?_
  refine z_aload_n C dX2_isSound_50 rfl 3 rfl ?_
  refine z_get (CC := RX2) (T := TX2) (N := 10) (ci := 2) C hin 0 rfl rfl 0 (by decide) w1 rfl rfl dX2_isSound_51 ?_
  refine z_iload_n C dX2_isSound_54 rfl 0 rfl ?_
  refine z_lald C 1 1 rfl rfl (zvpl 5 6 (by decide)) dX2_isSound_55 ?_
  refine z_eqst (st' := [.long (d 5), .long (d 0)]) rfl ?_
  refine z_si (rest := []) C (c_X2_isSoundWay l hfl D cI cJ _ (d 0) (d 5) ) q_X2_isSoundWay gX2_isSound_X2_isSoundWay ⟨rfl, rfl⟩ rfl rfl (Nat.le_of_ble_eq_true rfl) ⟨Nat.le_of_ble_eq_true rfl, Nat.le_of_ble_eq_true rfl⟩ ⟨Nat.le_of_ble_eq_true rfl, Nat.le_of_ble_eq_true rfl⟩ dX2_isSound_56 ?_
  refine z_eqst (st' := [.int 1]) (congrArg (fun v => Value.int v :: _) (g_6)) ?_
  refine z_if_eq (tgt := 66) C dX2_isSound_59 (by decide) (fun h => absurd h (by decide)) (fun _ => ?_)
  refine z_iconst (v := 1) C dX2_isSound_62 (by decide) ?_
  refine z_goto (tgt := 67) C dX2_isSound_63 (by decide) ?_
  refine z_istore_n (lv' := [(1, .int 1), (3, .int 5), (2, .int 0), (0, .ref (y 0))]) C dX2_isSound_67 rfl (by decide) rfl ?_
  refine z_iinc (q := 1) (v := 6) (lv' := [(3, .int 6), (1, .int 1), (2, .int 0), (0, .ref (y 0))]) C dX2_isSound_68 rfl (by decide) (by decide) rfl ?_
  refine z_goto (tgt := 34) C dX2_isSound_71 (by decide) ?_
  refine z_iload_n C dX2_isSound_34 rfl 0 rfl ?_
  refine z_bipush (v := 6) C dX2_isSound_35 (by decide) ?_
  refine z_icmp_ge (tgt := 74) C dX2_isSound_37 (by decide) (fun _ => ?_) (fun h => absurd (by decide) h)
  refine z_iinc (q := 2) (v := 1) (lv' := [(2, .int 1), (3, .int 6), (1, .int 1), (0, .ref (y 0))]) C dX2_isSound_74 rfl (by decide) (by decide) rfl ?_
  refine z_goto (tgt := 4) C dX2_isSound_77 (by decide) ?_
  refine z_iload_n C dX2_isSound_4 rfl 0 rfl ?_
  refine z_bipush (v := 6) C dX2_isSound_5 (by decide) ?_
  refine z_icmp_ge (tgt := 80) C dX2_isSound_7 (by decide) (fun h => absurd h (by decide)) (fun _ => ?_)
  refine z_iload_n C dX2_isSound_10 rfl 2 rfl ?_
  refine z_if_eq (tgt := 30) C dX2_isSound_11 (by decide) (fun h => absurd h (by decide)) (fun _ => ?_)
  refine z_aload_n C dX2_isSound_14 rfl 3 rfl ?_
  refine z_get (CC := RX2) (T := TX2) (N := 10) (ci := 2) C hin 0 rfl rfl 0 (by decide) w1 rfl rfl dX2_isSound_15 ?_
  refine z_iload_n C dX2_isSound_18 rfl 0 rfl ?_
  refine z_lald C 1 1 rfl rfl (zvpl 1 6 (by decide)) dX2_isSound_19 ?_
  refine z_eqst (st' := [.long (d 1)]) rfl ?_
  refine z_si (rest := []) C (c_X2_isSoundDay l hfl D cI cJ _ (d 1) ) q_X2_isSoundDay gX2_isSound_X2_isSoundDay ⟨rfl, rfl⟩ rfl rfl (Nat.le_of_ble_eq_true rfl) ⟨Nat.le_of_ble_eq_true rfl, Nat.le_of_ble_eq_true rfl⟩ ⟨Nat.le_of_ble_eq_true rfl, Nat.le_of_ble_eq_true rfl⟩ dX2_isSound_20 ?_
  refine z_eqst (st' := [.int 1]) (congrArg (fun v => Value.int v :: _) (g_7)) ?_
  refine z_if_eq (tgt := 30) C dX2_isSound_23 (by decide) (fun h => absurd h (by decide)) (fun _ => ?_)
  refine z_iconst (v := 1) C dX2_isSound_26 (by decide) ?_
  refine z_goto (tgt := 31) C dX2_isSound_27 (by decide) ?_
  refine z_istore_n (lv' := [(1, .int 1), (2, .int 1), (3, .int 6), (0, .ref (y 0))]) C dX2_isSound_31 rfl (by decide) rfl ?_
  refine z_iconst (v := 0) C dX2_isSound_32 (by decide) ?_
  refine z_istore_n (lv' := [(3, .int 0), (1, .int 1), (2, .int 1), (0, .ref (y 0))]) C dX2_isSound_33 rfl (by decide) rfl ?_
  refine z_iload_n C dX2_isSound_34 rfl 0 rfl ?_
  refine z_bipush (v := 6) C dX2_isSound_35 (by decide) ?_
  refine z_icmp_ge (tgt := 74) C dX2_isSound_37 (by decide) (fun h => absurd h (by decide)) (fun _ => ?_)
  refine z_iload_n C dX2_isSound_40 rfl 1 rfl ?_
  refine z_if_eq (tgt := 66) C dX2_isSound_41 (by decide) (fun h => absurd h (by decide)) (fun _ => ?_)
  refine z_aload_n C dX2_isSound_44 rfl 3 rfl ?_
  refine z_get (CC := RX2) (T := TX2) (N := 10) (ci := 2) C hin 0 rfl rfl 0 (by decide) w1 rfl rfl dX2_isSound_45 ?_
  refine z_iload_n C dX2_isSound_48 rfl 2 rfl ?_
  refine z_lald C 1 1 rfl rfl (zvpl 1 6 (by decide)) dX2_isSound_49 ?_
  refine z_eqst (st' := [.long (d 1)]) rfl ?_
  refine z_aload_n C dX2_isSound_50 rfl 3 rfl ?_
  refine z_get (CC := RX2) (T := TX2) (N := 10) (ci := 2) C hin 0 rfl rfl 0 (by decide) w1 rfl rfl dX2_isSound_51 ?_
  refine z_iload_n C dX2_isSound_54 rfl 0 rfl ?_
  refine z_lald C 1 1 rfl rfl (zvpl 0 6 (by decide)) dX2_isSound_55 ?_
  refine z_eqst (st' := [.long (d 0), .long (d 1)]) rfl ?_
  refine z_si (rest := []) C (c_X2_isSoundWay l hfl D cI cJ _ (d 1) (d 0) ) q_X2_isSoundWay gX2_isSound_X2_isSoundWay ⟨rfl, rfl⟩ rfl rfl (Nat.le_of_ble_eq_true rfl) ⟨Nat.le_of_ble_eq_true rfl, Nat.le_of_ble_eq_true rfl⟩ ⟨Nat.le_of_ble_eq_true rfl, Nat.le_of_ble_eq_true rfl⟩ dX2_isSound_56 ?_
  refine z_eqst (st' := [.int 1]) (congrArg (fun v => Value.int v :: _) (g_8)) ?_
  refine z_if_eq (tgt := 66) C dX2_isSound_59 (by decide) (fun h => absurd h (by decide)) (fun _ => ?_)
  refine z_iconst (v := 1) C dX2_isSound_62 (by decide) ?_
  refine z_goto (tgt := 67) C dX2_isSound_63 (by decide) ?_
  refine z_istore_n (lv' := [(1, .int 1), (3, .int 0), (2, .int 1), (0, .ref (y 0))]) C dX2_isSound_67 rfl (by decide) rfl ?_
  refine z_iinc (q := 1) (v := 1) (lv' := [(3, .int 1), (1, .int 1), (2, .int 1), (0, .ref (y 0))]) C dX2_isSound_68 rfl (by decide) (by decide) rfl ?_
  refine z_goto (tgt := 34) C dX2_isSound_71 (by decide) ?_
  refine z_iload_n C dX2_isSound_34 rfl 0 rfl ?_
  refine z_bipush (v := 6) C dX2_isSound_35 (by decide) ?_
  refine z_icmp_ge (tgt := 74) C dX2_isSound_37 (by decide) (fun h => absurd h (by decide)) (fun _ => ?_)
  refine z_iload_n C dX2_isSound_40 rfl 1 rfl ?_
  refine z_if_eq (tgt := 66) C dX2_isSound_41 (by decide) (fun h => absurd h (by decide)) (fun _ => ?_)
  refine z_aload_n C dX2_isSound_44 rfl 3 rfl ?_
  refine z_get (CC := RX2) (T := TX2) (N := 10) (ci := 2) C hin 0 rfl rfl 0 (by decide) w1 rfl rfl dX2_isSound_45 ?_
  refine z_iload_n C dX2_isSound_48 rfl 2 rfl ?_
  refine z_lald C 1 1 rfl rfl (zvpl 1 6 (by decide)) dX2_isSound_49 ?_
  refine z_eqst (st' := [.long (d 1)]) rfl ?_
  refine z_aload_n C dX2_isSound_50 rfl 3 rfl ?_
  refine z_get (CC := RX2) (T := TX2) (N := 10) (ci := 2) C hin 0 rfl rfl 0 (by decide) w1 rfl rfl dX2_isSound_51 ?_
  refine z_iload_n C dX2_isSound_54 rfl 0 rfl ?_
  refine z_lald C 1 1 rfl rfl (zvpl 1 6 (by decide)) dX2_isSound_55 ?_
  refine z_eqst (st' := [.long (d 1), .long (d 1)]) rfl ?_
  refine z_si (rest := []) C (c_X2_isSoundWay l hfl D cI cJ _ (d 1) (d 1) ) q_X2_isSoundWay gX2_isSound_X2_isSoundWay ⟨rfl, rfl⟩ rfl rfl (Nat.le_of_ble_eq_true rfl) ⟨Nat.le_of_ble_eq_true rfl, Nat.le_of_ble_eq_true rfl⟩ ⟨Nat.le_of_ble_eq_true rfl, Nat.le_of_ble_eq_true rfl⟩ dX2_isSound_56 ?_
  refine z_eqst (st' := [.int 1]) (congrArg (fun v => Value.int v :: _) (g_9)) ?_
  refine z_if_eq (tgt := 66) C dX2_isSound_59 (by decide) (fun h => absurd h (by decide)) (fun _ => ?_)
  refine z_iconst (v := 1) C dX2_isSound_62 (by decide) ?_
  refine z_goto (tgt := 67) C dX2_isSound_63 (by decide) ?_
  refine z_istore_n (lv' := [(1, .int 1), (3, .int 1), (2, .int 1), (0, .ref (y 0))]) C dX2_isSound_67 rfl (by decide) rfl ?_
  refine z_iinc (q := 1) (v := 2) (lv' := [(3, .int 2), (1, .int 1), (2, .int 1), (0, .ref (y 0))]) C dX2_isSound_68 rfl (by decide) (by decide) rfl ?_
  refine z_goto (tgt := 34) C dX2_isSound_71 (by decide) ?_
  refine z_iload_n C dX2_isSound_34 rfl 0 rfl ?_
  refine z_bipush (v := 6) C dX2_isSound_35 (by decide) ?_
  refine z_icmp_ge (tgt := 74) C dX2_isSound_37 (by decide) (fun h => absurd h (by decide)) (fun _ => ?_)
  refine z_iload_n C dX2_isSound_40 rfl 1 rfl ?_
  refine z_if_eq (tgt := 66) C dX2_isSound_41 (by decide) (fun h => absurd h (by decide)) (fun _ => ?_)
  refine z_aload_n C dX2_isSound_44 rfl 3 rfl ?_
  refine z_get (CC := RX2) (T := TX2) (N := 10) (ci := 2) C hin 0 rfl rfl 0 (by decide) w1 rfl rfl dX2_isSound_45 ?_
  refine z_iload_n C dX2_isSound_48 rfl 2 rfl ?_
  refine z_lald C 1 1 rfl rfl (zvpl 1 6 (by decide)) dX2_isSound_49 ?_
  refine z_eqst (st' := [.long (d 1)]) rfl ?_
  refine z_aload_n C dX2_isSound_50 rfl 3 rfl ?_
  refine z_get (CC := RX2) (T := TX2) (N := 10) (ci := 2) C hin 0 rfl rfl 0 (by decide) w1 rfl rfl dX2_isSound_51 ?_
  refine z_iload_n C dX2_isSound_54 rfl 0 rfl ?_
  refine z_lald C 1 1 rfl rfl (zvpl 2 6 (by decide)) dX2_isSound_55 ?_
  refine z_eqst (st' := [.long (d 2), .long (d 1)]) rfl ?_
  refine z_si (rest := []) C (c_X2_isSoundWay l hfl D cI cJ _ (d 1) (d 2) ) q_X2_isSoundWay gX2_isSound_X2_isSoundWay ⟨rfl, rfl⟩ rfl rfl (Nat.le_of_ble_eq_true rfl) ⟨Nat.le_of_ble_eq_true rfl, Nat.le_of_ble_eq_true rfl⟩ ⟨Nat.le_of_ble_eq_true rfl, Nat.le_of_ble_eq_true rfl⟩ dX2_isSound_56 ?_
  refine z_eqst (st' := [.int 1]) (congrArg (fun v => Value.int v :: _) (g_10)) ?_
  refine z_if_eq (tgt := 66) C dX2_isSound_59 (by decide) (fun h => absurd h (by decide)) (fun _ => ?_)
  refine z_iconst (v := 1) C dX2_isSound_62 (by decide) ?_
  refine z_goto (tgt := 67) C dX2_isSound_63 (by decide) ?_
  refine z_istore_n (lv' := [(1, .int 1), (3, .int 2), (2, .int 1), (0, .ref (y 0))]) C dX2_isSound_67 rfl (by decide) rfl ?_
  refine z_iinc (q := 1) (v := 3) (lv' := [(3, .int 3), (1, .int 1), (2, .int 1), (0, .ref (y 0))]) C dX2_isSound_68 rfl (by decide) (by decide) rfl ?_
  refine z_goto (tgt := 34) C dX2_isSound_71 (by decide) ?_
  refine z_iload_n C dX2_isSound_34 rfl 0 rfl ?_
  refine z_bipush (v := 6) C dX2_isSound_35 (by decide) ?_
  refine z_icmp_ge (tgt := 74) C dX2_isSound_37 (by decide) (fun h => absurd h (by decide)) (fun _ => ?_)
  refine z_iload_n C dX2_isSound_40 rfl 1 rfl ?_
  refine z_if_eq (tgt := 66) C dX2_isSound_41 (by decide) (fun h => absurd h (by decide)) (fun _ => ?_)
  refine z_aload_n C dX2_isSound_44 rfl 3 rfl ?_
  refine z_get (CC := RX2) (T := TX2) (N := 10) (ci := 2) C hin 0 rfl rfl 0 (by decide) w1 rfl rfl dX2_isSound_45 ?_
  refine z_iload_n C dX2_isSound_48 rfl 2 rfl ?_
  refine z_lald C 1 1 rfl rfl (zvpl 1 6 (by decide)) dX2_isSound_49 ?_
  refine z_eqst (st' := [.long (d 1)]) rfl ?_
  refine z_aload_n C dX2_isSound_50 rfl 3 rfl ?_
  refine z_get (CC := RX2) (T := TX2) (N := 10) (ci := 2) C hin 0 rfl rfl 0 (by decide) w1 rfl rfl dX2_isSound_51 ?_
  refine z_iload_n C dX2_isSound_54 rfl 0 rfl ?_
  refine z_lald C 1 1 rfl rfl (zvpl 3 6 (by decide)) dX2_isSound_55 ?_
  refine z_eqst (st' := [.long (d 3), .long (d 1)]) rfl ?_
  refine z_si (rest := []) C (c_X2_isSoundWay l hfl D cI cJ _ (d 1) (d 3) ) q_X2_isSoundWay gX2_isSound_X2_isSoundWay ⟨rfl, rfl⟩ rfl rfl (Nat.le_of_ble_eq_true rfl) ⟨Nat.le_of_ble_eq_true rfl, Nat.le_of_ble_eq_true rfl⟩ ⟨Nat.le_of_ble_eq_true rfl, Nat.le_of_ble_eq_true rfl⟩ dX2_isSound_56 ?_
  refine z_eqst (st' := [.int 1]) (congrArg (fun v => Value.int v :: _) (g_11)) ?_
  refine z_if_eq (tgt := 66) C dX2_isSound_59 (by decide) (fun h => absurd h (by decide)) (fun _ => ?_)
  refine z_iconst (v := 1) C dX2_isSound_62 (by decide) ?_
  refine z_goto (tgt := 67) C dX2_isSound_63 (by decide) ?_
  refine z_istore_n (lv' := [(1, .int 1), (3, .int 3), (2, .int 1), (0, .ref (y 0))]) C dX2_isSound_67 rfl (by decide) rfl ?_
  refine z_iinc (q := 1) (v := 4) (lv' := [(3, .int 4), (1, .int 1), (2, .int 1), (0, .ref (y 0))]) C dX2_isSound_68 rfl (by decide) (by decide) rfl ?_
  refine z_goto (tgt := 34) C dX2_isSound_71 (by decide) ?_
  refine z_iload_n C dX2_isSound_34 rfl 0 rfl ?_
  refine z_bipush (v := 6) C dX2_isSound_35 (by decide) ?_
  refine z_icmp_ge (tgt := 74) C dX2_isSound_37 (by decide) (fun h => absurd h (by decide)) (fun _ => ?_)
  refine z_iload_n C dX2_isSound_40 rfl 1 rfl ?_
  refine z_if_eq (tgt := 66) C dX2_isSound_41 (by decide) (fun h => absurd h (by decide)) (fun _ => ?_)
  refine z_aload_n C dX2_isSound_44 rfl 3 rfl ?_
  refine z_get (CC := RX2) (T := TX2) (N := 10) (ci := 2) C hin 0 rfl rfl 0 (by decide) w1 rfl rfl dX2_isSound_45 ?_
  refine z_iload_n C dX2_isSound_48 rfl 2 rfl ?_
  refine z_lald C 1 1 rfl rfl (zvpl 1 6 (by decide)) dX2_isSound_49 ?_
  refine z_eqst (st' := [.long (d 1)]) rfl ?_
  refine z_aload_n C dX2_isSound_50 rfl 3 rfl ?_
  refine z_get (CC := RX2) (T := TX2) (N := 10) (ci := 2) C hin 0 rfl rfl 0 (by decide) w1 rfl rfl dX2_isSound_51 ?_
  refine z_iload_n C dX2_isSound_54 rfl 0 rfl ?_
  refine z_lald C 1 1 rfl rfl (zvpl 4 6 (by decide)) dX2_isSound_55 ?_
  refine z_eqst (st' := [.long (d 4), .long (d 1)]) rfl ?_
  refine z_si (rest := []) C (c_X2_isSoundWay l hfl D cI cJ _ (d 1) (d 4) ) q_X2_isSoundWay gX2_isSound_X2_isSoundWay ⟨rfl, rfl⟩ rfl rfl (Nat.le_of_ble_eq_true rfl) ⟨Nat.le_of_ble_eq_true rfl, Nat.le_of_ble_eq_true rfl⟩ ⟨Nat.le_of_ble_eq_true rfl, Nat.le_of_ble_eq_true rfl⟩ dX2_isSound_56 ?_
  refine z_eqst (st' := [.int 1]) (congrArg (fun v => Value.int v :: _) (g_12)) ?_
  refine z_if_eq (tgt := 66) C dX2_isSound_59 (by decide) (fun h => absurd h (by decide)) (fun _ => ?_)
  refine z_iconst (v := 1) C dX2_isSound_62 (by decide) ?_
  refine z_goto (tgt := 67) C dX2_isSound_63 (by decide) ?_
  refine z_istore_n (lv' := [(1, .int 1), (3, .int 4), (2, .int 1), (0, .ref (y 0))]) C dX2_isSound_67 rfl (by decide) rfl ?_
  refine z_iinc (q := 1) (v := 5) (lv' := [(3, .int 5), (1, .int 1), (2, .int 1), (0, .ref (y 0))]) C dX2_isSound_68 rfl (by decide) (by decide) rfl ?_
  refine z_goto (tgt := 34) C dX2_isSound_71 (by decide) ?_
  refine z_iload_n C dX2_isSound_34 rfl 0 rfl ?_
  refine z_bipush (v := 6) C dX2_isSound_35 (by decide) ?_
  refine z_icmp_ge (tgt := 74) C dX2_isSound_37 (by decide) (fun h => absurd h (by decide)) (fun _ => ?_)
  refine z_iload_n C dX2_isSound_40 rfl 1 rfl ?_
  refine z_if_eq (tgt := 66) C dX2_isSound_41 (by decide) (fun h => absurd h (by decide)) (fun _ => ?_)
  refine z_aload_n C dX2_isSound_44 rfl 3 rfl ?_
  refine z_get (CC := RX2) (T := TX2) (N := 10) (ci := 2) C hin 0 rfl rfl 0 (by decide) w1 rfl rfl dX2_isSound_45 ?_
  refine z_iload_n C dX2_isSound_48 rfl 2 rfl ?_
  refine z_lald C 1 1 rfl rfl (zvpl 1 6 (by decide)) dX2_isSound_49 ?_
  refine z_eqst (st' := [.long (d 1)]) rfl ?_
  refine z_aload_n C dX2_isSound_50 rfl 3 rfl ?_
  refine z_get (CC := RX2) (T := TX2) (N := 10) (ci := 2) C hin 0 rfl rfl 0 (by decide) w1 rfl rfl dX2_isSound_51 ?_
  refine z_iload_n C dX2_isSound_54 rfl 0 rfl ?_
  refine z_lald C 1 1 rfl rfl (zvpl 5 6 (by decide)) dX2_isSound_55 ?_
  refine z_eqst (st' := [.long (d 5), .long (d 1)]) rfl ?_
  refine z_si (rest := []) C (c_X2_isSoundWay l hfl D cI cJ _ (d 1) (d 5) ) q_X2_isSoundWay gX2_isSound_X2_isSoundWay ⟨rfl, rfl⟩ rfl rfl (Nat.le_of_ble_eq_true rfl) ⟨Nat.le_of_ble_eq_true rfl, Nat.le_of_ble_eq_true rfl⟩ ⟨Nat.le_of_ble_eq_true rfl, Nat.le_of_ble_eq_true rfl⟩ dX2_isSound_56 ?_
  refine z_eqst (st' := [.int 1]) (congrArg (fun v => Value.int v :: _) (g_13)) ?_
  refine z_if_eq (tgt := 66) C dX2_isSound_59 (by decide) (fun h => absurd h (by decide)) (fun _ => ?_)
  refine z_iconst (v := 1) C dX2_isSound_62 (by decide) ?_
  refine z_goto (tgt := 67) C dX2_isSound_63 (by decide) ?_
  refine z_istore_n (lv' := [(1, .int 1), (3, .int 5), (2, .int 1), (0, .ref (y 0))]) C dX2_isSound_67 rfl (by decide) rfl ?_
  refine z_iinc (q := 1) (v := 6) (lv' := [(3, .int 6), (1, .int 1), (2, .int 1), (0, .ref (y 0))]) C dX2_isSound_68 rfl (by decide) (by decide) rfl ?_
  refine z_goto (tgt := 34) C dX2_isSound_71 (by decide) ?_
  refine z_iload_n C dX2_isSound_34 rfl 0 rfl ?_
  refine z_bipush (v := 6) C dX2_isSound_35 (by decide) ?_
  refine z_icmp_ge (tgt := 74) C dX2_isSound_37 (by decide) (fun _ => ?_) (fun h => absurd (by decide) h)
  refine z_iinc (q := 2) (v := 2) (lv' := [(2, .int 2), (3, .int 6), (1, .int 1), (0, .ref (y 0))]) C dX2_isSound_74 rfl (by decide) (by decide) rfl ?_
  refine z_goto (tgt := 4) C dX2_isSound_77 (by decide) ?_
  refine z_iload_n C dX2_isSound_4 rfl 0 rfl ?_
  refine z_bipush (v := 6) C dX2_isSound_5 (by decide) ?_
  refine z_icmp_ge (tgt := 80) C dX2_isSound_7 (by decide) (fun h => absurd h (by decide)) (fun _ => ?_)
  refine z_iload_n C dX2_isSound_10 rfl 2 rfl ?_
  refine z_if_eq (tgt := 30) C dX2_isSound_11 (by decide) (fun h => absurd h (by decide)) (fun _ => ?_)
  refine z_aload_n C dX2_isSound_14 rfl 3 rfl ?_
  refine z_get (CC := RX2) (T := TX2) (N := 10) (ci := 2) C hin 0 rfl rfl 0 (by decide) w1 rfl rfl dX2_isSound_15 ?_
  refine z_iload_n C dX2_isSound_18 rfl 0 rfl ?_
  refine z_lald C 1 1 rfl rfl (zvpl 2 6 (by decide)) dX2_isSound_19 ?_
  refine z_eqst (st' := [.long (d 2)]) rfl ?_
  refine z_si (rest := []) C (c_X2_isSoundDay l hfl D cI cJ _ (d 2) ) q_X2_isSoundDay gX2_isSound_X2_isSoundDay ⟨rfl, rfl⟩ rfl rfl (Nat.le_of_ble_eq_true rfl) ⟨Nat.le_of_ble_eq_true rfl, Nat.le_of_ble_eq_true rfl⟩ ⟨Nat.le_of_ble_eq_true rfl, Nat.le_of_ble_eq_true rfl⟩ dX2_isSound_20 ?_
  refine z_eqst (st' := [.int 1]) (congrArg (fun v => Value.int v :: _) (g_14)) ?_
  refine z_if_eq (tgt := 30) C dX2_isSound_23 (by decide) (fun h => absurd h (by decide)) (fun _ => ?_)
  refine z_iconst (v := 1) C dX2_isSound_26 (by decide) ?_
  refine z_goto (tgt := 31) C dX2_isSound_27 (by decide) ?_
  refine z_istore_n (lv' := [(1, .int 1), (2, .int 2), (3, .int 6), (0, .ref (y 0))]) C dX2_isSound_31 rfl (by decide) rfl ?_
  refine z_iconst (v := 0) C dX2_isSound_32 (by decide) ?_
  refine z_istore_n (lv' := [(3, .int 0), (1, .int 1), (2, .int 2), (0, .ref (y 0))]) C dX2_isSound_33 rfl (by decide) rfl ?_
  refine z_iload_n C dX2_isSound_34 rfl 0 rfl ?_
  refine z_bipush (v := 6) C dX2_isSound_35 (by decide) ?_
  refine z_icmp_ge (tgt := 74) C dX2_isSound_37 (by decide) (fun h => absurd h (by decide)) (fun _ => ?_)
  refine z_iload_n C dX2_isSound_40 rfl 1 rfl ?_
  refine z_if_eq (tgt := 66) C dX2_isSound_41 (by decide) (fun h => absurd h (by decide)) (fun _ => ?_)
  refine z_aload_n C dX2_isSound_44 rfl 3 rfl ?_
  refine z_get (CC := RX2) (T := TX2) (N := 10) (ci := 2) C hin 0 rfl rfl 0 (by decide) w1 rfl rfl dX2_isSound_45 ?_
  refine z_iload_n C dX2_isSound_48 rfl 2 rfl ?_
  refine z_lald C 1 1 rfl rfl (zvpl 2 6 (by decide)) dX2_isSound_49 ?_
  refine z_eqst (st' := [.long (d 2)]) rfl ?_
  refine z_aload_n C dX2_isSound_50 rfl 3 rfl ?_
  refine z_get (CC := RX2) (T := TX2) (N := 10) (ci := 2) C hin 0 rfl rfl 0 (by decide) w1 rfl rfl dX2_isSound_51 ?_
  refine z_iload_n C dX2_isSound_54 rfl 0 rfl ?_
  refine z_lald C 1 1 rfl rfl (zvpl 0 6 (by decide)) dX2_isSound_55 ?_
  refine z_eqst (st' := [.long (d 0), .long (d 2)]) rfl ?_
  refine z_si (rest := []) C (c_X2_isSoundWay l hfl D cI cJ _ (d 2) (d 0) ) q_X2_isSoundWay gX2_isSound_X2_isSoundWay ⟨rfl, rfl⟩ rfl rfl (Nat.le_of_ble_eq_true rfl) ⟨Nat.le_of_ble_eq_true rfl, Nat.le_of_ble_eq_true rfl⟩ ⟨Nat.le_of_ble_eq_true rfl, Nat.le_of_ble_eq_true rfl⟩ dX2_isSound_56 ?_
  refine z_eqst (st' := [.int 1]) (congrArg (fun v => Value.int v :: _) (g_15)) ?_
  refine z_if_eq (tgt := 66) C dX2_isSound_59 (by decide) (fun h => absurd h (by decide)) (fun _ => ?_)
  refine z_iconst (v := 1) C dX2_isSound_62 (by decide) ?_
  refine z_goto (tgt := 67) C dX2_isSound_63 (by decide) ?_
  refine z_istore_n (lv' := [(1, .int 1), (3, .int 0), (2, .int 2), (0, .ref (y 0))]) C dX2_isSound_67 rfl (by decide) rfl ?_
  refine z_iinc (q := 1) (v := 1) (lv' := [(3, .int 1), (1, .int 1), (2, .int 2), (0, .ref (y 0))]) C dX2_isSound_68 rfl (by decide) (by decide) rfl ?_
  refine z_goto (tgt := 34) C dX2_isSound_71 (by decide) ?_
  refine z_iload_n C dX2_isSound_34 rfl 0 rfl ?_
  refine z_bipush (v := 6) C dX2_isSound_35 (by decide) ?_
  refine z_icmp_ge (tgt := 74) C dX2_isSound_37 (by decide) (fun h => absurd h (by decide)) (fun _ => ?_)
  refine z_iload_n C dX2_isSound_40 rfl 1 rfl ?_
  refine z_if_eq (tgt := 66) C dX2_isSound_41 (by decide) (fun h => absurd h (by decide)) (fun _ => ?_)
  refine z_aload_n C dX2_isSound_44 rfl 3 rfl ?_
  refine z_get (CC := RX2) (T := TX2) (N := 10) (ci := 2) C hin 0 rfl rfl 0 (by decide) w1 rfl rfl dX2_isSound_45 ?_
  refine z_iload_n C dX2_isSound_48 rfl 2 rfl ?_
  refine z_lald C 1 1 rfl rfl (zvpl 2 6 (by decide)) dX2_isSound_49 ?_
  refine z_eqst (st' := [.long (d 2)]) rfl ?_
  refine z_aload_n C dX2_isSound_50 rfl 3 rfl ?_
  refine z_get (CC := RX2) (T := TX2) (N := 10) (ci := 2) C hin 0 rfl rfl 0 (by decide) w1 rfl rfl dX2_isSound_51 ?_
  refine z_iload_n C dX2_isSound_54 rfl 0 rfl ?_
  refine z_lald C 1 1 rfl rfl (zvpl 1 6 (by decide)) dX2_isSound_55 ?_
  refine z_eqst (st' := [.long (d 1), .long (d 2)]) rfl ?_
  refine z_si (rest := []) C (c_X2_isSoundWay l hfl D cI cJ _ (d 2) (d 1) ) q_X2_isSoundWay gX2_isSound_X2_isSoundWay ⟨rfl, rfl⟩ rfl rfl (Nat.le_of_ble_eq_true rfl) ⟨Nat.le_of_ble_eq_true rfl, Nat.le_of_ble_eq_true rfl⟩ ⟨Nat.le_of_ble_eq_true rfl, Nat.le_of_ble_eq_true rfl⟩ dX2_isSound_56 ?_
  refine z_eqst (st' := [.int 1]) (congrArg (fun v => Value.int v :: _) (g_16)) ?_
  refine z_if_eq (tgt := 66) C dX2_isSound_59 (by decide) (fun h => absurd h (by decide)) (fun _ => ?_)
  refine z_iconst (v := 1) C dX2_isSound_62 (by decide) ?_
  refine z_goto (tgt := 67) C dX2_isSound_63 (by decide) ?_
  refine z_istore_n (lv' := [(1, .int 1), (3, .int 1), (2, .int 2), (0, .ref (y 0))]) C dX2_isSound_67 rfl (by decide) rfl ?_
  refine z_iinc (q := 1) (v := 2) (lv' := [(3, .int 2), (1, .int 1), (2, .int 2), (0, .ref (y 0))]) C dX2_isSound_68 rfl (by decide) (by decide) rfl ?_
  refine z_goto (tgt := 34) C dX2_isSound_71 (by decide) ?_
  refine z_iload_n C dX2_isSound_34 rfl 0 rfl ?_
  refine z_bipush (v := 6) C dX2_isSound_35 (by decide) ?_
  refine z_icmp_ge (tgt := 74) C dX2_isSound_37 (by decide) (fun h => absurd h (by decide)) (fun _ => ?_)
  refine z_iload_n C dX2_isSound_40 rfl 1 rfl ?_
  refine z_if_eq (tgt := 66) C dX2_isSound_41 (by decide) (fun h => absurd h (by decide)) (fun _ => ?_)
  refine z_aload_n C dX2_isSound_44 rfl 3 rfl ?_
  refine z_get (CC := RX2) (T := TX2) (N := 10) (ci := 2) C hin 0 rfl rfl 0 (by decide) w1 rfl rfl dX2_isSound_45 ?_
  refine z_iload_n C dX2_isSound_48 rfl 2 rfl ?_
  refine z_lald C 1 1 rfl rfl (zvpl 2 6 (by decide)) dX2_isSound_49 ?_
  refine z_eqst (st' := [.long (d 2)]) rfl ?_
  refine z_aload_n C dX2_isSound_50 rfl 3 rfl ?_
  refine z_get (CC := RX2) (T := TX2) (N := 10) (ci := 2) C hin 0 rfl rfl 0 (by decide) w1 rfl rfl dX2_isSound_51 ?_
  refine z_iload_n C dX2_isSound_54 rfl 0 rfl ?_
  refine z_lald C 1 1 rfl rfl (zvpl 2 6 (by decide)) dX2_isSound_55 ?_
  refine z_eqst (st' := [.long (d 2), .long (d 2)]) rfl ?_
  refine z_si (rest := []) C (c_X2_isSoundWay l hfl D cI cJ _ (d 2) (d 2) ) q_X2_isSoundWay gX2_isSound_X2_isSoundWay ⟨rfl, rfl⟩ rfl rfl (Nat.le_of_ble_eq_true rfl) ⟨Nat.le_of_ble_eq_true rfl, Nat.le_of_ble_eq_true rfl⟩ ⟨Nat.le_of_ble_eq_true rfl, Nat.le_of_ble_eq_true rfl⟩ dX2_isSound_56 ?_
  refine z_eqst (st' := [.int 1]) (congrArg (fun v => Value.int v :: _) (g_17)) ?_
  refine z_if_eq (tgt := 66) C dX2_isSound_59 (by decide) (fun h => absurd h (by decide)) (fun _ => ?_)
  refine z_iconst (v := 1) C dX2_isSound_62 (by decide) ?_
  refine z_goto (tgt := 67) C dX2_isSound_63 (by decide) ?_
  refine z_istore_n (lv' := [(1, .int 1), (3, .int 2), (2, .int 2), (0, .ref (y 0))]) C dX2_isSound_67 rfl (by decide) rfl ?_
  refine z_iinc (q := 1) (v := 3) (lv' := [(3, .int 3), (1, .int 1), (2, .int 2), (0, .ref (y 0))]) C dX2_isSound_68 rfl (by decide) (by decide) rfl ?_
  refine z_goto (tgt := 34) C dX2_isSound_71 (by decide) ?_
  refine z_iload_n C dX2_isSound_34 rfl 0 rfl ?_
  refine z_bipush (v := 6) C dX2_isSound_35 (by decide) ?_
  refine z_icmp_ge (tgt := 74) C dX2_isSound_37 (by decide) (fun h => absurd h (by decide)) (fun _ => ?_)
  refine z_iload_n C dX2_isSound_40 rfl 1 rfl ?_
  refine z_if_eq (tgt := 66) C dX2_isSound_41 (by decide) (fun h => absurd h (by decide)) (fun _ => ?_)
  refine z_aload_n C dX2_isSound_44 rfl 3 rfl ?_
  refine z_get (CC := RX2) (T := TX2) (N := 10) (ci := 2) C hin 0 rfl rfl 0 (by decide) w1 rfl rfl dX2_isSound_45 ?_
  refine z_iload_n C dX2_isSound_48 rfl 2 rfl ?_
  refine z_lald C 1 1 rfl rfl (zvpl 2 6 (by decide)) dX2_isSound_49 ?_
  refine z_eqst (st' := [.long (d 2)]) rfl ?_
  refine z_aload_n C dX2_isSound_50 rfl 3 rfl ?_
  refine z_get (CC := RX2) (T := TX2) (N := 10) (ci := 2) C hin 0 rfl rfl 0 (by decide) w1 rfl rfl dX2_isSound_51 ?_
  refine z_iload_n C dX2_isSound_54 rfl 0 rfl ?_
  refine z_lald C 1 1 rfl rfl (zvpl 3 6 (by decide)) dX2_isSound_55 ?_
  refine z_eqst (st' := [.long (d 3), .long (d 2)]) rfl ?_
  refine z_si (rest := []) C (c_X2_isSoundWay l hfl D cI cJ _ (d 2) (d 3) ) q_X2_isSoundWay gX2_isSound_X2_isSoundWay ⟨rfl, rfl⟩ rfl rfl (Nat.le_of_ble_eq_true rfl) ⟨Nat.le_of_ble_eq_true rfl, Nat.le_of_ble_eq_true rfl⟩ ⟨Nat.le_of_ble_eq_true rfl, Nat.le_of_ble_eq_true rfl⟩ dX2_isSound_56 ?_
  refine z_eqst (st' := [.int 1]) (congrArg (fun v => Value.int v :: _) (g_18)) ?_
  refine z_if_eq (tgt := 66) C dX2_isSound_59 (by decide) (fun h => absurd h (by decide)) (fun _ => ?_)
  refine z_iconst (v := 1) C dX2_isSound_62 (by decide) ?_
  refine z_goto (tgt := 67) C dX2_isSound_63 (by decide) ?_
  refine z_istore_n (lv' := [(1, .int 1), (3, .int 3), (2, .int 2), (0, .ref (y 0))]) C dX2_isSound_67 rfl (by decide) rfl ?_
  refine z_iinc (q := 1) (v := 4) (lv' := [(3, .int 4), (1, .int 1), (2, .int 2), (0, .ref (y 0))]) C dX2_isSound_68 rfl (by decide) (by decide) rfl ?_
  refine z_goto (tgt := 34) C dX2_isSound_71 (by decide) ?_
  refine z_iload_n C dX2_isSound_34 rfl 0 rfl ?_
  refine z_bipush (v := 6) C dX2_isSound_35 (by decide) ?_
  refine z_icmp_ge (tgt := 74) C dX2_isSound_37 (by decide) (fun h => absurd h (by decide)) (fun _ => ?_)
  refine z_iload_n C dX2_isSound_40 rfl 1 rfl ?_
  refine z_if_eq (tgt := 66) C dX2_isSound_41 (by decide) (fun h => absurd h (by decide)) (fun _ => ?_)
  refine z_aload_n C dX2_isSound_44 rfl 3 rfl ?_
  refine z_get (CC := RX2) (T := TX2) (N := 10) (ci := 2) C hin 0 rfl rfl 0 (by decide) w1 rfl rfl dX2_isSound_45 ?_
  refine z_iload_n C dX2_isSound_48 rfl 2 rfl ?_
  refine z_lald C 1 1 rfl rfl (zvpl 2 6 (by decide)) dX2_isSound_49 ?_
  refine z_eqst (st' := [.long (d 2)]) rfl ?_
  refine z_aload_n C dX2_isSound_50 rfl 3 rfl ?_
  refine z_get (CC := RX2) (T := TX2) (N := 10) (ci := 2) C hin 0 rfl rfl 0 (by decide) w1 rfl rfl dX2_isSound_51 ?_
  refine z_iload_n C dX2_isSound_54 rfl 0 rfl ?_
  refine z_lald C 1 1 rfl rfl (zvpl 4 6 (by decide)) dX2_isSound_55 ?_
  refine z_eqst (st' := [.long (d 4), .long (d 2)]) rfl ?_
  refine z_si (rest := []) C (c_X2_isSoundWay l hfl D cI cJ _ (d 2) (d 4) ) q_X2_isSoundWay gX2_isSound_X2_isSoundWay ⟨rfl, rfl⟩ rfl rfl (Nat.le_of_ble_eq_true rfl) ⟨Nat.le_of_ble_eq_true rfl, Nat.le_of_ble_eq_true rfl⟩ ⟨Nat.le_of_ble_eq_true rfl, Nat.le_of_ble_eq_true rfl⟩ dX2_isSound_56 ?_
  refine z_eqst (st' := [.int 1]) (congrArg (fun v => Value.int v :: _) (g_19)) ?_
  refine z_if_eq (tgt := 66) C dX2_isSound_59 (by decide) (fun h => absurd h (by decide)) (fun _ => ?_)
  refine z_iconst (v := 1) C dX2_isSound_62 (by decide) ?_
  refine z_goto (tgt := 67) C dX2_isSound_63 (by decide) ?_
  refine z_istore_n (lv' := [(1, .int 1), (3, .int 4), (2, .int 2), (0, .ref (y 0))]) C dX2_isSound_67 rfl (by decide) rfl ?_
  refine z_iinc (q := 1) (v := 5) (lv' := [(3, .int 5), (1, .int 1), (2, .int 2), (0, .ref (y 0))]) C dX2_isSound_68 rfl (by decide) (by decide) rfl ?_
  refine z_goto (tgt := 34) C dX2_isSound_71 (by decide) ?_
  refine z_iload_n C dX2_isSound_34 rfl 0 rfl ?_
  refine z_bipush (v := 6) C dX2_isSound_35 (by decide) ?_
  refine z_icmp_ge (tgt := 74) C dX2_isSound_37 (by decide) (fun h => absurd h (by decide)) (fun _ => ?_)
  refine z_iload_n C dX2_isSound_40 rfl 1 rfl ?_
  refine z_if_eq (tgt := 66) C dX2_isSound_41 (by decide) (fun h => absurd h (by decide)) (fun _ => ?_)
  refine z_aload_n C dX2_isSound_44 rfl 3 rfl ?_
  refine z_get (CC := RX2) (T := TX2) (N := 10) (ci := 2) C hin 0 rfl rfl 0 (by decide) w1 rfl rfl dX2_isSound_45 ?_
  refine z_iload_n C dX2_isSound_48 rfl 2 rfl ?_
  refine z_lald C 1 1 rfl rfl (zvpl 2 6 (by decide)) dX2_isSound_49 ?_
  refine z_eqst (st' := [.long (d 2)]) rfl ?_
  refine z_aload_n C dX2_isSound_50 rfl 3 rfl ?_
  refine z_get (CC := RX2) (T := TX2) (N := 10) (ci := 2) C hin 0 rfl rfl 0 (by decide) w1 rfl rfl dX2_isSound_51 ?_
  refine z_iload_n C dX2_isSound_54 rfl 0 rfl ?_
  refine z_lald C 1 1 rfl rfl (zvpl 5 6 (by decide)) dX2_isSound_55 ?_
  refine z_eqst (st' := [.long (d 5), .long (d 2)]) rfl ?_
  refine z_si (rest := []) C (c_X2_isSoundWay l hfl D cI cJ _ (d 2) (d 5) ) q_X2_isSoundWay gX2_isSound_X2_isSoundWay ⟨rfl, rfl⟩ rfl rfl (Nat.le_of_ble_eq_true rfl) ⟨Nat.le_of_ble_eq_true rfl, Nat.le_of_ble_eq_true rfl⟩ ⟨Nat.le_of_ble_eq_true rfl, Nat.le_of_ble_eq_true rfl⟩ dX2_isSound_56 ?_
  refine z_eqst (st' := [.int 1]) (congrArg (fun v => Value.int v :: _) (g_20)) ?_
  refine z_if_eq (tgt := 66) C dX2_isSound_59 (by decide) (fun h => absurd h (by decide)) (fun _ => ?_)
  refine z_iconst (v := 1) C dX2_isSound_62 (by decide) ?_
  refine z_goto (tgt := 67) C dX2_isSound_63 (by decide) ?_
  refine z_istore_n (lv' := [(1, .int 1), (3, .int 5), (2, .int 2), (0, .ref (y 0))]) C dX2_isSound_67 rfl (by decide) rfl ?_
  refine z_iinc (q := 1) (v := 6) (lv' := [(3, .int 6), (1, .int 1), (2, .int 2), (0, .ref (y 0))]) C dX2_isSound_68 rfl (by decide) (by decide) rfl ?_
  refine z_goto (tgt := 34) C dX2_isSound_71 (by decide) ?_
  refine z_iload_n C dX2_isSound_34 rfl 0 rfl ?_
  refine z_bipush (v := 6) C dX2_isSound_35 (by decide) ?_
  refine z_icmp_ge (tgt := 74) C dX2_isSound_37 (by decide) (fun _ => ?_) (fun h => absurd (by decide) h)
  refine z_iinc (q := 2) (v := 3) (lv' := [(2, .int 3), (3, .int 6), (1, .int 1), (0, .ref (y 0))]) C dX2_isSound_74 rfl (by decide) (by decide) rfl ?_
  refine z_goto (tgt := 4) C dX2_isSound_77 (by decide) ?_
  refine z_iload_n C dX2_isSound_4 rfl 0 rfl ?_
  refine z_bipush (v := 6) C dX2_isSound_5 (by decide) ?_
  refine z_icmp_ge (tgt := 80) C dX2_isSound_7 (by decide) (fun h => absurd h (by decide)) (fun _ => ?_)
  refine z_iload_n C dX2_isSound_10 rfl 2 rfl ?_
  refine z_if_eq (tgt := 30) C dX2_isSound_11 (by decide) (fun h => absurd h (by decide)) (fun _ => ?_)
  refine z_aload_n C dX2_isSound_14 rfl 3 rfl ?_
  refine z_get (CC := RX2) (T := TX2) (N := 10) (ci := 2) C hin 0 rfl rfl 0 (by decide) w1 rfl rfl dX2_isSound_15 ?_
  refine z_iload_n C dX2_isSound_18 rfl 0 rfl ?_
  refine z_lald C 1 1 rfl rfl (zvpl 3 6 (by decide)) dX2_isSound_19 ?_
  refine z_eqst (st' := [.long (d 3)]) rfl ?_
  refine z_si (rest := []) C (c_X2_isSoundDay l hfl D cI cJ _ (d 3) ) q_X2_isSoundDay gX2_isSound_X2_isSoundDay ⟨rfl, rfl⟩ rfl rfl (Nat.le_of_ble_eq_true rfl) ⟨Nat.le_of_ble_eq_true rfl, Nat.le_of_ble_eq_true rfl⟩ ⟨Nat.le_of_ble_eq_true rfl, Nat.le_of_ble_eq_true rfl⟩ dX2_isSound_20 ?_
  refine z_eqst (st' := [.int 1]) (congrArg (fun v => Value.int v :: _) (g_21)) ?_
  refine z_if_eq (tgt := 30) C dX2_isSound_23 (by decide) (fun h => absurd h (by decide)) (fun _ => ?_)
  refine z_iconst (v := 1) C dX2_isSound_26 (by decide) ?_
  refine z_goto (tgt := 31) C dX2_isSound_27 (by decide) ?_
  refine z_istore_n (lv' := [(1, .int 1), (2, .int 3), (3, .int 6), (0, .ref (y 0))]) C dX2_isSound_31 rfl (by decide) rfl ?_
  refine z_iconst (v := 0) C dX2_isSound_32 (by decide) ?_
  refine z_istore_n (lv' := [(3, .int 0), (1, .int 1), (2, .int 3), (0, .ref (y 0))]) C dX2_isSound_33 rfl (by decide) rfl ?_
  refine z_iload_n C dX2_isSound_34 rfl 0 rfl ?_
  refine z_bipush (v := 6) C dX2_isSound_35 (by decide) ?_
  refine z_icmp_ge (tgt := 74) C dX2_isSound_37 (by decide) (fun h => absurd h (by decide)) (fun _ => ?_)
  refine z_iload_n C dX2_isSound_40 rfl 1 rfl ?_
  refine z_if_eq (tgt := 66) C dX2_isSound_41 (by decide) (fun h => absurd h (by decide)) (fun _ => ?_)
  refine z_aload_n C dX2_isSound_44 rfl 3 rfl ?_
  refine z_get (CC := RX2) (T := TX2) (N := 10) (ci := 2) C hin 0 rfl rfl 0 (by decide) w1 rfl rfl dX2_isSound_45 ?_
  refine z_iload_n C dX2_isSound_48 rfl 2 rfl ?_
  refine z_lald C 1 1 rfl rfl (zvpl 3 6 (by decide)) dX2_isSound_49 ?_
  refine z_eqst (st' := [.long (d 3)]) rfl ?_
  refine z_aload_n C dX2_isSound_50 rfl 3 rfl ?_
  refine z_get (CC := RX2) (T := TX2) (N := 10) (ci := 2) C hin 0 rfl rfl 0 (by decide) w1 rfl rfl dX2_isSound_51 ?_
  refine z_iload_n C dX2_isSound_54 rfl 0 rfl ?_
  refine z_lald C 1 1 rfl rfl (zvpl 0 6 (by decide)) dX2_isSound_55 ?_
  refine z_eqst (st' := [.long (d 0), .long (d 3)]) rfl ?_
  refine z_si (rest := []) C (c_X2_isSoundWay l hfl D cI cJ _ (d 3) (d 0) ) q_X2_isSoundWay gX2_isSound_X2_isSoundWay ⟨rfl, rfl⟩ rfl rfl (Nat.le_of_ble_eq_true rfl) ⟨Nat.le_of_ble_eq_true rfl, Nat.le_of_ble_eq_true rfl⟩ ⟨Nat.le_of_ble_eq_true rfl, Nat.le_of_ble_eq_true rfl⟩ dX2_isSound_56 ?_
  refine z_eqst (st' := [.int 1]) (congrArg (fun v => Value.int v :: _) (g_22)) ?_
  refine z_if_eq (tgt := 66) C dX2_isSound_59 (by decide) (fun h => absurd h (by decide)) (fun _ => ?_)
  refine z_iconst (v := 1) C dX2_isSound_62 (by decide) ?_
  refine z_goto (tgt := 67) C dX2_isSound_63 (by decide) ?_
  refine z_istore_n (lv' := [(1, .int 1), (3, .int 0), (2, .int 3), (0, .ref (y 0))]) C dX2_isSound_67 rfl (by decide) rfl ?_
  refine z_iinc (q := 1) (v := 1) (lv' := [(3, .int 1), (1, .int 1), (2, .int 3), (0, .ref (y 0))]) C dX2_isSound_68 rfl (by decide) (by decide) rfl ?_
  refine z_goto (tgt := 34) C dX2_isSound_71 (by decide) ?_
  refine z_iload_n C dX2_isSound_34 rfl 0 rfl ?_
  refine z_bipush (v := 6) C dX2_isSound_35 (by decide) ?_
  refine z_icmp_ge (tgt := 74) C dX2_isSound_37 (by decide) (fun h => absurd h (by decide)) (fun _ => ?_)
  refine z_iload_n C dX2_isSound_40 rfl 1 rfl ?_
  refine z_if_eq (tgt := 66) C dX2_isSound_41 (by decide) (fun h => absurd h (by decide)) (fun _ => ?_)
  refine z_aload_n C dX2_isSound_44 rfl 3 rfl ?_
  refine z_get (CC := RX2) (T := TX2) (N := 10) (ci := 2) C hin 0 rfl rfl 0 (by decide) w1 rfl rfl dX2_isSound_45 ?_
  refine z_iload_n C dX2_isSound_48 rfl 2 rfl ?_
  refine z_lald C 1 1 rfl rfl (zvpl 3 6 (by decide)) dX2_isSound_49 ?_
  refine z_eqst (st' := [.long (d 3)]) rfl ?_
  refine z_aload_n C dX2_isSound_50 rfl 3 rfl ?_
  refine z_get (CC := RX2) (T := TX2) (N := 10) (ci := 2) C hin 0 rfl rfl 0 (by decide) w1 rfl rfl dX2_isSound_51 ?_
  refine z_iload_n C dX2_isSound_54 rfl 0 rfl ?_
  refine z_lald C 1 1 rfl rfl (zvpl 1 6 (by decide)) dX2_isSound_55 ?_
  refine z_eqst (st' := [.long (d 1), .long (d 3)]) rfl ?_
  refine z_si (rest := []) C (c_X2_isSoundWay l hfl D cI cJ _ (d 3) (d 1) ) q_X2_isSoundWay gX2_isSound_X2_isSoundWay ⟨rfl, rfl⟩ rfl rfl (Nat.le_of_ble_eq_true rfl) ⟨Nat.le_of_ble_eq_true rfl, Nat.le_of_ble_eq_true rfl⟩ ⟨Nat.le_of_ble_eq_true rfl, Nat.le_of_ble_eq_true rfl⟩ dX2_isSound_56 ?_
  refine z_eqst (st' := [.int 1]) (congrArg (fun v => Value.int v :: _) (g_23)) ?_
  refine z_if_eq (tgt := 66) C dX2_isSound_59 (by decide) (fun h => absurd h (by decide)) (fun _ => ?_)
  refine z_iconst (v := 1) C dX2_isSound_62 (by decide) ?_
  refine z_goto (tgt := 67) C dX2_isSound_63 (by decide) ?_
  refine z_istore_n (lv' := [(1, .int 1), (3, .int 1), (2, .int 3), (0, .ref (y 0))]) C dX2_isSound_67 rfl (by decide) rfl ?_
  refine z_iinc (q := 1) (v := 2) (lv' := [(3, .int 2), (1, .int 1), (2, .int 3), (0, .ref (y 0))]) C dX2_isSound_68 rfl (by decide) (by decide) rfl ?_
  refine z_goto (tgt := 34) C dX2_isSound_71 (by decide) ?_
  refine z_iload_n C dX2_isSound_34 rfl 0 rfl ?_
  refine z_bipush (v := 6) C dX2_isSound_35 (by decide) ?_
  refine z_icmp_ge (tgt := 74) C dX2_isSound_37 (by decide) (fun h => absurd h (by decide)) (fun _ => ?_)
  refine z_iload_n C dX2_isSound_40 rfl 1 rfl ?_
  refine z_if_eq (tgt := 66) C dX2_isSound_41 (by decide) (fun h => absurd h (by decide)) (fun _ => ?_)
  refine z_aload_n C dX2_isSound_44 rfl 3 rfl ?_
  refine z_get (CC := RX2) (T := TX2) (N := 10) (ci := 2) C hin 0 rfl rfl 0 (by decide) w1 rfl rfl dX2_isSound_45 ?_
  refine z_iload_n C dX2_isSound_48 rfl 2 rfl ?_
  refine z_lald C 1 1 rfl rfl (zvpl 3 6 (by decide)) dX2_isSound_49 ?_
  refine z_eqst (st' := [.long (d 3)]) rfl ?_
  refine z_aload_n C dX2_isSound_50 rfl 3 rfl ?_
  refine z_get (CC := RX2) (T := TX2) (N := 10) (ci := 2) C hin 0 rfl rfl 0 (by decide) w1 rfl rfl dX2_isSound_51 ?_
  refine z_iload_n C dX2_isSound_54 rfl 0 rfl ?_
  refine z_lald C 1 1 rfl rfl (zvpl 2 6 (by decide)) dX2_isSound_55 ?_
  refine z_eqst (st' := [.long (d 2), .long (d 3)]) rfl ?_
  refine z_si (rest := []) C (c_X2_isSoundWay l hfl D cI cJ _ (d 3) (d 2) ) q_X2_isSoundWay gX2_isSound_X2_isSoundWay ⟨rfl, rfl⟩ rfl rfl (Nat.le_of_ble_eq_true rfl) ⟨Nat.le_of_ble_eq_true rfl, Nat.le_of_ble_eq_true rfl⟩ ⟨Nat.le_of_ble_eq_true rfl, Nat.le_of_ble_eq_true rfl⟩ dX2_isSound_56 ?_
  refine z_eqst (st' := [.int 1]) (congrArg (fun v => Value.int v :: _) (g_24)) ?_
  refine z_if_eq (tgt := 66) C dX2_isSound_59 (by decide) (fun h => absurd h (by decide)) (fun _ => ?_)
  refine z_iconst (v := 1) C dX2_isSound_62 (by decide) ?_
  refine z_goto (tgt := 67) C dX2_isSound_63 (by decide) ?_
  refine z_istore_n (lv' := [(1, .int 1), (3, .int 2), (2, .int 3), (0, .ref (y 0))]) C dX2_isSound_67 rfl (by decide) rfl ?_
  refine z_iinc (q := 1) (v := 3) (lv' := [(3, .int 3), (1, .int 1), (2, .int 3), (0, .ref (y 0))]) C dX2_isSound_68 rfl (by decide) (by decide) rfl ?_
  refine z_goto (tgt := 34) C dX2_isSound_71 (by decide) ?_
  refine z_iload_n C dX2_isSound_34 rfl 0 rfl ?_
  refine z_bipush (v := 6) C dX2_isSound_35 (by decide) ?_
  refine z_icmp_ge (tgt := 74) C dX2_isSound_37 (by decide) (fun h => absurd h (by decide)) (fun _ => ?_)
  refine z_iload_n C dX2_isSound_40 rfl 1 rfl ?_
  refine z_if_eq (tgt := 66) C dX2_isSound_41 (by decide) (fun h => absurd h (by decide)) (fun _ => ?_)
  refine z_aload_n C dX2_isSound_44 rfl 3 rfl ?_
  refine z_get (CC := RX2) (T := TX2) (N := 10) (ci := 2) C hin 0 rfl rfl 0 (by decide) w1 rfl rfl dX2_isSound_45 ?_
  refine z_iload_n C dX2_isSound_48 rfl 2 rfl ?_
  refine z_lald C 1 1 rfl rfl (zvpl 3 6 (by decide)) dX2_isSound_49 ?_
  refine z_eqst (st' := [.long (d 3)]) rfl ?_
  refine z_aload_n C dX2_isSound_50 rfl 3 rfl ?_
  refine z_get (CC := RX2) (T := TX2) (N := 10) (ci := 2) C hin 0 rfl rfl 0 (by decide) w1 rfl rfl dX2_isSound_51 ?_
  refine z_iload_n C dX2_isSound_54 rfl 0 rfl ?_
  refine z_lald C 1 1 rfl rfl (zvpl 3 6 (by decide)) dX2_isSound_55 ?_
  refine z_eqst (st' := [.long (d 3), .long (d 3)]) rfl ?_
  refine z_si (rest := []) C (c_X2_isSoundWay l hfl D cI cJ _ (d 3) (d 3) ) q_X2_isSoundWay gX2_isSound_X2_isSoundWay ⟨rfl, rfl⟩ rfl rfl (Nat.le_of_ble_eq_true rfl) ⟨Nat.le_of_ble_eq_true rfl, Nat.le_of_ble_eq_true rfl⟩ ⟨Nat.le_of_ble_eq_true rfl, Nat.le_of_ble_eq_true rfl⟩ dX2_isSound_56 ?_
  refine z_eqst (st' := [.int 1]) (congrArg (fun v => Value.int v :: _) (g_25)) ?_
  refine z_if_eq (tgt := 66) C dX2_isSound_59 (by decide) (fun h => absurd h (by decide)) (fun _ => ?_)
  refine z_iconst (v := 1) C dX2_isSound_62 (by decide) ?_
  refine z_goto (tgt := 67) C dX2_isSound_63 (by decide) ?_
  refine z_istore_n (lv' := [(1, .int 1), (3, .int 3), (2, .int 3), (0, .ref (y 0))]) C dX2_isSound_67 rfl (by decide) rfl ?_
  refine z_iinc (q := 1) (v := 4) (lv' := [(3, .int 4), (1, .int 1), (2, .int 3), (0, .ref (y 0))]) C dX2_isSound_68 rfl (by decide) (by decide) rfl ?_
  refine z_goto (tgt := 34) C dX2_isSound_71 (by decide) ?_
  refine z_iload_n C dX2_isSound_34 rfl 0 rfl ?_
  refine z_bipush (v := 6) C dX2_isSound_35 (by decide) ?_
  refine z_icmp_ge (tgt := 74) C dX2_isSound_37 (by decide) (fun h => absurd h (by decide)) (fun _ => ?_)
  refine z_iload_n C dX2_isSound_40 rfl 1 rfl ?_
  refine z_if_eq (tgt := 66) C dX2_isSound_41 (by decide) (fun h => absurd h (by decide)) (fun _ => ?_)
  refine z_aload_n C dX2_isSound_44 rfl 3 rfl ?_
  refine z_get (CC := RX2) (T := TX2) (N := 10) (ci := 2) C hin 0 rfl rfl 0 (by decide) w1 rfl rfl dX2_isSound_45 ?_
  refine z_iload_n C dX2_isSound_48 rfl 2 rfl ?_
  refine z_lald C 1 1 rfl rfl (zvpl 3 6 (by decide)) dX2_isSound_49 ?_
  refine z_eqst (st' := [.long (d 3)]) rfl ?_
  refine z_aload_n C dX2_isSound_50 rfl 3 rfl ?_
  refine z_get (CC := RX2) (T := TX2) (N := 10) (ci := 2) C hin 0 rfl rfl 0 (by decide) w1 rfl rfl dX2_isSound_51 ?_
  refine z_iload_n C dX2_isSound_54 rfl 0 rfl ?_
  refine z_lald C 1 1 rfl rfl (zvpl 4 6 (by decide)) dX2_isSound_55 ?_
  refine z_eqst (st' := [.long (d 4), .long (d 3)]) rfl ?_
  refine z_si (rest := []) C (c_X2_isSoundWay l hfl D cI cJ _ (d 3) (d 4) ) q_X2_isSoundWay gX2_isSound_X2_isSoundWay ⟨rfl, rfl⟩ rfl rfl (Nat.le_of_ble_eq_true rfl) ⟨Nat.le_of_ble_eq_true rfl, Nat.le_of_ble_eq_true rfl⟩ ⟨Nat.le_of_ble_eq_true rfl, Nat.le_of_ble_eq_true rfl⟩ dX2_isSound_56 ?_
  refine z_eqst (st' := [.int 1]) (congrArg (fun v => Value.int v :: _) (g_26)) ?_
  refine z_if_eq (tgt := 66) C dX2_isSound_59 (by decide) (fun h => absurd h (by decide)) (fun _ => ?_)
  refine z_iconst (v := 1) C dX2_isSound_62 (by decide) ?_
  refine z_goto (tgt := 67) C dX2_isSound_63 (by decide) ?_
  refine z_istore_n (lv' := [(1, .int 1), (3, .int 4), (2, .int 3), (0, .ref (y 0))]) C dX2_isSound_67 rfl (by decide) rfl ?_
  refine z_iinc (q := 1) (v := 5) (lv' := [(3, .int 5), (1, .int 1), (2, .int 3), (0, .ref (y 0))]) C dX2_isSound_68 rfl (by decide) (by decide) rfl ?_
  refine z_goto (tgt := 34) C dX2_isSound_71 (by decide) ?_
  refine z_iload_n C dX2_isSound_34 rfl 0 rfl ?_
  refine z_bipush (v := 6) C dX2_isSound_35 (by decide) ?_
  refine z_icmp_ge (tgt := 74) C dX2_isSound_37 (by decide) (fun h => absurd h (by decide)) (fun _ => ?_)
  refine z_iload_n C dX2_isSound_40 rfl 1 rfl ?_
  refine z_if_eq (tgt := 66) C dX2_isSound_41 (by decide) (fun h => absurd h (by decide)) (fun _ => ?_)
  refine z_aload_n C dX2_isSound_44 rfl 3 rfl ?_
  refine z_get (CC := RX2) (T := TX2) (N := 10) (ci := 2) C hin 0 rfl rfl 0 (by decide) w1 rfl rfl dX2_isSound_45 ?_
  refine z_iload_n C dX2_isSound_48 rfl 2 rfl ?_
  refine z_lald C 1 1 rfl rfl (zvpl 3 6 (by decide)) dX2_isSound_49 ?_
  refine z_eqst (st' := [.long (d 3)]) rfl ?_
  refine z_aload_n C dX2_isSound_50 rfl 3 rfl ?_
  refine z_get (CC := RX2) (T := TX2) (N := 10) (ci := 2) C hin 0 rfl rfl 0 (by decide) w1 rfl rfl dX2_isSound_51 ?_
  refine z_iload_n C dX2_isSound_54 rfl 0 rfl ?_
  refine z_lald C 1 1 rfl rfl (zvpl 5 6 (by decide)) dX2_isSound_55 ?_
  refine z_eqst (st' := [.long (d 5), .long (d 3)]) rfl ?_
  refine z_si (rest := []) C (c_X2_isSoundWay l hfl D cI cJ _ (d 3) (d 5) ) q_X2_isSoundWay gX2_isSound_X2_isSoundWay ⟨rfl, rfl⟩ rfl rfl (Nat.le_of_ble_eq_true rfl) ⟨Nat.le_of_ble_eq_true rfl, Nat.le_of_ble_eq_true rfl⟩ ⟨Nat.le_of_ble_eq_true rfl, Nat.le_of_ble_eq_true rfl⟩ dX2_isSound_56 ?_
  refine z_eqst (st' := [.int 1]) (congrArg (fun v => Value.int v :: _) (g_27)) ?_
  refine z_if_eq (tgt := 66) C dX2_isSound_59 (by decide) (fun h => absurd h (by decide)) (fun _ => ?_)
  refine z_iconst (v := 1) C dX2_isSound_62 (by decide) ?_
  refine z_goto (tgt := 67) C dX2_isSound_63 (by decide) ?_
  refine z_istore_n (lv' := [(1, .int 1), (3, .int 5), (2, .int 3), (0, .ref (y 0))]) C dX2_isSound_67 rfl (by decide) rfl ?_
  refine z_iinc (q := 1) (v := 6) (lv' := [(3, .int 6), (1, .int 1), (2, .int 3), (0, .ref (y 0))]) C dX2_isSound_68 rfl (by decide) (by decide) rfl ?_
  refine z_goto (tgt := 34) C dX2_isSound_71 (by decide) ?_
  refine z_iload_n C dX2_isSound_34 rfl 0 rfl ?_
  refine z_bipush (v := 6) C dX2_isSound_35 (by decide) ?_
  refine z_icmp_ge (tgt := 74) C dX2_isSound_37 (by decide) (fun _ => ?_) (fun h => absurd (by decide) h)
  refine z_iinc (q := 2) (v := 4) (lv' := [(2, .int 4), (3, .int 6), (1, .int 1), (0, .ref (y 0))]) C dX2_isSound_74 rfl (by decide) (by decide) rfl ?_
  refine z_goto (tgt := 4) C dX2_isSound_77 (by decide) ?_
  refine z_iload_n C dX2_isSound_4 rfl 0 rfl ?_
  refine z_bipush (v := 6) C dX2_isSound_5 (by decide) ?_
  refine z_icmp_ge (tgt := 80) C dX2_isSound_7 (by decide) (fun h => absurd h (by decide)) (fun _ => ?_)
  refine z_iload_n C dX2_isSound_10 rfl 2 rfl ?_
  refine z_if_eq (tgt := 30) C dX2_isSound_11 (by decide) (fun h => absurd h (by decide)) (fun _ => ?_)
  refine z_aload_n C dX2_isSound_14 rfl 3 rfl ?_
  refine z_get (CC := RX2) (T := TX2) (N := 10) (ci := 2) C hin 0 rfl rfl 0 (by decide) w1 rfl rfl dX2_isSound_15 ?_
  refine z_iload_n C dX2_isSound_18 rfl 0 rfl ?_
  refine z_lald C 1 1 rfl rfl (zvpl 4 6 (by decide)) dX2_isSound_19 ?_
  refine z_eqst (st' := [.long (d 4)]) rfl ?_
  refine z_si (rest := []) C (c_X2_isSoundDay l hfl D cI cJ _ (d 4) ) q_X2_isSoundDay gX2_isSound_X2_isSoundDay ⟨rfl, rfl⟩ rfl rfl (Nat.le_of_ble_eq_true rfl) ⟨Nat.le_of_ble_eq_true rfl, Nat.le_of_ble_eq_true rfl⟩ ⟨Nat.le_of_ble_eq_true rfl, Nat.le_of_ble_eq_true rfl⟩ dX2_isSound_20 ?_
  refine z_eqst (st' := [.int 1]) (congrArg (fun v => Value.int v :: _) (g_28)) ?_
  refine z_if_eq (tgt := 30) C dX2_isSound_23 (by decide) (fun h => absurd h (by decide)) (fun _ => ?_)
  refine z_iconst (v := 1) C dX2_isSound_26 (by decide) ?_
  refine z_goto (tgt := 31) C dX2_isSound_27 (by decide) ?_
  refine z_istore_n (lv' := [(1, .int 1), (2, .int 4), (3, .int 6), (0, .ref (y 0))]) C dX2_isSound_31 rfl (by decide) rfl ?_
  refine z_iconst (v := 0) C dX2_isSound_32 (by decide) ?_
  refine z_istore_n (lv' := [(3, .int 0), (1, .int 1), (2, .int 4), (0, .ref (y 0))]) C dX2_isSound_33 rfl (by decide) rfl ?_
  refine z_iload_n C dX2_isSound_34 rfl 0 rfl ?_
  refine z_bipush (v := 6) C dX2_isSound_35 (by decide) ?_
  refine z_icmp_ge (tgt := 74) C dX2_isSound_37 (by decide) (fun h => absurd h (by decide)) (fun _ => ?_)
  refine z_iload_n C dX2_isSound_40 rfl 1 rfl ?_
  refine z_if_eq (tgt := 66) C dX2_isSound_41 (by decide) (fun h => absurd h (by decide)) (fun _ => ?_)
  refine z_aload_n C dX2_isSound_44 rfl 3 rfl ?_
  refine z_get (CC := RX2) (T := TX2) (N := 10) (ci := 2) C hin 0 rfl rfl 0 (by decide) w1 rfl rfl dX2_isSound_45 ?_
  refine z_iload_n C dX2_isSound_48 rfl 2 rfl ?_
  refine z_lald C 1 1 rfl rfl (zvpl 4 6 (by decide)) dX2_isSound_49 ?_
  refine z_eqst (st' := [.long (d 4)]) rfl ?_
  refine z_aload_n C dX2_isSound_50 rfl 3 rfl ?_
  refine z_get (CC := RX2) (T := TX2) (N := 10) (ci := 2) C hin 0 rfl rfl 0 (by decide) w1 rfl rfl dX2_isSound_51 ?_
  refine z_iload_n C dX2_isSound_54 rfl 0 rfl ?_
  refine z_lald C 1 1 rfl rfl (zvpl 0 6 (by decide)) dX2_isSound_55 ?_
  refine z_eqst (st' := [.long (d 0), .long (d 4)]) rfl ?_
  refine z_si (rest := []) C (c_X2_isSoundWay l hfl D cI cJ _ (d 4) (d 0) ) q_X2_isSoundWay gX2_isSound_X2_isSoundWay ⟨rfl, rfl⟩ rfl rfl (Nat.le_of_ble_eq_true rfl) ⟨Nat.le_of_ble_eq_true rfl, Nat.le_of_ble_eq_true rfl⟩ ⟨Nat.le_of_ble_eq_true rfl, Nat.le_of_ble_eq_true rfl⟩ dX2_isSound_56 ?_
  refine z_eqst (st' := [.int 1]) (congrArg (fun v => Value.int v :: _) (g_29)) ?_
  refine z_if_eq (tgt := 66) C dX2_isSound_59 (by decide) (fun h => absurd h (by decide)) (fun _ => ?_)
  refine z_iconst (v := 1) C dX2_isSound_62 (by decide) ?_
  refine z_goto (tgt := 67) C dX2_isSound_63 (by decide) ?_
  refine z_istore_n (lv' := [(1, .int 1), (3, .int 0), (2, .int 4), (0, .ref (y 0))]) C dX2_isSound_67 rfl (by decide) rfl ?_
  refine z_iinc (q := 1) (v := 1) (lv' := [(3, .int 1), (1, .int 1), (2, .int 4), (0, .ref (y 0))]) C dX2_isSound_68 rfl (by decide) (by decide) rfl ?_
  refine z_goto (tgt := 34) C dX2_isSound_71 (by decide) ?_
  refine z_iload_n C dX2_isSound_34 rfl 0 rfl ?_
  refine z_bipush (v := 6) C dX2_isSound_35 (by decide) ?_
  refine z_icmp_ge (tgt := 74) C dX2_isSound_37 (by decide) (fun h => absurd h (by decide)) (fun _ => ?_)
  refine z_iload_n C dX2_isSound_40 rfl 1 rfl ?_
  refine z_if_eq (tgt := 66) C dX2_isSound_41 (by decide) (fun h => absurd h (by decide)) (fun _ => ?_)
  refine z_aload_n C dX2_isSound_44 rfl 3 rfl ?_
  refine z_get (CC := RX2) (T := TX2) (N := 10) (ci := 2) C hin 0 rfl rfl 0 (by decide) w1 rfl rfl dX2_isSound_45 ?_
  refine z_iload_n C dX2_isSound_48 rfl 2 rfl ?_
  refine z_lald C 1 1 rfl rfl (zvpl 4 6 (by decide)) dX2_isSound_49 ?_
  refine z_eqst (st' := [.long (d 4)]) rfl ?_
  refine z_aload_n C dX2_isSound_50 rfl 3 rfl ?_
  refine z_get (CC := RX2) (T := TX2) (N := 10) (ci := 2) C hin 0 rfl rfl 0 (by decide) w1 rfl rfl dX2_isSound_51 ?_
  refine z_iload_n C dX2_isSound_54 rfl 0 rfl ?_
  refine z_lald C 1 1 rfl rfl (zvpl 1 6 (by decide)) dX2_isSound_55 ?_
  refine z_eqst (st' := [.long (d 1), .long (d 4)]) rfl ?_
  refine z_si (rest := []) C (c_X2_isSoundWay l hfl D cI cJ _ (d 4) (d 1) ) q_X2_isSoundWay gX2_isSound_X2_isSoundWay ⟨rfl, rfl⟩ rfl rfl (Nat.le_of_ble_eq_true rfl) ⟨Nat.le_of_ble_eq_true rfl, Nat.le_of_ble_eq_true rfl⟩ ⟨Nat.le_of_ble_eq_true rfl, Nat.le_of_ble_eq_true rfl⟩ dX2_isSound_56 ?_
  refine z_eqst (st' := [.int 1]) (congrArg (fun v => Value.int v :: _) (g_30)) ?_
  refine z_if_eq (tgt := 66) C dX2_isSound_59 (by decide) (fun h => absurd h (by decide)) (fun _ => ?_)
  refine z_iconst (v := 1) C dX2_isSound_62 (by decide) ?_
  refine z_goto (tgt := 67) C dX2_isSound_63 (by decide) ?_
  refine z_istore_n (lv' := [(1, .int 1), (3, .int 1), (2, .int 4), (0, .ref (y 0))]) C dX2_isSound_67 rfl (by decide) rfl ?_
  refine z_iinc (q := 1) (v := 2) (lv' := [(3, .int 2), (1, .int 1), (2, .int 4), (0, .ref (y 0))]) C dX2_isSound_68 rfl (by decide) (by decide) rfl ?_
  refine z_goto (tgt := 34) C dX2_isSound_71 (by decide) ?_
  refine z_iload_n C dX2_isSound_34 rfl 0 rfl ?_
  refine z_bipush (v := 6) C dX2_isSound_35 (by decide) ?_
  refine z_icmp_ge (tgt := 74) C dX2_isSound_37 (by decide) (fun h => absurd h (by decide)) (fun _ => ?_)
  refine z_iload_n C dX2_isSound_40 rfl 1 rfl ?_
  refine z_if_eq (tgt := 66) C dX2_isSound_41 (by decide) (fun h => absurd h (by decide)) (fun _ => ?_)
  refine z_aload_n C dX2_isSound_44 rfl 3 rfl ?_
  refine z_get (CC := RX2) (T := TX2) (N := 10) (ci := 2) C hin 0 rfl rfl 0 (by decide) w1 rfl rfl dX2_isSound_45 ?_
  refine z_iload_n C dX2_isSound_48 rfl 2 rfl ?_
  refine z_lald C 1 1 rfl rfl (zvpl 4 6 (by decide)) dX2_isSound_49 ?_
  refine z_eqst (st' := [.long (d 4)]) rfl ?_
  refine z_aload_n C dX2_isSound_50 rfl 3 rfl ?_
  refine z_get (CC := RX2) (T := TX2) (N := 10) (ci := 2) C hin 0 rfl rfl 0 (by decide) w1 rfl rfl dX2_isSound_51 ?_
  refine z_iload_n C dX2_isSound_54 rfl 0 rfl ?_
  refine z_lald C 1 1 rfl rfl (zvpl 2 6 (by decide)) dX2_isSound_55 ?_
  refine z_eqst (st' := [.long (d 2), .long (d 4)]) rfl ?_
  refine z_si (rest := []) C (c_X2_isSoundWay l hfl D cI cJ _ (d 4) (d 2) ) q_X2_isSoundWay gX2_isSound_X2_isSoundWay ⟨rfl, rfl⟩ rfl rfl (Nat.le_of_ble_eq_true rfl) ⟨Nat.le_of_ble_eq_true rfl, Nat.le_of_ble_eq_true rfl⟩ ⟨Nat.le_of_ble_eq_true rfl, Nat.le_of_ble_eq_true rfl⟩ dX2_isSound_56 ?_
  refine z_eqst (st' := [.int 1]) (congrArg (fun v => Value.int v :: _) (g_31)) ?_
  refine z_if_eq (tgt := 66) C dX2_isSound_59 (by decide) (fun h => absurd h (by decide)) (fun _ => ?_)
  refine z_iconst (v := 1) C dX2_isSound_62 (by decide) ?_
  refine z_goto (tgt := 67) C dX2_isSound_63 (by decide) ?_
  refine z_istore_n (lv' := [(1, .int 1), (3, .int 2), (2, .int 4), (0, .ref (y 0))]) C dX2_isSound_67 rfl (by decide) rfl ?_
  refine z_iinc (q := 1) (v := 3) (lv' := [(3, .int 3), (1, .int 1), (2, .int 4), (0, .ref (y 0))]) C dX2_isSound_68 rfl (by decide) (by decide) rfl ?_
  refine z_goto (tgt := 34) C dX2_isSound_71 (by decide) ?_
  refine z_iload_n C dX2_isSound_34 rfl 0 rfl ?_
  refine z_bipush (v := 6) C dX2_isSound_35 (by decide) ?_
  refine z_icmp_ge (tgt := 74) C dX2_isSound_37 (by decide) (fun h => absurd h (by decide)) (fun _ => ?_)
  refine z_iload_n C dX2_isSound_40 rfl 1 rfl ?_
  refine z_if_eq (tgt := 66) C dX2_isSound_41 (by decide) (fun h => absurd h (by decide)) (fun _ => ?_)
  refine z_aload_n C dX2_isSound_44 rfl 3 rfl ?_
  refine z_get (CC := RX2) (T := TX2) (N := 10) (ci := 2) C hin 0 rfl rfl 0 (by decide) w1 rfl rfl dX2_isSound_45 ?_
  refine z_iload_n C dX2_isSound_48 rfl 2 rfl ?_
  refine z_lald C 1 1 rfl rfl (zvpl 4 6 (by decide)) dX2_isSound_49 ?_
  refine z_eqst (st' := [.long (d 4)]) rfl ?_
  refine z_aload_n C dX2_isSound_50 rfl 3 rfl ?_
  refine z_get (CC := RX2) (T := TX2) (N := 10) (ci := 2) C hin 0 rfl rfl 0 (by decide) w1 rfl rfl dX2_isSound_51 ?_
  refine z_iload_n C dX2_isSound_54 rfl 0 rfl ?_
  refine z_lald C 1 1 rfl rfl (zvpl 3 6 (by decide)) dX2_isSound_55 ?_
  refine z_eqst (st' := [.long (d 3), .long (d 4)]) rfl ?_
  refine z_si (rest := []) C (c_X2_isSoundWay l hfl D cI cJ _ (d 4) (d 3) ) q_X2_isSoundWay gX2_isSound_X2_isSoundWay ⟨rfl, rfl⟩ rfl rfl (Nat.le_of_ble_eq_true rfl) ⟨Nat.le_of_ble_eq_true rfl, Nat.le_of_ble_eq_true rfl⟩ ⟨Nat.le_of_ble_eq_true rfl, Nat.le_of_ble_eq_true rfl⟩ dX2_isSound_56 ?_
  refine z_eqst (st' := [.int 1]) (congrArg (fun v => Value.int v :: _) (g_32)) ?_
  refine z_if_eq (tgt := 66) C dX2_isSound_59 (by decide) (fun h => absurd h (by decide)) (fun _ => ?_)
  refine z_iconst (v := 1) C dX2_isSound_62 (by decide) ?_
  refine z_goto (tgt := 67) C dX2_isSound_63 (by decide) ?_
  refine z_istore_n (lv' := [(1, .int 1), (3, .int 3), (2, .int 4), (0, .ref (y 0))]) C dX2_isSound_67 rfl (by decide) rfl ?_
  refine z_iinc (q := 1) (v := 4) (lv' := [(3, .int 4), (1, .int 1), (2, .int 4), (0, .ref (y 0))]) C dX2_isSound_68 rfl (by decide) (by decide) rfl ?_
  refine z_goto (tgt := 34) C dX2_isSound_71 (by decide) ?_
  refine z_iload_n C dX2_isSound_34 rfl 0 rfl ?_
  refine z_bipush (v := 6) C dX2_isSound_35 (by decide) ?_
  refine z_icmp_ge (tgt := 74) C dX2_isSound_37 (by decide) (fun h => absurd h (by decide)) (fun _ => ?_)
  refine z_iload_n C dX2_isSound_40 rfl 1 rfl ?_
  refine z_if_eq (tgt := 66) C dX2_isSound_41 (by decide) (fun h => absurd h (by decide)) (fun _ => ?_)
  refine z_aload_n C dX2_isSound_44 rfl 3 rfl ?_
  refine z_get (CC := RX2) (T := TX2) (N := 10) (ci := 2) C hin 0 rfl rfl 0 (by decide) w1 rfl rfl dX2_isSound_45 ?_
  refine z_iload_n C dX2_isSound_48 rfl 2 rfl ?_
  refine z_lald C 1 1 rfl rfl (zvpl 4 6 (by decide)) dX2_isSound_49 ?_
  refine z_eqst (st' := [.long (d 4)]) rfl ?_
  refine z_aload_n C dX2_isSound_50 rfl 3 rfl ?_
  refine z_get (CC := RX2) (T := TX2) (N := 10) (ci := 2) C hin 0 rfl rfl 0 (by decide) w1 rfl rfl dX2_isSound_51 ?_
  refine z_iload_n C dX2_isSound_54 rfl 0 rfl ?_
  refine z_lald C 1 1 rfl rfl (zvpl 4 6 (by decide)) dX2_isSound_55 ?_
  refine z_eqst (st' := [.long (d 4), .long (d 4)]) rfl ?_
  refine z_si (rest := []) C (c_X2_isSoundWay l hfl D cI cJ _ (d 4) (d 4) ) q_X2_isSoundWay gX2_isSound_X2_isSoundWay ⟨rfl, rfl⟩ rfl rfl (Nat.le_of_ble_eq_true rfl) ⟨Nat.le_of_ble_eq_true rfl, Nat.le_of_ble_eq_true rfl⟩ ⟨Nat.le_of_ble_eq_true rfl, Nat.le_of_ble_eq_true rfl⟩ dX2_isSound_56 ?_
  refine z_eqst (st' := [.int 1]) (congrArg (fun v => Value.int v :: _) (g_33)) ?_
  refine z_if_eq (tgt := 66) C dX2_isSound_59 (by decide) (fun h => absurd h (by decide)) (fun _ => ?_)
  refine z_iconst (v := 1) C dX2_isSound_62 (by decide) ?_
  refine z_goto (tgt := 67) C dX2_isSound_63 (by decide) ?_
  refine z_istore_n (lv' := [(1, .int 1), (3, .int 4), (2, .int 4), (0, .ref (y 0))]) C dX2_isSound_67 rfl (by decide) rfl ?_
  refine z_iinc (q := 1) (v := 5) (lv' := [(3, .int 5), (1, .int 1), (2, .int 4), (0, .ref (y 0))]) C dX2_isSound_68 rfl (by decide) (by decide) rfl ?_
  refine z_goto (tgt := 34) C dX2_isSound_71 (by decide) ?_
  refine z_iload_n C dX2_isSound_34 rfl 0 rfl ?_
  refine z_bipush (v := 6) C dX2_isSound_35 (by decide) ?_
  refine z_icmp_ge (tgt := 74) C dX2_isSound_37 (by decide) (fun h => absurd h (by decide)) (fun _ => ?_)
  refine z_iload_n C dX2_isSound_40 rfl 1 rfl ?_
  refine z_if_eq (tgt := 66) C dX2_isSound_41 (by decide) (fun h => absurd h (by decide)) (fun _ => ?_)
  refine z_aload_n C dX2_isSound_44 rfl 3 rfl ?_
  refine z_get (CC := RX2) (T := TX2) (N := 10) (ci := 2) C hin 0 rfl rfl 0 (by decide) w1 rfl rfl dX2_isSound_45 ?_
  refine z_iload_n C dX2_isSound_48 rfl 2 rfl ?_
  refine z_lald C 1 1 rfl rfl (zvpl 4 6 (by decide)) dX2_isSound_49 ?_
  refine z_eqst (st' := [.long (d 4)]) rfl ?_
  refine z_aload_n C dX2_isSound_50 rfl 3 rfl ?_
  refine z_get (CC := RX2) (T := TX2) (N := 10) (ci := 2) C hin 0 rfl rfl 0 (by decide) w1 rfl rfl dX2_isSound_51 ?_
  refine z_iload_n C dX2_isSound_54 rfl 0 rfl ?_
  refine z_lald C 1 1 rfl rfl (zvpl 5 6 (by decide)) dX2_isSound_55 ?_
  refine z_eqst (st' := [.long (d 5), .long (d 4)]) rfl ?_
  refine z_si (rest := []) C (c_X2_isSoundWay l hfl D cI cJ _ (d 4) (d 5) ) q_X2_isSoundWay gX2_isSound_X2_isSoundWay ⟨rfl, rfl⟩ rfl rfl (Nat.le_of_ble_eq_true rfl) ⟨Nat.le_of_ble_eq_true rfl, Nat.le_of_ble_eq_true rfl⟩ ⟨Nat.le_of_ble_eq_true rfl, Nat.le_of_ble_eq_true rfl⟩ dX2_isSound_56 ?_
  refine z_eqst (st' := [.int 1]) (congrArg (fun v => Value.int v :: _) (g_34)) ?_
  refine z_if_eq (tgt := 66) C dX2_isSound_59 (by decide) (fun h => absurd h (by decide)) (fun _ => ?_)
  refine z_iconst (v := 1) C dX2_isSound_62 (by decide) ?_
  refine z_goto (tgt := 67) C dX2_isSound_63 (by decide) ?_
  refine z_istore_n (lv' := [(1, .int 1), (3, .int 5), (2, .int 4), (0, .ref (y 0))]) C dX2_isSound_67 rfl (by decide) rfl ?_
  refine z_iinc (q := 1) (v := 6) (lv' := [(3, .int 6), (1, .int 1), (2, .int 4), (0, .ref (y 0))]) C dX2_isSound_68 rfl (by decide) (by decide) rfl ?_
  refine z_goto (tgt := 34) C dX2_isSound_71 (by decide) ?_
  refine z_iload_n C dX2_isSound_34 rfl 0 rfl ?_
  refine z_bipush (v := 6) C dX2_isSound_35 (by decide) ?_
  refine z_icmp_ge (tgt := 74) C dX2_isSound_37 (by decide) (fun _ => ?_) (fun h => absurd (by decide) h)
  refine z_iinc (q := 2) (v := 5) (lv' := [(2, .int 5), (3, .int 6), (1, .int 1), (0, .ref (y 0))]) C dX2_isSound_74 rfl (by decide) (by decide) rfl ?_
  refine z_goto (tgt := 4) C dX2_isSound_77 (by decide) ?_
  refine z_iload_n C dX2_isSound_4 rfl 0 rfl ?_
  refine z_bipush (v := 6) C dX2_isSound_5 (by decide) ?_
  refine z_icmp_ge (tgt := 80) C dX2_isSound_7 (by decide) (fun h => absurd h (by decide)) (fun _ => ?_)
  refine z_iload_n C dX2_isSound_10 rfl 2 rfl ?_
  refine z_if_eq (tgt := 30) C dX2_isSound_11 (by decide) (fun h => absurd h (by decide)) (fun _ => ?_)
  refine z_aload_n C dX2_isSound_14 rfl 3 rfl ?_
  refine z_get (CC := RX2) (T := TX2) (N := 10) (ci := 2) C hin 0 rfl rfl 0 (by decide) w1 rfl rfl dX2_isSound_15 ?_
  refine z_iload_n C dX2_isSound_18 rfl 0 rfl ?_
  refine z_lald C 1 1 rfl rfl (zvpl 5 6 (by decide)) dX2_isSound_19 ?_
  refine z_eqst (st' := [.long (d 5)]) rfl ?_
  refine z_si (rest := []) C (c_X2_isSoundDay l hfl D cI cJ _ (d 5) ) q_X2_isSoundDay gX2_isSound_X2_isSoundDay ⟨rfl, rfl⟩ rfl rfl (Nat.le_of_ble_eq_true rfl) ⟨Nat.le_of_ble_eq_true rfl, Nat.le_of_ble_eq_true rfl⟩ ⟨Nat.le_of_ble_eq_true rfl, Nat.le_of_ble_eq_true rfl⟩ dX2_isSound_20 ?_
  refine z_eqst (st' := [.int 1]) (congrArg (fun v => Value.int v :: _) (g_35)) ?_
  refine z_if_eq (tgt := 30) C dX2_isSound_23 (by decide) (fun h => absurd h (by decide)) (fun _ => ?_)
  refine z_iconst (v := 1) C dX2_isSound_26 (by decide) ?_
  refine z_goto (tgt := 31) C dX2_isSound_27 (by decide) ?_
  refine z_istore_n (lv' := [(1, .int 1), (2, .int 5), (3, .int 6), (0, .ref (y 0))]) C dX2_isSound_31 rfl (by decide) rfl ?_
  refine z_iconst (v := 0) C dX2_isSound_32 (by decide) ?_
  refine z_istore_n (lv' := [(3, .int 0), (1, .int 1), (2, .int 5), (0, .ref (y 0))]) C dX2_isSound_33 rfl (by decide) rfl ?_
  refine z_iload_n C dX2_isSound_34 rfl 0 rfl ?_
  refine z_bipush (v := 6) C dX2_isSound_35 (by decide) ?_
  refine z_icmp_ge (tgt := 74) C dX2_isSound_37 (by decide) (fun h => absurd h (by decide)) (fun _ => ?_)
  refine z_iload_n C dX2_isSound_40 rfl 1 rfl ?_
  refine z_if_eq (tgt := 66) C dX2_isSound_41 (by decide) (fun h => absurd h (by decide)) (fun _ => ?_)
  refine z_aload_n C dX2_isSound_44 rfl 3 rfl ?_
  refine z_get (CC := RX2) (T := TX2) (N := 10) (ci := 2) C hin 0 rfl rfl 0 (by decide) w1 rfl rfl dX2_isSound_45 ?_
  refine z_iload_n C dX2_isSound_48 rfl 2 rfl ?_
  refine z_lald C 1 1 rfl rfl (zvpl 5 6 (by decide)) dX2_isSound_49 ?_
  refine z_eqst (st' := [.long (d 5)]) rfl ?_
  refine z_aload_n C dX2_isSound_50 rfl 3 rfl ?_
  refine z_get (CC := RX2) (T := TX2) (N := 10) (ci := 2) C hin 0 rfl rfl 0 (by decide) w1 rfl rfl dX2_isSound_51 ?_
  refine z_iload_n C dX2_isSound_54 rfl 0 rfl ?_
  refine z_lald C 1 1 rfl rfl (zvpl 0 6 (by decide)) dX2_isSound_55 ?_
  refine z_eqst (st' := [.long (d 0), .long (d 5)]) rfl ?_
  refine z_si (rest := []) C (c_X2_isSoundWay l hfl D cI cJ _ (d 5) (d 0) ) q_X2_isSoundWay gX2_isSound_X2_isSoundWay ⟨rfl, rfl⟩ rfl rfl (Nat.le_of_ble_eq_true rfl) ⟨Nat.le_of_ble_eq_true rfl, Nat.le_of_ble_eq_true rfl⟩ ⟨Nat.le_of_ble_eq_true rfl, Nat.le_of_ble_eq_true rfl⟩ dX2_isSound_56 ?_
  refine z_eqst (st' := [.int 1]) (congrArg (fun v => Value.int v :: _) (g_36)) ?_
  refine z_if_eq (tgt := 66) C dX2_isSound_59 (by decide) (fun h => absurd h (by decide)) (fun _ => ?_)
  refine z_iconst (v := 1) C dX2_isSound_62 (by decide) ?_
  refine z_goto (tgt := 67) C dX2_isSound_63 (by decide) ?_
  refine z_istore_n (lv' := [(1, .int 1), (3, .int 0), (2, .int 5), (0, .ref (y 0))]) C dX2_isSound_67 rfl (by decide) rfl ?_
  refine z_iinc (q := 1) (v := 1) (lv' := [(3, .int 1), (1, .int 1), (2, .int 5), (0, .ref (y 0))]) C dX2_isSound_68 rfl (by decide) (by decide) rfl ?_
  refine z_goto (tgt := 34) C dX2_isSound_71 (by decide) ?_
  refine z_iload_n C dX2_isSound_34 rfl 0 rfl ?_
  refine z_bipush (v := 6) C dX2_isSound_35 (by decide) ?_
  refine z_icmp_ge (tgt := 74) C dX2_isSound_37 (by decide) (fun h => absurd h (by decide)) (fun _ => ?_)
  refine z_iload_n C dX2_isSound_40 rfl 1 rfl ?_
  refine z_if_eq (tgt := 66) C dX2_isSound_41 (by decide) (fun h => absurd h (by decide)) (fun _ => ?_)
  refine z_aload_n C dX2_isSound_44 rfl 3 rfl ?_
  refine z_get (CC := RX2) (T := TX2) (N := 10) (ci := 2) C hin 0 rfl rfl 0 (by decide) w1 rfl rfl dX2_isSound_45 ?_
  refine z_iload_n C dX2_isSound_48 rfl 2 rfl ?_
  refine z_lald C 1 1 rfl rfl (zvpl 5 6 (by decide)) dX2_isSound_49 ?_
  refine z_eqst (st' := [.long (d 5)]) rfl ?_
  refine z_aload_n C dX2_isSound_50 rfl 3 rfl ?_
  refine z_get (CC := RX2) (T := TX2) (N := 10) (ci := 2) C hin 0 rfl rfl 0 (by decide) w1 rfl rfl dX2_isSound_51 ?_
  refine z_iload_n C dX2_isSound_54 rfl 0 rfl ?_
  refine z_lald C 1 1 rfl rfl (zvpl 1 6 (by decide)) dX2_isSound_55 ?_
  refine z_eqst (st' := [.long (d 1), .long (d 5)]) rfl ?_
  refine z_si (rest := []) C (c_X2_isSoundWay l hfl D cI cJ _ (d 5) (d 1) ) q_X2_isSoundWay gX2_isSound_X2_isSoundWay ⟨rfl, rfl⟩ rfl rfl (Nat.le_of_ble_eq_true rfl) ⟨Nat.le_of_ble_eq_true rfl, Nat.le_of_ble_eq_true rfl⟩ ⟨Nat.le_of_ble_eq_true rfl, Nat.le_of_ble_eq_true rfl⟩ dX2_isSound_56 ?_
  refine z_eqst (st' := [.int 1]) (congrArg (fun v => Value.int v :: _) (g_37)) ?_
  refine z_if_eq (tgt := 66) C dX2_isSound_59 (by decide) (fun h => absurd h (by decide)) (fun _ => ?_)
  refine z_iconst (v := 1) C dX2_isSound_62 (by decide) ?_
  refine z_goto (tgt := 67) C dX2_isSound_63 (by decide) ?_
  refine z_istore_n (lv' := [(1, .int 1), (3, .int 1), (2, .int 5), (0, .ref (y 0))]) C dX2_isSound_67 rfl (by decide) rfl ?_
  refine z_iinc (q := 1) (v := 2) (lv' := [(3, .int 2), (1, .int 1), (2, .int 5), (0, .ref (y 0))]) C dX2_isSound_68 rfl (by decide) (by decide) rfl ?_
  refine z_goto (tgt := 34) C dX2_isSound_71 (by decide) ?_
  refine z_iload_n C dX2_isSound_34 rfl 0 rfl ?_
  refine z_bipush (v := 6) C dX2_isSound_35 (by decide) ?_
  refine z_icmp_ge (tgt := 74) C dX2_isSound_37 (by decide) (fun h => absurd h (by decide)) (fun _ => ?_)
  refine z_iload_n C dX2_isSound_40 rfl 1 rfl ?_
  refine z_if_eq (tgt := 66) C dX2_isSound_41 (by decide) (fun h => absurd h (by decide)) (fun _ => ?_)
  refine z_aload_n C dX2_isSound_44 rfl 3 rfl ?_
  refine z_get (CC := RX2) (T := TX2) (N := 10) (ci := 2) C hin 0 rfl rfl 0 (by decide) w1 rfl rfl dX2_isSound_45 ?_
  refine z_iload_n C dX2_isSound_48 rfl 2 rfl ?_
  refine z_lald C 1 1 rfl rfl (zvpl 5 6 (by decide)) dX2_isSound_49 ?_
  refine z_eqst (st' := [.long (d 5)]) rfl ?_
  refine z_aload_n C dX2_isSound_50 rfl 3 rfl ?_
  refine z_get (CC := RX2) (T := TX2) (N := 10) (ci := 2) C hin 0 rfl rfl 0 (by decide) w1 rfl rfl dX2_isSound_51 ?_
  refine z_iload_n C dX2_isSound_54 rfl 0 rfl ?_
  refine z_lald C 1 1 rfl rfl (zvpl 2 6 (by decide)) dX2_isSound_55 ?_
  refine z_eqst (st' := [.long (d 2), .long (d 5)]) rfl ?_
  refine z_si (rest := []) C (c_X2_isSoundWay l hfl D cI cJ _ (d 5) (d 2) ) q_X2_isSoundWay gX2_isSound_X2_isSoundWay ⟨rfl, rfl⟩ rfl rfl (Nat.le_of_ble_eq_true rfl) ⟨Nat.le_of_ble_eq_true rfl, Nat.le_of_ble_eq_true rfl⟩ ⟨Nat.le_of_ble_eq_true rfl, Nat.le_of_ble_eq_true rfl⟩ dX2_isSound_56 ?_
  refine z_eqst (st' := [.int 1]) (congrArg (fun v => Value.int v :: _) (g_38)) ?_
  refine z_if_eq (tgt := 66) C dX2_isSound_59 (by decide) (fun h => absurd h (by decide)) (fun _ => ?_)
  refine z_iconst (v := 1) C dX2_isSound_62 (by decide) ?_
  refine z_goto (tgt := 67) C dX2_isSound_63 (by decide) ?_
  refine z_istore_n (lv' := [(1, .int 1), (3, .int 2), (2, .int 5), (0, .ref (y 0))]) C dX2_isSound_67 rfl (by decide) rfl ?_
  refine z_iinc (q := 1) (v := 3) (lv' := [(3, .int 3), (1, .int 1), (2, .int 5), (0, .ref (y 0))]) C dX2_isSound_68 rfl (by decide) (by decide) rfl ?_
  refine z_goto (tgt := 34) C dX2_isSound_71 (by decide) ?_
  refine z_iload_n C dX2_isSound_34 rfl 0 rfl ?_
  refine z_bipush (v := 6) C dX2_isSound_35 (by decide) ?_
  refine z_icmp_ge (tgt := 74) C dX2_isSound_37 (by decide) (fun h => absurd h (by decide)) (fun _ => ?_)
  refine z_iload_n C dX2_isSound_40 rfl 1 rfl ?_
  refine z_if_eq (tgt := 66) C dX2_isSound_41 (by decide) (fun h => absurd h (by decide)) (fun _ => ?_)
  refine z_aload_n C dX2_isSound_44 rfl 3 rfl ?_
  refine z_get (CC := RX2) (T := TX2) (N := 10) (ci := 2) C hin 0 rfl rfl 0 (by decide) w1 rfl rfl dX2_isSound_45 ?_
  refine z_iload_n C dX2_isSound_48 rfl 2 rfl ?_
  refine z_lald C 1 1 rfl rfl (zvpl 5 6 (by decide)) dX2_isSound_49 ?_
  refine z_eqst (st' := [.long (d 5)]) rfl ?_
  refine z_aload_n C dX2_isSound_50 rfl 3 rfl ?_
  refine z_get (CC := RX2) (T := TX2) (N := 10) (ci := 2) C hin 0 rfl rfl 0 (by decide) w1 rfl rfl dX2_isSound_51 ?_
  refine z_iload_n C dX2_isSound_54 rfl 0 rfl ?_
  refine z_lald C 1 1 rfl rfl (zvpl 3 6 (by decide)) dX2_isSound_55 ?_
  refine z_eqst (st' := [.long (d 3), .long (d 5)]) rfl ?_
  refine z_si (rest := []) C (c_X2_isSoundWay l hfl D cI cJ _ (d 5) (d 3) ) q_X2_isSoundWay gX2_isSound_X2_isSoundWay ⟨rfl, rfl⟩ rfl rfl (Nat.le_of_ble_eq_true rfl) ⟨Nat.le_of_ble_eq_true rfl, Nat.le_of_ble_eq_true rfl⟩ ⟨Nat.le_of_ble_eq_true rfl, Nat.le_of_ble_eq_true rfl⟩ dX2_isSound_56 ?_
  refine z_eqst (st' := [.int 1]) (congrArg (fun v => Value.int v :: _) (g_39)) ?_
  refine z_if_eq (tgt := 66) C dX2_isSound_59 (by decide) (fun h => absurd h (by decide)) (fun _ => ?_)
  refine z_iconst (v := 1) C dX2_isSound_62 (by decide) ?_
  refine z_goto (tgt := 67) C dX2_isSound_63 (by decide) ?_
  refine z_istore_n (lv' := [(1, .int 1), (3, .int 3), (2, .int 5), (0, .ref (y 0))]) C dX2_isSound_67 rfl (by decide) rfl ?_
  refine z_iinc (q := 1) (v := 4) (lv' := [(3, .int 4), (1, .int 1), (2, .int 5), (0, .ref (y 0))]) C dX2_isSound_68 rfl (by decide) (by decide) rfl ?_
  refine z_goto (tgt := 34) C dX2_isSound_71 (by decide) ?_
  refine z_iload_n C dX2_isSound_34 rfl 0 rfl ?_
  refine z_bipush (v := 6) C dX2_isSound_35 (by decide) ?_
  refine z_icmp_ge (tgt := 74) C dX2_isSound_37 (by decide) (fun h => absurd h (by decide)) (fun _ => ?_)
  refine z_iload_n C dX2_isSound_40 rfl 1 rfl ?_
  refine z_if_eq (tgt := 66) C dX2_isSound_41 (by decide) (fun h => absurd h (by decide)) (fun _ => ?_)
  refine z_aload_n C dX2_isSound_44 rfl 3 rfl ?_
  refine z_get (CC := RX2) (T := TX2) (N := 10) (ci := 2) C hin 0 rfl rfl 0 (by decide) w1 rfl rfl dX2_isSound_45 ?_
  refine z_iload_n C dX2_isSound_48 rfl 2 rfl ?_
  refine z_lald C 1 1 rfl rfl (zvpl 5 6 (by decide)) dX2_isSound_49 ?_
  refine z_eqst (st' := [.long (d 5)]) rfl ?_
  refine z_aload_n C dX2_isSound_50 rfl 3 rfl ?_
  refine z_get (CC := RX2) (T := TX2) (N := 10) (ci := 2) C hin 0 rfl rfl 0 (by decide) w1 rfl rfl dX2_isSound_51 ?_
  refine z_iload_n C dX2_isSound_54 rfl 0 rfl ?_
  refine z_lald C 1 1 rfl rfl (zvpl 4 6 (by decide)) dX2_isSound_55 ?_
  refine z_eqst (st' := [.long (d 4), .long (d 5)]) rfl ?_
  refine z_si (rest := []) C (c_X2_isSoundWay l hfl D cI cJ _ (d 5) (d 4) ) q_X2_isSoundWay gX2_isSound_X2_isSoundWay ⟨rfl, rfl⟩ rfl rfl (Nat.le_of_ble_eq_true rfl) ⟨Nat.le_of_ble_eq_true rfl, Nat.le_of_ble_eq_true rfl⟩ ⟨Nat.le_of_ble_eq_true rfl, Nat.le_of_ble_eq_true rfl⟩ dX2_isSound_56 ?_
  refine z_eqst (st' := [.int 1]) (congrArg (fun v => Value.int v :: _) (g_40)) ?_
  refine z_if_eq (tgt := 66) C dX2_isSound_59 (by decide) (fun h => absurd h (by decide)) (fun _ => ?_)
  refine z_iconst (v := 1) C dX2_isSound_62 (by decide) ?_
  refine z_goto (tgt := 67) C dX2_isSound_63 (by decide) ?_
  refine z_istore_n (lv' := [(1, .int 1), (3, .int 4), (2, .int 5), (0, .ref (y 0))]) C dX2_isSound_67 rfl (by decide) rfl ?_
  refine z_iinc (q := 1) (v := 5) (lv' := [(3, .int 5), (1, .int 1), (2, .int 5), (0, .ref (y 0))]) C dX2_isSound_68 rfl (by decide) (by decide) rfl ?_
  refine z_goto (tgt := 34) C dX2_isSound_71 (by decide) ?_
  refine z_iload_n C dX2_isSound_34 rfl 0 rfl ?_
  refine z_bipush (v := 6) C dX2_isSound_35 (by decide) ?_
  refine z_icmp_ge (tgt := 74) C dX2_isSound_37 (by decide) (fun h => absurd h (by decide)) (fun _ => ?_)
  refine z_iload_n C dX2_isSound_40 rfl 1 rfl ?_
  refine z_if_eq (tgt := 66) C dX2_isSound_41 (by decide) (fun h => absurd h (by decide)) (fun _ => ?_)
  refine z_aload_n C dX2_isSound_44 rfl 3 rfl ?_
  refine z_get (CC := RX2) (T := TX2) (N := 10) (ci := 2) C hin 0 rfl rfl 0 (by decide) w1 rfl rfl dX2_isSound_45 ?_
  refine z_iload_n C dX2_isSound_48 rfl 2 rfl ?_
  refine z_lald C 1 1 rfl rfl (zvpl 5 6 (by decide)) dX2_isSound_49 ?_
  refine z_eqst (st' := [.long (d 5)]) rfl ?_
  refine z_aload_n C dX2_isSound_50 rfl 3 rfl ?_
  refine z_get (CC := RX2) (T := TX2) (N := 10) (ci := 2) C hin 0 rfl rfl 0 (by decide) w1 rfl rfl dX2_isSound_51 ?_
  refine z_iload_n C dX2_isSound_54 rfl 0 rfl ?_
  refine z_lald C 1 1 rfl rfl (zvpl 5 6 (by decide)) dX2_isSound_55 ?_
  refine z_eqst (st' := [.long (d 5), .long (d 5)]) rfl ?_
  refine z_si (rest := []) C (c_X2_isSoundWay l hfl D cI cJ _ (d 5) (d 5) ) q_X2_isSoundWay gX2_isSound_X2_isSoundWay ⟨rfl, rfl⟩ rfl rfl (Nat.le_of_ble_eq_true rfl) ⟨Nat.le_of_ble_eq_true rfl, Nat.le_of_ble_eq_true rfl⟩ ⟨Nat.le_of_ble_eq_true rfl, Nat.le_of_ble_eq_true rfl⟩ dX2_isSound_56 ?_
  refine z_eqst (st' := [.int 1]) (congrArg (fun v => Value.int v :: _) (g_41)) ?_
  refine z_if_eq (tgt := 66) C dX2_isSound_59 (by decide) (fun h => absurd h (by decide)) (fun _ => ?_)
  refine z_iconst (v := 1) C dX2_isSound_62 (by decide) ?_
  refine z_goto (tgt := 67) C dX2_isSound_63 (by decide) ?_
  refine z_istore_n (lv' := [(1, .int 1), (3, .int 5), (2, .int 5), (0, .ref (y 0))]) C dX2_isSound_67 rfl (by decide) rfl ?_
  refine z_iinc (q := 1) (v := 6) (lv' := [(3, .int 6), (1, .int 1), (2, .int 5), (0, .ref (y 0))]) C dX2_isSound_68 rfl (by decide) (by decide) rfl ?_
  refine z_goto (tgt := 34) C dX2_isSound_71 (by decide) ?_
  refine z_iload_n C dX2_isSound_34 rfl 0 rfl ?_
  refine z_bipush (v := 6) C dX2_isSound_35 (by decide) ?_
  refine z_icmp_ge (tgt := 74) C dX2_isSound_37 (by decide) (fun _ => ?_) (fun h => absurd (by decide) h)
  refine z_iinc (q := 2) (v := 6) (lv' := [(2, .int 6), (3, .int 6), (1, .int 1), (0, .ref (y 0))]) C dX2_isSound_74 rfl (by decide) (by decide) rfl ?_
  refine z_goto (tgt := 4) C dX2_isSound_77 (by decide) ?_
  refine z_iload_n C dX2_isSound_4 rfl 0 rfl ?_
  refine z_bipush (v := 6) C dX2_isSound_5 (by decide) ?_
  refine z_icmp_ge (tgt := 80) C dX2_isSound_7 (by decide) (fun _ => ?_) (fun h => absurd (by decide) h)
  refine z_iconst (v := 0) C dX2_isSound_80 (by decide) ?_
  refine z_istore_n (lv' := [(2, .int 0), (3, .int 6), (1, .int 1), (0, .ref (y 0))]) C dX2_isSound_81 rfl (by decide) rfl ?_
  refine z_iload_n C dX2_isSound_82 rfl 0 rfl ?_
  refine z_iconst (v := 4) C dX2_isSound_83 (by decide) ?_
  refine z_icmp_ge (tgt := 165) C dX2_isSound_84 (by decide) (fun h => absurd h (by decide)) (fun _ => ?_)
  refine z_iload_n C dX2_isSound_87 rfl 2 rfl ?_
  refine z_if_eq (tgt := 107) C dX2_isSound_88 (by decide) (fun h => absurd h (by decide)) (fun _ => ?_)
  refine z_aload_n C dX2_isSound_91 rfl 3 rfl ?_
  refine z_get (CC := RX2) (T := TX2) (N := 10) (ci := 2) C hin 0 rfl rfl 8 (by decide) w2 rfl rfl dX2_isSound_92 ?_
  refine z_iload_n C dX2_isSound_95 rfl 0 rfl ?_
  refine z_lald C 9 1 rfl rfl (zvpl 0 4 (by decide)) dX2_isSound_96 ?_
  refine z_eqst (st' := [.long (mD 0)]) rfl ?_
  refine z_si (rest := []) C (c_X2_isSoundDay l hfl D cI cJ _ (mD 0) ) q_X2_isSoundDay gX2_isSound_X2_isSoundDay ⟨rfl, rfl⟩ rfl rfl (Nat.le_of_ble_eq_true rfl) ⟨Nat.le_of_ble_eq_true rfl, Nat.le_of_ble_eq_true rfl⟩ ⟨Nat.le_of_ble_eq_true rfl, Nat.le_of_ble_eq_true rfl⟩ dX2_isSound_97 ?_
  refine z_eqst (st' := [.int 1]) (congrArg (fun v => Value.int v :: _) (g_42)) ?_
  refine z_if_eq (tgt := 107) C dX2_isSound_100 (by decide) (fun h => absurd h (by decide)) (fun _ => ?_)
  refine z_iconst (v := 1) C dX2_isSound_103 (by decide) ?_
  refine z_goto (tgt := 108) C dX2_isSound_104 (by decide) ?_
  refine z_istore_n (lv' := [(1, .int 1), (2, .int 0), (3, .int 6), (0, .ref (y 0))]) C dX2_isSound_108 rfl (by decide) rfl ?_
  refine z_iconst (v := 0) C dX2_isSound_109 (by decide) ?_
  refine z_istore_n (lv' := [(3, .int 0), (1, .int 1), (2, .int 0), (0, .ref (y 0))]) C dX2_isSound_110 rfl (by decide) rfl ?_
  refine z_iload_n C dX2_isSound_111 rfl 0 rfl ?_
  refine z_iconst (v := 4) C dX2_isSound_112 (by decide) ?_
  refine z_icmp_ge (tgt := 159) C dX2_isSound_113 (by decide) (fun h => absurd h (by decide)) (fun _ => ?_)
  refine z_iload_n C dX2_isSound_116 rfl 1 rfl ?_
  refine z_if_eq (tgt := 151) C dX2_isSound_117 (by decide) (fun h => absurd h (by decide)) (fun _ => ?_)
  refine z_aload_n C dX2_isSound_120 rfl 3 rfl ?_
  refine z_get (CC := RX2) (T := TX2) (N := 10) (ci := 2) C hin 0 rfl rfl 5 (by decide) w3 rfl rfl dX2_isSound_121 ?_
  refine z_iload_n C dX2_isSound_124 rfl 2 rfl ?_
  refine z_lald C 6 1 rfl rfl (zvpl 0 4 (by decide)) dX2_isSound_125 ?_
  refine z_eqst (st' := [.long (ti 0)]) rfl ?_
  refine z_aload_n C dX2_isSound_126 rfl 3 rfl ?_
  refine z_get (CC := RX2) (T := TX2) (N := 10) (ci := 2) C hin 0 rfl rfl 5 (by decide) w3 rfl rfl dX2_isSound_127 ?_
  refine z_iload_n C dX2_isSound_130 rfl 0 rfl ?_
  refine z_lald C 6 1 rfl rfl (zvpl 0 4 (by decide)) dX2_isSound_131 ?_
  refine z_eqst (st' := [.long (ti 0), .long (ti 0)]) rfl ?_
  refine z_si (rest := []) C (c_X2_isSoundTimeWay l hfl D cI cJ _ (ti 0) (ti 0) ) q_X2_isSoundTimeWay gX2_isSound_X2_isSoundTimeWay ⟨rfl, rfl⟩ rfl rfl (Nat.le_of_ble_eq_true rfl) ⟨Nat.le_of_ble_eq_true rfl, Nat.le_of_ble_eq_true rfl⟩ ⟨Nat.le_of_ble_eq_true rfl, Nat.le_of_ble_eq_true rfl⟩ dX2_isSound_132 ?_
  refine z_eqst (st' := [.int 1]) (congrArg (fun v => Value.int v :: _) (g_43)) ?_
  refine z_if_eq (tgt := 151) C dX2_isSound_135 (by decide) (fun h => absurd h (by decide)) (fun _ => ?_)
  refine z_aload_n C dX2_isSound_138 rfl 3 rfl ?_
  refine z_iload_n C dX2_isSound_139 rfl 2 rfl ?_
  refine z_iload_n C dX2_isSound_140 rfl 0 rfl ?_
  refine z_wi (ws' := (wY cI cJ y d sy sm sd mi ti sL bL mD mT X)) (rest := []) (ci := 2) (q0 := 0) C (c_X2_isSoundMomentWay l hfl D cI cJ X y d sy sm sd mi ti sL bL mD mT (0 : Int32) (0 : Int32) (zvpl 0 4 (by decide)) (zvpl 0 4 (by decide))) q_X2_isSoundMomentWay rfl rfl rfl gX2_isSound_X2_isSoundMomentWay ⟨rfl, rfl⟩ rfl rfl (Nat.le_of_ble_eq_true rfl) ⟨Nat.le_of_ble_eq_true rfl, Nat.le_of_ble_eq_true rfl⟩ ⟨Nat.le_of_ble_eq_true rfl, Nat.le_of_ble_eq_true rfl⟩ dX2_isSound_141 ?_
  refine z_eqst (st' := [.int 1]) (congrArg (fun v => Value.int v :: _) (g_44)) ?_
  refine z_if_eq (tgt := 151) C dX2_isSound_144 (by decide) (fun h => absurd h (by decide)) (fun _ => ?_)
  refine z_iconst (v := 1) C dX2_isSound_147 (by decide) ?_
  refine z_goto (tgt := 152) C dX2_isSound_148 (by decide) ?_
  refine z_istore_n (lv' := [(1, .int 1), (3, .int 0), (2, .int 0), (0, .ref (y 0))]) C dX2_isSound_152 rfl (by decide) rfl ?_
  refine z_iinc (q := 1) (v := 1) (lv' := [(3, .int 1), (1, .int 1), (2, .int 0), (0, .ref (y 0))]) C dX2_isSound_153 rfl (by decide) (by decide) rfl ?_
  refine z_goto (tgt := 111) C dX2_isSound_156 (by decide) ?_
  refine z_iload_n C dX2_isSound_111 rfl 0 rfl ?_
  refine z_iconst (v := 4) C dX2_isSound_112 (by decide) ?_
  refine z_icmp_ge (tgt := 159) C dX2_isSound_113 (by decide) (fun h => absurd h (by decide)) (fun _ => ?_)
  refine z_iload_n C dX2_isSound_116 rfl 1 rfl ?_
  refine z_if_eq (tgt := 151) C dX2_isSound_117 (by decide) (fun h => absurd h (by decide)) (fun _ => ?_)
  refine z_aload_n C dX2_isSound_120 rfl 3 rfl ?_
  refine z_get (CC := RX2) (T := TX2) (N := 10) (ci := 2) C hin 0 rfl rfl 5 (by decide) w3 rfl rfl dX2_isSound_121 ?_
  refine z_iload_n C dX2_isSound_124 rfl 2 rfl ?_
  refine z_lald C 6 1 rfl rfl (zvpl 0 4 (by decide)) dX2_isSound_125 ?_
  refine z_eqst (st' := [.long (ti 0)]) rfl ?_
  refine z_aload_n C dX2_isSound_126 rfl 3 rfl ?_
  refine z_get (CC := RX2) (T := TX2) (N := 10) (ci := 2) C hin 0 rfl rfl 5 (by decide) w3 rfl rfl dX2_isSound_127 ?_
  refine z_iload_n C dX2_isSound_130 rfl 0 rfl ?_
  refine z_lald C 6 1 rfl rfl (zvpl 1 4 (by decide)) dX2_isSound_131 ?_
  refine z_eqst (st' := [.long (ti 1), .long (ti 0)]) rfl ?_
  refine z_si (rest := []) C (c_X2_isSoundTimeWay l hfl D cI cJ _ (ti 0) (ti 1) ) q_X2_isSoundTimeWay gX2_isSound_X2_isSoundTimeWay ⟨rfl, rfl⟩ rfl rfl (Nat.le_of_ble_eq_true rfl) ⟨Nat.le_of_ble_eq_true rfl, Nat.le_of_ble_eq_true rfl⟩ ⟨Nat.le_of_ble_eq_true rfl, Nat.le_of_ble_eq_true rfl⟩ dX2_isSound_132 ?_
  refine z_eqst (st' := [.int 1]) (congrArg (fun v => Value.int v :: _) (g_45)) ?_
  refine z_if_eq (tgt := 151) C dX2_isSound_135 (by decide) (fun h => absurd h (by decide)) (fun _ => ?_)
  refine z_aload_n C dX2_isSound_138 rfl 3 rfl ?_
  refine z_iload_n C dX2_isSound_139 rfl 2 rfl ?_
  refine z_iload_n C dX2_isSound_140 rfl 0 rfl ?_
  refine z_wi (ws' := (wY cI cJ y d sy sm sd mi ti sL bL mD mT X)) (rest := []) (ci := 2) (q0 := 0) C (c_X2_isSoundMomentWay l hfl D cI cJ X y d sy sm sd mi ti sL bL mD mT (0 : Int32) (1 : Int32) (zvpl 0 4 (by decide)) (zvpl 1 4 (by decide))) q_X2_isSoundMomentWay rfl rfl rfl gX2_isSound_X2_isSoundMomentWay ⟨rfl, rfl⟩ rfl rfl (Nat.le_of_ble_eq_true rfl) ⟨Nat.le_of_ble_eq_true rfl, Nat.le_of_ble_eq_true rfl⟩ ⟨Nat.le_of_ble_eq_true rfl, Nat.le_of_ble_eq_true rfl⟩ dX2_isSound_141 ?_
  refine z_eqst (st' := [.int 1]) (congrArg (fun v => Value.int v :: _) (g_46)) ?_
  refine z_if_eq (tgt := 151) C dX2_isSound_144 (by decide) (fun h => absurd h (by decide)) (fun _ => ?_)
  refine z_iconst (v := 1) C dX2_isSound_147 (by decide) ?_
  refine z_goto (tgt := 152) C dX2_isSound_148 (by decide) ?_
  refine z_istore_n (lv' := [(1, .int 1), (3, .int 1), (2, .int 0), (0, .ref (y 0))]) C dX2_isSound_152 rfl (by decide) rfl ?_
  refine z_iinc (q := 1) (v := 2) (lv' := [(3, .int 2), (1, .int 1), (2, .int 0), (0, .ref (y 0))]) C dX2_isSound_153 rfl (by decide) (by decide) rfl ?_
  refine z_goto (tgt := 111) C dX2_isSound_156 (by decide) ?_
  refine z_iload_n C dX2_isSound_111 rfl 0 rfl ?_
  refine z_iconst (v := 4) C dX2_isSound_112 (by decide) ?_
  refine z_icmp_ge (tgt := 159) C dX2_isSound_113 (by decide) (fun h => absurd h (by decide)) (fun _ => ?_)
  refine z_iload_n C dX2_isSound_116 rfl 1 rfl ?_
  refine z_if_eq (tgt := 151) C dX2_isSound_117 (by decide) (fun h => absurd h (by decide)) (fun _ => ?_)
  refine z_aload_n C dX2_isSound_120 rfl 3 rfl ?_
  refine z_get (CC := RX2) (T := TX2) (N := 10) (ci := 2) C hin 0 rfl rfl 5 (by decide) w3 rfl rfl dX2_isSound_121 ?_
  refine z_iload_n C dX2_isSound_124 rfl 2 rfl ?_
  refine z_lald C 6 1 rfl rfl (zvpl 0 4 (by decide)) dX2_isSound_125 ?_
  refine z_eqst (st' := [.long (ti 0)]) rfl ?_
  refine z_aload_n C dX2_isSound_126 rfl 3 rfl ?_
  refine z_get (CC := RX2) (T := TX2) (N := 10) (ci := 2) C hin 0 rfl rfl 5 (by decide) w3 rfl rfl dX2_isSound_127 ?_
  refine z_iload_n C dX2_isSound_130 rfl 0 rfl ?_
  refine z_lald C 6 1 rfl rfl (zvpl 2 4 (by decide)) dX2_isSound_131 ?_
  refine z_eqst (st' := [.long (ti 2), .long (ti 0)]) rfl ?_
  refine z_si (rest := []) C (c_X2_isSoundTimeWay l hfl D cI cJ _ (ti 0) (ti 2) ) q_X2_isSoundTimeWay gX2_isSound_X2_isSoundTimeWay ⟨rfl, rfl⟩ rfl rfl (Nat.le_of_ble_eq_true rfl) ⟨Nat.le_of_ble_eq_true rfl, Nat.le_of_ble_eq_true rfl⟩ ⟨Nat.le_of_ble_eq_true rfl, Nat.le_of_ble_eq_true rfl⟩ dX2_isSound_132 ?_
  refine z_eqst (st' := [.int 1]) (congrArg (fun v => Value.int v :: _) (g_47)) ?_
  refine z_if_eq (tgt := 151) C dX2_isSound_135 (by decide) (fun h => absurd h (by decide)) (fun _ => ?_)
  refine z_aload_n C dX2_isSound_138 rfl 3 rfl ?_
  refine z_iload_n C dX2_isSound_139 rfl 2 rfl ?_
  refine z_iload_n C dX2_isSound_140 rfl 0 rfl ?_
  refine z_wi (ws' := (wY cI cJ y d sy sm sd mi ti sL bL mD mT X)) (rest := []) (ci := 2) (q0 := 0) C (c_X2_isSoundMomentWay l hfl D cI cJ X y d sy sm sd mi ti sL bL mD mT (0 : Int32) (2 : Int32) (zvpl 0 4 (by decide)) (zvpl 2 4 (by decide))) q_X2_isSoundMomentWay rfl rfl rfl gX2_isSound_X2_isSoundMomentWay ⟨rfl, rfl⟩ rfl rfl (Nat.le_of_ble_eq_true rfl) ⟨Nat.le_of_ble_eq_true rfl, Nat.le_of_ble_eq_true rfl⟩ ⟨Nat.le_of_ble_eq_true rfl, Nat.le_of_ble_eq_true rfl⟩ dX2_isSound_141 ?_
  refine z_eqst (st' := [.int 1]) (congrArg (fun v => Value.int v :: _) (g_48)) ?_
  refine z_if_eq (tgt := 151) C dX2_isSound_144 (by decide) (fun h => absurd h (by decide)) (fun _ => ?_)
  refine z_iconst (v := 1) C dX2_isSound_147 (by decide) ?_
  refine z_goto (tgt := 152) C dX2_isSound_148 (by decide) ?_
  refine z_istore_n (lv' := [(1, .int 1), (3, .int 2), (2, .int 0), (0, .ref (y 0))]) C dX2_isSound_152 rfl (by decide) rfl ?_
  refine z_iinc (q := 1) (v := 3) (lv' := [(3, .int 3), (1, .int 1), (2, .int 0), (0, .ref (y 0))]) C dX2_isSound_153 rfl (by decide) (by decide) rfl ?_
  refine z_goto (tgt := 111) C dX2_isSound_156 (by decide) ?_
  refine z_iload_n C dX2_isSound_111 rfl 0 rfl ?_
  refine z_iconst (v := 4) C dX2_isSound_112 (by decide) ?_
  refine z_icmp_ge (tgt := 159) C dX2_isSound_113 (by decide) (fun h => absurd h (by decide)) (fun _ => ?_)
  refine z_iload_n C dX2_isSound_116 rfl 1 rfl ?_
  refine z_if_eq (tgt := 151) C dX2_isSound_117 (by decide) (fun h => absurd h (by decide)) (fun _ => ?_)
  refine z_aload_n C dX2_isSound_120 rfl 3 rfl ?_
  refine z_get (CC := RX2) (T := TX2) (N := 10) (ci := 2) C hin 0 rfl rfl 5 (by decide) w3 rfl rfl dX2_isSound_121 ?_
  refine z_iload_n C dX2_isSound_124 rfl 2 rfl ?_
  refine z_lald C 6 1 rfl rfl (zvpl 0 4 (by decide)) dX2_isSound_125 ?_
  refine z_eqst (st' := [.long (ti 0)]) rfl ?_
  refine z_aload_n C dX2_isSound_126 rfl 3 rfl ?_
  refine z_get (CC := RX2) (T := TX2) (N := 10) (ci := 2) C hin 0 rfl rfl 5 (by decide) w3 rfl rfl dX2_isSound_127 ?_
  refine z_iload_n C dX2_isSound_130 rfl 0 rfl ?_
  refine z_lald C 6 1 rfl rfl (zvpl 3 4 (by decide)) dX2_isSound_131 ?_
  refine z_eqst (st' := [.long (ti 3), .long (ti 0)]) rfl ?_
  refine z_si (rest := []) C (c_X2_isSoundTimeWay l hfl D cI cJ _ (ti 0) (ti 3) ) q_X2_isSoundTimeWay gX2_isSound_X2_isSoundTimeWay ⟨rfl, rfl⟩ rfl rfl (Nat.le_of_ble_eq_true rfl) ⟨Nat.le_of_ble_eq_true rfl, Nat.le_of_ble_eq_true rfl⟩ ⟨Nat.le_of_ble_eq_true rfl, Nat.le_of_ble_eq_true rfl⟩ dX2_isSound_132 ?_
  refine z_eqst (st' := [.int 1]) (congrArg (fun v => Value.int v :: _) (g_49)) ?_
  refine z_if_eq (tgt := 151) C dX2_isSound_135 (by decide) (fun h => absurd h (by decide)) (fun _ => ?_)
  refine z_aload_n C dX2_isSound_138 rfl 3 rfl ?_
  refine z_iload_n C dX2_isSound_139 rfl 2 rfl ?_
  refine z_iload_n C dX2_isSound_140 rfl 0 rfl ?_
  refine z_wi (ws' := (wY cI cJ y d sy sm sd mi ti sL bL mD mT X)) (rest := []) (ci := 2) (q0 := 0) C (c_X2_isSoundMomentWay l hfl D cI cJ X y d sy sm sd mi ti sL bL mD mT (0 : Int32) (3 : Int32) (zvpl 0 4 (by decide)) (zvpl 3 4 (by decide))) q_X2_isSoundMomentWay rfl rfl rfl gX2_isSound_X2_isSoundMomentWay ⟨rfl, rfl⟩ rfl rfl (Nat.le_of_ble_eq_true rfl) ⟨Nat.le_of_ble_eq_true rfl, Nat.le_of_ble_eq_true rfl⟩ ⟨Nat.le_of_ble_eq_true rfl, Nat.le_of_ble_eq_true rfl⟩ dX2_isSound_141 ?_
  refine z_eqst (st' := [.int 1]) (congrArg (fun v => Value.int v :: _) (g_50)) ?_
  refine z_if_eq (tgt := 151) C dX2_isSound_144 (by decide) (fun h => absurd h (by decide)) (fun _ => ?_)
  refine z_iconst (v := 1) C dX2_isSound_147 (by decide) ?_
  refine z_goto (tgt := 152) C dX2_isSound_148 (by decide) ?_
  refine z_istore_n (lv' := [(1, .int 1), (3, .int 3), (2, .int 0), (0, .ref (y 0))]) C dX2_isSound_152 rfl (by decide) rfl ?_
  refine z_iinc (q := 1) (v := 4) (lv' := [(3, .int 4), (1, .int 1), (2, .int 0), (0, .ref (y 0))]) C dX2_isSound_153 rfl (by decide) (by decide) rfl ?_
  refine z_goto (tgt := 111) C dX2_isSound_156 (by decide) ?_
  refine z_iload_n C dX2_isSound_111 rfl 0 rfl ?_
  refine z_iconst (v := 4) C dX2_isSound_112 (by decide) ?_
  refine z_icmp_ge (tgt := 159) C dX2_isSound_113 (by decide) (fun _ => ?_) (fun h => absurd (by decide) h)
  refine z_iinc (q := 2) (v := 1) (lv' := [(2, .int 1), (3, .int 4), (1, .int 1), (0, .ref (y 0))]) C dX2_isSound_159 rfl (by decide) (by decide) rfl ?_
  refine z_goto (tgt := 82) C dX2_isSound_162 (by decide) ?_
  refine z_iload_n C dX2_isSound_82 rfl 0 rfl ?_
  refine z_iconst (v := 4) C dX2_isSound_83 (by decide) ?_
  refine z_icmp_ge (tgt := 165) C dX2_isSound_84 (by decide) (fun h => absurd h (by decide)) (fun _ => ?_)
  refine z_iload_n C dX2_isSound_87 rfl 2 rfl ?_
  refine z_if_eq (tgt := 107) C dX2_isSound_88 (by decide) (fun h => absurd h (by decide)) (fun _ => ?_)
  refine z_aload_n C dX2_isSound_91 rfl 3 rfl ?_
  refine z_get (CC := RX2) (T := TX2) (N := 10) (ci := 2) C hin 0 rfl rfl 8 (by decide) w2 rfl rfl dX2_isSound_92 ?_
  refine z_iload_n C dX2_isSound_95 rfl 0 rfl ?_
  refine z_lald C 9 1 rfl rfl (zvpl 1 4 (by decide)) dX2_isSound_96 ?_
  refine z_eqst (st' := [.long (mD 1)]) rfl ?_
  refine z_si (rest := []) C (c_X2_isSoundDay l hfl D cI cJ _ (mD 1) ) q_X2_isSoundDay gX2_isSound_X2_isSoundDay ⟨rfl, rfl⟩ rfl rfl (Nat.le_of_ble_eq_true rfl) ⟨Nat.le_of_ble_eq_true rfl, Nat.le_of_ble_eq_true rfl⟩ ⟨Nat.le_of_ble_eq_true rfl, Nat.le_of_ble_eq_true rfl⟩ dX2_isSound_97 ?_
  refine z_eqst (st' := [.int 1]) (congrArg (fun v => Value.int v :: _) (g_51)) ?_
  refine z_if_eq (tgt := 107) C dX2_isSound_100 (by decide) (fun h => absurd h (by decide)) (fun _ => ?_)
  refine z_iconst (v := 1) C dX2_isSound_103 (by decide) ?_
  refine z_goto (tgt := 108) C dX2_isSound_104 (by decide) ?_
  refine z_istore_n (lv' := [(1, .int 1), (2, .int 1), (3, .int 4), (0, .ref (y 0))]) C dX2_isSound_108 rfl (by decide) rfl ?_
  refine z_iconst (v := 0) C dX2_isSound_109 (by decide) ?_
  refine z_istore_n (lv' := [(3, .int 0), (1, .int 1), (2, .int 1), (0, .ref (y 0))]) C dX2_isSound_110 rfl (by decide) rfl ?_
  refine z_iload_n C dX2_isSound_111 rfl 0 rfl ?_
  refine z_iconst (v := 4) C dX2_isSound_112 (by decide) ?_
  refine z_icmp_ge (tgt := 159) C dX2_isSound_113 (by decide) (fun h => absurd h (by decide)) (fun _ => ?_)
  refine z_iload_n C dX2_isSound_116 rfl 1 rfl ?_
  refine z_if_eq (tgt := 151) C dX2_isSound_117 (by decide) (fun h => absurd h (by decide)) (fun _ => ?_)
  refine z_aload_n C dX2_isSound_120 rfl 3 rfl ?_
  refine z_get (CC := RX2) (T := TX2) (N := 10) (ci := 2) C hin 0 rfl rfl 5 (by decide) w3 rfl rfl dX2_isSound_121 ?_
  refine z_iload_n C dX2_isSound_124 rfl 2 rfl ?_
  refine z_lald C 6 1 rfl rfl (zvpl 1 4 (by decide)) dX2_isSound_125 ?_
  refine z_eqst (st' := [.long (ti 1)]) rfl ?_
  refine z_aload_n C dX2_isSound_126 rfl 3 rfl ?_
  refine z_get (CC := RX2) (T := TX2) (N := 10) (ci := 2) C hin 0 rfl rfl 5 (by decide) w3 rfl rfl dX2_isSound_127 ?_
  refine z_iload_n C dX2_isSound_130 rfl 0 rfl ?_
  refine z_lald C 6 1 rfl rfl (zvpl 0 4 (by decide)) dX2_isSound_131 ?_
  refine z_eqst (st' := [.long (ti 0), .long (ti 1)]) rfl ?_
  refine z_si (rest := []) C (c_X2_isSoundTimeWay l hfl D cI cJ _ (ti 1) (ti 0) ) q_X2_isSoundTimeWay gX2_isSound_X2_isSoundTimeWay ⟨rfl, rfl⟩ rfl rfl (Nat.le_of_ble_eq_true rfl) ⟨Nat.le_of_ble_eq_true rfl, Nat.le_of_ble_eq_true rfl⟩ ⟨Nat.le_of_ble_eq_true rfl, Nat.le_of_ble_eq_true rfl⟩ dX2_isSound_132 ?_
  refine z_eqst (st' := [.int 1]) (congrArg (fun v => Value.int v :: _) (g_52)) ?_
  refine z_if_eq (tgt := 151) C dX2_isSound_135 (by decide) (fun h => absurd h (by decide)) (fun _ => ?_)
  refine z_aload_n C dX2_isSound_138 rfl 3 rfl ?_
  refine z_iload_n C dX2_isSound_139 rfl 2 rfl ?_
  refine z_iload_n C dX2_isSound_140 rfl 0 rfl ?_
  refine z_wi (ws' := (wY cI cJ y d sy sm sd mi ti sL bL mD mT X)) (rest := []) (ci := 2) (q0 := 0) C (c_X2_isSoundMomentWay l hfl D cI cJ X y d sy sm sd mi ti sL bL mD mT (1 : Int32) (0 : Int32) (zvpl 1 4 (by decide)) (zvpl 0 4 (by decide))) q_X2_isSoundMomentWay rfl rfl rfl gX2_isSound_X2_isSoundMomentWay ⟨rfl, rfl⟩ rfl rfl (Nat.le_of_ble_eq_true rfl) ⟨Nat.le_of_ble_eq_true rfl, Nat.le_of_ble_eq_true rfl⟩ ⟨Nat.le_of_ble_eq_true rfl, Nat.le_of_ble_eq_true rfl⟩ dX2_isSound_141 ?_
  refine z_eqst (st' := [.int 1]) (congrArg (fun v => Value.int v :: _) (g_53)) ?_
  refine z_if_eq (tgt := 151) C dX2_isSound_144 (by decide) (fun h => absurd h (by decide)) (fun _ => ?_)
  refine z_iconst (v := 1) C dX2_isSound_147 (by decide) ?_
  refine z_goto (tgt := 152) C dX2_isSound_148 (by decide) ?_
  refine z_istore_n (lv' := [(1, .int 1), (3, .int 0), (2, .int 1), (0, .ref (y 0))]) C dX2_isSound_152 rfl (by decide) rfl ?_
  refine z_iinc (q := 1) (v := 1) (lv' := [(3, .int 1), (1, .int 1), (2, .int 1), (0, .ref (y 0))]) C dX2_isSound_153 rfl (by decide) (by decide) rfl ?_
  refine z_goto (tgt := 111) C dX2_isSound_156 (by decide) ?_
  refine z_iload_n C dX2_isSound_111 rfl 0 rfl ?_
  refine z_iconst (v := 4) C dX2_isSound_112 (by decide) ?_
  refine z_icmp_ge (tgt := 159) C dX2_isSound_113 (by decide) (fun h => absurd h (by decide)) (fun _ => ?_)
  refine z_iload_n C dX2_isSound_116 rfl 1 rfl ?_
  refine z_if_eq (tgt := 151) C dX2_isSound_117 (by decide) (fun h => absurd h (by decide)) (fun _ => ?_)
  refine z_aload_n C dX2_isSound_120 rfl 3 rfl ?_
  refine z_get (CC := RX2) (T := TX2) (N := 10) (ci := 2) C hin 0 rfl rfl 5 (by decide) w3 rfl rfl dX2_isSound_121 ?_
  refine z_iload_n C dX2_isSound_124 rfl 2 rfl ?_
  refine z_lald C 6 1 rfl rfl (zvpl 1 4 (by decide)) dX2_isSound_125 ?_
  refine z_eqst (st' := [.long (ti 1)]) rfl ?_
  refine z_aload_n C dX2_isSound_126 rfl 3 rfl ?_
  refine z_get (CC := RX2) (T := TX2) (N := 10) (ci := 2) C hin 0 rfl rfl 5 (by decide) w3 rfl rfl dX2_isSound_127 ?_
  refine z_iload_n C dX2_isSound_130 rfl 0 rfl ?_
  refine z_lald C 6 1 rfl rfl (zvpl 1 4 (by decide)) dX2_isSound_131 ?_
  refine z_eqst (st' := [.long (ti 1), .long (ti 1)]) rfl ?_
  refine z_si (rest := []) C (c_X2_isSoundTimeWay l hfl D cI cJ _ (ti 1) (ti 1) ) q_X2_isSoundTimeWay gX2_isSound_X2_isSoundTimeWay ⟨rfl, rfl⟩ rfl rfl (Nat.le_of_ble_eq_true rfl) ⟨Nat.le_of_ble_eq_true rfl, Nat.le_of_ble_eq_true rfl⟩ ⟨Nat.le_of_ble_eq_true rfl, Nat.le_of_ble_eq_true rfl⟩ dX2_isSound_132 ?_
  refine z_eqst (st' := [.int 1]) (congrArg (fun v => Value.int v :: _) (g_54)) ?_
  refine z_if_eq (tgt := 151) C dX2_isSound_135 (by decide) (fun h => absurd h (by decide)) (fun _ => ?_)
  refine z_aload_n C dX2_isSound_138 rfl 3 rfl ?_
  refine z_iload_n C dX2_isSound_139 rfl 2 rfl ?_
  refine z_iload_n C dX2_isSound_140 rfl 0 rfl ?_
  refine z_wi (ws' := (wY cI cJ y d sy sm sd mi ti sL bL mD mT X)) (rest := []) (ci := 2) (q0 := 0) C (c_X2_isSoundMomentWay l hfl D cI cJ X y d sy sm sd mi ti sL bL mD mT (1 : Int32) (1 : Int32) (zvpl 1 4 (by decide)) (zvpl 1 4 (by decide))) q_X2_isSoundMomentWay rfl rfl rfl gX2_isSound_X2_isSoundMomentWay ⟨rfl, rfl⟩ rfl rfl (Nat.le_of_ble_eq_true rfl) ⟨Nat.le_of_ble_eq_true rfl, Nat.le_of_ble_eq_true rfl⟩ ⟨Nat.le_of_ble_eq_true rfl, Nat.le_of_ble_eq_true rfl⟩ dX2_isSound_141 ?_
  refine z_eqst (st' := [.int 1]) (congrArg (fun v => Value.int v :: _) (g_55)) ?_
  refine z_if_eq (tgt := 151) C dX2_isSound_144 (by decide) (fun h => absurd h (by decide)) (fun _ => ?_)
  refine z_iconst (v := 1) C dX2_isSound_147 (by decide) ?_
  refine z_goto (tgt := 152) C dX2_isSound_148 (by decide) ?_
  refine z_istore_n (lv' := [(1, .int 1), (3, .int 1), (2, .int 1), (0, .ref (y 0))]) C dX2_isSound_152 rfl (by decide) rfl ?_
  refine z_iinc (q := 1) (v := 2) (lv' := [(3, .int 2), (1, .int 1), (2, .int 1), (0, .ref (y 0))]) C dX2_isSound_153 rfl (by decide) (by decide) rfl ?_
  refine z_goto (tgt := 111) C dX2_isSound_156 (by decide) ?_
  refine z_iload_n C dX2_isSound_111 rfl 0 rfl ?_
  refine z_iconst (v := 4) C dX2_isSound_112 (by decide) ?_
  refine z_icmp_ge (tgt := 159) C dX2_isSound_113 (by decide) (fun h => absurd h (by decide)) (fun _ => ?_)
  refine z_iload_n C dX2_isSound_116 rfl 1 rfl ?_
  refine z_if_eq (tgt := 151) C dX2_isSound_117 (by decide) (fun h => absurd h (by decide)) (fun _ => ?_)
  refine z_aload_n C dX2_isSound_120 rfl 3 rfl ?_
  refine z_get (CC := RX2) (T := TX2) (N := 10) (ci := 2) C hin 0 rfl rfl 5 (by decide) w3 rfl rfl dX2_isSound_121 ?_
  refine z_iload_n C dX2_isSound_124 rfl 2 rfl ?_
  refine z_lald C 6 1 rfl rfl (zvpl 1 4 (by decide)) dX2_isSound_125 ?_
  refine z_eqst (st' := [.long (ti 1)]) rfl ?_
  refine z_aload_n C dX2_isSound_126 rfl 3 rfl ?_
  refine z_get (CC := RX2) (T := TX2) (N := 10) (ci := 2) C hin 0 rfl rfl 5 (by decide) w3 rfl rfl dX2_isSound_127 ?_
  refine z_iload_n C dX2_isSound_130 rfl 0 rfl ?_
  refine z_lald C 6 1 rfl rfl (zvpl 2 4 (by decide)) dX2_isSound_131 ?_
  refine z_eqst (st' := [.long (ti 2), .long (ti 1)]) rfl ?_
  refine z_si (rest := []) C (c_X2_isSoundTimeWay l hfl D cI cJ _ (ti 1) (ti 2) ) q_X2_isSoundTimeWay gX2_isSound_X2_isSoundTimeWay ⟨rfl, rfl⟩ rfl rfl (Nat.le_of_ble_eq_true rfl) ⟨Nat.le_of_ble_eq_true rfl, Nat.le_of_ble_eq_true rfl⟩ ⟨Nat.le_of_ble_eq_true rfl, Nat.le_of_ble_eq_true rfl⟩ dX2_isSound_132 ?_
  refine z_eqst (st' := [.int 1]) (congrArg (fun v => Value.int v :: _) (g_56)) ?_
  refine z_if_eq (tgt := 151) C dX2_isSound_135 (by decide) (fun h => absurd h (by decide)) (fun _ => ?_)
  refine z_aload_n C dX2_isSound_138 rfl 3 rfl ?_
  refine z_iload_n C dX2_isSound_139 rfl 2 rfl ?_
  refine z_iload_n C dX2_isSound_140 rfl 0 rfl ?_
  refine z_wi (ws' := (wY cI cJ y d sy sm sd mi ti sL bL mD mT X)) (rest := []) (ci := 2) (q0 := 0) C (c_X2_isSoundMomentWay l hfl D cI cJ X y d sy sm sd mi ti sL bL mD mT (1 : Int32) (2 : Int32) (zvpl 1 4 (by decide)) (zvpl 2 4 (by decide))) q_X2_isSoundMomentWay rfl rfl rfl gX2_isSound_X2_isSoundMomentWay ⟨rfl, rfl⟩ rfl rfl (Nat.le_of_ble_eq_true rfl) ⟨Nat.le_of_ble_eq_true rfl, Nat.le_of_ble_eq_true rfl⟩ ⟨Nat.le_of_ble_eq_true rfl, Nat.le_of_ble_eq_true rfl⟩ dX2_isSound_141 ?_
  refine z_eqst (st' := [.int 1]) (congrArg (fun v => Value.int v :: _) (g_57)) ?_
  refine z_if_eq (tgt := 151) C dX2_isSound_144 (by decide) (fun h => absurd h (by decide)) (fun _ => ?_)
  refine z_iconst (v := 1) C dX2_isSound_147 (by decide) ?_
  refine z_goto (tgt := 152) C dX2_isSound_148 (by decide) ?_
  refine z_istore_n (lv' := [(1, .int 1), (3, .int 2), (2, .int 1), (0, .ref (y 0))]) C dX2_isSound_152 rfl (by decide) rfl ?_
  refine z_iinc (q := 1) (v := 3) (lv' := [(3, .int 3), (1, .int 1), (2, .int 1), (0, .ref (y 0))]) C dX2_isSound_153 rfl (by decide) (by decide) rfl ?_
  refine z_goto (tgt := 111) C dX2_isSound_156 (by decide) ?_
  refine z_iload_n C dX2_isSound_111 rfl 0 rfl ?_
  refine z_iconst (v := 4) C dX2_isSound_112 (by decide) ?_
  refine z_icmp_ge (tgt := 159) C dX2_isSound_113 (by decide) (fun h => absurd h (by decide)) (fun _ => ?_)
  refine z_iload_n C dX2_isSound_116 rfl 1 rfl ?_
  refine z_if_eq (tgt := 151) C dX2_isSound_117 (by decide) (fun h => absurd h (by decide)) (fun _ => ?_)
  refine z_aload_n C dX2_isSound_120 rfl 3 rfl ?_
  refine z_get (CC := RX2) (T := TX2) (N := 10) (ci := 2) C hin 0 rfl rfl 5 (by decide) w3 rfl rfl dX2_isSound_121 ?_
  refine z_iload_n C dX2_isSound_124 rfl 2 rfl ?_
  refine z_lald C 6 1 rfl rfl (zvpl 1 4 (by decide)) dX2_isSound_125 ?_
  refine z_eqst (st' := [.long (ti 1)]) rfl ?_
  refine z_aload_n C dX2_isSound_126 rfl 3 rfl ?_
  refine z_get (CC := RX2) (T := TX2) (N := 10) (ci := 2) C hin 0 rfl rfl 5 (by decide) w3 rfl rfl dX2_isSound_127 ?_
  refine z_iload_n C dX2_isSound_130 rfl 0 rfl ?_
  refine z_lald C 6 1 rfl rfl (zvpl 3 4 (by decide)) dX2_isSound_131 ?_
  refine z_eqst (st' := [.long (ti 3), .long (ti 1)]) rfl ?_
  refine z_si (rest := []) C (c_X2_isSoundTimeWay l hfl D cI cJ _ (ti 1) (ti 3) ) q_X2_isSoundTimeWay gX2_isSound_X2_isSoundTimeWay ⟨rfl, rfl⟩ rfl rfl (Nat.le_of_ble_eq_true rfl) ⟨Nat.le_of_ble_eq_true rfl, Nat.le_of_ble_eq_true rfl⟩ ⟨Nat.le_of_ble_eq_true rfl, Nat.le_of_ble_eq_true rfl⟩ dX2_isSound_132 ?_
  refine z_eqst (st' := [.int 1]) (congrArg (fun v => Value.int v :: _) (g_58)) ?_
  refine z_if_eq (tgt := 151) C dX2_isSound_135 (by decide) (fun h => absurd h (by decide)) (fun _ => ?_)
  refine z_aload_n C dX2_isSound_138 rfl 3 rfl ?_
  refine z_iload_n C dX2_isSound_139 rfl 2 rfl ?_
  refine z_iload_n C dX2_isSound_140 rfl 0 rfl ?_
  refine z_wi (ws' := (wY cI cJ y d sy sm sd mi ti sL bL mD mT X)) (rest := []) (ci := 2) (q0 := 0) C (c_X2_isSoundMomentWay l hfl D cI cJ X y d sy sm sd mi ti sL bL mD mT (1 : Int32) (3 : Int32) (zvpl 1 4 (by decide)) (zvpl 3 4 (by decide))) q_X2_isSoundMomentWay rfl rfl rfl gX2_isSound_X2_isSoundMomentWay ⟨rfl, rfl⟩ rfl rfl (Nat.le_of_ble_eq_true rfl) ⟨Nat.le_of_ble_eq_true rfl, Nat.le_of_ble_eq_true rfl⟩ ⟨Nat.le_of_ble_eq_true rfl, Nat.le_of_ble_eq_true rfl⟩ dX2_isSound_141 ?_
  refine z_eqst (st' := [.int 1]) (congrArg (fun v => Value.int v :: _) (g_59)) ?_
  refine z_if_eq (tgt := 151) C dX2_isSound_144 (by decide) (fun h => absurd h (by decide)) (fun _ => ?_)
  refine z_iconst (v := 1) C dX2_isSound_147 (by decide) ?_
  refine z_goto (tgt := 152) C dX2_isSound_148 (by decide) ?_
  refine z_istore_n (lv' := [(1, .int 1), (3, .int 3), (2, .int 1), (0, .ref (y 0))]) C dX2_isSound_152 rfl (by decide) rfl ?_
  refine z_iinc (q := 1) (v := 4) (lv' := [(3, .int 4), (1, .int 1), (2, .int 1), (0, .ref (y 0))]) C dX2_isSound_153 rfl (by decide) (by decide) rfl ?_
  refine z_goto (tgt := 111) C dX2_isSound_156 (by decide) ?_
  refine z_iload_n C dX2_isSound_111 rfl 0 rfl ?_
  refine z_iconst (v := 4) C dX2_isSound_112 (by decide) ?_
  refine z_icmp_ge (tgt := 159) C dX2_isSound_113 (by decide) (fun _ => ?_) (fun h => absurd (by decide) h)
  refine z_iinc (q := 2) (v := 2) (lv' := [(2, .int 2), (3, .int 4), (1, .int 1), (0, .ref (y 0))]) C dX2_isSound_159 rfl (by decide) (by decide) rfl ?_
  refine z_goto (tgt := 82) C dX2_isSound_162 (by decide) ?_
  refine z_iload_n C dX2_isSound_82 rfl 0 rfl ?_
  refine z_iconst (v := 4) C dX2_isSound_83 (by decide) ?_
  refine z_icmp_ge (tgt := 165) C dX2_isSound_84 (by decide) (fun h => absurd h (by decide)) (fun _ => ?_)
  refine z_iload_n C dX2_isSound_87 rfl 2 rfl ?_
  refine z_if_eq (tgt := 107) C dX2_isSound_88 (by decide) (fun h => absurd h (by decide)) (fun _ => ?_)
  refine z_aload_n C dX2_isSound_91 rfl 3 rfl ?_
  refine z_get (CC := RX2) (T := TX2) (N := 10) (ci := 2) C hin 0 rfl rfl 8 (by decide) w2 rfl rfl dX2_isSound_92 ?_
  refine z_iload_n C dX2_isSound_95 rfl 0 rfl ?_
  refine z_lald C 9 1 rfl rfl (zvpl 2 4 (by decide)) dX2_isSound_96 ?_
  refine z_eqst (st' := [.long (mD 2)]) rfl ?_
  refine z_si (rest := []) C (c_X2_isSoundDay l hfl D cI cJ _ (mD 2) ) q_X2_isSoundDay gX2_isSound_X2_isSoundDay ⟨rfl, rfl⟩ rfl rfl (Nat.le_of_ble_eq_true rfl) ⟨Nat.le_of_ble_eq_true rfl, Nat.le_of_ble_eq_true rfl⟩ ⟨Nat.le_of_ble_eq_true rfl, Nat.le_of_ble_eq_true rfl⟩ dX2_isSound_97 ?_
  refine z_eqst (st' := [.int 1]) (congrArg (fun v => Value.int v :: _) (g_60)) ?_
  refine z_if_eq (tgt := 107) C dX2_isSound_100 (by decide) (fun h => absurd h (by decide)) (fun _ => ?_)
  refine z_iconst (v := 1) C dX2_isSound_103 (by decide) ?_
  refine z_goto (tgt := 108) C dX2_isSound_104 (by decide) ?_
  refine z_istore_n (lv' := [(1, .int 1), (2, .int 2), (3, .int 4), (0, .ref (y 0))]) C dX2_isSound_108 rfl (by decide) rfl ?_
  refine z_iconst (v := 0) C dX2_isSound_109 (by decide) ?_
  refine z_istore_n (lv' := [(3, .int 0), (1, .int 1), (2, .int 2), (0, .ref (y 0))]) C dX2_isSound_110 rfl (by decide) rfl ?_
  refine z_iload_n C dX2_isSound_111 rfl 0 rfl ?_
  refine z_iconst (v := 4) C dX2_isSound_112 (by decide) ?_
  refine z_icmp_ge (tgt := 159) C dX2_isSound_113 (by decide) (fun h => absurd h (by decide)) (fun _ => ?_)
  refine z_iload_n C dX2_isSound_116 rfl 1 rfl ?_
  refine z_if_eq (tgt := 151) C dX2_isSound_117 (by decide) (fun h => absurd h (by decide)) (fun _ => ?_)
  refine z_aload_n C dX2_isSound_120 rfl 3 rfl ?_
  refine z_get (CC := RX2) (T := TX2) (N := 10) (ci := 2) C hin 0 rfl rfl 5 (by decide) w3 rfl rfl dX2_isSound_121 ?_
  refine z_iload_n C dX2_isSound_124 rfl 2 rfl ?_
  refine z_lald C 6 1 rfl rfl (zvpl 2 4 (by decide)) dX2_isSound_125 ?_
  refine z_eqst (st' := [.long (ti 2)]) rfl ?_
  refine z_aload_n C dX2_isSound_126 rfl 3 rfl ?_
  refine z_get (CC := RX2) (T := TX2) (N := 10) (ci := 2) C hin 0 rfl rfl 5 (by decide) w3 rfl rfl dX2_isSound_127 ?_
  refine z_iload_n C dX2_isSound_130 rfl 0 rfl ?_
  refine z_lald C 6 1 rfl rfl (zvpl 0 4 (by decide)) dX2_isSound_131 ?_
  refine z_eqst (st' := [.long (ti 0), .long (ti 2)]) rfl ?_
  refine z_si (rest := []) C (c_X2_isSoundTimeWay l hfl D cI cJ _ (ti 2) (ti 0) ) q_X2_isSoundTimeWay gX2_isSound_X2_isSoundTimeWay ⟨rfl, rfl⟩ rfl rfl (Nat.le_of_ble_eq_true rfl) ⟨Nat.le_of_ble_eq_true rfl, Nat.le_of_ble_eq_true rfl⟩ ⟨Nat.le_of_ble_eq_true rfl, Nat.le_of_ble_eq_true rfl⟩ dX2_isSound_132 ?_
  refine z_eqst (st' := [.int 1]) (congrArg (fun v => Value.int v :: _) (g_61)) ?_
  refine z_if_eq (tgt := 151) C dX2_isSound_135 (by decide) (fun h => absurd h (by decide)) (fun _ => ?_)
  refine z_aload_n C dX2_isSound_138 rfl 3 rfl ?_
  refine z_iload_n C dX2_isSound_139 rfl 2 rfl ?_
  refine z_iload_n C dX2_isSound_140 rfl 0 rfl ?_
  refine z_wi (ws' := (wY cI cJ y d sy sm sd mi ti sL bL mD mT X)) (rest := []) (ci := 2) (q0 := 0) C (c_X2_isSoundMomentWay l hfl D cI cJ X y d sy sm sd mi ti sL bL mD mT (2 : Int32) (0 : Int32) (zvpl 2 4 (by decide)) (zvpl 0 4 (by decide))) q_X2_isSoundMomentWay rfl rfl rfl gX2_isSound_X2_isSoundMomentWay ⟨rfl, rfl⟩ rfl rfl (Nat.le_of_ble_eq_true rfl) ⟨Nat.le_of_ble_eq_true rfl, Nat.le_of_ble_eq_true rfl⟩ ⟨Nat.le_of_ble_eq_true rfl, Nat.le_of_ble_eq_true rfl⟩ dX2_isSound_141 ?_
  refine z_eqst (st' := [.int 1]) (congrArg (fun v => Value.int v :: _) (g_62)) ?_
  refine z_if_eq (tgt := 151) C dX2_isSound_144 (by decide) (fun h => absurd h (by decide)) (fun _ => ?_)
  refine z_iconst (v := 1) C dX2_isSound_147 (by decide) ?_
  refine z_goto (tgt := 152) C dX2_isSound_148 (by decide) ?_
  refine z_istore_n (lv' := [(1, .int 1), (3, .int 0), (2, .int 2), (0, .ref (y 0))]) C dX2_isSound_152 rfl (by decide) rfl ?_
  refine z_iinc (q := 1) (v := 1) (lv' := [(3, .int 1), (1, .int 1), (2, .int 2), (0, .ref (y 0))]) C dX2_isSound_153 rfl (by decide) (by decide) rfl ?_
  refine z_goto (tgt := 111) C dX2_isSound_156 (by decide) ?_
  refine z_iload_n C dX2_isSound_111 rfl 0 rfl ?_
  refine z_iconst (v := 4) C dX2_isSound_112 (by decide) ?_
  refine z_icmp_ge (tgt := 159) C dX2_isSound_113 (by decide) (fun h => absurd h (by decide)) (fun _ => ?_)
  refine z_iload_n C dX2_isSound_116 rfl 1 rfl ?_
  refine z_if_eq (tgt := 151) C dX2_isSound_117 (by decide) (fun h => absurd h (by decide)) (fun _ => ?_)
  refine z_aload_n C dX2_isSound_120 rfl 3 rfl ?_
  refine z_get (CC := RX2) (T := TX2) (N := 10) (ci := 2) C hin 0 rfl rfl 5 (by decide) w3 rfl rfl dX2_isSound_121 ?_
  refine z_iload_n C dX2_isSound_124 rfl 2 rfl ?_
  refine z_lald C 6 1 rfl rfl (zvpl 2 4 (by decide)) dX2_isSound_125 ?_
  refine z_eqst (st' := [.long (ti 2)]) rfl ?_
  refine z_aload_n C dX2_isSound_126 rfl 3 rfl ?_
  refine z_get (CC := RX2) (T := TX2) (N := 10) (ci := 2) C hin 0 rfl rfl 5 (by decide) w3 rfl rfl dX2_isSound_127 ?_
  refine z_iload_n C dX2_isSound_130 rfl 0 rfl ?_
  refine z_lald C 6 1 rfl rfl (zvpl 1 4 (by decide)) dX2_isSound_131 ?_
  refine z_eqst (st' := [.long (ti 1), .long (ti 2)]) rfl ?_
  refine z_si (rest := []) C (c_X2_isSoundTimeWay l hfl D cI cJ _ (ti 2) (ti 1) ) q_X2_isSoundTimeWay gX2_isSound_X2_isSoundTimeWay ⟨rfl, rfl⟩ rfl rfl (Nat.le_of_ble_eq_true rfl) ⟨Nat.le_of_ble_eq_true rfl, Nat.le_of_ble_eq_true rfl⟩ ⟨Nat.le_of_ble_eq_true rfl, Nat.le_of_ble_eq_true rfl⟩ dX2_isSound_132 ?_
  refine z_eqst (st' := [.int 1]) (congrArg (fun v => Value.int v :: _) (g_63)) ?_
  refine z_if_eq (tgt := 151) C dX2_isSound_135 (by decide) (fun h => absurd h (by decide)) (fun _ => ?_)
  refine z_aload_n C dX2_isSound_138 rfl 3 rfl ?_
  refine z_iload_n C dX2_isSound_139 rfl 2 rfl ?_
  refine z_iload_n C dX2_isSound_140 rfl 0 rfl ?_
  refine z_wi (ws' := (wY cI cJ y d sy sm sd mi ti sL bL mD mT X)) (rest := []) (ci := 2) (q0 := 0) C (c_X2_isSoundMomentWay l hfl D cI cJ X y d sy sm sd mi ti sL bL mD mT (2 : Int32) (1 : Int32) (zvpl 2 4 (by decide)) (zvpl 1 4 (by decide))) q_X2_isSoundMomentWay rfl rfl rfl gX2_isSound_X2_isSoundMomentWay ⟨rfl, rfl⟩ rfl rfl (Nat.le_of_ble_eq_true rfl) ⟨Nat.le_of_ble_eq_true rfl, Nat.le_of_ble_eq_true rfl⟩ ⟨Nat.le_of_ble_eq_true rfl, Nat.le_of_ble_eq_true rfl⟩ dX2_isSound_141 ?_
  refine z_eqst (st' := [.int 1]) (congrArg (fun v => Value.int v :: _) (g_64)) ?_
  refine z_if_eq (tgt := 151) C dX2_isSound_144 (by decide) (fun h => absurd h (by decide)) (fun _ => ?_)
  refine z_iconst (v := 1) C dX2_isSound_147 (by decide) ?_
  refine z_goto (tgt := 152) C dX2_isSound_148 (by decide) ?_
  refine z_istore_n (lv' := [(1, .int 1), (3, .int 1), (2, .int 2), (0, .ref (y 0))]) C dX2_isSound_152 rfl (by decide) rfl ?_
  refine z_iinc (q := 1) (v := 2) (lv' := [(3, .int 2), (1, .int 1), (2, .int 2), (0, .ref (y 0))]) C dX2_isSound_153 rfl (by decide) (by decide) rfl ?_
  refine z_goto (tgt := 111) C dX2_isSound_156 (by decide) ?_
  refine z_iload_n C dX2_isSound_111 rfl 0 rfl ?_
  refine z_iconst (v := 4) C dX2_isSound_112 (by decide) ?_
  refine z_icmp_ge (tgt := 159) C dX2_isSound_113 (by decide) (fun h => absurd h (by decide)) (fun _ => ?_)
  refine z_iload_n C dX2_isSound_116 rfl 1 rfl ?_
  refine z_if_eq (tgt := 151) C dX2_isSound_117 (by decide) (fun h => absurd h (by decide)) (fun _ => ?_)
  refine z_aload_n C dX2_isSound_120 rfl 3 rfl ?_
  refine z_get (CC := RX2) (T := TX2) (N := 10) (ci := 2) C hin 0 rfl rfl 5 (by decide) w3 rfl rfl dX2_isSound_121 ?_
  refine z_iload_n C dX2_isSound_124 rfl 2 rfl ?_
  refine z_lald C 6 1 rfl rfl (zvpl 2 4 (by decide)) dX2_isSound_125 ?_
  refine z_eqst (st' := [.long (ti 2)]) rfl ?_
  refine z_aload_n C dX2_isSound_126 rfl 3 rfl ?_
  refine z_get (CC := RX2) (T := TX2) (N := 10) (ci := 2) C hin 0 rfl rfl 5 (by decide) w3 rfl rfl dX2_isSound_127 ?_
  refine z_iload_n C dX2_isSound_130 rfl 0 rfl ?_
  refine z_lald C 6 1 rfl rfl (zvpl 2 4 (by decide)) dX2_isSound_131 ?_
  refine z_eqst (st' := [.long (ti 2), .long (ti 2)]) rfl ?_
  refine z_si (rest := []) C (c_X2_isSoundTimeWay l hfl D cI cJ _ (ti 2) (ti 2) ) q_X2_isSoundTimeWay gX2_isSound_X2_isSoundTimeWay ⟨rfl, rfl⟩ rfl rfl (Nat.le_of_ble_eq_true rfl) ⟨Nat.le_of_ble_eq_true rfl, Nat.le_of_ble_eq_true rfl⟩ ⟨Nat.le_of_ble_eq_true rfl, Nat.le_of_ble_eq_true rfl⟩ dX2_isSound_132 ?_
  refine z_eqst (st' := [.int 1]) (congrArg (fun v => Value.int v :: _) (g_65)) ?_
  refine z_if_eq (tgt := 151) C dX2_isSound_135 (by decide) (fun h => absurd h (by decide)) (fun _ => ?_)
  refine z_aload_n C dX2_isSound_138 rfl 3 rfl ?_
  refine z_iload_n C dX2_isSound_139 rfl 2 rfl ?_
  refine z_iload_n C dX2_isSound_140 rfl 0 rfl ?_
  refine z_wi (ws' := (wY cI cJ y d sy sm sd mi ti sL bL mD mT X)) (rest := []) (ci := 2) (q0 := 0) C (c_X2_isSoundMomentWay l hfl D cI cJ X y d sy sm sd mi ti sL bL mD mT (2 : Int32) (2 : Int32) (zvpl 2 4 (by decide)) (zvpl 2 4 (by decide))) q_X2_isSoundMomentWay rfl rfl rfl gX2_isSound_X2_isSoundMomentWay ⟨rfl, rfl⟩ rfl rfl (Nat.le_of_ble_eq_true rfl) ⟨Nat.le_of_ble_eq_true rfl, Nat.le_of_ble_eq_true rfl⟩ ⟨Nat.le_of_ble_eq_true rfl, Nat.le_of_ble_eq_true rfl⟩ dX2_isSound_141 ?_
  refine z_eqst (st' := [.int 1]) (congrArg (fun v => Value.int v :: _) (g_66)) ?_
  refine z_if_eq (tgt := 151) C dX2_isSound_144 (by decide) (fun h => absurd h (by decide)) (fun _ => ?_)
  refine z_iconst (v := 1) C dX2_isSound_147 (by decide) ?_
  refine z_goto (tgt := 152) C dX2_isSound_148 (by decide) ?_
  refine z_istore_n (lv' := [(1, .int 1), (3, .int 2), (2, .int 2), (0, .ref (y 0))]) C dX2_isSound_152 rfl (by decide) rfl ?_
  refine z_iinc (q := 1) (v := 3) (lv' := [(3, .int 3), (1, .int 1), (2, .int 2), (0, .ref (y 0))]) C dX2_isSound_153 rfl (by decide) (by decide) rfl ?_
  refine z_goto (tgt := 111) C dX2_isSound_156 (by decide) ?_
  refine z_iload_n C dX2_isSound_111 rfl 0 rfl ?_
  refine z_iconst (v := 4) C dX2_isSound_112 (by decide) ?_
  refine z_icmp_ge (tgt := 159) C dX2_isSound_113 (by decide) (fun h => absurd h (by decide)) (fun _ => ?_)
  refine z_iload_n C dX2_isSound_116 rfl 1 rfl ?_
  refine z_if_eq (tgt := 151) C dX2_isSound_117 (by decide) (fun h => absurd h (by decide)) (fun _ => ?_)
  refine z_aload_n C dX2_isSound_120 rfl 3 rfl ?_
  refine z_get (CC := RX2) (T := TX2) (N := 10) (ci := 2) C hin 0 rfl rfl 5 (by decide) w3 rfl rfl dX2_isSound_121 ?_
  refine z_iload_n C dX2_isSound_124 rfl 2 rfl ?_
  refine z_lald C 6 1 rfl rfl (zvpl 2 4 (by decide)) dX2_isSound_125 ?_
  refine z_eqst (st' := [.long (ti 2)]) rfl ?_
  refine z_aload_n C dX2_isSound_126 rfl 3 rfl ?_
  refine z_get (CC := RX2) (T := TX2) (N := 10) (ci := 2) C hin 0 rfl rfl 5 (by decide) w3 rfl rfl dX2_isSound_127 ?_
  refine z_iload_n C dX2_isSound_130 rfl 0 rfl ?_
  refine z_lald C 6 1 rfl rfl (zvpl 3 4 (by decide)) dX2_isSound_131 ?_
  refine z_eqst (st' := [.long (ti 3), .long (ti 2)]) rfl ?_
  refine z_si (rest := []) C (c_X2_isSoundTimeWay l hfl D cI cJ _ (ti 2) (ti 3) ) q_X2_isSoundTimeWay gX2_isSound_X2_isSoundTimeWay ⟨rfl, rfl⟩ rfl rfl (Nat.le_of_ble_eq_true rfl) ⟨Nat.le_of_ble_eq_true rfl, Nat.le_of_ble_eq_true rfl⟩ ⟨Nat.le_of_ble_eq_true rfl, Nat.le_of_ble_eq_true rfl⟩ dX2_isSound_132 ?_
  refine z_eqst (st' := [.int 1]) (congrArg (fun v => Value.int v :: _) (g_67)) ?_
  refine z_if_eq (tgt := 151) C dX2_isSound_135 (by decide) (fun h => absurd h (by decide)) (fun _ => ?_)
  refine z_aload_n C dX2_isSound_138 rfl 3 rfl ?_
  refine z_iload_n C dX2_isSound_139 rfl 2 rfl ?_
  refine z_iload_n C dX2_isSound_140 rfl 0 rfl ?_
  refine z_wi (ws' := (wY cI cJ y d sy sm sd mi ti sL bL mD mT X)) (rest := []) (ci := 2) (q0 := 0) C (c_X2_isSoundMomentWay l hfl D cI cJ X y d sy sm sd mi ti sL bL mD mT (2 : Int32) (3 : Int32) (zvpl 2 4 (by decide)) (zvpl 3 4 (by decide))) q_X2_isSoundMomentWay rfl rfl rfl gX2_isSound_X2_isSoundMomentWay ⟨rfl, rfl⟩ rfl rfl (Nat.le_of_ble_eq_true rfl) ⟨Nat.le_of_ble_eq_true rfl, Nat.le_of_ble_eq_true rfl⟩ ⟨Nat.le_of_ble_eq_true rfl, Nat.le_of_ble_eq_true rfl⟩ dX2_isSound_141 ?_
  refine z_eqst (st' := [.int 1]) (congrArg (fun v => Value.int v :: _) (g_68)) ?_
  refine z_if_eq (tgt := 151) C dX2_isSound_144 (by decide) (fun h => absurd h (by decide)) (fun _ => ?_)
  refine z_iconst (v := 1) C dX2_isSound_147 (by decide) ?_
  refine z_goto (tgt := 152) C dX2_isSound_148 (by decide) ?_
  refine z_istore_n (lv' := [(1, .int 1), (3, .int 3), (2, .int 2), (0, .ref (y 0))]) C dX2_isSound_152 rfl (by decide) rfl ?_
  refine z_iinc (q := 1) (v := 4) (lv' := [(3, .int 4), (1, .int 1), (2, .int 2), (0, .ref (y 0))]) C dX2_isSound_153 rfl (by decide) (by decide) rfl ?_
  refine z_goto (tgt := 111) C dX2_isSound_156 (by decide) ?_
  refine z_iload_n C dX2_isSound_111 rfl 0 rfl ?_
  refine z_iconst (v := 4) C dX2_isSound_112 (by decide) ?_
  refine z_icmp_ge (tgt := 159) C dX2_isSound_113 (by decide) (fun _ => ?_) (fun h => absurd (by decide) h)
  refine z_iinc (q := 2) (v := 3) (lv' := [(2, .int 3), (3, .int 4), (1, .int 1), (0, .ref (y 0))]) C dX2_isSound_159 rfl (by decide) (by decide) rfl ?_
  refine z_goto (tgt := 82) C dX2_isSound_162 (by decide) ?_
  refine z_iload_n C dX2_isSound_82 rfl 0 rfl ?_
  refine z_iconst (v := 4) C dX2_isSound_83 (by decide) ?_
  refine z_icmp_ge (tgt := 165) C dX2_isSound_84 (by decide) (fun h => absurd h (by decide)) (fun _ => ?_)
  refine z_iload_n C dX2_isSound_87 rfl 2 rfl ?_
  refine z_if_eq (tgt := 107) C dX2_isSound_88 (by decide) (fun h => absurd h (by decide)) (fun _ => ?_)
  refine z_aload_n C dX2_isSound_91 rfl 3 rfl ?_
  refine z_get (CC := RX2) (T := TX2) (N := 10) (ci := 2) C hin 0 rfl rfl 8 (by decide) w2 rfl rfl dX2_isSound_92 ?_
  refine z_iload_n C dX2_isSound_95 rfl 0 rfl ?_
  refine z_lald C 9 1 rfl rfl (zvpl 3 4 (by decide)) dX2_isSound_96 ?_
  refine z_eqst (st' := [.long (mD 3)]) rfl ?_
  refine z_si (rest := []) C (c_X2_isSoundDay l hfl D cI cJ _ (mD 3) ) q_X2_isSoundDay gX2_isSound_X2_isSoundDay ⟨rfl, rfl⟩ rfl rfl (Nat.le_of_ble_eq_true rfl) ⟨Nat.le_of_ble_eq_true rfl, Nat.le_of_ble_eq_true rfl⟩ ⟨Nat.le_of_ble_eq_true rfl, Nat.le_of_ble_eq_true rfl⟩ dX2_isSound_97 ?_
  refine z_eqst (st' := [.int 1]) (congrArg (fun v => Value.int v :: _) (g_69)) ?_
  refine z_if_eq (tgt := 107) C dX2_isSound_100 (by decide) (fun h => absurd h (by decide)) (fun _ => ?_)
  refine z_iconst (v := 1) C dX2_isSound_103 (by decide) ?_
  refine z_goto (tgt := 108) C dX2_isSound_104 (by decide) ?_
  refine z_istore_n (lv' := [(1, .int 1), (2, .int 3), (3, .int 4), (0, .ref (y 0))]) C dX2_isSound_108 rfl (by decide) rfl ?_
  refine z_iconst (v := 0) C dX2_isSound_109 (by decide) ?_
  refine z_istore_n (lv' := [(3, .int 0), (1, .int 1), (2, .int 3), (0, .ref (y 0))]) C dX2_isSound_110 rfl (by decide) rfl ?_
  refine z_iload_n C dX2_isSound_111 rfl 0 rfl ?_
  refine z_iconst (v := 4) C dX2_isSound_112 (by decide) ?_
  refine z_icmp_ge (tgt := 159) C dX2_isSound_113 (by decide) (fun h => absurd h (by decide)) (fun _ => ?_)
  refine z_iload_n C dX2_isSound_116 rfl 1 rfl ?_
  refine z_if_eq (tgt := 151) C dX2_isSound_117 (by decide) (fun h => absurd h (by decide)) (fun _ => ?_)
  refine z_aload_n C dX2_isSound_120 rfl 3 rfl ?_
  refine z_get (CC := RX2) (T := TX2) (N := 10) (ci := 2) C hin 0 rfl rfl 5 (by decide) w3 rfl rfl dX2_isSound_121 ?_
  refine z_iload_n C dX2_isSound_124 rfl 2 rfl ?_
  refine z_lald C 6 1 rfl rfl (zvpl 3 4 (by decide)) dX2_isSound_125 ?_
  refine z_eqst (st' := [.long (ti 3)]) rfl ?_
  refine z_aload_n C dX2_isSound_126 rfl 3 rfl ?_
  refine z_get (CC := RX2) (T := TX2) (N := 10) (ci := 2) C hin 0 rfl rfl 5 (by decide) w3 rfl rfl dX2_isSound_127 ?_
  refine z_iload_n C dX2_isSound_130 rfl 0 rfl ?_
  refine z_lald C 6 1 rfl rfl (zvpl 0 4 (by decide)) dX2_isSound_131 ?_
  refine z_eqst (st' := [.long (ti 0), .long (ti 3)]) rfl ?_
  refine z_si (rest := []) C (c_X2_isSoundTimeWay l hfl D cI cJ _ (ti 3) (ti 0) ) q_X2_isSoundTimeWay gX2_isSound_X2_isSoundTimeWay ⟨rfl, rfl⟩ rfl rfl (Nat.le_of_ble_eq_true rfl) ⟨Nat.le_of_ble_eq_true rfl, Nat.le_of_ble_eq_true rfl⟩ ⟨Nat.le_of_ble_eq_true rfl, Nat.le_of_ble_eq_true rfl⟩ dX2_isSound_132 ?_
  refine z_eqst (st' := [.int 1]) (congrArg (fun v => Value.int v :: _) (g_70)) ?_
  refine z_if_eq (tgt := 151) C dX2_isSound_135 (by decide) (fun h => absurd h (by decide)) (fun _ => ?_)
  refine z_aload_n C dX2_isSound_138 rfl 3 rfl ?_
  refine z_iload_n C dX2_isSound_139 rfl 2 rfl ?_
  refine z_iload_n C dX2_isSound_140 rfl 0 rfl ?_
  refine z_wi (ws' := (wY cI cJ y d sy sm sd mi ti sL bL mD mT X)) (rest := []) (ci := 2) (q0 := 0) C (c_X2_isSoundMomentWay l hfl D cI cJ X y d sy sm sd mi ti sL bL mD mT (3 : Int32) (0 : Int32) (zvpl 3 4 (by decide)) (zvpl 0 4 (by decide))) q_X2_isSoundMomentWay rfl rfl rfl gX2_isSound_X2_isSoundMomentWay ⟨rfl, rfl⟩ rfl rfl (Nat.le_of_ble_eq_true rfl) ⟨Nat.le_of_ble_eq_true rfl, Nat.le_of_ble_eq_true rfl⟩ ⟨Nat.le_of_ble_eq_true rfl, Nat.le_of_ble_eq_true rfl⟩ dX2_isSound_141 ?_
  refine z_eqst (st' := [.int 1]) (congrArg (fun v => Value.int v :: _) (g_71)) ?_
  refine z_if_eq (tgt := 151) C dX2_isSound_144 (by decide) (fun h => absurd h (by decide)) (fun _ => ?_)
  refine z_iconst (v := 1) C dX2_isSound_147 (by decide) ?_
  refine z_goto (tgt := 152) C dX2_isSound_148 (by decide) ?_
  refine z_istore_n (lv' := [(1, .int 1), (3, .int 0), (2, .int 3), (0, .ref (y 0))]) C dX2_isSound_152 rfl (by decide) rfl ?_
  refine z_iinc (q := 1) (v := 1) (lv' := [(3, .int 1), (1, .int 1), (2, .int 3), (0, .ref (y 0))]) C dX2_isSound_153 rfl (by decide) (by decide) rfl ?_
  refine z_goto (tgt := 111) C dX2_isSound_156 (by decide) ?_
  refine z_iload_n C dX2_isSound_111 rfl 0 rfl ?_
  refine z_iconst (v := 4) C dX2_isSound_112 (by decide) ?_
  refine z_icmp_ge (tgt := 159) C dX2_isSound_113 (by decide) (fun h => absurd h (by decide)) (fun _ => ?_)
  refine z_iload_n C dX2_isSound_116 rfl 1 rfl ?_
  refine z_if_eq (tgt := 151) C dX2_isSound_117 (by decide) (fun h => absurd h (by decide)) (fun _ => ?_)
  refine z_aload_n C dX2_isSound_120 rfl 3 rfl ?_
  refine z_get (CC := RX2) (T := TX2) (N := 10) (ci := 2) C hin 0 rfl rfl 5 (by decide) w3 rfl rfl dX2_isSound_121 ?_
  refine z_iload_n C dX2_isSound_124 rfl 2 rfl ?_
  refine z_lald C 6 1 rfl rfl (zvpl 3 4 (by decide)) dX2_isSound_125 ?_
  refine z_eqst (st' := [.long (ti 3)]) rfl ?_
  refine z_aload_n C dX2_isSound_126 rfl 3 rfl ?_
  refine z_get (CC := RX2) (T := TX2) (N := 10) (ci := 2) C hin 0 rfl rfl 5 (by decide) w3 rfl rfl dX2_isSound_127 ?_
  refine z_iload_n C dX2_isSound_130 rfl 0 rfl ?_
  refine z_lald C 6 1 rfl rfl (zvpl 1 4 (by decide)) dX2_isSound_131 ?_
  refine z_eqst (st' := [.long (ti 1), .long (ti 3)]) rfl ?_
  refine z_si (rest := []) C (c_X2_isSoundTimeWay l hfl D cI cJ _ (ti 3) (ti 1) ) q_X2_isSoundTimeWay gX2_isSound_X2_isSoundTimeWay ⟨rfl, rfl⟩ rfl rfl (Nat.le_of_ble_eq_true rfl) ⟨Nat.le_of_ble_eq_true rfl, Nat.le_of_ble_eq_true rfl⟩ ⟨Nat.le_of_ble_eq_true rfl, Nat.le_of_ble_eq_true rfl⟩ dX2_isSound_132 ?_
  refine z_eqst (st' := [.int 1]) (congrArg (fun v => Value.int v :: _) (g_72)) ?_
  refine z_if_eq (tgt := 151) C dX2_isSound_135 (by decide) (fun h => absurd h (by decide)) (fun _ => ?_)
  refine z_aload_n C dX2_isSound_138 rfl 3 rfl ?_
  refine z_iload_n C dX2_isSound_139 rfl 2 rfl ?_
  refine z_iload_n C dX2_isSound_140 rfl 0 rfl ?_
  refine z_wi (ws' := (wY cI cJ y d sy sm sd mi ti sL bL mD mT X)) (rest := []) (ci := 2) (q0 := 0) C (c_X2_isSoundMomentWay l hfl D cI cJ X y d sy sm sd mi ti sL bL mD mT (3 : Int32) (1 : Int32) (zvpl 3 4 (by decide)) (zvpl 1 4 (by decide))) q_X2_isSoundMomentWay rfl rfl rfl gX2_isSound_X2_isSoundMomentWay ⟨rfl, rfl⟩ rfl rfl (Nat.le_of_ble_eq_true rfl) ⟨Nat.le_of_ble_eq_true rfl, Nat.le_of_ble_eq_true rfl⟩ ⟨Nat.le_of_ble_eq_true rfl, Nat.le_of_ble_eq_true rfl⟩ dX2_isSound_141 ?_
  refine z_eqst (st' := [.int 1]) (congrArg (fun v => Value.int v :: _) (g_73)) ?_
  refine z_if_eq (tgt := 151) C dX2_isSound_144 (by decide) (fun h => absurd h (by decide)) (fun _ => ?_)
  refine z_iconst (v := 1) C dX2_isSound_147 (by decide) ?_
  refine z_goto (tgt := 152) C dX2_isSound_148 (by decide) ?_
  refine z_istore_n (lv' := [(1, .int 1), (3, .int 1), (2, .int 3), (0, .ref (y 0))]) C dX2_isSound_152 rfl (by decide) rfl ?_
  refine z_iinc (q := 1) (v := 2) (lv' := [(3, .int 2), (1, .int 1), (2, .int 3), (0, .ref (y 0))]) C dX2_isSound_153 rfl (by decide) (by decide) rfl ?_
  refine z_goto (tgt := 111) C dX2_isSound_156 (by decide) ?_
  refine z_iload_n C dX2_isSound_111 rfl 0 rfl ?_
  refine z_iconst (v := 4) C dX2_isSound_112 (by decide) ?_
  refine z_icmp_ge (tgt := 159) C dX2_isSound_113 (by decide) (fun h => absurd h (by decide)) (fun _ => ?_)
  refine z_iload_n C dX2_isSound_116 rfl 1 rfl ?_
  refine z_if_eq (tgt := 151) C dX2_isSound_117 (by decide) (fun h => absurd h (by decide)) (fun _ => ?_)
  refine z_aload_n C dX2_isSound_120 rfl 3 rfl ?_
  refine z_get (CC := RX2) (T := TX2) (N := 10) (ci := 2) C hin 0 rfl rfl 5 (by decide) w3 rfl rfl dX2_isSound_121 ?_
  refine z_iload_n C dX2_isSound_124 rfl 2 rfl ?_
  refine z_lald C 6 1 rfl rfl (zvpl 3 4 (by decide)) dX2_isSound_125 ?_
  refine z_eqst (st' := [.long (ti 3)]) rfl ?_
  refine z_aload_n C dX2_isSound_126 rfl 3 rfl ?_
  refine z_get (CC := RX2) (T := TX2) (N := 10) (ci := 2) C hin 0 rfl rfl 5 (by decide) w3 rfl rfl dX2_isSound_127 ?_
  refine z_iload_n C dX2_isSound_130 rfl 0 rfl ?_
  refine z_lald C 6 1 rfl rfl (zvpl 2 4 (by decide)) dX2_isSound_131 ?_
  refine z_eqst (st' := [.long (ti 2), .long (ti 3)]) rfl ?_
  refine z_si (rest := []) C (c_X2_isSoundTimeWay l hfl D cI cJ _ (ti 3) (ti 2) ) q_X2_isSoundTimeWay gX2_isSound_X2_isSoundTimeWay ⟨rfl, rfl⟩ rfl rfl (Nat.le_of_ble_eq_true rfl) ⟨Nat.le_of_ble_eq_true rfl, Nat.le_of_ble_eq_true rfl⟩ ⟨Nat.le_of_ble_eq_true rfl, Nat.le_of_ble_eq_true rfl⟩ dX2_isSound_132 ?_
  refine z_eqst (st' := [.int 1]) (congrArg (fun v => Value.int v :: _) (g_74)) ?_
  refine z_if_eq (tgt := 151) C dX2_isSound_135 (by decide) (fun h => absurd h (by decide)) (fun _ => ?_)
  refine z_aload_n C dX2_isSound_138 rfl 3 rfl ?_
  refine z_iload_n C dX2_isSound_139 rfl 2 rfl ?_
  refine z_iload_n C dX2_isSound_140 rfl 0 rfl ?_
  refine z_wi (ws' := (wY cI cJ y d sy sm sd mi ti sL bL mD mT X)) (rest := []) (ci := 2) (q0 := 0) C (c_X2_isSoundMomentWay l hfl D cI cJ X y d sy sm sd mi ti sL bL mD mT (3 : Int32) (2 : Int32) (zvpl 3 4 (by decide)) (zvpl 2 4 (by decide))) q_X2_isSoundMomentWay rfl rfl rfl gX2_isSound_X2_isSoundMomentWay ⟨rfl, rfl⟩ rfl rfl (Nat.le_of_ble_eq_true rfl) ⟨Nat.le_of_ble_eq_true rfl, Nat.le_of_ble_eq_true rfl⟩ ⟨Nat.le_of_ble_eq_true rfl, Nat.le_of_ble_eq_true rfl⟩ dX2_isSound_141 ?_
  refine z_eqst (st' := [.int 1]) (congrArg (fun v => Value.int v :: _) (g_75)) ?_
  refine z_if_eq (tgt := 151) C dX2_isSound_144 (by decide) (fun h => absurd h (by decide)) (fun _ => ?_)
  refine z_iconst (v := 1) C dX2_isSound_147 (by decide) ?_
  refine z_goto (tgt := 152) C dX2_isSound_148 (by decide) ?_
  refine z_istore_n (lv' := [(1, .int 1), (3, .int 2), (2, .int 3), (0, .ref (y 0))]) C dX2_isSound_152 rfl (by decide) rfl ?_
  refine z_iinc (q := 1) (v := 3) (lv' := [(3, .int 3), (1, .int 1), (2, .int 3), (0, .ref (y 0))]) C dX2_isSound_153 rfl (by decide) (by decide) rfl ?_
  refine z_goto (tgt := 111) C dX2_isSound_156 (by decide) ?_
  refine z_iload_n C dX2_isSound_111 rfl 0 rfl ?_
  refine z_iconst (v := 4) C dX2_isSound_112 (by decide) ?_
  refine z_icmp_ge (tgt := 159) C dX2_isSound_113 (by decide) (fun h => absurd h (by decide)) (fun _ => ?_)
  refine z_iload_n C dX2_isSound_116 rfl 1 rfl ?_
  refine z_if_eq (tgt := 151) C dX2_isSound_117 (by decide) (fun h => absurd h (by decide)) (fun _ => ?_)
  refine z_aload_n C dX2_isSound_120 rfl 3 rfl ?_
  refine z_get (CC := RX2) (T := TX2) (N := 10) (ci := 2) C hin 0 rfl rfl 5 (by decide) w3 rfl rfl dX2_isSound_121 ?_
  refine z_iload_n C dX2_isSound_124 rfl 2 rfl ?_
  refine z_lald C 6 1 rfl rfl (zvpl 3 4 (by decide)) dX2_isSound_125 ?_
  refine z_eqst (st' := [.long (ti 3)]) rfl ?_
  refine z_aload_n C dX2_isSound_126 rfl 3 rfl ?_
  refine z_get (CC := RX2) (T := TX2) (N := 10) (ci := 2) C hin 0 rfl rfl 5 (by decide) w3 rfl rfl dX2_isSound_127 ?_
  refine z_iload_n C dX2_isSound_130 rfl 0 rfl ?_
  refine z_lald C 6 1 rfl rfl (zvpl 3 4 (by decide)) dX2_isSound_131 ?_
  refine z_eqst (st' := [.long (ti 3), .long (ti 3)]) rfl ?_
  refine z_si (rest := []) C (c_X2_isSoundTimeWay l hfl D cI cJ _ (ti 3) (ti 3) ) q_X2_isSoundTimeWay gX2_isSound_X2_isSoundTimeWay ⟨rfl, rfl⟩ rfl rfl (Nat.le_of_ble_eq_true rfl) ⟨Nat.le_of_ble_eq_true rfl, Nat.le_of_ble_eq_true rfl⟩ ⟨Nat.le_of_ble_eq_true rfl, Nat.le_of_ble_eq_true rfl⟩ dX2_isSound_132 ?_
  refine z_eqst (st' := [.int 1]) (congrArg (fun v => Value.int v :: _) (g_76)) ?_
  refine z_if_eq (tgt := 151) C dX2_isSound_135 (by decide) (fun h => absurd h (by decide)) (fun _ => ?_)
  refine z_aload_n C dX2_isSound_138 rfl 3 rfl ?_
  refine z_iload_n C dX2_isSound_139 rfl 2 rfl ?_
  refine z_iload_n C dX2_isSound_140 rfl 0 rfl ?_
  refine z_wi (ws' := (wY cI cJ y d sy sm sd mi ti sL bL mD mT X)) (rest := []) (ci := 2) (q0 := 0) C (c_X2_isSoundMomentWay l hfl D cI cJ X y d sy sm sd mi ti sL bL mD mT (3 : Int32) (3 : Int32) (zvpl 3 4 (by decide)) (zvpl 3 4 (by decide))) q_X2_isSoundMomentWay rfl rfl rfl gX2_isSound_X2_isSoundMomentWay ⟨rfl, rfl⟩ rfl rfl (Nat.le_of_ble_eq_true rfl) ⟨Nat.le_of_ble_eq_true rfl, Nat.le_of_ble_eq_true rfl⟩ ⟨Nat.le_of_ble_eq_true rfl, Nat.le_of_ble_eq_true rfl⟩ dX2_isSound_141 ?_
  refine z_eqst (st' := [.int 1]) (congrArg (fun v => Value.int v :: _) (g_77)) ?_
  refine z_if_eq (tgt := 151) C dX2_isSound_144 (by decide) (fun h => absurd h (by decide)) (fun _ => ?_)
  refine z_iconst (v := 1) C dX2_isSound_147 (by decide) ?_
  refine z_goto (tgt := 152) C dX2_isSound_148 (by decide) ?_
  refine z_istore_n (lv' := [(1, .int 1), (3, .int 3), (2, .int 3), (0, .ref (y 0))]) C dX2_isSound_152 rfl (by decide) rfl ?_
  refine z_iinc (q := 1) (v := 4) (lv' := [(3, .int 4), (1, .int 1), (2, .int 3), (0, .ref (y 0))]) C dX2_isSound_153 rfl (by decide) (by decide) rfl ?_
  refine z_goto (tgt := 111) C dX2_isSound_156 (by decide) ?_
  refine z_iload_n C dX2_isSound_111 rfl 0 rfl ?_
  refine z_iconst (v := 4) C dX2_isSound_112 (by decide) ?_
  refine z_icmp_ge (tgt := 159) C dX2_isSound_113 (by decide) (fun _ => ?_) (fun h => absurd (by decide) h)
  refine z_iinc (q := 2) (v := 4) (lv' := [(2, .int 4), (3, .int 4), (1, .int 1), (0, .ref (y 0))]) C dX2_isSound_159 rfl (by decide) (by decide) rfl ?_
  refine z_goto (tgt := 82) C dX2_isSound_162 (by decide) ?_
  refine z_iload_n C dX2_isSound_82 rfl 0 rfl ?_
  refine z_iconst (v := 4) C dX2_isSound_83 (by decide) ?_
  refine z_icmp_ge (tgt := 165) C dX2_isSound_84 (by decide) (fun _ => ?_) (fun h => absurd (by decide) h)
  refine z_iload_n C dX2_isSound_165 rfl 2 rfl ?_
  exact z_zret C (by decide) ⟨congrArg (fun v => some (Value.int v)) (rfl : (1 : Int32) = f_X2_isSound), rfl⟩ (by decide) (by decide) dX2_isSound_166
theorem b_X2_isSound  : f_X2_isSound = 0 ∨ f_X2_isSound = 1 := by
  unfold f_X2_isSound
  repeat (first | apply z01_ite | exact Or.inl rfl | exact Or.inr rfl | apply zbor)
