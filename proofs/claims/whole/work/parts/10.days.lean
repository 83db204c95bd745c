def f_J9_floorDiv_f86c9 (p1 : Int64) (p2 : Int64) : Int64 := (if 0 ≤ (p1 ^^^ p2) then (p1 / p2) else (if ((p1 / p2) * p2) = p1 then (p1 / p2) else ((p1 / p2) - 1)))
theorem q_J9_floorDiv_f86c9 : ZY yJ9_floorDiv_f86c9 wsJ9_floorDiv_f86c9 cJ9_floorDiv_f86c9 6 (some .long) 2 := ⟨⟨_, rfl⟩, by decide +kernel, by decide +kernel, by decide +kernel⟩
set_option maxHeartbeats 4000000 in
set_option maxRecDepth 100000 in
theorem c_J9_floorDiv_f86c9 (l : Launch) (hfl : l.stackTraces = false) (D : va_G) (cI cJ : ClassId) (X : va_W) (p1 : Int64) (p2 : Int64) (h_0 : ¬ p2 = 0) : ZM l yJ9_floorDiv_f86c9 wsJ9_floorDiv_f86c9 { frames := 0, cells := 0, slots := 0, locals := 0 } [.long p1, .long p2] D (zTys cI cJ) X 0 0 (fun v w => v = some (.long (f_J9_floorDiv_f86c9 p1 p2)) ∧ w = X) (fun _ _ => False) := by
  refine z_openF (own := RJ9) hfl (cc := cJ9_floorDiv_f86c9) (maxL := 6) (ret := (some .long)) (lv := [(0, .long p1), (2, .long p2)]) rfl (by decide +kernel) rfl rfl (Nat.le_of_ble_eq_true rfl) ?_
  intro p e s m args below meth c A C hno hnm hargs
  refine z_lload_n C dJ9_floorDiv_f86c9_0 rfl 0 rfl ?_
  refine z_lload_n C dJ9_floorDiv_f86c9_1 rfl 1 rfl ?_
  refine z_ldiv C dJ9_floorDiv_f86c9_2 h_0 ?_
  refine z_lstore (lv' := [(4, .long (p1 / p2)), (0, .long p1), (2, .long p2)]) C dJ9_floorDiv_f86c9_3 (by decide) rfl ?_
  refine z_lload_n C dJ9_floorDiv_f86c9_5 rfl 1 rfl ?_
  refine z_lload_n C dJ9_floorDiv_f86c9_6 rfl 2 rfl ?_
  refine z_lxor C dJ9_floorDiv_f86c9_7 ?_
  refine z_lconst (v := 0) C dJ9_floorDiv_f86c9_8 (by decide) ?_
  refine z_lcmp_ge (tgt := 27) C dJ9_floorDiv_f86c9_9 dJ9_floorDiv_f86c9_10 (by decide) (fun h1 => ?_) (fun h1 => ?_)
  · refine z_lload C dJ9_floorDiv_f86c9_27 0 rfl ?_
    exact z_lret C ⟨congrArg (fun v => some (Value.long v)) (by rw [f_J9_floorDiv_f86c9, if_pos h1] : (p1 / p2) = (f_J9_floorDiv_f86c9 p1 p2)), rfl⟩ (by decide) (by decide) dJ9_floorDiv_f86c9_29
  · refine z_lload C dJ9_floorDiv_f86c9_13 0 rfl ?_
    refine z_lload_n C dJ9_floorDiv_f86c9_15 rfl 2 rfl ?_
    refine z_lmul C dJ9_floorDiv_f86c9_16 ?_
    refine z_lload_n C dJ9_floorDiv_f86c9_17 rfl 1 rfl ?_
    refine z_lcmp_eq (tgt := 27) C dJ9_floorDiv_f86c9_18 dJ9_floorDiv_f86c9_19 (by decide) (fun h2 => ?_) (fun h2 => ?_)
    · refine z_lload C dJ9_floorDiv_f86c9_27 0 rfl ?_
      exact z_lret C ⟨congrArg (fun v => some (Value.long v)) (by rw [f_J9_floorDiv_f86c9, if_neg h1, if_pos h2] : (p1 / p2) = (f_J9_floorDiv_f86c9 p1 p2)), rfl⟩ (by decide) (by decide) dJ9_floorDiv_f86c9_29
    · refine z_lload C dJ9_floorDiv_f86c9_22 0 rfl ?_
      refine z_lconst (v := 1) C dJ9_floorDiv_f86c9_24 (by decide) ?_
      refine z_lsub C dJ9_floorDiv_f86c9_25 ?_
      exact z_lret C ⟨congrArg (fun v => some (Value.long v)) (by rw [f_J9_floorDiv_f86c9, if_neg h1, if_neg h2] : ((p1 / p2) - 1) = (f_J9_floorDiv_f86c9 p1 p2)), rfl⟩ (by decide) (by decide) dJ9_floorDiv_f86c9_26
def f_J9_floorMod_f86c9 (p1 : Int64) (p2 : Int64) : Int64 := (if 0 ≤ (p1 ^^^ p2) then (p1 - p1 / p2 * p2) else (if (p1 - p1 / p2 * p2) = 0 then (p1 - p1 / p2 * p2) else ((p1 - p1 / p2 * p2) + p2)))
theorem q_J9_floorMod_f86c9 : ZY yJ9_floorMod_f86c9 wsJ9_floorMod_f86c9 cJ9_floorMod_f86c9 6 (some .long) 2 := ⟨⟨_, rfl⟩, by decide +kernel, by decide +kernel, by decide +kernel⟩
set_option maxHeartbeats 4000000 in
set_option maxRecDepth 100000 in
theorem c_J9_floorMod_f86c9 (l : Launch) (hfl : l.stackTraces = false) (D : va_G) (cI cJ : ClassId) (X : va_W) (p1 : Int64) (p2 : Int64) (h_0 : ¬ p2 = 0) : ZM l yJ9_floorMod_f86c9 wsJ9_floorMod_f86c9 { frames := 0, cells := 0, slots := 0, locals := 0 } [.long p1, .long p2] D (zTys cI cJ) X 0 0 (fun v w => v = some (.long (f_J9_floorMod_f86c9 p1 p2)) ∧ w = X) (fun _ _ => False) := by
  refine z_openF (own := RJ9) hfl (cc := cJ9_floorMod_f86c9) (maxL := 6) (ret := (some .long)) (lv := [(0, .long p1), (2, .long p2)]) rfl (by decide +kernel) rfl rfl (Nat.le_of_ble_eq_true rfl) ?_
  intro p e s m args below meth c A C hno hnm hargs
  refine z_lload_n C dJ9_floorMod_f86c9_0 rfl 0 rfl ?_
  refine z_lload_n C dJ9_floorMod_f86c9_1 rfl 1 rfl ?_
  refine z_lrem C dJ9_floorMod_f86c9_2 h_0 ?_
  refine z_lstore (lv' := [(4, .long (p1 - p1 / p2 * p2)), (0, .long p1), (2, .long p2)]) C dJ9_floorMod_f86c9_3 (by decide) rfl ?_
  refine z_lload_n C dJ9_floorMod_f86c9_5 rfl 1 rfl ?_
  refine z_lload_n C dJ9_floorMod_f86c9_6 rfl 2 rfl ?_
  refine z_lxor C dJ9_floorMod_f86c9_7 ?_
  refine z_lconst (v := 0) C dJ9_floorMod_f86c9_8 (by decide) ?_
  refine z_lcmp_ge (tgt := 25) C dJ9_floorMod_f86c9_9 dJ9_floorMod_f86c9_10 (by decide) (fun h1 => ?_) (fun h1 => ?_)
  · refine z_lload C dJ9_floorMod_f86c9_25 0 rfl ?_
    exact z_lret C ⟨congrArg (fun v => some (Value.long v)) (by rw [f_J9_floorMod_f86c9, if_pos h1] : (p1 - p1 / p2 * p2) = (f_J9_floorMod_f86c9 p1 p2)), rfl⟩ (by decide) (by decide) dJ9_floorMod_f86c9_27
  · refine z_lload C dJ9_floorMod_f86c9_13 0 rfl ?_
    refine z_lconst (v := 0) C dJ9_floorMod_f86c9_15 (by decide) ?_
    refine z_lcmp_eq (tgt := 25) C dJ9_floorMod_f86c9_16 dJ9_floorMod_f86c9_17 (by decide) (fun h2 => ?_) (fun h2 => ?_)
    · refine z_lload C dJ9_floorMod_f86c9_25 0 rfl ?_
      exact z_lret C ⟨congrArg (fun v => some (Value.long v)) (by rw [f_J9_floorMod_f86c9, if_neg h1, if_pos h2] : (p1 - p1 / p2 * p2) = (f_J9_floorMod_f86c9 p1 p2)), rfl⟩ (by decide) (by decide) dJ9_floorMod_f86c9_27
    · refine z_lload C dJ9_floorMod_f86c9_20 0 rfl ?_
      refine z_lload_n C dJ9_floorMod_f86c9_22 rfl 2 rfl ?_
      refine z_ladd C dJ9_floorMod_f86c9_23 ?_
      exact z_lret C ⟨congrArg (fun v => some (Value.long v)) (by rw [f_J9_floorMod_f86c9, if_neg h1, if_neg h2] : ((p1 - p1 / p2 * p2) + p2) = (f_J9_floorMod_f86c9 p1 p2)), rfl⟩ (by decide) (by decide) dJ9_floorMod_f86c9_24
def f_J9_floorMod_7cf53 (p1 : Int32) (p2 : Int32) : Int32 := (if 0 ≤ (p1 ^^^ p2) then (p1 - p1 / p2 * p2) else (if (p1 - p1 / p2 * p2) = 0 then (p1 - p1 / p2 * p2) else ((p1 - p1 / p2 * p2) + p2)))
theorem q_J9_floorMod_7cf53 : ZY yJ9_floorMod_7cf53 wsJ9_floorMod_7cf53 cJ9_floorMod_7cf53 3 (some .int) 2 := ⟨⟨_, rfl⟩, by decide +kernel, by decide +kernel, by decide +kernel⟩
set_option maxHeartbeats 4000000 in
set_option maxRecDepth 100000 in
theorem c_J9_floorMod_7cf53 (l : Launch) (hfl : l.stackTraces = false) (D : va_G) (cI cJ : ClassId) (X : va_W) (p1 : Int32) (p2 : Int32) (h_0 : ¬ p2 = 0) : ZM l yJ9_floorMod_7cf53 wsJ9_floorMod_7cf53 { frames := 0, cells := 0, slots := 0, locals := 0 } [.int p1, .int p2] D (zTys cI cJ) X 0 0 (fun v w => v = some (.int (f_J9_floorMod_7cf53 p1 p2)) ∧ w = X) (fun _ _ => False) := by
  refine z_openF (own := RJ9) hfl (cc := cJ9_floorMod_7cf53) (maxL := 3) (ret := (some .int)) (lv := [(0, .int p1), (1, .int p2)]) rfl (by decide +kernel) rfl rfl (Nat.le_of_ble_eq_true rfl) ?_
  intro p e s m args below meth c A C hno hnm hargs
  refine z_iload_n C dJ9_floorMod_7cf53_0 rfl 0 rfl ?_
  refine z_iload_n C dJ9_floorMod_7cf53_1 rfl 1 rfl ?_
  refine z_irem C dJ9_floorMod_7cf53_2 h_0 ?_
  refine z_istore_n (lv' := [(2, .int (p1 - p1 / p2 * p2)), (0, .int p1), (1, .int p2)]) C dJ9_floorMod_7cf53_3 rfl (by decide) rfl ?_
  refine z_iload_n C dJ9_floorMod_7cf53_4 rfl 1 rfl ?_
  refine z_iload_n C dJ9_floorMod_7cf53_5 rfl 2 rfl ?_
  refine z_ixor C dJ9_floorMod_7cf53_6 ?_
  refine z_if_ge (tgt := 18) C dJ9_floorMod_7cf53_7 (by decide) (fun h1 => ?_) (fun h1 => ?_)
  · refine z_iload_n C dJ9_floorMod_7cf53_18 rfl 0 rfl ?_
    exact z_iret C ⟨congrArg (fun v => some (Value.int v)) (by rw [f_J9_floorMod_7cf53, if_pos h1] : (p1 - p1 / p2 * p2) = (f_J9_floorMod_7cf53 p1 p2)), rfl⟩ (by decide) (by decide) dJ9_floorMod_7cf53_19
  · refine z_iload_n C dJ9_floorMod_7cf53_10 rfl 0 rfl ?_
    refine z_if_eq (tgt := 18) C dJ9_floorMod_7cf53_11 (by decide) (fun h2 => ?_) (fun h2 => ?_)
    · refine z_iload_n C dJ9_floorMod_7cf53_18 rfl 0 rfl ?_
      exact z_iret C ⟨congrArg (fun v => some (Value.int v)) (by rw [f_J9_floorMod_7cf53, if_neg h1, if_pos h2] : (p1 - p1 / p2 * p2) = (f_J9_floorMod_7cf53 p1 p2)), rfl⟩ (by decide) (by decide) dJ9_floorMod_7cf53_19
    · refine z_iload_n C dJ9_floorMod_7cf53_14 rfl 0 rfl ?_
      refine z_iload_n C dJ9_floorMod_7cf53_15 rfl 2 rfl ?_
      refine z_iadd C dJ9_floorMod_7cf53_16 ?_
      exact z_iret C ⟨congrArg (fun v => some (Value.int v)) (by rw [f_J9_floorMod_7cf53, if_neg h1, if_neg h2] : ((p1 - p1 / p2 * p2) + p2) = (f_J9_floorMod_7cf53 p1 p2)), rfl⟩ (by decide) (by decide) dJ9_floorMod_7cf53_17
def f_X0_countInDay (p1 : Int32) : Int64 := (if p1 = 104 then 24 else (if p1 = 105 then 1440 else (if p1 = 110 then 86400000000000 else (if p1 = 115 then 86400 else 0))))
theorem q_X0_countInDay : ZY yX0_countInDay wsX0_countInDay cX0_countInDay 1 (some .long) 1 := ⟨⟨_, rfl⟩, by decide +kernel, by decide +kernel, by decide +kernel⟩
set_option maxHeartbeats 4000000 in
set_option maxRecDepth 100000 in
theorem c_X0_countInDay (l : Launch) (hfl : l.stackTraces = false) (D : va_G) (cI cJ : ClassId) (X : va_W) (p1 : Int32)  : ZM l yX0_countInDay wsX0_countInDay { frames := 0, cells := 0, slots := 0, locals := 0 } [.int p1] D (zTys cI cJ) X 0 0 (fun v w => v = some (.long (f_X0_countInDay p1)) ∧ w = X) (fun _ _ => False) := by
  refine z_open (own := RX0) hfl (cc := cX0_countInDay) (maxL := 1) (ret := (some .long)) (lv := [(0, .int p1)]) rfl (by decide) rfl rfl (Nat.le_of_ble_eq_true rfl) ?_
  intro p e s m args below meth c A C hno hnm hargs
  have w1 := C.1.2.2.2.2 (.constantLong RX0 7 (24)) (by decide +kernel)
  have w2 := C.1.2.2.2.2 (.constantLong RX0 9 (1440)) (by decide +kernel)
  have w3 := C.1.2.2.2.2 (.constantLong RX0 15 (86400000000000)) (by decide +kernel)
  have w4 := C.1.2.2.2.2 (.constantLong RX0 13 (86400)) (by decide +kernel)
  refine z_iload_n C dX0_countInDay_0 rfl 0 rfl ?_
  refine zcases (p1 = 104) (fun h1 => ?_) (fun h1 => ?_)
  · refine z_lookup (off := 43) (tgt := 44) C dX0_countInDay_1 (by decide) (by rw [h1]; decide) (by decide) ?_
    refine z_ldc2 (v := 24) C w1 dX0_countInDay_44 ?_
    exact z_lret C ⟨congrArg (fun v => some (Value.long v)) (by rw [f_X0_countInDay, if_pos h1] : (24 : Int64) = (f_X0_countInDay p1)), rfl⟩ (by decide) (by decide) dX0_countInDay_47
  · refine zcases (p1 = 105) (fun h2 => ?_) (fun h2 => ?_)
    · refine z_lookup (off := 47) (tgt := 48) C dX0_countInDay_1 (by decide) (by rw [h2]; decide) (by decide) ?_
      refine z_ldc2 (v := 1440) C w2 dX0_countInDay_48 ?_
      exact z_lret C ⟨congrArg (fun v => some (Value.long v)) (by rw [f_X0_countInDay, if_neg h1, if_pos h2] : (1440 : Int64) = (f_X0_countInDay p1)), rfl⟩ (by decide) (by decide) dX0_countInDay_51
    · refine zcases (p1 = 110) (fun h3 => ?_) (fun h3 => ?_)
      · refine z_lookup (off := 55) (tgt := 56) C dX0_countInDay_1 (by decide) (by rw [h3]; decide) (by decide) ?_
        refine z_ldc2 (v := 86400000000000) C w3 dX0_countInDay_56 ?_
        exact z_lret C ⟨congrArg (fun v => some (Value.long v)) (by rw [f_X0_countInDay, if_neg h1, if_neg h2, if_pos h3] : (86400000000000 : Int64) = (f_X0_countInDay p1)), rfl⟩ (by decide) (by decide) dX0_countInDay_59
      · refine zcases (p1 = 115) (fun h4 => ?_) (fun h4 => ?_)
        · refine z_lookup (off := 51) (tgt := 52) C dX0_countInDay_1 (by decide) (by rw [h4]; decide) (by decide) ?_
          refine z_ldc2 (v := 86400) C w4 dX0_countInDay_52 ?_
          exact z_lret C ⟨congrArg (fun v => some (Value.long v)) (by rw [f_X0_countInDay, if_neg h1, if_neg h2, if_neg h3, if_pos h4] : (86400 : Int64) = (f_X0_countInDay p1)), rfl⟩ (by decide) (by decide) dX0_countInDay_55
        · refine z_lookup (off := 59) (tgt := 60) C dX0_countInDay_1 (by decide) (zlk4 h1 h2 h3 h4) (by decide) ?_
          refine z_lconst (v := 0) C dX0_countInDay_60 (by decide) ?_
          exact z_lret C ⟨congrArg (fun v => some (Value.long v)) (by rw [f_X0_countInDay, if_neg h1, if_neg h2, if_neg h3, if_neg h4] : (0 : Int64) = (f_X0_countInDay p1)), rfl⟩ (by decide) (by decide) dX0_countInDay_61
def f_X0_roundDay (p1 : Int64) : Int64 := (f_J9_floorMod_f86c9 p1 86400000000000)
theorem q_X0_roundDay : ZY yX0_roundDay wsX0_roundDay cX0_roundDay 2 (some .long) 1 := ⟨⟨_, rfl⟩, by decide +kernel, by decide +kernel, by decide +kernel⟩
set_option maxHeartbeats 4000000 in
set_option maxRecDepth 100000 in
theorem c_X0_roundDay (l : Launch) (hfl : l.stackTraces = false) (D : va_G) (cI cJ : ClassId) (X : va_W) (p1 : Int64)  : ZM l yX0_roundDay wsX0_roundDay { frames := 1, cells := 0, slots := 0, locals := 25 } [.long p1] D (zTys cI cJ) X 0 0 (fun v w => v = some (.long (f_X0_roundDay p1)) ∧ w = X) (fun _ _ => False) := by
  refine z_open (own := RX0) hfl (cc := cX0_roundDay) (maxL := 2) (ret := (some .long)) (lv := [(0, .long p1)]) rfl (by decide) rfl rfl (Nat.le_of_ble_eq_true rfl) ?_
  intro p e s m args below meth c A C hno hnm hargs
  have w1 := C.1.2.2.2.2 (.constantLong RX0 15 (86400000000000)) (by decide +kernel)
  refine z_lload_n C dX0_roundDay_0 rfl 0 rfl ?_
  refine z_ldc2 (v := 86400000000000) C w1 dX0_roundDay_1 ?_
  refine z_sl (rest := []) C (c_J9_floorMod_f86c9 l hfl D cI cJ _ p1 (86400000000000 : Int64) (by decide)) q_J9_floorMod_f86c9 gX0_roundDay_J9_floorMod_f86c9 ⟨rfl, rfl⟩ rfl rfl (Nat.le_of_ble_eq_true rfl) ⟨Nat.le_of_ble_eq_true rfl, Nat.le_of_ble_eq_true rfl⟩ ⟨Nat.le_of_ble_eq_true rfl, Nat.le_of_ble_eq_true rfl⟩ dX0_roundDay_4 ?_
  exact z_lret C ⟨congrArg (fun v => some (Value.long v)) (rfl : (f_J9_floorMod_f86c9 p1 86400000000000) = (f_X0_roundDay p1)), rfl⟩ (by decide) (by decide) dX0_roundDay_7
def f_X0_daysOf (p1 : Int64) (p2 : Int64) : Int64 := (if p2 ≤ 0 then 0 else (f_J9_floorDiv_f86c9 p1 p2))
theorem q_X0_daysOf : ZY yX0_daysOf wsX0_daysOf cX0_daysOf 4 (some .long) 2 := ⟨⟨_, rfl⟩, by decide +kernel, by decide +kernel, by decide +kernel⟩
set_option maxHeartbeats 4000000 in
set_option maxRecDepth 100000 in
theorem c_X0_daysOf (l : Launch) (hfl : l.stackTraces = false) (D : va_G) (cI cJ : ClassId) (X : va_W) (p1 : Int64) (p2 : Int64)  : ZM l yX0_daysOf wsX0_daysOf { frames := 1, cells := 0, slots := 0, locals := 25 } [.long p1, .long p2] D (zTys cI cJ) X 0 0 (fun v w => v = some (.long (f_X0_daysOf p1 p2)) ∧ w = X) (fun _ _ => False) := by
  refine z_open (own := RX0) hfl (cc := cX0_daysOf) (maxL := 4) (ret := (some .long)) (lv := [(0, .long p1), (2, .long p2)]) rfl (by decide) rfl rfl (Nat.le_of_ble_eq_true rfl) ?_
  intro p e s m args below meth c A C hno hnm hargs
  refine z_lload_n C dX0_daysOf_0 rfl 1 rfl ?_
  refine z_lconst (v := 0) C dX0_daysOf_1 (by decide) ?_
  refine z_lcmp_le (tgt := 14) C dX0_daysOf_2 dX0_daysOf_3 (by decide) (fun h1 => ?_) (fun h1 => ?_)
  · refine z_lconst (v := 0) C dX0_daysOf_14 (by decide) ?_
    exact z_lret C ⟨congrArg (fun v => some (Value.long v)) (by rw [f_X0_daysOf, if_pos h1] : (0 : Int64) = (f_X0_daysOf p1 p2)), rfl⟩ (by decide) (by decide) dX0_daysOf_15
  · refine z_lload_n C dX0_daysOf_6 rfl 0 rfl ?_
    refine z_lload_n C dX0_daysOf_7 rfl 1 rfl ?_
    refine z_sl (rest := []) C (c_J9_floorDiv_f86c9 l hfl D cI cJ _ p1 p2 (znle_ne h1)) q_J9_floorDiv_f86c9 gX0_daysOf_J9_floorDiv_f86c9 ⟨rfl, rfl⟩ rfl rfl (Nat.le_of_ble_eq_true rfl) ⟨Nat.le_of_ble_eq_true rfl, Nat.le_of_ble_eq_true rfl⟩ ⟨Nat.le_of_ble_eq_true rfl, Nat.le_of_ble_eq_true rfl⟩ dX0_daysOf_8 ?_
    refine z_goto (tgt := 15) C dX0_daysOf_11 (by decide) ?_
    exact z_lret C ⟨congrArg (fun v => some (Value.long v)) (by rw [f_X0_daysOf, if_neg h1] : (f_J9_floorDiv_f86c9 p1 p2) = (f_X0_daysOf p1 p2)), rfl⟩ (by decide) (by decide) dX0_daysOf_15
def f_X0_restOfDay (p1 : Int64) (p2 : Int64) : Int64 := (if p2 ≤ 0 then 0 else ((f_J9_floorMod_f86c9 p1 p2) * (86400000000000 / p2)))
theorem q_X0_restOfDay : ZY yX0_restOfDay wsX0_restOfDay cX0_restOfDay 4 (some .long) 2 := ⟨⟨_, rfl⟩, by decide +kernel, by decide +kernel, by decide +kernel⟩
set_option maxHeartbeats 4000000 in
set_option maxRecDepth 100000 in
theorem c_X0_restOfDay (l : Launch) (hfl : l.stackTraces = false) (D : va_G) (cI cJ : ClassId) (X : va_W) (p1 : Int64) (p2 : Int64)  : ZM l yX0_restOfDay wsX0_restOfDay { frames := 1, cells := 0, slots := 0, locals := 25 } [.long p1, .long p2] D (zTys cI cJ) X 0 0 (fun v w => v = some (.long (f_X0_restOfDay p1 p2)) ∧ w = X) (fun _ _ => False) := by
  refine z_open (own := RX0) hfl (cc := cX0_restOfDay) (maxL := 4) (ret := (some .long)) (lv := [(0, .long p1), (2, .long p2)]) rfl (by decide) rfl rfl (Nat.le_of_ble_eq_true rfl) ?_
  intro p e s m args below meth c A C hno hnm hargs
  have w1 := C.1.2.2.2.2 (.constantLong RX0 15 (86400000000000)) (by decide +kernel)
  refine z_lload_n C dX0_restOfDay_0 rfl 1 rfl ?_
  refine z_lconst (v := 0) C dX0_restOfDay_1 (by decide) ?_
  refine z_lcmp_le (tgt := 20) C dX0_restOfDay_2 dX0_restOfDay_3 (by decide) (fun h1 => ?_) (fun h1 => ?_)
  · refine z_lconst (v := 0) C dX0_restOfDay_20 (by decide) ?_
    exact z_lret C ⟨congrArg (fun v => some (Value.long v)) (by rw [f_X0_restOfDay, if_pos h1] : (0 : Int64) = (f_X0_restOfDay p1 p2)), rfl⟩ (by decide) (by decide) dX0_restOfDay_21
  · refine z_lload_n C dX0_restOfDay_6 rfl 0 rfl ?_
    refine z_lload_n C dX0_restOfDay_7 rfl 1 rfl ?_
    refine z_sl (rest := []) C (c_J9_floorMod_f86c9 l hfl D cI cJ _ p1 p2 (znle_ne h1)) q_J9_floorMod_f86c9 gX0_restOfDay_J9_floorMod_f86c9 ⟨rfl, rfl⟩ rfl rfl (Nat.le_of_ble_eq_true rfl) ⟨Nat.le_of_ble_eq_true rfl, Nat.le_of_ble_eq_true rfl⟩ ⟨Nat.le_of_ble_eq_true rfl, Nat.le_of_ble_eq_true rfl⟩ dX0_restOfDay_8 ?_
    refine z_ldc2 (v := 86400000000000) C w1 dX0_restOfDay_11 ?_
    refine z_lload_n C dX0_restOfDay_14 rfl 1 rfl ?_
    refine z_ldiv C dX0_restOfDay_15 (znle_ne h1) ?_
    refine z_lmul C dX0_restOfDay_16 ?_
    refine z_goto (tgt := 21) C dX0_restOfDay_17 (by decide) ?_
    exact z_lret C ⟨congrArg (fun v => some (Value.long v)) (by rw [f_X0_restOfDay, if_neg h1] : ((f_J9_floorMod_f86c9 p1 p2) * (86400000000000 / p2)) = (f_X0_restOfDay p1 p2)), rfl⟩ (by decide) (by decide) dX0_restOfDay_21
def f_X0_cut (p1 : Int64) (p2 : Int64) : Int64 := (if p1 ≤ 0 then (if 0 ≤ p1 then p1 else (if p2 ≤ 0 then p1 else (p1 + 1))) else (if 0 ≤ p2 then (if 0 ≤ p1 then p1 else (if p2 ≤ 0 then p1 else (p1 + 1))) else (p1 - 1)))
theorem q_X0_cut : ZY yX0_cut wsX0_cut cX0_cut 4 (some .long) 2 := ⟨⟨_, rfl⟩, by decide +kernel, by decide +kernel, by decide +kernel⟩
set_option maxHeartbeats 4000000 in
set_option maxRecDepth 100000 in
theorem c_X0_cut (l : Launch) (hfl : l.stackTraces = false) (D : va_G) (cI cJ : ClassId) (X : va_W) (p1 : Int64) (p2 : Int64)  : ZM l yX0_cut wsX0_cut { frames := 0, cells := 0, slots := 0, locals := 0 } [.long p1, .long p2] D (zTys cI cJ) X 0 0 (fun v w => v = some (.long (f_X0_cut p1 p2)) ∧ w = X) (fun _ _ => False) := by
  refine z_open (own := RX0) hfl (cc := cX0_cut) (maxL := 4) (ret := (some .long)) (lv := [(0, .long p1), (2, .long p2)]) rfl (by decide) rfl rfl (Nat.le_of_ble_eq_true rfl) ?_
  intro p e s m args below meth c A C hno hnm hargs
  refine z_lload_n C dX0_cut_0 rfl 0 rfl ?_
  refine z_lconst (v := 0) C dX0_cut_1 (by decide) ?_
  refine z_lcmp_le (tgt := 16) C dX0_cut_2 dX0_cut_3 (by decide) (fun h1 => ?_) (fun h1 => ?_)
  · refine z_lload_n C dX0_cut_16 rfl 0 rfl ?_
    refine z_lconst (v := 0) C dX0_cut_17 (by decide) ?_
    refine z_lcmp_ge (tgt := 34) C dX0_cut_18 dX0_cut_19 (by decide) (fun h2 => ?_) (fun h2 => ?_)
    · refine z_lload_n C dX0_cut_34 rfl 0 rfl ?_
      exact z_lret C ⟨congrArg (fun v => some (Value.long v)) (by rw [f_X0_cut, if_pos h1, if_pos h2] : p1 = (f_X0_cut p1 p2)), rfl⟩ (by decide) (by decide) dX0_cut_35
    · refine z_lload_n C dX0_cut_22 rfl 1 rfl ?_
      refine z_lconst (v := 0) C dX0_cut_23 (by decide) ?_
      refine z_lcmp_le (tgt := 34) C dX0_cut_24 dX0_cut_25 (by decide) (fun h3 => ?_) (fun h3 => ?_)
      · refine z_lload_n C dX0_cut_34 rfl 0 rfl ?_
        exact z_lret C ⟨congrArg (fun v => some (Value.long v)) (by rw [f_X0_cut, if_pos h1, if_neg h2, if_pos h3] : p1 = (f_X0_cut p1 p2)), rfl⟩ (by decide) (by decide) dX0_cut_35
      · refine z_lload_n C dX0_cut_28 rfl 0 rfl ?_
        refine z_lconst (v := 1) C dX0_cut_29 (by decide) ?_
        refine z_ladd C dX0_cut_30 ?_
        refine z_goto (tgt := 35) C dX0_cut_31 (by decide) ?_
        exact z_lret C ⟨congrArg (fun v => some (Value.long v)) (by rw [f_X0_cut, if_pos h1, if_neg h2, if_neg h3] : (p1 + 1) = (f_X0_cut p1 p2)), rfl⟩ (by decide) (by decide) dX0_cut_35
  · refine z_lload_n C dX0_cut_6 rfl 1 rfl ?_
    refine z_lconst (v := 0) C dX0_cut_7 (by decide) ?_
    refine z_lcmp_ge (tgt := 16) C dX0_cut_8 dX0_cut_9 (by decide) (fun h4 => ?_) (fun h4 => ?_)
    · refine z_lload_n C dX0_cut_16 rfl 0 rfl ?_
      refine z_lconst (v := 0) C dX0_cut_17 (by decide) ?_
      refine z_lcmp_ge (tgt := 34) C dX0_cut_18 dX0_cut_19 (by decide) (fun h5 => ?_) (fun h5 => ?_)
      · refine z_lload_n C dX0_cut_34 rfl 0 rfl ?_
        exact z_lret C ⟨congrArg (fun v => some (Value.long v)) (by rw [f_X0_cut, if_neg h1, if_pos h4, if_pos h5] : p1 = (f_X0_cut p1 p2)), rfl⟩ (by decide) (by decide) dX0_cut_35
      · refine z_lload_n C dX0_cut_22 rfl 1 rfl ?_
        refine z_lconst (v := 0) C dX0_cut_23 (by decide) ?_
        refine z_lcmp_le (tgt := 34) C dX0_cut_24 dX0_cut_25 (by decide) (fun h6 => ?_) (fun h6 => ?_)
        · refine z_lload_n C dX0_cut_34 rfl 0 rfl ?_
          exact z_lret C ⟨congrArg (fun v => some (Value.long v)) (by rw [f_X0_cut, if_neg h1, if_pos h4, if_neg h5, if_pos h6] : p1 = (f_X0_cut p1 p2)), rfl⟩ (by decide) (by decide) dX0_cut_35
        · refine z_lload_n C dX0_cut_28 rfl 0 rfl ?_
          refine z_lconst (v := 1) C dX0_cut_29 (by decide) ?_
          refine z_ladd C dX0_cut_30 ?_
          refine z_goto (tgt := 35) C dX0_cut_31 (by decide) ?_
          exact z_lret C ⟨congrArg (fun v => some (Value.long v)) (by rw [f_X0_cut, if_neg h1, if_pos h4, if_neg h5, if_neg h6] : (p1 + 1) = (f_X0_cut p1 p2)), rfl⟩ (by decide) (by decide) dX0_cut_35
    · refine z_lload_n C dX0_cut_12 rfl 0 rfl ?_
      refine z_lconst (v := 1) C dX0_cut_13 (by decide) ?_
      refine z_lsub C dX0_cut_14 ?_
      exact z_lret C ⟨congrArg (fun v => some (Value.long v)) (by rw [f_X0_cut, if_neg h1, if_neg h4] : (p1 - 1) = (f_X0_cut p1 p2)), rfl⟩ (by decide) (by decide) dX0_cut_15
def f_X0_wholeSeconds (p1 : Int64) (p2 : Int64) : Int64 := (f_X0_cut ((p1 * 86400) + (p2 / 1000000000)) (p2 - p2 / 1000000000 * 1000000000))
theorem q_X0_wholeSeconds : ZY yX0_wholeSeconds wsX0_wholeSeconds cX0_wholeSeconds 4 (some .long) 2 := ⟨⟨_, rfl⟩, by decide +kernel, by decide +kernel, by decide +kernel⟩
set_option maxHeartbeats 4000000 in
set_option maxRecDepth 100000 in
theorem c_X0_wholeSeconds (l : Launch) (hfl : l.stackTraces = false) (D : va_G) (cI cJ : ClassId) (X : va_W) (p1 : Int64) (p2 : Int64)  : ZM l yX0_wholeSeconds wsX0_wholeSeconds { frames := 1, cells := 0, slots := 0, locals := 23 } [.long p1, .long p2] D (zTys cI cJ) X 0 0 (fun v w => v = some (.long (f_X0_wholeSeconds p1 p2)) ∧ w = X) (fun _ _ => False) := by
  refine z_open (own := RX0) hfl (cc := cX0_wholeSeconds) (maxL := 4) (ret := (some .long)) (lv := [(0, .long p1), (2, .long p2)]) rfl (by decide) rfl rfl (Nat.le_of_ble_eq_true rfl) ?_
  intro p e s m args below meth c A C hno hnm hargs
  have w1 := C.1.2.2.2.2 (.constantLong RX0 13 (86400)) (by decide +kernel)
  have w2 := C.1.2.2.2.2 (.constantLong RX0 26 (1000000000)) (by decide +kernel)
  refine z_lload_n C dX0_wholeSeconds_0 rfl 0 rfl ?_
  refine z_ldc2 (v := 86400) C w1 dX0_wholeSeconds_1 ?_
  refine z_lmul C dX0_wholeSeconds_4 ?_
  refine z_lload_n C dX0_wholeSeconds_5 rfl 1 rfl ?_
  refine z_ldc2 (v := 1000000000) C w2 dX0_wholeSeconds_6 ?_
  refine z_ldiv C dX0_wholeSeconds_9 (by decide) ?_
  refine z_ladd C dX0_wholeSeconds_10 ?_
  refine z_lload_n C dX0_wholeSeconds_11 rfl 1 rfl ?_
  refine z_ldc2 (v := 1000000000) C w2 dX0_wholeSeconds_12 ?_
  refine z_lrem C dX0_wholeSeconds_15 (by decide) ?_
  refine z_sl (rest := []) C (c_X0_cut l hfl D cI cJ _ ((p1 * 86400) + (p2 / 1000000000)) (p2 - p2 / 1000000000 * 1000000000) ) q_X0_cut gX0_wholeSeconds_X0_cut ⟨rfl, rfl⟩ rfl rfl (Nat.le_of_ble_eq_true rfl) ⟨Nat.le_of_ble_eq_true rfl, Nat.le_of_ble_eq_true rfl⟩ ⟨Nat.le_of_ble_eq_true rfl, Nat.le_of_ble_eq_true rfl⟩ dX0_wholeSeconds_16 ?_
  exact z_lret C ⟨congrArg (fun v => some (Value.long v)) (rfl : (f_X0_cut ((p1 * 86400) + (p2 / 1000000000)) (p2 - p2 / 1000000000 * 1000000000)) = (f_X0_wholeSeconds p1 p2)), rfl⟩ (by decide) (by decide) dX0_wholeSeconds_19
def f_X1_isDay (p1 : Int64) : Int32 := (if p1 < (-4371587) then 0 else (if 2932896 < p1 then 0 else 1))
theorem q_X1_isDay : ZY yX1_isDay wsX1_isDay cX1_isDay 2 (some .boolean) 1 := ⟨⟨_, rfl⟩, by decide +kernel, by decide +kernel, by decide +kernel⟩
set_option maxHeartbeats 4000000 in
set_option maxRecDepth 100000 in
theorem c_X1_isDay (l : Launch) (hfl : l.stackTraces = false) (D : va_G) (cI cJ : ClassId) (X : va_W) (p1 : Int64)  : ZM l yX1_isDay wsX1_isDay { frames := 0, cells := 0, slots := 0, locals := 0 } [.long p1] D (zTys cI cJ) X 0 0 (fun v w => v = some (.int (f_X1_isDay p1)) ∧ w = X) (fun _ _ => False) := by
  refine z_open (own := RX1) hfl (cc := cX1_isDay) (maxL := 2) (ret := (some .boolean)) (lv := [(0, .long p1)]) rfl (by decide) rfl rfl (Nat.le_of_ble_eq_true rfl) ?_
  intro p e s m args below meth c A C hno hnm hargs
  have w1 := C.1.2.2.2.2 (.constantLong RX1 9 (-4371587)) (by decide +kernel)
  have w2 := C.1.2.2.2.2 (.constantLong RX1 11 (2932896)) (by decide +kernel)
  refine z_ldc2 (v := (-4371587)) C w1 dX1_isDay_0 ?_
  refine z_lload_n C dX1_isDay_3 rfl 0 rfl ?_
  refine z_lcmp_gt (tgt := 20) C dX1_isDay_4 dX1_isDay_5 (by decide) (fun h1 => ?_) (fun h1 => ?_)
  · refine z_iconst (v := 0) C dX1_isDay_20 (by decide) ?_
    exact z_zret C (by decide) ⟨congrArg (fun v => some (Value.int v)) (by rw [f_X1_isDay, if_pos h1] : (0 : Int32) = (f_X1_isDay p1)), rfl⟩ (by decide) (by decide) dX1_isDay_21
  · refine z_lload_n C dX1_isDay_8 rfl 0 rfl ?_
    refine z_ldc2 (v := 2932896) C w2 dX1_isDay_9 ?_
    refine z_lcmp_gt (tgt := 20) C dX1_isDay_12 dX1_isDay_13 (by decide) (fun h2 => ?_) (fun h2 => ?_)
    · refine z_iconst (v := 0) C dX1_isDay_20 (by decide) ?_
      exact z_zret C (by decide) ⟨congrArg (fun v => some (Value.int v)) (by rw [f_X1_isDay, if_neg h1, if_pos h2] : (0 : Int32) = (f_X1_isDay p1)), rfl⟩ (by decide) (by decide) dX1_isDay_21
    · refine z_iconst (v := 1) C dX1_isDay_16 (by decide) ?_
      refine z_goto (tgt := 21) C dX1_isDay_17 (by decide) ?_
      exact z_zret C (by decide) ⟨congrArg (fun v => some (Value.int v)) (by rw [f_X1_isDay, if_neg h1, if_neg h2] : (1 : Int32) = (f_X1_isDay p1)), rfl⟩ (by decide) (by decide) dX1_isDay_21
theorem b_X1_isDay (p1 : Int64) : f_X1_isDay p1 = 0 ∨ f_X1_isDay p1 = 1 := by
  unfold f_X1_isDay
  repeat (first | exact Or.inl rfl | exact Or.inr rfl | apply zbor | split)
def f_X1_isUnit (p1 : Int32) : Int32 := (if p1 = 100 then 1 else (if p1 = 119 then 1 else (if p1 = 109 then 1 else (if p1 = 121 then 1 else 0))))
theorem q_X1_isUnit : ZY yX1_isUnit wsX1_isUnit cX1_isUnit 1 (some .boolean) 1 := ⟨⟨_, rfl⟩, by decide +kernel, by decide +kernel, by decide +kernel⟩
set_option maxHeartbeats 4000000 in
set_option maxRecDepth 100000 in
theorem c_X1_isUnit (l : Launch) (hfl : l.stackTraces = false) (D : va_G) (cI cJ : ClassId) (X : va_W) (p1 : Int32)  : ZM l yX1_isUnit wsX1_isUnit { frames := 0, cells := 0, slots := 0, locals := 0 } [.int p1] D (zTys cI cJ) X 0 0 (fun v w => v = some (.int (f_X1_isUnit p1)) ∧ w = X) (fun _ _ => False) := by
  refine z_open (own := RX1) hfl (cc := cX1_isUnit) (maxL := 1) (ret := (some .boolean)) (lv := [(0, .int p1)]) rfl (by decide) rfl rfl (Nat.le_of_ble_eq_true rfl) ?_
  intro p e s m args below meth c A C hno hnm hargs
  refine z_iload_n C dX1_isUnit_0 rfl 0 rfl ?_
  refine z_bipush (v := 100) C dX1_isUnit_1 (by decide) ?_
  refine z_icmp_eq (tgt := 24) C dX1_isUnit_3 (by decide) (fun h1 => ?_) (fun h1 => ?_)
  · refine z_iconst (v := 1) C dX1_isUnit_24 (by decide) ?_
    refine z_goto (tgt := 29) C dX1_isUnit_25 (by decide) ?_
    exact z_zret C (by decide) ⟨congrArg (fun v => some (Value.int v)) (by rw [f_X1_isUnit, if_pos h1] : (1 : Int32) = (f_X1_isUnit p1)), rfl⟩ (by decide) (by decide) dX1_isUnit_29
  · refine z_iload_n C dX1_isUnit_6 rfl 0 rfl ?_
    refine z_bipush (v := 119) C dX1_isUnit_7 (by decide) ?_
    refine z_icmp_eq (tgt := 24) C dX1_isUnit_9 (by decide) (fun h2 => ?_) (fun h2 => ?_)
    · refine z_iconst (v := 1) C dX1_isUnit_24 (by decide) ?_
      refine z_goto (tgt := 29) C dX1_isUnit_25 (by decide) ?_
      exact z_zret C (by decide) ⟨congrArg (fun v => some (Value.int v)) (by rw [f_X1_isUnit, if_neg h1, if_pos h2] : (1 : Int32) = (f_X1_isUnit p1)), rfl⟩ (by decide) (by decide) dX1_isUnit_29
    · refine z_iload_n C dX1_isUnit_12 rfl 0 rfl ?_
      refine z_bipush (v := 109) C dX1_isUnit_13 (by decide) ?_
      refine z_icmp_eq (tgt := 24) C dX1_isUnit_15 (by decide) (fun h3 => ?_) (fun h3 => ?_)
      · refine z_iconst (v := 1) C dX1_isUnit_24 (by decide) ?_
        refine z_goto (tgt := 29) C dX1_isUnit_25 (by decide) ?_
        exact z_zret C (by decide) ⟨congrArg (fun v => some (Value.int v)) (by rw [f_X1_isUnit, if_neg h1, if_neg h2, if_pos h3] : (1 : Int32) = (f_X1_isUnit p1)), rfl⟩ (by decide) (by decide) dX1_isUnit_29
      · refine z_iload_n C dX1_isUnit_18 rfl 0 rfl ?_
        refine z_bipush (v := 121) C dX1_isUnit_19 (by decide) ?_
        refine z_icmp_ne (tgt := 28) C dX1_isUnit_21 (by decide) (fun h4 => ?_) (fun h4 => ?_)
        · refine z_iconst (v := 0) C dX1_isUnit_28 (by decide) ?_
          exact z_zret C (by decide) ⟨congrArg (fun v => some (Value.int v)) (by rw [f_X1_isUnit, if_neg h1, if_neg h2, if_neg h3, if_neg h4] : (0 : Int32) = (f_X1_isUnit p1)), rfl⟩ (by decide) (by decide) dX1_isUnit_29
        · refine z_iconst (v := 1) C dX1_isUnit_24 (by decide) ?_
          refine z_goto (tgt := 29) C dX1_isUnit_25 (by decide) ?_
          exact z_zret C (by decide) ⟨congrArg (fun v => some (Value.int v)) (by rw [f_X1_isUnit, if_neg h1, if_neg h2, if_neg h3, if_pos h4] : (1 : Int32) = (f_X1_isUnit p1)), rfl⟩ (by decide) (by decide) dX1_isUnit_29
theorem b_X1_isUnit (p1 : Int32) : f_X1_isUnit p1 = 0 ∨ f_X1_isUnit p1 = 1 := by
  unfold f_X1_isUnit
  repeat (first | exact Or.inl rfl | exact Or.inr rfl | apply zbor | split)
def f_X1_isLongYear (p1 : Int64) : Int32 := (if (p1 - p1 / 4 * 4) = 0 then (if (p1 - p1 / 100 * 100) = 0 then (if (p1 - p1 / 400 * 400) = 0 then 1 else 0) else 1) else 0)
theorem q_X1_isLongYear : ZY yX1_isLongYear wsX1_isLongYear cX1_isLongYear 2 (some .boolean) 1 := ⟨⟨_, rfl⟩, by decide +kernel, by decide +kernel, by decide +kernel⟩
set_option maxHeartbeats 4000000 in
set_option maxRecDepth 100000 in
theorem c_X1_isLongYear (l : Launch) (hfl : l.stackTraces = false) (D : va_G) (cI cJ : ClassId) (X : va_W) (p1 : Int64)  : ZM l yX1_isLongYear wsX1_isLongYear { frames := 0, cells := 0, slots := 0, locals := 0 } [.long p1] D (zTys cI cJ) X 0 0 (fun v w => v = some (.int (f_X1_isLongYear p1)) ∧ w = X) (fun _ _ => False) := by
  refine z_open (own := RX1) hfl (cc := cX1_isLongYear) (maxL := 2) (ret := (some .boolean)) (lv := [(0, .long p1)]) rfl (by decide) rfl rfl (Nat.le_of_ble_eq_true rfl) ?_
  intro p e s m args below meth c A C hno hnm hargs
  have w1 := C.1.2.2.2.2 (.constantLong RX1 13 (4)) (by decide +kernel)
  have w2 := C.1.2.2.2.2 (.constantLong RX1 15 (100)) (by decide +kernel)
  have w3 := C.1.2.2.2.2 (.constantLong RX1 17 (400)) (by decide +kernel)
  refine z_lload_n C dX1_isLongYear_0 rfl 0 rfl ?_
  refine z_ldc2 (v := 4) C w1 dX1_isLongYear_1 ?_
  refine z_lrem C dX1_isLongYear_4 (by decide) ?_
  refine z_lconst (v := 0) C dX1_isLongYear_5 (by decide) ?_
  refine z_lcmp_ne (tgt := 34) C dX1_isLongYear_6 dX1_isLongYear_7 (by decide) (fun h1 => ?_) (fun h1 => ?_)
  · refine z_iconst (v := 0) C dX1_isLongYear_34 (by decide) ?_
    exact z_zret C (by decide) ⟨congrArg (fun v => some (Value.int v)) (by rw [f_X1_isLongYear, if_neg h1] : (0 : Int32) = (f_X1_isLongYear p1)), rfl⟩ (by decide) (by decide) dX1_isLongYear_35
  · refine z_lload_n C dX1_isLongYear_10 rfl 0 rfl ?_
    refine z_ldc2 (v := 100) C w2 dX1_isLongYear_11 ?_
    refine z_lrem C dX1_isLongYear_14 (by decide) ?_
    refine z_lconst (v := 0) C dX1_isLongYear_15 (by decide) ?_
    refine z_lcmp_ne (tgt := 30) C dX1_isLongYear_16 dX1_isLongYear_17 (by decide) (fun h2 => ?_) (fun h2 => ?_)
    · refine z_iconst (v := 1) C dX1_isLongYear_30 (by decide) ?_
      refine z_goto (tgt := 35) C dX1_isLongYear_31 (by decide) ?_
      exact z_zret C (by decide) ⟨congrArg (fun v => some (Value.int v)) (by rw [f_X1_isLongYear, if_pos h1, if_neg h2] : (1 : Int32) = (f_X1_isLongYear p1)), rfl⟩ (by decide) (by decide) dX1_isLongYear_35
    · refine z_lload_n C dX1_isLongYear_20 rfl 0 rfl ?_
      refine z_ldc2 (v := 400) C w3 dX1_isLongYear_21 ?_
      refine z_lrem C dX1_isLongYear_24 (by decide) ?_
      refine z_lconst (v := 0) C dX1_isLongYear_25 (by decide) ?_
      refine z_lcmp_ne (tgt := 34) C dX1_isLongYear_26 dX1_isLongYear_27 (by decide) (fun h3 => ?_) (fun h3 => ?_)
      · refine z_iconst (v := 0) C dX1_isLongYear_34 (by decide) ?_
        exact z_zret C (by decide) ⟨congrArg (fun v => some (Value.int v)) (by rw [f_X1_isLongYear, if_pos h1, if_pos h2, if_neg h3] : (0 : Int32) = (f_X1_isLongYear p1)), rfl⟩ (by decide) (by decide) dX1_isLongYear_35
      · refine z_iconst (v := 1) C dX1_isLongYear_30 (by decide) ?_
        refine z_goto (tgt := 35) C dX1_isLongYear_31 (by decide) ?_
        exact z_zret C (by decide) ⟨congrArg (fun v => some (Value.int v)) (by rw [f_X1_isLongYear, if_pos h1, if_pos h2, if_pos h3] : (1 : Int32) = (f_X1_isLongYear p1)), rfl⟩ (by decide) (by decide) dX1_isLongYear_35
theorem b_X1_isLongYear (p1 : Int64) : f_X1_isLongYear p1 = 0 ∨ f_X1_isLongYear p1 = 1 := by
  unfold f_X1_isLongYear
  repeat (first | exact Or.inl rfl | exact Or.inr rfl | apply zbor | split)
def f_X1_lengthOfYear (p1 : Int64) : Int32 := (if (f_X1_isLongYear p1) = 0 then 365 else 366)
theorem q_X1_lengthOfYear : ZY yX1_lengthOfYear wsX1_lengthOfYear cX1_lengthOfYear 2 (some .int) 1 := ⟨⟨_, rfl⟩, by decide +kernel, by decide +kernel, by decide +kernel⟩
set_option maxHeartbeats 4000000 in
set_option maxRecDepth 100000 in
theorem c_X1_lengthOfYear (l : Launch) (hfl : l.stackTraces = false) (D : va_G) (cI cJ : ClassId) (X : va_W) (p1 : Int64)  : ZM l yX1_lengthOfYear wsX1_lengthOfYear { frames := 1, cells := 0, slots := 0, locals := 21 } [.long p1] D (zTys cI cJ) X 0 0 (fun v w => v = some (.int (f_X1_lengthOfYear p1)) ∧ w = X) (fun _ _ => False) := by
  refine z_open (own := RX1) hfl (cc := cX1_lengthOfYear) (maxL := 2) (ret := (some .int)) (lv := [(0, .long p1)]) rfl (by decide) rfl rfl (Nat.le_of_ble_eq_true rfl) ?_
  intro p e s m args below meth c A C hno hnm hargs
  refine z_lload_n C dX1_lengthOfYear_0 rfl 0 rfl ?_
  refine z_si (rest := []) C (c_X1_isLongYear l hfl D cI cJ _ p1 ) q_X1_isLongYear gX1_lengthOfYear_X1_isLongYear ⟨rfl, rfl⟩ rfl rfl (Nat.le_of_ble_eq_true rfl) ⟨Nat.le_of_ble_eq_true rfl, Nat.le_of_ble_eq_true rfl⟩ ⟨Nat.le_of_ble_eq_true rfl, Nat.le_of_ble_eq_true rfl⟩ dX1_lengthOfYear_1 ?_
  refine z_if_eq (tgt := 13) C dX1_lengthOfYear_4 (by decide) (fun h1 => ?_) (fun h1 => ?_)
  · refine z_sipush (v := 365) C dX1_lengthOfYear_13 (by decide) ?_
    exact z_iret C ⟨congrArg (fun v => some (Value.int v)) (by rw [f_X1_lengthOfYear, if_pos h1] : (365 : Int32) = (f_X1_lengthOfYear p1)), rfl⟩ (by decide) (by decide) dX1_lengthOfYear_16
  · refine z_sipush (v := 366) C dX1_lengthOfYear_7 (by decide) ?_
    refine z_goto (tgt := 16) C dX1_lengthOfYear_10 (by decide) ?_
    exact z_iret C ⟨congrArg (fun v => some (Value.int v)) (by rw [f_X1_lengthOfYear, if_neg h1] : (366 : Int32) = (f_X1_lengthOfYear p1)), rfl⟩ (by decide) (by decide) dX1_lengthOfYear_16
def f_X1_monthIndex (p1 : Int64) (p2 : Int64) : Int64 := (((12 * p1) + p2) - 1)
theorem q_X1_monthIndex : ZY yX1_monthIndex wsX1_monthIndex cX1_monthIndex 4 (some .long) 2 := ⟨⟨_, rfl⟩, by decide +kernel, by decide +kernel, by decide +kernel⟩
set_option maxHeartbeats 4000000 in
set_option maxRecDepth 100000 in
theorem c_X1_monthIndex (l : Launch) (hfl : l.stackTraces = false) (D : va_G) (cI cJ : ClassId) (X : va_W) (p1 : Int64) (p2 : Int64)  : ZM l yX1_monthIndex wsX1_monthIndex { frames := 0, cells := 0, slots := 0, locals := 0 } [.long p1, .long p2] D (zTys cI cJ) X 0 0 (fun v w => v = some (.long (f_X1_monthIndex p1 p2)) ∧ w = X) (fun _ _ => False) := by
  refine z_open (own := RX1) hfl (cc := cX1_monthIndex) (maxL := 4) (ret := (some .long)) (lv := [(0, .long p1), (2, .long p2)]) rfl (by decide) rfl rfl (Nat.le_of_ble_eq_true rfl) ?_
  intro p e s m args below meth c A C hno hnm hargs
  have w1 := C.1.2.2.2.2 (.constantLong RX1 23 (12)) (by decide +kernel)
  refine z_ldc2 (v := 12) C w1 dX1_monthIndex_0 ?_
  refine z_lload_n C dX1_monthIndex_3 rfl 0 rfl ?_
  refine z_lmul C dX1_monthIndex_4 ?_
  refine z_lload_n C dX1_monthIndex_5 rfl 1 rfl ?_
  refine z_ladd C dX1_monthIndex_6 ?_
  refine z_lconst (v := 1) C dX1_monthIndex_7 (by decide) ?_
  refine z_lsub C dX1_monthIndex_8 ?_
  exact z_lret C ⟨congrArg (fun v => some (Value.long v)) (rfl : (((12 * p1) + p2) - 1) = (f_X1_monthIndex p1 p2)), rfl⟩ (by decide) (by decide) dX1_monthIndex_9
def f_X1_yearOfMonth (p1 : Int64) : Int64 := (f_J9_floorDiv_f86c9 p1 12)
theorem q_X1_yearOfMonth : ZY yX1_yearOfMonth wsX1_yearOfMonth cX1_yearOfMonth 2 (some .long) 1 := ⟨⟨_, rfl⟩, by decide +kernel, by decide +kernel, by decide +kernel⟩
set_option maxHeartbeats 4000000 in
set_option maxRecDepth 100000 in
theorem c_X1_yearOfMonth (l : Launch) (hfl : l.stackTraces = false) (D : va_G) (cI cJ : ClassId) (X : va_W) (p1 : Int64)  : ZM l yX1_yearOfMonth wsX1_yearOfMonth { frames := 1, cells := 0, slots := 0, locals := 25 } [.long p1] D (zTys cI cJ) X 0 0 (fun v w => v = some (.long (f_X1_yearOfMonth p1)) ∧ w = X) (fun _ _ => False) := by
  refine z_open (own := RX1) hfl (cc := cX1_yearOfMonth) (maxL := 2) (ret := (some .long)) (lv := [(0, .long p1)]) rfl (by decide) rfl rfl (Nat.le_of_ble_eq_true rfl) ?_
  intro p e s m args below meth c A C hno hnm hargs
  have w1 := C.1.2.2.2.2 (.constantLong RX1 23 (12)) (by decide +kernel)
  refine z_lload_n C dX1_yearOfMonth_0 rfl 0 rfl ?_
  refine z_ldc2 (v := 12) C w1 dX1_yearOfMonth_1 ?_
  refine z_sl (rest := []) C (c_J9_floorDiv_f86c9 l hfl D cI cJ _ p1 (12 : Int64) (by decide)) q_J9_floorDiv_f86c9 gX1_yearOfMonth_J9_floorDiv_f86c9 ⟨rfl, rfl⟩ rfl rfl (Nat.le_of_ble_eq_true rfl) ⟨Nat.le_of_ble_eq_true rfl, Nat.le_of_ble_eq_true rfl⟩ ⟨Nat.le_of_ble_eq_true rfl, Nat.le_of_ble_eq_true rfl⟩ dX1_yearOfMonth_4 ?_
  exact z_lret C ⟨congrArg (fun v => some (Value.long v)) (rfl : (f_J9_floorDiv_f86c9 p1 12) = (f_X1_yearOfMonth p1)), rfl⟩ (by decide) (by decide) dX1_yearOfMonth_7
def f_X1_monthInYear (p1 : Int64) : Int32 := (((f_J9_floorMod_f86c9 p1 12)).toInt32 + 1)
theorem q_X1_monthInYear : ZY yX1_monthInYear wsX1_monthInYear cX1_monthInYear 2 (some .int) 1 := ⟨⟨_, rfl⟩, by decide +kernel, by decide +kernel, by decide +kernel⟩
set_option maxHeartbeats 4000000 in
set_option maxRecDepth 100000 in
theorem c_X1_monthInYear (l : Launch) (hfl : l.stackTraces = false) (D : va_G) (cI cJ : ClassId) (X : va_W) (p1 : Int64)  : ZM l yX1_monthInYear wsX1_monthInYear { frames := 1, cells := 0, slots := 0, locals := 25 } [.long p1] D (zTys cI cJ) X 0 0 (fun v w => v = some (.int (f_X1_monthInYear p1)) ∧ w = X) (fun _ _ => False) := by
  refine z_open (own := RX1) hfl (cc := cX1_monthInYear) (maxL := 2) (ret := (some .int)) (lv := [(0, .long p1)]) rfl (by decide) rfl rfl (Nat.le_of_ble_eq_true rfl) ?_
  intro p e s m args below meth c A C hno hnm hargs
  have w1 := C.1.2.2.2.2 (.constantLong RX1 23 (12)) (by decide +kernel)
  refine z_lload_n C dX1_monthInYear_0 rfl 0 rfl ?_
  refine z_ldc2 (v := 12) C w1 dX1_monthInYear_1 ?_
  refine z_sl (rest := []) C (c_J9_floorMod_f86c9 l hfl D cI cJ _ p1 (12 : Int64) (by decide)) q_J9_floorMod_f86c9 gX1_monthInYear_J9_floorMod_f86c9 ⟨rfl, rfl⟩ rfl rfl (Nat.le_of_ble_eq_true rfl) ⟨Nat.le_of_ble_eq_true rfl, Nat.le_of_ble_eq_true rfl⟩ ⟨Nat.le_of_ble_eq_true rfl, Nat.le_of_ble_eq_true rfl⟩ dX1_monthInYear_4 ?_
  refine z_l2i (v := ((f_J9_floorMod_f86c9 p1 12)).toInt32) C dX1_monthInYear_7 rfl ?_
  refine z_iconst (v := 1) C dX1_monthInYear_8 (by decide) ?_
  refine z_iadd C dX1_monthInYear_9 ?_
  exact z_iret C ⟨congrArg (fun v => some (Value.int v)) (rfl : (((f_J9_floorMod_f86c9 p1 12)).toInt32 + 1) = (f_X1_monthInYear p1)), rfl⟩ (by decide) (by decide) dX1_monthInYear_10
def f_X1_lengthOfMonth (p1 : Int64) : Int32 := (if (f_X1_monthInYear p1) = 2 then (if (f_X1_isLongYear (f_X1_yearOfMonth p1)) = 0 then 28 else 29) else (if (f_X1_monthInYear p1) = 3 then 31 else (if (f_X1_monthInYear p1) = 4 then 30 else (if (f_X1_monthInYear p1) = 5 then 31 else (if (f_X1_monthInYear p1) = 6 then 30 else (if (f_X1_monthInYear p1) = 7 then 31 else (if (f_X1_monthInYear p1) = 8 then 31 else (if (f_X1_monthInYear p1) = 9 then 30 else (if (f_X1_monthInYear p1) = 10 then 31 else (if (f_X1_monthInYear p1) = 11 then 30 else 31))))))))))
theorem q_X1_lengthOfMonth : ZY yX1_lengthOfMonth wsX1_lengthOfMonth cX1_lengthOfMonth 2 (some .int) 1 := ⟨⟨_, rfl⟩, by decide +kernel, by decide +kernel, by decide +kernel⟩
set_option maxHeartbeats 4000000 in
set_option maxRecDepth 100000 in
theorem c_X1_lengthOfMonth (l : Launch) (hfl : l.stackTraces = false) (D : va_G) (cI cJ : ClassId) (X : va_W) (p1 : Int64)  : ZM l yX1_lengthOfMonth wsX1_lengthOfMonth { frames := 2, cells := 0, slots := 0, locals := 46 } [.long p1] D (zTys cI cJ) X 0 0 (fun v w => v = some (.int (f_X1_lengthOfMonth p1)) ∧ w = X) (fun _ _ => False) := by
  refine z_open (own := RX1) hfl (cc := cX1_lengthOfMonth) (maxL := 2) (ret := (some .int)) (lv := [(0, .long p1)]) rfl (by decide) rfl rfl (Nat.le_of_ble_eq_true rfl) ?_
  intro p e s m args below meth c A C hno hnm hargs
  refine z_lload_n C dX1_lengthOfMonth_0 rfl 0 rfl ?_
  refine z_si (rest := []) C (c_X1_monthInYear l hfl D cI cJ _ p1 ) q_X1_monthInYear gX1_lengthOfMonth_X1_monthInYear ⟨rfl, rfl⟩ rfl rfl (Nat.le_of_ble_eq_true rfl) ⟨Nat.le_of_ble_eq_true rfl, Nat.le_of_ble_eq_true rfl⟩ ⟨Nat.le_of_ble_eq_true rfl, Nat.le_of_ble_eq_true rfl⟩ dX1_lengthOfMonth_1 ?_
  refine zcases ((f_X1_monthInYear p1) = 2) (fun h1 => ?_) (fun h1 => ?_)
  · refine z_tableIn (off := 56) (tgt := 60) C dX1_lengthOfMonth_4 (by rw [h1]; decide) (by rw [h1]; decide) (by rw [h1]; decide) (by decide) ?_
    refine z_lload_n C dX1_lengthOfMonth_60 rfl 0 rfl ?_
    refine z_sl (rest := []) C (c_X1_yearOfMonth l hfl D cI cJ _ p1 ) q_X1_yearOfMonth gX1_lengthOfMonth_X1_yearOfMonth ⟨rfl, rfl⟩ rfl rfl (Nat.le_of_ble_eq_true rfl) ⟨Nat.le_of_ble_eq_true rfl, Nat.le_of_ble_eq_true rfl⟩ ⟨Nat.le_of_ble_eq_true rfl, Nat.le_of_ble_eq_true rfl⟩ dX1_lengthOfMonth_61 ?_
    refine z_si (rest := []) C (c_X1_isLongYear l hfl D cI cJ _ (f_X1_yearOfMonth p1) ) q_X1_isLongYear gX1_lengthOfMonth_X1_isLongYear ⟨rfl, rfl⟩ rfl rfl (Nat.le_of_ble_eq_true rfl) ⟨Nat.le_of_ble_eq_true rfl, Nat.le_of_ble_eq_true rfl⟩ ⟨Nat.le_of_ble_eq_true rfl, Nat.le_of_ble_eq_true rfl⟩ dX1_lengthOfMonth_64 ?_
    refine z_if_eq (tgt := 75) C dX1_lengthOfMonth_67 (by decide) (fun h2 => ?_) (fun h2 => ?_)
    · refine z_bipush (v := 28) C dX1_lengthOfMonth_75 (by decide) ?_
      exact z_iret C ⟨congrArg (fun v => some (Value.int v)) (by rw [f_X1_lengthOfMonth, if_pos h1, if_pos h2] : (28 : Int32) = (f_X1_lengthOfMonth p1)), rfl⟩ (by decide) (by decide) dX1_lengthOfMonth_77
    · refine z_bipush (v := 29) C dX1_lengthOfMonth_70 (by decide) ?_
      refine z_goto (tgt := 77) C dX1_lengthOfMonth_72 (by decide) ?_
      exact z_iret C ⟨congrArg (fun v => some (Value.int v)) (by rw [f_X1_lengthOfMonth, if_pos h1, if_neg h2] : (29 : Int32) = (f_X1_lengthOfMonth p1)), rfl⟩ (by decide) (by decide) dX1_lengthOfMonth_77
  · refine zcases ((f_X1_monthInYear p1) = 3) (fun h3 => ?_) (fun h3 => ?_)
    · refine z_tableIn (off := 77) (tgt := 81) C dX1_lengthOfMonth_4 (by rw [h3]; decide) (by rw [h3]; decide) (by rw [h3]; decide) (by decide) ?_
      refine z_bipush (v := 31) C dX1_lengthOfMonth_81 (by decide) ?_
      exact z_iret C ⟨congrArg (fun v => some (Value.int v)) (by rw [f_X1_lengthOfMonth, if_neg h1, if_pos h3] : (31 : Int32) = (f_X1_lengthOfMonth p1)), rfl⟩ (by decide) (by decide) dX1_lengthOfMonth_83
    · refine zcases ((f_X1_monthInYear p1) = 4) (fun h4 => ?_) (fun h4 => ?_)
      · refine z_tableIn (off := 74) (tgt := 78) C dX1_lengthOfMonth_4 (by rw [h4]; decide) (by rw [h4]; decide) (by rw [h4]; decide) (by decide) ?_
        refine z_bipush (v := 30) C dX1_lengthOfMonth_78 (by decide) ?_
        exact z_iret C ⟨congrArg (fun v => some (Value.int v)) (by rw [f_X1_lengthOfMonth, if_neg h1, if_neg h3, if_pos h4] : (30 : Int32) = (f_X1_lengthOfMonth p1)), rfl⟩ (by decide) (by decide) dX1_lengthOfMonth_80
      · refine zcases ((f_X1_monthInYear p1) = 5) (fun h5 => ?_) (fun h5 => ?_)
        · refine z_tableIn (off := 77) (tgt := 81) C dX1_lengthOfMonth_4 (by rw [h5]; decide) (by rw [h5]; decide) (by rw [h5]; decide) (by decide) ?_
          refine z_bipush (v := 31) C dX1_lengthOfMonth_81 (by decide) ?_
          exact z_iret C ⟨congrArg (fun v => some (Value.int v)) (by rw [f_X1_lengthOfMonth, if_neg h1, if_neg h3, if_neg h4, if_pos h5] : (31 : Int32) = (f_X1_lengthOfMonth p1)), rfl⟩ (by decide) (by decide) dX1_lengthOfMonth_83
        · refine zcases ((f_X1_monthInYear p1) = 6) (fun h6 => ?_) (fun h6 => ?_)
          · refine z_tableIn (off := 74) (tgt := 78) C dX1_lengthOfMonth_4 (by rw [h6]; decide) (by rw [h6]; decide) (by rw [h6]; decide) (by decide) ?_
            refine z_bipush (v := 30) C dX1_lengthOfMonth_78 (by decide) ?_
            exact z_iret C ⟨congrArg (fun v => some (Value.int v)) (by rw [f_X1_lengthOfMonth, if_neg h1, if_neg h3, if_neg h4, if_neg h5, if_pos h6] : (30 : Int32) = (f_X1_lengthOfMonth p1)), rfl⟩ (by decide) (by decide) dX1_lengthOfMonth_80
          · refine zcases ((f_X1_monthInYear p1) = 7) (fun h7 => ?_) (fun h7 => ?_)
            · refine z_tableIn (off := 77) (tgt := 81) C dX1_lengthOfMonth_4 (by rw [h7]; decide) (by rw [h7]; decide) (by rw [h7]; decide) (by decide) ?_
              refine z_bipush (v := 31) C dX1_lengthOfMonth_81 (by decide) ?_
              exact z_iret C ⟨congrArg (fun v => some (Value.int v)) (by rw [f_X1_lengthOfMonth, if_neg h1, if_neg h3, if_neg h4, if_neg h5, if_neg h6, if_pos h7] : (31 : Int32) = (f_X1_lengthOfMonth p1)), rfl⟩ (by decide) (by decide) dX1_lengthOfMonth_83
            · refine zcases ((f_X1_monthInYear p1) = 8) (fun h8 => ?_) (fun h8 => ?_)
              · refine z_tableIn (off := 77) (tgt := 81) C dX1_lengthOfMonth_4 (by rw [h8]; decide) (by rw [h8]; decide) (by rw [h8]; decide) (by decide) ?_
                refine z_bipush (v := 31) C dX1_lengthOfMonth_81 (by decide) ?_
                exact z_iret C ⟨congrArg (fun v => some (Value.int v)) (by rw [f_X1_lengthOfMonth, if_neg h1, if_neg h3, if_neg h4, if_neg h5, if_neg h6, if_neg h7, if_pos h8] : (31 : Int32) = (f_X1_lengthOfMonth p1)), rfl⟩ (by decide) (by decide) dX1_lengthOfMonth_83
              · refine zcases ((f_X1_monthInYear p1) = 9) (fun h9 => ?_) (fun h9 => ?_)
                · refine z_tableIn (off := 74) (tgt := 78) C dX1_lengthOfMonth_4 (by rw [h9]; decide) (by rw [h9]; decide) (by rw [h9]; decide) (by decide) ?_
                  refine z_bipush (v := 30) C dX1_lengthOfMonth_78 (by decide) ?_
                  exact z_iret C ⟨congrArg (fun v => some (Value.int v)) (by rw [f_X1_lengthOfMonth, if_neg h1, if_neg h3, if_neg h4, if_neg h5, if_neg h6, if_neg h7, if_neg h8, if_pos h9] : (30 : Int32) = (f_X1_lengthOfMonth p1)), rfl⟩ (by decide) (by decide) dX1_lengthOfMonth_80
                · refine zcases ((f_X1_monthInYear p1) = 10) (fun h10 => ?_) (fun h10 => ?_)
                  · refine z_tableIn (off := 77) (tgt := 81) C dX1_lengthOfMonth_4 (by rw [h10]; decide) (by rw [h10]; decide) (by rw [h10]; decide) (by decide) ?_
                    refine z_bipush (v := 31) C dX1_lengthOfMonth_81 (by decide) ?_
                    exact z_iret C ⟨congrArg (fun v => some (Value.int v)) (by rw [f_X1_lengthOfMonth, if_neg h1, if_neg h3, if_neg h4, if_neg h5, if_neg h6, if_neg h7, if_neg h8, if_neg h9, if_pos h10] : (31 : Int32) = (f_X1_lengthOfMonth p1)), rfl⟩ (by decide) (by decide) dX1_lengthOfMonth_83
                  · refine zcases ((f_X1_monthInYear p1) = 11) (fun h11 => ?_) (fun h11 => ?_)
                    · refine z_tableIn (off := 74) (tgt := 78) C dX1_lengthOfMonth_4 (by rw [h11]; decide) (by rw [h11]; decide) (by rw [h11]; decide) (by decide) ?_
                      refine z_bipush (v := 30) C dX1_lengthOfMonth_78 (by decide) ?_
                      exact z_iret C ⟨congrArg (fun v => some (Value.int v)) (by rw [f_X1_lengthOfMonth, if_neg h1, if_neg h3, if_neg h4, if_neg h5, if_neg h6, if_neg h7, if_neg h8, if_neg h9, if_neg h10, if_pos h11] : (30 : Int32) = (f_X1_lengthOfMonth p1)), rfl⟩ (by decide) (by decide) dX1_lengthOfMonth_80
                    · refine z_tableOut (tgt := 81) C dX1_lengthOfMonth_4 (zTn_2_11 h1 h3 h4 h5 h6 h7 h8 h9 h10 h11) (by decide) ?_
                      refine z_bipush (v := 31) C dX1_lengthOfMonth_81 (by decide) ?_
                      exact z_iret C ⟨congrArg (fun v => some (Value.int v)) (by rw [f_X1_lengthOfMonth, if_neg h1, if_neg h3, if_neg h4, if_neg h5, if_neg h6, if_neg h7, if_neg h8, if_neg h9, if_neg h10, if_neg h11] : (31 : Int32) = (f_X1_lengthOfMonth p1)), rfl⟩ (by decide) (by decide) dX1_lengthOfMonth_83
def f_X1_firstOfYear (p1 : Int64) : Int64 := (((365 * p1) + (((f_J9_floorDiv_f86c9 (p1 + 3) 4) - (f_J9_floorDiv_f86c9 (p1 + 99) 100)) + (f_J9_floorDiv_f86c9 (p1 + 399) 400))) - 719528)
theorem q_X1_firstOfYear : ZY yX1_firstOfYear wsX1_firstOfYear cX1_firstOfYear 4 (some .long) 1 := ⟨⟨_, rfl⟩, by decide +kernel, by decide +kernel, by decide +kernel⟩
set_option maxHeartbeats 4000000 in
set_option maxRecDepth 100000 in
theorem c_X1_firstOfYear (l : Launch) (hfl : l.stackTraces = false) (D : va_G) (cI cJ : ClassId) (X : va_W) (p1 : Int64)  : ZM l yX1_firstOfYear wsX1_firstOfYear { frames := 1, cells := 0, slots := 0, locals := 25 } [.long p1] D (zTys cI cJ) X 0 0 (fun v w => v = some (.long (f_X1_firstOfYear p1)) ∧ w = X) (fun _ _ => False) := by
  refine z_open (own := RX1) hfl (cc := cX1_firstOfYear) (maxL := 4) (ret := (some .long)) (lv := [(0, .long p1)]) rfl (by decide) rfl rfl (Nat.le_of_ble_eq_true rfl) ?_
  intro p e s m args below meth c A C hno hnm hargs
  have w1 := C.1.2.2.2.2 (.constantLong RX1 42 (3)) (by decide +kernel)
  have w2 := C.1.2.2.2.2 (.constantLong RX1 13 (4)) (by decide +kernel)
  have w3 := C.1.2.2.2.2 (.constantLong RX1 44 (99)) (by decide +kernel)
  have w4 := C.1.2.2.2.2 (.constantLong RX1 15 (100)) (by decide +kernel)
  have w5 := C.1.2.2.2.2 (.constantLong RX1 46 (399)) (by decide +kernel)
  have w6 := C.1.2.2.2.2 (.constantLong RX1 17 (400)) (by decide +kernel)
  have w7 := C.1.2.2.2.2 (.constantLong RX1 48 (365)) (by decide +kernel)
  have w8 := C.1.2.2.2.2 (.constantLong RX1 50 (719528)) (by decide +kernel)
  refine z_lload_n C dX1_firstOfYear_0 rfl 0 rfl ?_
  refine z_ldc2 (v := 3) C w1 dX1_firstOfYear_1 ?_
  refine z_ladd C dX1_firstOfYear_4 ?_
  refine z_ldc2 (v := 4) C w2 dX1_firstOfYear_5 ?_
  refine z_sl (rest := []) C (c_J9_floorDiv_f86c9 l hfl D cI cJ _ (p1 + 3) (4 : Int64) (by decide)) q_J9_floorDiv_f86c9 gX1_firstOfYear_J9_floorDiv_f86c9 ⟨rfl, rfl⟩ rfl rfl (Nat.le_of_ble_eq_true rfl) ⟨Nat.le_of_ble_eq_true rfl, Nat.le_of_ble_eq_true rfl⟩ ⟨Nat.le_of_ble_eq_true rfl, Nat.le_of_ble_eq_true rfl⟩ dX1_firstOfYear_8 ?_
  refine z_lload_n C dX1_firstOfYear_11 rfl 0 rfl ?_
  refine z_ldc2 (v := 99) C w3 dX1_firstOfYear_12 ?_
  refine z_ladd C dX1_firstOfYear_15 ?_
  refine z_ldc2 (v := 100) C w4 dX1_firstOfYear_16 ?_
  refine z_sl (rest := [.long (f_J9_floorDiv_f86c9 (p1 + 3) 4)]) C (c_J9_floorDiv_f86c9 l hfl D cI cJ _ (p1 + 99) (100 : Int64) (by decide)) q_J9_floorDiv_f86c9 gX1_firstOfYear_J9_floorDiv_f86c9 ⟨rfl, rfl⟩ rfl rfl (Nat.le_of_ble_eq_true rfl) ⟨Nat.le_of_ble_eq_true rfl, Nat.le_of_ble_eq_true rfl⟩ ⟨Nat.le_of_ble_eq_true rfl, Nat.le_of_ble_eq_true rfl⟩ dX1_firstOfYear_19 ?_
  refine z_lsub C dX1_firstOfYear_22 ?_
  refine z_lload_n C dX1_firstOfYear_23 rfl 0 rfl ?_
  refine z_ldc2 (v := 399) C w5 dX1_firstOfYear_24 ?_
  refine z_ladd C dX1_firstOfYear_27 ?_
  refine z_ldc2 (v := 400) C w6 dX1_firstOfYear_28 ?_
  refine z_sl (rest := [.long ((f_J9_floorDiv_f86c9 (p1 + 3) 4) - (f_J9_floorDiv_f86c9 (p1 + 99) 100))]) C (c_J9_floorDiv_f86c9 l hfl D cI cJ _ (p1 + 399) (400 : Int64) (by decide)) q_J9_floorDiv_f86c9 gX1_firstOfYear_J9_floorDiv_f86c9 ⟨rfl, rfl⟩ rfl rfl (Nat.le_of_ble_eq_true rfl) ⟨Nat.le_of_ble_eq_true rfl, Nat.le_of_ble_eq_true rfl⟩ ⟨Nat.le_of_ble_eq_true rfl, Nat.le_of_ble_eq_true rfl⟩ dX1_firstOfYear_31 ?_
  refine z_ladd C dX1_firstOfYear_34 ?_
  refine z_lstore_n (lv' := [(2, .long (((f_J9_floorDiv_f86c9 (p1 + 3) 4) - (f_J9_floorDiv_f86c9 (p1 + 99) 100)) + (f_J9_floorDiv_f86c9 (p1 + 399) 400))), (0, .long p1)]) C dX1_firstOfYear_35 rfl (by decide) rfl ?_
  refine z_ldc2 (v := 365) C w7 dX1_firstOfYear_36 ?_
  refine z_lload_n C dX1_firstOfYear_39 rfl 1 rfl ?_
  refine z_lmul C dX1_firstOfYear_40 ?_
  refine z_lload_n C dX1_firstOfYear_41 rfl 0 rfl ?_
  refine z_ladd C dX1_firstOfYear_42 ?_
  refine z_ldc2 (v := 719528) C w8 dX1_firstOfYear_43 ?_
  refine z_lsub C dX1_firstOfYear_46 ?_
  exact z_lret C ⟨congrArg (fun v => some (Value.long v)) (rfl : (((365 * p1) + (((f_J9_floorDiv_f86c9 (p1 + 3) 4) - (f_J9_floorDiv_f86c9 (p1 + 99) 100)) + (f_J9_floorDiv_f86c9 (p1 + 399) 400))) - 719528) = (f_X1_firstOfYear p1)), rfl⟩ (by decide) (by decide) dX1_firstOfYear_47
def f_X1_firstOfMonth_j1 (p1 : Int64) : Int64 := (if (f_X1_isLongYear (f_X1_yearOfMonth p1)) = 0 then 2 else 1)
def f_X1_firstOfMonth_j2 (p1 : Int64) : Int64 := (if (f_X1_monthInYear p1) ≤ 2 then ((((367 * (f_X1_monthInYear p1)) - 362) / 12)).toInt64 else (if f_X1_firstOfMonth_j1 p1 = 1 then (((((367 * (f_X1_monthInYear p1)) - 362) / 12)).toInt64 - 1) else (((((367 * (f_X1_monthInYear p1)) - 362) / 12)).toInt64 - 2)))
def f_X1_firstOfMonth (p1 : Int64) : Int64 := ((f_X1_firstOfYear (f_X1_yearOfMonth p1)) + (f_X1_firstOfMonth_j2 p1))
theorem q_X1_firstOfMonth : ZY yX1_firstOfMonth wsX1_firstOfMonth cX1_firstOfMonth 7 (some .long) 1 := ⟨⟨_, rfl⟩, by decide +kernel, by decide +kernel, by decide +kernel⟩
set_option maxHeartbeats 4000000 in
set_option maxRecDepth 100000 in
theorem c_X1_firstOfMonth (l : Launch) (hfl : l.stackTraces = false) (D : va_G) (cI cJ : ClassId) (X : va_W) (p1 : Int64)  : ZM l yX1_firstOfMonth wsX1_firstOfMonth { frames := 2, cells := 0, slots := 0, locals := 48 } [.long p1] D (zTys cI cJ) X 0 0 (fun v w => v = some (.long (f_X1_firstOfMonth p1)) ∧ w = X) (fun _ _ => False) := by
  refine z_open (own := RX1) hfl (cc := cX1_firstOfMonth) (maxL := 7) (ret := (some .long)) (lv := [(0, .long p1)]) rfl (by decide) rfl rfl (Nat.le_of_ble_eq_true rfl) ?_
  intro p e s m args below meth c A C hno hnm hargs
  have w1 := C.1.2.2.2.2 (.constantLong RX1 52 (2)) (by decide +kernel)
  refine z_lload_n C dX1_firstOfMonth_0 rfl 0 rfl ?_
  refine z_sl (rest := []) C (c_X1_yearOfMonth l hfl D cI cJ _ p1 ) q_X1_yearOfMonth gX1_firstOfMonth_X1_yearOfMonth ⟨rfl, rfl⟩ rfl rfl (Nat.le_of_ble_eq_true rfl) ⟨Nat.le_of_ble_eq_true rfl, Nat.le_of_ble_eq_true rfl⟩ ⟨Nat.le_of_ble_eq_true rfl, Nat.le_of_ble_eq_true rfl⟩ dX1_firstOfMonth_1 ?_
  refine z_lstore_n (lv' := [(2, .long (f_X1_yearOfMonth p1)), (0, .long p1)]) C dX1_firstOfMonth_4 rfl (by decide) rfl ?_
  refine z_lload_n C dX1_firstOfMonth_5 rfl 1 rfl ?_
  refine z_si (rest := []) C (c_X1_monthInYear l hfl D cI cJ _ p1 ) q_X1_monthInYear gX1_firstOfMonth_X1_monthInYear ⟨rfl, rfl⟩ rfl rfl (Nat.le_of_ble_eq_true rfl) ⟨Nat.le_of_ble_eq_true rfl, Nat.le_of_ble_eq_true rfl⟩ ⟨Nat.le_of_ble_eq_true rfl, Nat.le_of_ble_eq_true rfl⟩ dX1_firstOfMonth_6 ?_
  refine z_istore (lv' := [(4, .int (f_X1_monthInYear p1)), (2, .long (f_X1_yearOfMonth p1)), (0, .long p1)]) C dX1_firstOfMonth_9 (by decide) rfl ?_
  refine z_sipush (v := 367) C dX1_firstOfMonth_11 (by decide) ?_
  refine z_iload C dX1_firstOfMonth_14 0 rfl ?_
  refine z_imul C dX1_firstOfMonth_16 ?_
  refine z_sipush (v := 362) C dX1_firstOfMonth_17 (by decide) ?_
  refine z_isub C dX1_firstOfMonth_20 ?_
  refine z_bipush (v := 12) C dX1_firstOfMonth_21 (by decide) ?_
  refine z_idiv C dX1_firstOfMonth_23 (by decide) ?_
  refine z_i2l (v := ((((367 * (f_X1_monthInYear p1)) - 362) / 12)).toInt64) C dX1_firstOfMonth_24 rfl ?_
  refine z_lstore (lv' := [(5, .long ((((367 * (f_X1_monthInYear p1)) - 362) / 12)).toInt64), (4, .int (f_X1_monthInYear p1)), (2, .long (f_X1_yearOfMonth p1)), (0, .long p1)]) C dX1_firstOfMonth_25 (by decide) rfl ?_
  refine z_iload C dX1_firstOfMonth_27 1 rfl ?_
  refine z_iconst (v := 2) C dX1_firstOfMonth_29 (by decide) ?_
  have K2 : ∀ (v2_0 : Int64), v2_0 = (f_X1_firstOfMonth_j2 p1) → ZW p l e { frames := 2, cells := 0, slots := 0, locals := 48 } s m args below meth c 7 D (zTys cI cJ) A (zE D (zTys cI cJ) A below args s (fun v w => v = some (.long (f_X1_firstOfMonth p1)) ∧ w = X) (fun _ _ => False) 0 0) 0 0 X 52 [(5, .long v2_0), (4, .int (f_X1_monthInYear p1)), (2, .long (f_X1_yearOfMonth p1)), (0, .long p1)] [] := by
    rintro _ rfl
    refine z_lload_n C dX1_firstOfMonth_52 rfl 2 rfl ?_
    refine z_sl (rest := []) C (c_X1_firstOfYear l hfl D cI cJ _ (f_X1_yearOfMonth p1) ) q_X1_firstOfYear gX1_firstOfMonth_X1_firstOfYear ⟨rfl, rfl⟩ rfl rfl (Nat.le_of_ble_eq_true rfl) ⟨Nat.le_of_ble_eq_true rfl, Nat.le_of_ble_eq_true rfl⟩ ⟨Nat.le_of_ble_eq_true rfl, Nat.le_of_ble_eq_true rfl⟩ dX1_firstOfMonth_53 ?_
    refine z_lload C dX1_firstOfMonth_56 0 rfl ?_
    refine z_ladd C dX1_firstOfMonth_58 ?_
    exact z_lret C ⟨congrArg (fun v => some (Value.long v)) (rfl : ((f_X1_firstOfYear (f_X1_yearOfMonth p1)) + (f_X1_firstOfMonth_j2 p1)) = (f_X1_firstOfMonth p1)), rfl⟩ (by decide) (by decide) dX1_firstOfMonth_59
  refine z_icmp_le (tgt := 52) C dX1_firstOfMonth_30 (by decide) (fun h1 => ?_) (fun h1 => ?_)
  · exact K2 _ (by rw [f_X1_firstOfMonth_j2, if_pos h1])
  · refine z_lload C dX1_firstOfMonth_33 0 rfl ?_
    refine z_lload_n C dX1_firstOfMonth_35 rfl 2 rfl ?_
    refine z_si (rest := [.long ((((367 * (f_X1_monthInYear p1)) - 362) / 12)).toInt64]) C (c_X1_isLongYear l hfl D cI cJ _ (f_X1_yearOfMonth p1) ) q_X1_isLongYear gX1_firstOfMonth_X1_isLongYear ⟨rfl, rfl⟩ rfl rfl (Nat.le_of_ble_eq_true rfl) ⟨Nat.le_of_ble_eq_true rfl, Nat.le_of_ble_eq_true rfl⟩ ⟨Nat.le_of_ble_eq_true rfl, Nat.le_of_ble_eq_true rfl⟩ dX1_firstOfMonth_36 ?_
    have K1_1 : f_X1_firstOfMonth_j1 p1 = 1 → (¬ (f_X1_isLongYear (f_X1_yearOfMonth p1)) = 0) → ZW p l e { frames := 2, cells := 0, slots := 0, locals := 48 } s m args below meth c 7 D (zTys cI cJ) A (zE D (zTys cI cJ) A below args s (fun v w => v = some (.long (f_X1_firstOfMonth p1)) ∧ w = X) (fun _ _ => False) 0 0) 0 0 X 49 [(5, .long ((((367 * (f_X1_monthInYear p1)) - 362) / 12)).toInt64), (4, .int (f_X1_monthInYear p1)), (2, .long (f_X1_yearOfMonth p1)), (0, .long p1)] [.long 1, .long ((((367 * (f_X1_monthInYear p1)) - 362) / 12)).toInt64] := by
      intro h3 h4
      refine z_lsub C dX1_firstOfMonth_49 ?_
      refine z_lstore (lv' := [(5, .long (((((367 * (f_X1_monthInYear p1)) - 362) / 12)).toInt64 - 1)), (4, .int (f_X1_monthInYear p1)), (2, .long (f_X1_yearOfMonth p1)), (0, .long p1)]) C dX1_firstOfMonth_50 (by decide) rfl ?_
      exact K2 _ (by rw [f_X1_firstOfMonth_j2, if_neg h1, if_pos h3])
    have K1_2 : f_X1_firstOfMonth_j1 p1 = 2 → ((f_X1_isLongYear (f_X1_yearOfMonth p1)) = 0) → ZW p l e { frames := 2, cells := 0, slots := 0, locals := 48 } s m args below meth c 7 D (zTys cI cJ) A (zE D (zTys cI cJ) A below args s (fun v w => v = some (.long (f_X1_firstOfMonth p1)) ∧ w = X) (fun _ _ => False) 0 0) 0 0 X 49 [(5, .long ((((367 * (f_X1_monthInYear p1)) - 362) / 12)).toInt64), (4, .int (f_X1_monthInYear p1)), (2, .long (f_X1_yearOfMonth p1)), (0, .long p1)] [.long 2, .long ((((367 * (f_X1_monthInYear p1)) - 362) / 12)).toInt64] := by
      intro h5 h6
      refine z_lsub C dX1_firstOfMonth_49 ?_
      refine z_lstore (lv' := [(5, .long (((((367 * (f_X1_monthInYear p1)) - 362) / 12)).toInt64 - 2)), (4, .int (f_X1_monthInYear p1)), (2, .long (f_X1_yearOfMonth p1)), (0, .long p1)]) C dX1_firstOfMonth_50 (by decide) rfl ?_
      exact K2 _ (by rw [f_X1_firstOfMonth_j2, if_neg h1, if_neg (by rw [h5]; decide : ¬ f_X1_firstOfMonth_j1 p1 = 1)])
    refine z_if_eq (tgt := 46) C dX1_firstOfMonth_39 (by decide) (fun h2 => ?_) (fun h2 => ?_)
    · refine z_ldc2 (v := 2) C w1 dX1_firstOfMonth_46 ?_
      exact K1_2 (by rw [f_X1_firstOfMonth_j1, if_pos h2]) h2
    · refine z_lconst (v := 1) C dX1_firstOfMonth_42 (by decide) ?_
      refine z_goto (tgt := 49) C dX1_firstOfMonth_43 (by decide) ?_
      exact K1_1 (by rw [f_X1_firstOfMonth_j1, if_neg h2]) h2
def f_X1_yearOfDay (p1 : Int64) : Int64 := (if (f_X1_firstOfYear (f_J9_floorDiv_f86c9 (400 * (p1 + 719528)) 146097)) ≤ p1 then (if p1 < (f_X1_firstOfYear ((f_J9_floorDiv_f86c9 (400 * (p1 + 719528)) 146097) + 1)) then (f_J9_floorDiv_f86c9 (400 * (p1 + 719528)) 146097) else ((f_J9_floorDiv_f86c9 (400 * (p1 + 719528)) 146097) + 1)) else ((f_J9_floorDiv_f86c9 (400 * (p1 + 719528)) 146097) - 1))
theorem q_X1_yearOfDay : ZY yX1_yearOfDay wsX1_yearOfDay cX1_yearOfDay 4 (some .long) 1 := ⟨⟨_, rfl⟩, by decide +kernel, by decide +kernel, by decide +kernel⟩
set_option maxHeartbeats 4000000 in
set_option maxRecDepth 100000 in
theorem c_X1_yearOfDay (l : Launch) (hfl : l.stackTraces = false) (D : va_G) (cI cJ : ClassId) (X : va_W) (p1 : Int64)  : ZM l yX1_yearOfDay wsX1_yearOfDay { frames := 2, cells := 0, slots := 0, locals := 48 } [.long p1] D (zTys cI cJ) X 0 0 (fun v w => v = some (.long (f_X1_yearOfDay p1)) ∧ w = X) (fun _ _ => False) := by
  refine z_open (own := RX1) hfl (cc := cX1_yearOfDay) (maxL := 4) (ret := (some .long)) (lv := [(0, .long p1)]) rfl (by decide) rfl rfl (Nat.le_of_ble_eq_true rfl) ?_
  intro p e s m args below meth c A C hno hnm hargs
  have w1 := C.1.2.2.2.2 (.constantLong RX1 17 (400)) (by decide +kernel)
  have w2 := C.1.2.2.2.2 (.constantLong RX1 50 (719528)) (by decide +kernel)
  have w3 := C.1.2.2.2.2 (.constantLong RX1 57 (146097)) (by decide +kernel)
  refine z_ldc2 (v := 400) C w1 dX1_yearOfDay_0 ?_
  refine z_lload_n C dX1_yearOfDay_3 rfl 0 rfl ?_
  refine z_ldc2 (v := 719528) C w2 dX1_yearOfDay_4 ?_
  refine z_ladd C dX1_yearOfDay_7 ?_
  refine z_lmul C dX1_yearOfDay_8 ?_
  refine z_ldc2 (v := 146097) C w3 dX1_yearOfDay_9 ?_
  refine z_sl (rest := []) C (c_J9_floorDiv_f86c9 l hfl D cI cJ _ (400 * (p1 + 719528)) (146097 : Int64) (by decide)) q_J9_floorDiv_f86c9 gX1_yearOfDay_J9_floorDiv_f86c9 ⟨rfl, rfl⟩ rfl rfl (Nat.le_of_ble_eq_true rfl) ⟨Nat.le_of_ble_eq_true rfl, Nat.le_of_ble_eq_true rfl⟩ ⟨Nat.le_of_ble_eq_true rfl, Nat.le_of_ble_eq_true rfl⟩ dX1_yearOfDay_12 ?_
  refine z_lstore_n (lv' := [(2, .long (f_J9_floorDiv_f86c9 (400 * (p1 + 719528)) 146097)), (0, .long p1)]) C dX1_yearOfDay_15 rfl (by decide) rfl ?_
  refine z_lload_n C dX1_yearOfDay_16 rfl 0 rfl ?_
  refine z_sl (rest := []) C (c_X1_firstOfYear l hfl D cI cJ _ (f_J9_floorDiv_f86c9 (400 * (p1 + 719528)) 146097) ) q_X1_firstOfYear gX1_yearOfDay_X1_firstOfYear ⟨rfl, rfl⟩ rfl rfl (Nat.le_of_ble_eq_true rfl) ⟨Nat.le_of_ble_eq_true rfl, Nat.le_of_ble_eq_true rfl⟩ ⟨Nat.le_of_ble_eq_true rfl, Nat.le_of_ble_eq_true rfl⟩ dX1_yearOfDay_17 ?_
  refine z_lload_n C dX1_yearOfDay_20 rfl 1 rfl ?_
  refine z_lcmp_le (tgt := 29) C dX1_yearOfDay_21 dX1_yearOfDay_22 (by decide) (fun h1 => ?_) (fun h1 => ?_)
  · refine z_lload_n C dX1_yearOfDay_29 rfl 0 rfl ?_
    refine z_lconst (v := 1) C dX1_yearOfDay_30 (by decide) ?_
    refine z_ladd C dX1_yearOfDay_31 ?_
    refine z_sl (rest := []) C (c_X1_firstOfYear l hfl D cI cJ _ ((f_J9_floorDiv_f86c9 (400 * (p1 + 719528)) 146097) + 1) ) q_X1_firstOfYear gX1_yearOfDay_X1_firstOfYear ⟨rfl, rfl⟩ rfl rfl (Nat.le_of_ble_eq_true rfl) ⟨Nat.le_of_ble_eq_true rfl, Nat.le_of_ble_eq_true rfl⟩ ⟨Nat.le_of_ble_eq_true rfl, Nat.le_of_ble_eq_true rfl⟩ dX1_yearOfDay_32 ?_
    refine z_lload_n C dX1_yearOfDay_35 rfl 1 rfl ?_
    refine z_lcmp_gt (tgt := 46) C dX1_yearOfDay_36 dX1_yearOfDay_37 (by decide) (fun h2 => ?_) (fun h2 => ?_)
    · refine z_lload_n C dX1_yearOfDay_46 rfl 0 rfl ?_
      exact z_lret C ⟨congrArg (fun v => some (Value.long v)) (by rw [f_X1_yearOfDay, if_pos h1, if_pos h2] : (f_J9_floorDiv_f86c9 (400 * (p1 + 719528)) 146097) = (f_X1_yearOfDay p1)), rfl⟩ (by decide) (by decide) dX1_yearOfDay_47
    · refine z_lload_n C dX1_yearOfDay_40 rfl 0 rfl ?_
      refine z_lconst (v := 1) C dX1_yearOfDay_41 (by decide) ?_
      refine z_ladd C dX1_yearOfDay_42 ?_
      refine z_goto (tgt := 47) C dX1_yearOfDay_43 (by decide) ?_
      exact z_lret C ⟨congrArg (fun v => some (Value.long v)) (by rw [f_X1_yearOfDay, if_pos h1, if_neg h2] : ((f_J9_floorDiv_f86c9 (400 * (p1 + 719528)) 146097) + 1) = (f_X1_yearOfDay p1)), rfl⟩ (by decide) (by decide) dX1_yearOfDay_47
  · refine z_lload_n C dX1_yearOfDay_25 rfl 0 rfl ?_
    refine z_lconst (v := 1) C dX1_yearOfDay_26 (by decide) ?_
    refine z_lsub C dX1_yearOfDay_27 ?_
    exact z_lret C ⟨congrArg (fun v => some (Value.long v)) (by rw [f_X1_yearOfDay, if_neg h1] : ((f_J9_floorDiv_f86c9 (400 * (p1 + 719528)) 146097) - 1) = (f_X1_yearOfDay p1)), rfl⟩ (by decide) (by decide) dX1_yearOfDay_28
def f_X1_monthOfDay_j1 (p1 : Int64) : Int32 := (if (f_X1_isLongYear (f_X1_yearOfDay p1)) = 0 then 2 else 1)
def f_X1_monthOfDay_j2 (p1 : Int64) : Int64 := (if (p1 - (f_X1_firstOfYear (f_X1_yearOfDay p1))) < 60 then (p1 - (f_X1_firstOfYear (f_X1_yearOfDay p1))) else ((p1 - (f_X1_firstOfYear (f_X1_yearOfDay p1))) + 1))
def f_X1_monthOfDay_j3 (p1 : Int64) : Int64 := (if (p1 - (f_X1_firstOfYear (f_X1_yearOfDay p1))) < 59 then (p1 - (f_X1_firstOfYear (f_X1_yearOfDay p1))) else ((p1 - (f_X1_firstOfYear (f_X1_yearOfDay p1))) + 2))
def f_X1_monthOfDay (p1 : Int64) : Int64 := (if f_X1_monthOfDay_j1 p1 = 1 then (f_X1_monthIndex (f_X1_yearOfDay p1) (((12 * (f_X1_monthOfDay_j2 p1)) + 373) / 367)) else (f_X1_monthIndex (f_X1_yearOfDay p1) (((12 * (f_X1_monthOfDay_j3 p1)) + 373) / 367)))
theorem q_X1_monthOfDay : ZY yX1_monthOfDay wsX1_monthOfDay cX1_monthOfDay 7 (some .long) 1 := ⟨⟨_, rfl⟩, by decide +kernel, by decide +kernel, by decide +kernel⟩
set_option maxHeartbeats 4000000 in
set_option maxRecDepth 100000 in
theorem c_X1_monthOfDay (l : Launch) (hfl : l.stackTraces = false) (D : va_G) (cI cJ : ClassId) (X : va_W) (p1 : Int64)  : ZM l yX1_monthOfDay wsX1_monthOfDay { frames := 3, cells := 0, slots := 0, locals := 71 } [.long p1] D (zTys cI cJ) X 0 0 (fun v w => v = some (.long (f_X1_monthOfDay p1)) ∧ w = X) (fun _ _ => False) := by
  refine z_open (own := RX1) hfl (cc := cX1_monthOfDay) (maxL := 7) (ret := (some .long)) (lv := [(0, .long p1)]) rfl (by decide) rfl rfl (Nat.le_of_ble_eq_true rfl) ?_
  intro p e s m args below meth c A C hno hnm hargs
  have w1 := C.1.2.2.2.2 (.constantLong RX1 23 (12)) (by decide +kernel)
  have w2 := C.1.2.2.2.2 (.constantLong RX1 62 (373)) (by decide +kernel)
  have w3 := C.1.2.2.2.2 (.constantLong RX1 64 (367)) (by decide +kernel)
  refine z_lload_n C dX1_monthOfDay_0 rfl 0 rfl ?_
  refine z_sl (rest := []) C (c_X1_yearOfDay l hfl D cI cJ _ p1 ) q_X1_yearOfDay gX1_monthOfDay_X1_yearOfDay ⟨rfl, rfl⟩ rfl rfl (Nat.le_of_ble_eq_true rfl) ⟨Nat.le_of_ble_eq_true rfl, Nat.le_of_ble_eq_true rfl⟩ ⟨Nat.le_of_ble_eq_true rfl, Nat.le_of_ble_eq_true rfl⟩ dX1_monthOfDay_1 ?_
  refine z_lstore_n (lv' := [(2, .long (f_X1_yearOfDay p1)), (0, .long p1)]) C dX1_monthOfDay_4 rfl (by decide) rfl ?_
  refine z_lload_n C dX1_monthOfDay_5 rfl 1 rfl ?_
  refine z_lload_n C dX1_monthOfDay_6 rfl 0 rfl ?_
  refine z_sl (rest := [.long p1]) C (c_X1_firstOfYear l hfl D cI cJ _ (f_X1_yearOfDay p1) ) q_X1_firstOfYear gX1_monthOfDay_X1_firstOfYear ⟨rfl, rfl⟩ rfl rfl (Nat.le_of_ble_eq_true rfl) ⟨Nat.le_of_ble_eq_true rfl, Nat.le_of_ble_eq_true rfl⟩ ⟨Nat.le_of_ble_eq_true rfl, Nat.le_of_ble_eq_true rfl⟩ dX1_monthOfDay_7 ?_
  refine z_lsub C dX1_monthOfDay_10 ?_
  refine z_lstore (lv' := [(4, .long (p1 - (f_X1_firstOfYear (f_X1_yearOfDay p1)))), (2, .long (f_X1_yearOfDay p1)), (0, .long p1)]) C dX1_monthOfDay_11 (by decide) rfl ?_
  refine z_lload_n C dX1_monthOfDay_13 rfl 1 rfl ?_
  refine z_si (rest := []) C (c_X1_isLongYear l hfl D cI cJ _ (f_X1_yearOfDay p1) ) q_X1_isLongYear gX1_monthOfDay_X1_isLongYear ⟨rfl, rfl⟩ rfl rfl (Nat.le_of_ble_eq_true rfl) ⟨Nat.le_of_ble_eq_true rfl, Nat.le_of_ble_eq_true rfl⟩ ⟨Nat.le_of_ble_eq_true rfl, Nat.le_of_ble_eq_true rfl⟩ dX1_monthOfDay_14 ?_
  have K1_1 : f_X1_monthOfDay_j1 p1 = 1 → (¬ (f_X1_isLongYear (f_X1_yearOfDay p1)) = 0) → ZW p l e { frames := 3, cells := 0, slots := 0, locals := 71 } s m args below meth c 7 D (zTys cI cJ) A (zE D (zTys cI cJ) A below args s (fun v w => v = some (.long (f_X1_monthOfDay p1)) ∧ w = X) (fun _ _ => False) 0 0) 0 0 X 25 [(4, .long (p1 - (f_X1_firstOfYear (f_X1_yearOfDay p1)))), (2, .long (f_X1_yearOfDay p1)), (0, .long p1)] [.int 1] := by
    intro h2 h3
    refine z_istore (lv' := [(6, .int 1), (4, .long (p1 - (f_X1_firstOfYear (f_X1_yearOfDay p1)))), (2, .long (f_X1_yearOfDay p1)), (0, .long p1)]) C dX1_monthOfDay_25 (by decide) rfl ?_
    refine z_lload C dX1_monthOfDay_27 1 rfl ?_
    refine z_bipush (v := 61) C dX1_monthOfDay_29 (by decide) ?_
    refine z_iload C dX1_monthOfDay_31 0 rfl ?_
    refine z_isub C dX1_monthOfDay_33 ?_
    refine z_eqst (st' := [.int 60, .long (p1 - (f_X1_firstOfYear (f_X1_yearOfDay p1)))]) (congrArg (fun v => Value.int v :: _) (by decide : (61 - 1) = (60 : Int32))) ?_
    refine z_i2l (v := 60) C dX1_monthOfDay_34 (by decide) ?_
    have K2 : ∀ (v2_0 : Int64), v2_0 = (f_X1_monthOfDay_j2 p1) → ZW p l e { frames := 3, cells := 0, slots := 0, locals := 71 } s m args below meth c 7 D (zTys cI cJ) A (zE D (zTys cI cJ) A below args s (fun v w => v = some (.long (f_X1_monthOfDay p1)) ∧ w = X) (fun _ _ => False) 0 0) 0 0 X 47 [(6, .int 1), (4, .long v2_0), (2, .long (f_X1_yearOfDay p1)), (0, .long p1)] [] := by
      rintro _ rfl
      refine z_lload_n C dX1_monthOfDay_47 rfl 2 rfl ?_
      refine z_ldc2 (v := 12) C w1 dX1_monthOfDay_48 ?_
      refine z_lload C dX1_monthOfDay_51 1 rfl ?_
      refine z_lmul C dX1_monthOfDay_53 ?_
      refine z_ldc2 (v := 373) C w2 dX1_monthOfDay_54 ?_
      refine z_ladd C dX1_monthOfDay_57 ?_
      refine z_ldc2 (v := 367) C w3 dX1_monthOfDay_58 ?_
      refine z_ldiv C dX1_monthOfDay_61 (by decide) ?_
      refine z_sl (rest := []) C (c_X1_monthIndex l hfl D cI cJ _ (f_X1_yearOfDay p1) (((12 * (f_X1_monthOfDay_j2 p1)) + 373) / 367) ) q_X1_monthIndex gX1_monthOfDay_X1_monthIndex ⟨rfl, rfl⟩ rfl rfl (Nat.le_of_ble_eq_true rfl) ⟨Nat.le_of_ble_eq_true rfl, Nat.le_of_ble_eq_true rfl⟩ ⟨Nat.le_of_ble_eq_true rfl, Nat.le_of_ble_eq_true rfl⟩ dX1_monthOfDay_62 ?_
      exact z_lret C ⟨congrArg (fun v => some (Value.long v)) (by rw [f_X1_monthOfDay, if_pos h2] : (f_X1_monthIndex (f_X1_yearOfDay p1) (((12 * (f_X1_monthOfDay_j2 p1)) + 373) / 367)) = (f_X1_monthOfDay p1)), rfl⟩ (by decide) (by decide) dX1_monthOfDay_65
    refine z_lcmp_lt (tgt := 47) C dX1_monthOfDay_35 dX1_monthOfDay_36 (by decide) (fun h4 => ?_) (fun h4 => ?_)
    · exact K2 _ (by rw [f_X1_monthOfDay_j2, if_pos h4])
    · refine z_lload C dX1_monthOfDay_39 1 rfl ?_
      refine z_iload C dX1_monthOfDay_41 0 rfl ?_
      refine z_i2l (v := 1) C dX1_monthOfDay_43 (by decide) ?_
      refine z_ladd C dX1_monthOfDay_44 ?_
      refine z_lstore (lv' := [(4, .long ((p1 - (f_X1_firstOfYear (f_X1_yearOfDay p1))) + 1)), (6, .int 1), (2, .long (f_X1_yearOfDay p1)), (0, .long p1)]) C dX1_monthOfDay_45 (by decide) rfl ?_
      refine z_sub [1, 0, 2, 3] rfl ?_
      exact K2 _ (by rw [f_X1_monthOfDay_j2, if_neg h4])
  have K1_2 : f_X1_monthOfDay_j1 p1 = 2 → ((f_X1_isLongYear (f_X1_yearOfDay p1)) = 0) → ZW p l e { frames := 3, cells := 0, slots := 0, locals := 71 } s m args below meth c 7 D (zTys cI cJ) A (zE D (zTys cI cJ) A below args s (fun v w => v = some (.long (f_X1_monthOfDay p1)) ∧ w = X) (fun _ _ => False) 0 0) 0 0 X 25 [(4, .long (p1 - (f_X1_firstOfYear (f_X1_yearOfDay p1)))), (2, .long (f_X1_yearOfDay p1)), (0, .long p1)] [.int 2] := by
    intro h5 h6
    refine z_istore (lv' := [(6, .int 2), (4, .long (p1 - (f_X1_firstOfYear (f_X1_yearOfDay p1)))), (2, .long (f_X1_yearOfDay p1)), (0, .long p1)]) C dX1_monthOfDay_25 (by decide) rfl ?_
    refine z_lload C dX1_monthOfDay_27 1 rfl ?_
    refine z_bipush (v := 61) C dX1_monthOfDay_29 (by decide) ?_
    refine z_iload C dX1_monthOfDay_31 0 rfl ?_
    refine z_isub C dX1_monthOfDay_33 ?_
    refine z_eqst (st' := [.int 59, .long (p1 - (f_X1_firstOfYear (f_X1_yearOfDay p1)))]) (congrArg (fun v => Value.int v :: _) (by decide : (61 - 2) = (59 : Int32))) ?_
    refine z_i2l (v := 59) C dX1_monthOfDay_34 (by decide) ?_
    have K3 : ∀ (v3_0 : Int64), v3_0 = (f_X1_monthOfDay_j3 p1) → ZW p l e { frames := 3, cells := 0, slots := 0, locals := 71 } s m args below meth c 7 D (zTys cI cJ) A (zE D (zTys cI cJ) A below args s (fun v w => v = some (.long (f_X1_monthOfDay p1)) ∧ w = X) (fun _ _ => False) 0 0) 0 0 X 47 [(6, .int 2), (4, .long v3_0), (2, .long (f_X1_yearOfDay p1)), (0, .long p1)] [] := by
      rintro _ rfl
      refine z_lload_n C dX1_monthOfDay_47 rfl 2 rfl ?_
      refine z_ldc2 (v := 12) C w1 dX1_monthOfDay_48 ?_
      refine z_lload C dX1_monthOfDay_51 1 rfl ?_
      refine z_lmul C dX1_monthOfDay_53 ?_
      refine z_ldc2 (v := 373) C w2 dX1_monthOfDay_54 ?_
      refine z_ladd C dX1_monthOfDay_57 ?_
      refine z_ldc2 (v := 367) C w3 dX1_monthOfDay_58 ?_
      refine z_ldiv C dX1_monthOfDay_61 (by decide) ?_
      refine z_sl (rest := []) C (c_X1_monthIndex l hfl D cI cJ _ (f_X1_yearOfDay p1) (((12 * (f_X1_monthOfDay_j3 p1)) + 373) / 367) ) q_X1_monthIndex gX1_monthOfDay_X1_monthIndex ⟨rfl, rfl⟩ rfl rfl (Nat.le_of_ble_eq_true rfl) ⟨Nat.le_of_ble_eq_true rfl, Nat.le_of_ble_eq_true rfl⟩ ⟨Nat.le_of_ble_eq_true rfl, Nat.le_of_ble_eq_true rfl⟩ dX1_monthOfDay_62 ?_
      exact z_lret C ⟨congrArg (fun v => some (Value.long v)) (by rw [f_X1_monthOfDay, if_neg (by rw [h5]; decide : ¬ f_X1_monthOfDay_j1 p1 = 1)] : (f_X1_monthIndex (f_X1_yearOfDay p1) (((12 * (f_X1_monthOfDay_j3 p1)) + 373) / 367)) = (f_X1_monthOfDay p1)), rfl⟩ (by decide) (by decide) dX1_monthOfDay_65
    refine z_lcmp_lt (tgt := 47) C dX1_monthOfDay_35 dX1_monthOfDay_36 (by decide) (fun h7 => ?_) (fun h7 => ?_)
    · exact K3 _ (by rw [f_X1_monthOfDay_j3, if_pos h7])
    · refine z_lload C dX1_monthOfDay_39 1 rfl ?_
      refine z_iload C dX1_monthOfDay_41 0 rfl ?_
      refine z_i2l (v := 2) C dX1_monthOfDay_43 (by decide) ?_
      refine z_ladd C dX1_monthOfDay_44 ?_
      refine z_lstore (lv' := [(4, .long ((p1 - (f_X1_firstOfYear (f_X1_yearOfDay p1))) + 2)), (6, .int 2), (2, .long (f_X1_yearOfDay p1)), (0, .long p1)]) C dX1_monthOfDay_45 (by decide) rfl ?_
      refine z_sub [1, 0, 2, 3] rfl ?_
      exact K3 _ (by rw [f_X1_monthOfDay_j3, if_neg h7])
  refine z_if_eq (tgt := 24) C dX1_monthOfDay_17 (by decide) (fun h1 => ?_) (fun h1 => ?_)
  · refine z_iconst (v := 2) C dX1_monthOfDay_24 (by decide) ?_
    exact K1_2 (by rw [f_X1_monthOfDay_j1, if_pos h1]) h1
  · refine z_iconst (v := 1) C dX1_monthOfDay_20 (by decide) ?_
    refine z_goto (tgt := 25) C dX1_monthOfDay_21 (by decide) ?_
    exact K1_1 (by rw [f_X1_monthOfDay_j1, if_neg h1]) h1
def f_X1_dayInMonth (p1 : Int64) : Int32 := (((p1 - (f_X1_firstOfMonth (f_X1_monthOfDay p1)))).toInt32 + 1)
theorem q_X1_dayInMonth : ZY yX1_dayInMonth wsX1_dayInMonth cX1_dayInMonth 2 (some .int) 1 := ⟨⟨_, rfl⟩, by decide +kernel, by decide +kernel, by decide +kernel⟩
set_option maxHeartbeats 4000000 in
set_option maxRecDepth 100000 in
theorem c_X1_dayInMonth (l : Launch) (hfl : l.stackTraces = false) (D : va_G) (cI cJ : ClassId) (X : va_W) (p1 : Int64)  : ZM l yX1_dayInMonth wsX1_dayInMonth { frames := 4, cells := 0, slots := 0, locals := 97 } [.long p1] D (zTys cI cJ) X 0 0 (fun v w => v = some (.int (f_X1_dayInMonth p1)) ∧ w = X) (fun _ _ => False) := by
  refine z_open (own := RX1) hfl (cc := cX1_dayInMonth) (maxL := 2) (ret := (some .int)) (lv := [(0, .long p1)]) rfl (by decide) rfl rfl (Nat.le_of_ble_eq_true rfl) ?_
  intro p e s m args below meth c A C hno hnm hargs
  refine z_lload_n C dX1_dayInMonth_0 rfl 0 rfl ?_
  refine z_lload_n C dX1_dayInMonth_1 rfl 0 rfl ?_
  refine z_sl (rest := [.long p1]) C (c_X1_monthOfDay l hfl D cI cJ _ p1 ) q_X1_monthOfDay gX1_dayInMonth_X1_monthOfDay ⟨rfl, rfl⟩ rfl rfl (Nat.le_of_ble_eq_true rfl) ⟨Nat.le_of_ble_eq_true rfl, Nat.le_of_ble_eq_true rfl⟩ ⟨Nat.le_of_ble_eq_true rfl, Nat.le_of_ble_eq_true rfl⟩ dX1_dayInMonth_2 ?_
  refine z_sl (rest := [.long p1]) C (c_X1_firstOfMonth l hfl D cI cJ _ (f_X1_monthOfDay p1) ) q_X1_firstOfMonth gX1_dayInMonth_X1_firstOfMonth ⟨rfl, rfl⟩ rfl rfl (Nat.le_of_ble_eq_true rfl) ⟨Nat.le_of_ble_eq_true rfl, Nat.le_of_ble_eq_true rfl⟩ ⟨Nat.le_of_ble_eq_true rfl, Nat.le_of_ble_eq_true rfl⟩ dX1_dayInMonth_5 ?_
  refine z_lsub C dX1_dayInMonth_8 ?_
  refine z_l2i (v := ((p1 - (f_X1_firstOfMonth (f_X1_monthOfDay p1)))).toInt32) C dX1_dayInMonth_9 rfl ?_
  refine z_iconst (v := 1) C dX1_dayInMonth_10 (by decide) ?_
  refine z_iadd C dX1_dayInMonth_11 ?_
  exact z_iret C ⟨congrArg (fun v => some (Value.int v)) (rfl : (((p1 - (f_X1_firstOfMonth (f_X1_monthOfDay p1)))).toInt32 + 1) = (f_X1_dayInMonth p1)), rfl⟩ (by decide) (by decide) dX1_dayInMonth_12
def f_X1_weekdayOf (p1 : Int64) : Int32 := (((f_J9_floorMod_f86c9 (p1 + 3) 7)).toInt32 + 1)
theorem q_X1_weekdayOf : ZY yX1_weekdayOf wsX1_weekdayOf cX1_weekdayOf 2 (some .int) 1 := ⟨⟨_, rfl⟩, by decide +kernel, by decide +kernel, by decide +kernel⟩
set_option maxHeartbeats 4000000 in
set_option maxRecDepth 100000 in
theorem c_X1_weekdayOf (l : Launch) (hfl : l.stackTraces = false) (D : va_G) (cI cJ : ClassId) (X : va_W) (p1 : Int64)  : ZM l yX1_weekdayOf wsX1_weekdayOf { frames := 1, cells := 0, slots := 0, locals := 25 } [.long p1] D (zTys cI cJ) X 0 0 (fun v w => v = some (.int (f_X1_weekdayOf p1)) ∧ w = X) (fun _ _ => False) := by
  refine z_open (own := RX1) hfl (cc := cX1_weekdayOf) (maxL := 2) (ret := (some .int)) (lv := [(0, .long p1)]) rfl (by decide) rfl rfl (Nat.le_of_ble_eq_true rfl) ?_
  intro p e s m args below meth c A C hno hnm hargs
  have w1 := C.1.2.2.2.2 (.constantLong RX1 42 (3)) (by decide +kernel)
  have w2 := C.1.2.2.2.2 (.constantLong RX1 75 (7)) (by decide +kernel)
  refine z_lload_n C dX1_weekdayOf_0 rfl 0 rfl ?_
  refine z_ldc2 (v := 3) C w1 dX1_weekdayOf_1 ?_
  refine z_ladd C dX1_weekdayOf_4 ?_
  refine z_ldc2 (v := 7) C w2 dX1_weekdayOf_5 ?_
  refine z_sl (rest := []) C (c_J9_floorMod_f86c9 l hfl D cI cJ _ (p1 + 3) (7 : Int64) (by decide)) q_J9_floorMod_f86c9 gX1_weekdayOf_J9_floorMod_f86c9 ⟨rfl, rfl⟩ rfl rfl (Nat.le_of_ble_eq_true rfl) ⟨Nat.le_of_ble_eq_true rfl, Nat.le_of_ble_eq_true rfl⟩ ⟨Nat.le_of_ble_eq_true rfl, Nat.le_of_ble_eq_true rfl⟩ dX1_weekdayOf_8 ?_
  refine z_l2i (v := ((f_J9_floorMod_f86c9 (p1 + 3) 7)).toInt32) C dX1_weekdayOf_11 rfl ?_
  refine z_iconst (v := 1) C dX1_weekdayOf_12 (by decide) ?_
  refine z_iadd C dX1_weekdayOf_13 ?_
  exact z_iret C ⟨congrArg (fun v => some (Value.int v)) (rfl : (((f_J9_floorMod_f86c9 (p1 + 3) 7)).toInt32 + 1) = (f_X1_weekdayOf p1)), rfl⟩ (by decide) (by decide) dX1_weekdayOf_14
def f_X1_weekdayFrom (p1 : Int64) (p2 : Int32) : Int64 := (p1 + ((f_J9_floorMod_7cf53 (p2 - (f_X1_weekdayOf p1)) 7)).toInt64)
theorem q_X1_weekdayFrom : ZY yX1_weekdayFrom wsX1_weekdayFrom cX1_weekdayFrom 3 (some .long) 2 := ⟨⟨_, rfl⟩, by decide +kernel, by decide +kernel, by decide +kernel⟩
set_option maxHeartbeats 4000000 in
set_option maxRecDepth 100000 in
theorem c_X1_weekdayFrom (l : Launch) (hfl : l.stackTraces = false) (D : va_G) (cI cJ : ClassId) (X : va_W) (p1 : Int64) (p2 : Int32)  : ZM l yX1_weekdayFrom wsX1_weekdayFrom { frames := 2, cells := 0, slots := 0, locals := 46 } [.long p1, .int p2] D (zTys cI cJ) X 0 0 (fun v w => v = some (.long (f_X1_weekdayFrom p1 p2)) ∧ w = X) (fun _ _ => False) := by
  refine z_open (own := RX1) hfl (cc := cX1_weekdayFrom) (maxL := 3) (ret := (some .long)) (lv := [(0, .long p1), (2, .int p2)]) rfl (by decide) rfl rfl (Nat.le_of_ble_eq_true rfl) ?_
  intro p e s m args below meth c A C hno hnm hargs
  refine z_lload_n C dX1_weekdayFrom_0 rfl 0 rfl ?_
  refine z_iload_n C dX1_weekdayFrom_1 rfl 1 rfl ?_
  refine z_lload_n C dX1_weekdayFrom_2 rfl 0 rfl ?_
  refine z_si (rest := [.int p2, .long p1]) C (c_X1_weekdayOf l hfl D cI cJ _ p1 ) q_X1_weekdayOf gX1_weekdayFrom_X1_weekdayOf ⟨rfl, rfl⟩ rfl rfl (Nat.le_of_ble_eq_true rfl) ⟨Nat.le_of_ble_eq_true rfl, Nat.le_of_ble_eq_true rfl⟩ ⟨Nat.le_of_ble_eq_true rfl, Nat.le_of_ble_eq_true rfl⟩ dX1_weekdayFrom_3 ?_
  refine z_isub C dX1_weekdayFrom_6 ?_
  refine z_bipush (v := 7) C dX1_weekdayFrom_7 (by decide) ?_
  refine z_si (rest := [.long p1]) C (c_J9_floorMod_7cf53 l hfl D cI cJ _ (p2 - (f_X1_weekdayOf p1)) (7 : Int32) (by decide)) q_J9_floorMod_7cf53 gX1_weekdayFrom_J9_floorMod_7cf53 ⟨rfl, rfl⟩ rfl rfl (Nat.le_of_ble_eq_true rfl) ⟨Nat.le_of_ble_eq_true rfl, Nat.le_of_ble_eq_true rfl⟩ ⟨Nat.le_of_ble_eq_true rfl, Nat.le_of_ble_eq_true rfl⟩ dX1_weekdayFrom_9 ?_
  refine z_i2l (v := ((f_J9_floorMod_7cf53 (p2 - (f_X1_weekdayOf p1)) 7)).toInt64) C dX1_weekdayFrom_12 rfl ?_
  refine z_ladd C dX1_weekdayFrom_13 ?_
  exact z_lret C ⟨congrArg (fun v => some (Value.long v)) (rfl : (p1 + ((f_J9_floorMod_7cf53 (p2 - (f_X1_weekdayOf p1)) 7)).toInt64) = (f_X1_weekdayFrom p1 p2)), rfl⟩ (by decide) (by decide) dX1_weekdayFrom_14
def f_X1_weekdayUpTo (p1 : Int64) (p2 : Int32) : Int64 := (p1 - ((f_J9_floorMod_7cf53 ((f_X1_weekdayOf p1) - p2) 7)).toInt64)
theorem q_X1_weekdayUpTo : ZY yX1_weekdayUpTo wsX1_weekdayUpTo cX1_weekdayUpTo 3 (some .long) 2 := ⟨⟨_, rfl⟩, by decide +kernel, by decide +kernel, by decide +kernel⟩
set_option maxHeartbeats 4000000 in
set_option maxRecDepth 100000 in
theorem c_X1_weekdayUpTo (l : Launch) (hfl : l.stackTraces = false) (D : va_G) (cI cJ : ClassId) (X : va_W) (p1 : Int64) (p2 : Int32)  : ZM l yX1_weekdayUpTo wsX1_weekdayUpTo { frames := 2, cells := 0, slots := 0, locals := 46 } [.long p1, .int p2] D (zTys cI cJ) X 0 0 (fun v w => v = some (.long (f_X1_weekdayUpTo p1 p2)) ∧ w = X) (fun _ _ => False) := by
  refine z_open (own := RX1) hfl (cc := cX1_weekdayUpTo) (maxL := 3) (ret := (some .long)) (lv := [(0, .long p1), (2, .int p2)]) rfl (by decide) rfl rfl (Nat.le_of_ble_eq_true rfl) ?_
  intro p e s m args below meth c A C hno hnm hargs
  refine z_lload_n C dX1_weekdayUpTo_0 rfl 0 rfl ?_
  refine z_lload_n C dX1_weekdayUpTo_1 rfl 0 rfl ?_
  refine z_si (rest := [.long p1]) C (c_X1_weekdayOf l hfl D cI cJ _ p1 ) q_X1_weekdayOf gX1_weekdayUpTo_X1_weekdayOf ⟨rfl, rfl⟩ rfl rfl (Nat.le_of_ble_eq_true rfl) ⟨Nat.le_of_ble_eq_true rfl, Nat.le_of_ble_eq_true rfl⟩ ⟨Nat.le_of_ble_eq_true rfl, Nat.le_of_ble_eq_true rfl⟩ dX1_weekdayUpTo_2 ?_
  refine z_iload_n C dX1_weekdayUpTo_5 rfl 1 rfl ?_
  refine z_isub C dX1_weekdayUpTo_6 ?_
  refine z_bipush (v := 7) C dX1_weekdayUpTo_7 (by decide) ?_
  refine z_si (rest := [.long p1]) C (c_J9_floorMod_7cf53 l hfl D cI cJ _ ((f_X1_weekdayOf p1) - p2) (7 : Int32) (by decide)) q_J9_floorMod_7cf53 gX1_weekdayUpTo_J9_floorMod_7cf53 ⟨rfl, rfl⟩ rfl rfl (Nat.le_of_ble_eq_true rfl) ⟨Nat.le_of_ble_eq_true rfl, Nat.le_of_ble_eq_true rfl⟩ ⟨Nat.le_of_ble_eq_true rfl, Nat.le_of_ble_eq_true rfl⟩ dX1_weekdayUpTo_9 ?_
  refine z_i2l (v := ((f_J9_floorMod_7cf53 ((f_X1_weekdayOf p1) - p2) 7)).toInt64) C dX1_weekdayUpTo_12 rfl ?_
  refine z_lsub C dX1_weekdayUpTo_13 ?_
  exact z_lret C ⟨congrArg (fun v => some (Value.long v)) (rfl : (p1 - ((f_J9_floorMod_7cf53 ((f_X1_weekdayOf p1) - p2) 7)).toInt64) = (f_X1_weekdayUpTo p1 p2)), rfl⟩ (by decide) (by decide) dX1_weekdayUpTo_14
def f_X1_dayOrLast (p1 : Int64) (p2 : Int64) : Int64 := (((f_X1_firstOfMonth p1) + (if ((f_X1_lengthOfMonth p1)).toInt64 < p2 then ((f_X1_lengthOfMonth p1)).toInt64 else p2)) - 1)
theorem q_X1_dayOrLast : ZY yX1_dayOrLast wsX1_dayOrLast cX1_dayOrLast 4 (some .long) 2 := ⟨⟨_, rfl⟩, by decide +kernel, by decide +kernel, by decide +kernel⟩
set_option maxHeartbeats 4000000 in
set_option maxRecDepth 100000 in
theorem c_X1_dayOrLast (l : Launch) (hfl : l.stackTraces = false) (D : va_G) (cI cJ : ClassId) (X : va_W) (p1 : Int64) (p2 : Int64)  : ZM l yX1_dayOrLast wsX1_dayOrLast { frames := 3, cells := 0, slots := 0, locals := 74 } [.long p1, .long p2] D (zTys cI cJ) X 0 0 (fun v w => v = some (.long (f_X1_dayOrLast p1 p2)) ∧ w = X) (fun _ _ => False) := by
  refine z_open (own := RX1) hfl (cc := cX1_dayOrLast) (maxL := 4) (ret := (some .long)) (lv := [(0, .long p1), (2, .long p2)]) rfl (by decide) rfl rfl (Nat.le_of_ble_eq_true rfl) ?_
  intro p e s m args below meth c A C hno hnm hargs
  have w1 := C.1.2.2.2.2 (.methodLink RX1 86 Lib.MathLoose.min_long.x) (by decide +kernel)
  have w2 := C.1.2.2.2.2 (.static Lib.MathLoose.min_long.x) (by decide +kernel)
  have w3 := C.1.2.2.2.2 (.initialized "java/lang/Math") (by decide +kernel)
  have w4 := C.1.2.2.2.2 (.code Lib.MathLoose.min_long.x Lib.MathLoose.min_long.code 4 (some .long)) (by decide +kernel)
  refine z_lload_n C dX1_dayOrLast_0 rfl 0 rfl ?_
  refine z_sl (rest := []) C (c_X1_firstOfMonth l hfl D cI cJ _ p1 ) q_X1_firstOfMonth gX1_dayOrLast_X1_firstOfMonth ⟨rfl, rfl⟩ rfl rfl (Nat.le_of_ble_eq_true rfl) ⟨Nat.le_of_ble_eq_true rfl, Nat.le_of_ble_eq_true rfl⟩ ⟨Nat.le_of_ble_eq_true rfl, Nat.le_of_ble_eq_true rfl⟩ dX1_dayOrLast_1 ?_
  refine z_lload_n C dX1_dayOrLast_4 rfl 1 rfl ?_
  refine z_lload_n C dX1_dayOrLast_5 rfl 0 rfl ?_
  refine z_si (rest := [.long p2, .long (f_X1_firstOfMonth p1)]) C (c_X1_lengthOfMonth l hfl D cI cJ _ p1 ) q_X1_lengthOfMonth gX1_dayOrLast_X1_lengthOfMonth ⟨rfl, rfl⟩ rfl rfl (Nat.le_of_ble_eq_true rfl) ⟨Nat.le_of_ble_eq_true rfl, Nat.le_of_ble_eq_true rfl⟩ ⟨Nat.le_of_ble_eq_true rfl, Nat.le_of_ble_eq_true rfl⟩ dX1_dayOrLast_6 ?_
  refine z_i2l (v := ((f_X1_lengthOfMonth p1)).toInt64) C dX1_dayOrLast_9 rfl ?_
  refine z_lmin C w1 w2 w3 w4 (by decide) (Nat.le_of_ble_eq_true rfl) (Nat.le_of_ble_eq_true rfl) (Nat.le_of_ble_eq_true rfl) dX1_dayOrLast_10 ?_
  refine z_ladd C dX1_dayOrLast_13 ?_
  refine z_lconst (v := 1) C dX1_dayOrLast_14 (by decide) ?_
  refine z_lsub C dX1_dayOrLast_15 ?_
  exact z_lret C ⟨congrArg (fun v => some (Value.long v)) (rfl : (((f_X1_firstOfMonth p1) + (if ((f_X1_lengthOfMonth p1)).toInt64 < p2 then ((f_X1_lengthOfMonth p1)).toInt64 else p2)) - 1) = (f_X1_dayOrLast p1 p2)), rfl⟩ (by decide) (by decide) dX1_dayOrLast_16
def f_X1_plusMonths (p1 : Int64) (p2 : Int64) : Int64 := (f_X1_dayOrLast ((f_X1_monthOfDay p1) + p2) ((p1 - (f_X1_firstOfMonth (f_X1_monthOfDay p1))) + 1))
theorem q_X1_plusMonths : ZY yX1_plusMonths wsX1_plusMonths cX1_plusMonths 6 (some .long) 2 := ⟨⟨_, rfl⟩, by decide +kernel, by decide +kernel, by decide +kernel⟩
set_option maxHeartbeats 4000000 in
set_option maxRecDepth 100000 in
theorem c_X1_plusMonths (l : Launch) (hfl : l.stackTraces = false) (D : va_G) (cI cJ : ClassId) (X : va_W) (p1 : Int64) (p2 : Int64)  : ZM l yX1_plusMonths wsX1_plusMonths { frames := 4, cells := 0, slots := 0, locals := 97 } [.long p1, .long p2] D (zTys cI cJ) X 0 0 (fun v w => v = some (.long (f_X1_plusMonths p1 p2)) ∧ w = X) (fun _ _ => False) := by
  refine z_open (own := RX1) hfl (cc := cX1_plusMonths) (maxL := 6) (ret := (some .long)) (lv := [(0, .long p1), (2, .long p2)]) rfl (by decide) rfl rfl (Nat.le_of_ble_eq_true rfl) ?_
  intro p e s m args below meth c A C hno hnm hargs
  refine z_lload_n C dX1_plusMonths_0 rfl 0 rfl ?_
  refine z_sl (rest := []) C (c_X1_monthOfDay l hfl D cI cJ _ p1 ) q_X1_monthOfDay gX1_plusMonths_X1_monthOfDay ⟨rfl, rfl⟩ rfl rfl (Nat.le_of_ble_eq_true rfl) ⟨Nat.le_of_ble_eq_true rfl, Nat.le_of_ble_eq_true rfl⟩ ⟨Nat.le_of_ble_eq_true rfl, Nat.le_of_ble_eq_true rfl⟩ dX1_plusMonths_1 ?_
  refine z_lstore (lv' := [(4, .long (f_X1_monthOfDay p1)), (0, .long p1), (2, .long p2)]) C dX1_plusMonths_4 (by decide) rfl ?_
  refine z_lload C dX1_plusMonths_6 0 rfl ?_
  refine z_lload_n C dX1_plusMonths_8 rfl 2 rfl ?_
  refine z_ladd C dX1_plusMonths_9 ?_
  refine z_lload_n C dX1_plusMonths_10 rfl 1 rfl ?_
  refine z_lload C dX1_plusMonths_11 0 rfl ?_
  refine z_sl (rest := [.long p1, .long ((f_X1_monthOfDay p1) + p2)]) C (c_X1_firstOfMonth l hfl D cI cJ _ (f_X1_monthOfDay p1) ) q_X1_firstOfMonth gX1_plusMonths_X1_firstOfMonth ⟨rfl, rfl⟩ rfl rfl (Nat.le_of_ble_eq_true rfl) ⟨Nat.le_of_ble_eq_true rfl, Nat.le_of_ble_eq_true rfl⟩ ⟨Nat.le_of_ble_eq_true rfl, Nat.le_of_ble_eq_true rfl⟩ dX1_plusMonths_13 ?_
  refine z_lsub C dX1_plusMonths_16 ?_
  refine z_lconst (v := 1) C dX1_plusMonths_17 (by decide) ?_
  refine z_ladd C dX1_plusMonths_18 ?_
  refine z_sl (rest := []) C (c_X1_dayOrLast l hfl D cI cJ _ ((f_X1_monthOfDay p1) + p2) ((p1 - (f_X1_firstOfMonth (f_X1_monthOfDay p1))) + 1) ) q_X1_dayOrLast gX1_plusMonths_X1_dayOrLast ⟨rfl, rfl⟩ rfl rfl (Nat.le_of_ble_eq_true rfl) ⟨Nat.le_of_ble_eq_true rfl, Nat.le_of_ble_eq_true rfl⟩ ⟨Nat.le_of_ble_eq_true rfl, Nat.le_of_ble_eq_true rfl⟩ dX1_plusMonths_19 ?_
  exact z_lret C ⟨congrArg (fun v => some (Value.long v)) (rfl : (f_X1_dayOrLast ((f_X1_monthOfDay p1) + p2) ((p1 - (f_X1_firstOfMonth (f_X1_monthOfDay p1))) + 1)) = (f_X1_plusMonths p1 p2)), rfl⟩ (by decide) (by decide) dX1_plusMonths_22
def f_X1_moved (p1 : Int64) (p2 : Int32) (p3 : Int64) : Int64 := (if p2 = 100 then (p1 + p3) else (if p2 = 109 then (f_X1_plusMonths p1 p3) else (if p2 = 119 then (p1 + (7 * p3)) else (f_X1_plusMonths p1 (12 * p3)))))
theorem q_X1_moved : ZY yX1_moved wsX1_moved cX1_moved 5 (some .long) 3 := ⟨⟨_, rfl⟩, by decide +kernel, by decide +kernel, by decide +kernel⟩
set_option maxHeartbeats 4000000 in
set_option maxRecDepth 100000 in
theorem c_X1_moved (l : Launch) (hfl : l.stackTraces = false) (D : va_G) (cI cJ : ClassId) (X : va_W) (p1 : Int64) (p2 : Int32) (p3 : Int64)  : ZM l yX1_moved wsX1_moved { frames := 5, cells := 0, slots := 0, locals := 122 } [.long p1, .int p2, .long p3] D (zTys cI cJ) X 0 0 (fun v w => v = some (.long (f_X1_moved p1 p2 p3)) ∧ w = X) (fun _ _ => False) := by
  refine z_open (own := RX1) hfl (cc := cX1_moved) (maxL := 5) (ret := (some .long)) (lv := [(0, .long p1), (2, .int p2), (3, .long p3)]) rfl (by decide) rfl rfl (Nat.le_of_ble_eq_true rfl) ?_
  intro p e s m args below meth c A C hno hnm hargs
  have w1 := C.1.2.2.2.2 (.constantLong RX1 75 (7)) (by decide +kernel)
  have w2 := C.1.2.2.2.2 (.constantLong RX1 23 (12)) (by decide +kernel)
  refine z_iload_n C dX1_moved_0 rfl 1 rfl ?_
  refine zcases (p2 = 100) (fun h1 => ?_) (fun h1 => ?_)
  · refine z_lookup (off := 35) (tgt := 36) C dX1_moved_1 (by decide) (by rw [h1]; decide) (by decide) ?_
    refine z_lload_n C dX1_moved_36 rfl 0 rfl ?_
    refine z_lload_n C dX1_moved_37 rfl 2 rfl ?_
    refine z_ladd C dX1_moved_38 ?_
    exact z_lret C ⟨congrArg (fun v => some (Value.long v)) (by rw [f_X1_moved, if_pos h1] : (p1 + p3) = (f_X1_moved p1 p2 p3)), rfl⟩ (by decide) (by decide) dX1_moved_39
  · refine zcases (p2 = 109) (fun h2 => ?_) (fun h2 => ?_)
    · refine z_lookup (off := 47) (tgt := 48) C dX1_moved_1 (by decide) (by rw [h2]; decide) (by decide) ?_
      refine z_lload_n C dX1_moved_48 rfl 0 rfl ?_
      refine z_lload_n C dX1_moved_49 rfl 2 rfl ?_
      refine z_sl (rest := []) C (c_X1_plusMonths l hfl D cI cJ _ p1 p3 ) q_X1_plusMonths gX1_moved_X1_plusMonths ⟨rfl, rfl⟩ rfl rfl (Nat.le_of_ble_eq_true rfl) ⟨Nat.le_of_ble_eq_true rfl, Nat.le_of_ble_eq_true rfl⟩ ⟨Nat.le_of_ble_eq_true rfl, Nat.le_of_ble_eq_true rfl⟩ dX1_moved_50 ?_
      exact z_lret C ⟨congrArg (fun v => some (Value.long v)) (by rw [f_X1_moved, if_neg h1, if_pos h2] : (f_X1_plusMonths p1 p3) = (f_X1_moved p1 p2 p3)), rfl⟩ (by decide) (by decide) dX1_moved_53
    · refine zcases (p2 = 119) (fun h3 => ?_) (fun h3 => ?_)
      · refine z_lookup (off := 39) (tgt := 40) C dX1_moved_1 (by decide) (by rw [h3]; decide) (by decide) ?_
        refine z_lload_n C dX1_moved_40 rfl 0 rfl ?_
        refine z_ldc2 (v := 7) C w1 dX1_moved_41 ?_
        refine z_lload_n C dX1_moved_44 rfl 2 rfl ?_
        refine z_lmul C dX1_moved_45 ?_
        refine z_ladd C dX1_moved_46 ?_
        exact z_lret C ⟨congrArg (fun v => some (Value.long v)) (by rw [f_X1_moved, if_neg h1, if_neg h2, if_pos h3] : (p1 + (7 * p3)) = (f_X1_moved p1 p2 p3)), rfl⟩ (by decide) (by decide) dX1_moved_47
      · refine z_lookup (off := 53) (tgt := 54) C dX1_moved_1 (by decide) (zlk3 h1 h2 h3) (by decide) ?_
        refine z_lload_n C dX1_moved_54 rfl 0 rfl ?_
        refine z_ldc2 (v := 12) C w2 dX1_moved_55 ?_
        refine z_lload_n C dX1_moved_58 rfl 2 rfl ?_
        refine z_lmul C dX1_moved_59 ?_
        refine z_sl (rest := []) C (c_X1_plusMonths l hfl D cI cJ _ p1 (12 * p3) ) q_X1_plusMonths gX1_moved_X1_plusMonths ⟨rfl, rfl⟩ rfl rfl (Nat.le_of_ble_eq_true rfl) ⟨Nat.le_of_ble_eq_true rfl, Nat.le_of_ble_eq_true rfl⟩ ⟨Nat.le_of_ble_eq_true rfl, Nat.le_of_ble_eq_true rfl⟩ dX1_moved_60 ?_
        exact z_lret C ⟨congrArg (fun v => some (Value.long v)) (by rw [f_X1_moved, if_neg h1, if_neg h2, if_neg h3] : (f_X1_plusMonths p1 (12 * p3)) = (f_X1_moved p1 p2 p3)), rfl⟩ (by decide) (by decide) dX1_moved_63
def f_X1_wholeMonths_j1 (p1 : Int64) (p2 : Int64) : Int64 := (if ((if p2 < p1 then p2 else p1) - (f_X1_firstOfMonth (f_X1_monthOfDay (if p2 < p1 then p2 else p1)))) ≤ ((if p2 < p1 then p1 else p2) - (f_X1_firstOfMonth (f_X1_monthOfDay (if p2 < p1 then p1 else p2)))) then ((f_X1_monthOfDay (if p2 < p1 then p1 else p2)) - (f_X1_monthOfDay (if p2 < p1 then p2 else p1))) else (((f_X1_monthOfDay (if p2 < p1 then p1 else p2)) - (f_X1_monthOfDay (if p2 < p1 then p2 else p1))) - 1))
def f_X1_wholeMonths (p1 : Int64) (p2 : Int64) : Int64 := (if p1 ≤ p2 then (f_X1_wholeMonths_j1 p1 p2) else (-(f_X1_wholeMonths_j1 p1 p2)))
theorem q_X1_wholeMonths : ZY yX1_wholeMonths wsX1_wholeMonths cX1_wholeMonths 14 (some .long) 2 := ⟨⟨_, rfl⟩, by decide +kernel, by decide +kernel, by decide +kernel⟩
set_option maxHeartbeats 4000000 in
set_option maxRecDepth 100000 in
theorem c_X1_wholeMonths (l : Launch) (hfl : l.stackTraces = false) (D : va_G) (cI cJ : ClassId) (X : va_W) (p1 : Int64) (p2 : Int64)  : ZM l yX1_wholeMonths wsX1_wholeMonths { frames := 4, cells := 0, slots := 0, locals := 97 } [.long p1, .long p2] D (zTys cI cJ) X 0 0 (fun v w => v = some (.long (f_X1_wholeMonths p1 p2)) ∧ w = X) (fun _ _ => False) := by
  refine z_open (own := RX1) hfl (cc := cX1_wholeMonths) (maxL := 14) (ret := (some .long)) (lv := [(0, .long p1), (2, .long p2)]) rfl (by decide) rfl rfl (Nat.le_of_ble_eq_true rfl) ?_
  intro p e s m args below meth c A C hno hnm hargs
  have w1 := C.1.2.2.2.2 (.methodLink RX1 86 Lib.MathLoose.min_long.x) (by decide +kernel)
  have w2 := C.1.2.2.2.2 (.static Lib.MathLoose.min_long.x) (by decide +kernel)
  have w3 := C.1.2.2.2.2 (.initialized "java/lang/Math") (by decide +kernel)
  have w4 := C.1.2.2.2.2 (.code Lib.MathLoose.min_long.x Lib.MathLoose.min_long.code 4 (some .long)) (by decide +kernel)
  have w5 := C.1.2.2.2.2 (.methodLink RX1 95 Lib.MathLoose.max_long.x) (by decide +kernel)
  have w6 := C.1.2.2.2.2 (.static Lib.MathLoose.max_long.x) (by decide +kernel)
  have w7 := C.1.2.2.2.2 (.code Lib.MathLoose.max_long.x Lib.MathLoose.max_long.code 4 (some .long)) (by decide +kernel)
  refine z_lload_n C dX1_wholeMonths_0 rfl 0 rfl ?_
  refine z_lload_n C dX1_wholeMonths_1 rfl 1 rfl ?_
  refine z_lmin C w1 w2 w3 w4 (by decide) (Nat.le_of_ble_eq_true rfl) (Nat.le_of_ble_eq_true rfl) (Nat.le_of_ble_eq_true rfl) dX1_wholeMonths_2 ?_
  refine z_lstore (lv' := [(4, .long (if p2 < p1 then p2 else p1)), (0, .long p1), (2, .long p2)]) C dX1_wholeMonths_5 (by decide) rfl ?_
  refine z_lload_n C dX1_wholeMonths_7 rfl 1 rfl ?_
  refine z_lload_n C dX1_wholeMonths_8 rfl 2 rfl ?_
  refine z_lmax C w5 w6 w3 w7 (by decide) (Nat.le_of_ble_eq_true rfl) (Nat.le_of_ble_eq_true rfl) (Nat.le_of_ble_eq_true rfl) dX1_wholeMonths_9 ?_
  refine z_lstore (lv' := [(6, .long (if p2 < p1 then p1 else p2)), (4, .long (if p2 < p1 then p2 else p1)), (0, .long p1), (2, .long p2)]) C dX1_wholeMonths_12 (by decide) rfl ?_
  refine z_lload C dX1_wholeMonths_14 1 rfl ?_
  refine z_sl (rest := []) C (c_X1_monthOfDay l hfl D cI cJ _ (if p2 < p1 then p2 else p1) ) q_X1_monthOfDay gX1_wholeMonths_X1_monthOfDay ⟨rfl, rfl⟩ rfl rfl (Nat.le_of_ble_eq_true rfl) ⟨Nat.le_of_ble_eq_true rfl, Nat.le_of_ble_eq_true rfl⟩ ⟨Nat.le_of_ble_eq_true rfl, Nat.le_of_ble_eq_true rfl⟩ dX1_wholeMonths_16 ?_
  refine z_lstore (lv' := [(8, .long (f_X1_monthOfDay (if p2 < p1 then p2 else p1))), (6, .long (if p2 < p1 then p1 else p2)), (4, .long (if p2 < p1 then p2 else p1)), (0, .long p1), (2, .long p2)]) C dX1_wholeMonths_19 (by decide) rfl ?_
  refine z_lload C dX1_wholeMonths_21 1 rfl ?_
  refine z_sl (rest := []) C (c_X1_monthOfDay l hfl D cI cJ _ (if p2 < p1 then p1 else p2) ) q_X1_monthOfDay gX1_wholeMonths_X1_monthOfDay ⟨rfl, rfl⟩ rfl rfl (Nat.le_of_ble_eq_true rfl) ⟨Nat.le_of_ble_eq_true rfl, Nat.le_of_ble_eq_true rfl⟩ ⟨Nat.le_of_ble_eq_true rfl, Nat.le_of_ble_eq_true rfl⟩ dX1_wholeMonths_23 ?_
  refine z_lstore (lv' := [(10, .long (f_X1_monthOfDay (if p2 < p1 then p1 else p2))), (8, .long (f_X1_monthOfDay (if p2 < p1 then p2 else p1))), (6, .long (if p2 < p1 then p1 else p2)), (4, .long (if p2 < p1 then p2 else p1)), (0, .long p1), (2, .long p2)]) C dX1_wholeMonths_26 (by decide) rfl ?_
  refine z_lload C dX1_wholeMonths_28 0 rfl ?_
  refine z_lload C dX1_wholeMonths_30 1 rfl ?_
  refine z_lsub C dX1_wholeMonths_32 ?_
  refine z_lstore (lv' := [(12, .long ((f_X1_monthOfDay (if p2 < p1 then p1 else p2)) - (f_X1_monthOfDay (if p2 < p1 then p2 else p1)))), (10, .long (f_X1_monthOfDay (if p2 < p1 then p1 else p2))), (8, .long (f_X1_monthOfDay (if p2 < p1 then p2 else p1))), (6, .long (if p2 < p1 then p1 else p2)), (4, .long (if p2 < p1 then p2 else p1)), (0, .long p1), (2, .long p2)]) C dX1_wholeMonths_33 (by decide) rfl ?_
  refine z_lload C dX1_wholeMonths_35 3 rfl ?_
  refine z_lload C dX1_wholeMonths_37 1 rfl ?_
  refine z_sl (rest := [.long (if p2 < p1 then p1 else p2)]) C (c_X1_firstOfMonth l hfl D cI cJ _ (f_X1_monthOfDay (if p2 < p1 then p1 else p2)) ) q_X1_firstOfMonth gX1_wholeMonths_X1_firstOfMonth ⟨rfl, rfl⟩ rfl rfl (Nat.le_of_ble_eq_true rfl) ⟨Nat.le_of_ble_eq_true rfl, Nat.le_of_ble_eq_true rfl⟩ ⟨Nat.le_of_ble_eq_true rfl, Nat.le_of_ble_eq_true rfl⟩ dX1_wholeMonths_39 ?_
  refine z_lsub C dX1_wholeMonths_42 ?_
  refine z_lload C dX1_wholeMonths_43 4 rfl ?_
  refine z_lload C dX1_wholeMonths_45 2 rfl ?_
  refine z_sl (rest := [.long (if p2 < p1 then p2 else p1), .long ((if p2 < p1 then p1 else p2) - (f_X1_firstOfMonth (f_X1_monthOfDay (if p2 < p1 then p1 else p2))))]) C (c_X1_firstOfMonth l hfl D cI cJ _ (f_X1_monthOfDay (if p2 < p1 then p2 else p1)) ) q_X1_firstOfMonth gX1_wholeMonths_X1_firstOfMonth ⟨rfl, rfl⟩ rfl rfl (Nat.le_of_ble_eq_true rfl) ⟨Nat.le_of_ble_eq_true rfl, Nat.le_of_ble_eq_true rfl⟩ ⟨Nat.le_of_ble_eq_true rfl, Nat.le_of_ble_eq_true rfl⟩ dX1_wholeMonths_47 ?_
  refine z_lsub C dX1_wholeMonths_50 ?_
  have K1 : ∀ (v1_0 : Int64), v1_0 = (f_X1_wholeMonths_j1 p1 p2) → ZW p l e { frames := 4, cells := 0, slots := 0, locals := 97 } s m args below meth c 14 D (zTys cI cJ) A (zE D (zTys cI cJ) A below args s (fun v w => v = some (.long (f_X1_wholeMonths p1 p2)) ∧ w = X) (fun _ _ => False) 0 0) 0 0 X 61 [(12, .long v1_0), (10, .long (f_X1_monthOfDay (if p2 < p1 then p1 else p2))), (8, .long (f_X1_monthOfDay (if p2 < p1 then p2 else p1))), (6, .long (if p2 < p1 then p1 else p2)), (4, .long (if p2 < p1 then p2 else p1)), (0, .long p1), (2, .long p2)] [] := by
    rintro _ rfl
    refine z_lload_n C dX1_wholeMonths_61 rfl 6 rfl ?_
    refine z_lload_n C dX1_wholeMonths_62 rfl 5 rfl ?_
    refine z_lcmp_ge (tgt := 73) C dX1_wholeMonths_63 dX1_wholeMonths_64 (by decide) (fun h2 => ?_) (fun h2 => ?_)
    · refine z_lload C dX1_wholeMonths_73 0 rfl ?_
      exact z_lret C ⟨congrArg (fun v => some (Value.long v)) (by rw [f_X1_wholeMonths, if_pos h2] : (f_X1_wholeMonths_j1 p1 p2) = (f_X1_wholeMonths p1 p2)), rfl⟩ (by decide) (by decide) dX1_wholeMonths_75
    · refine z_lload C dX1_wholeMonths_67 0 rfl ?_
      refine z_lneg C dX1_wholeMonths_69 ?_
      refine z_goto (tgt := 75) C dX1_wholeMonths_70 (by decide) ?_
      exact z_lret C ⟨congrArg (fun v => some (Value.long v)) (by rw [f_X1_wholeMonths, if_neg h2] : (-(f_X1_wholeMonths_j1 p1 p2)) = (f_X1_wholeMonths p1 p2)), rfl⟩ (by decide) (by decide) dX1_wholeMonths_75
  refine z_lcmp_ge (tgt := 61) C dX1_wholeMonths_51 dX1_wholeMonths_52 (by decide) (fun h1 => ?_) (fun h1 => ?_)
  · exact K1 _ (by rw [f_X1_wholeMonths_j1, if_pos h1])
  · refine z_lload C dX1_wholeMonths_55 0 rfl ?_
    refine z_lconst (v := 1) C dX1_wholeMonths_57 (by decide) ?_
    refine z_lsub C dX1_wholeMonths_58 ?_
    refine z_lstore (lv' := [(12, .long (((f_X1_monthOfDay (if p2 < p1 then p1 else p2)) - (f_X1_monthOfDay (if p2 < p1 then p2 else p1))) - 1)), (10, .long (f_X1_monthOfDay (if p2 < p1 then p1 else p2))), (8, .long (f_X1_monthOfDay (if p2 < p1 then p2 else p1))), (6, .long (if p2 < p1 then p1 else p2)), (4, .long (if p2 < p1 then p2 else p1)), (0, .long p1), (2, .long p2)]) C dX1_wholeMonths_59 (by decide) rfl ?_
    exact K1 _ (by rw [f_X1_wholeMonths_j1, if_neg h1])
