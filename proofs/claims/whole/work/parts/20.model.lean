def f_X3_floor (p1 : Int64) (p2 : Int64) : Int64 := (if p1 < 0 then (-(((p2 - 1) - p1) / p2)) else (p1 / p2))
theorem q_X3_floor : ZY yX3_floor wsX3_floor cX3_floor 4 (some .long) 2 := ⟨⟨_, rfl⟩, by decide +kernel, by decide +kernel, by decide +kernel⟩
set_option maxHeartbeats 4000000 in
set_option maxRecDepth 100000 in
theorem c_X3_floor (l : Launch) (hfl : l.stackTraces = false) (D : va_G) (cI cJ : ClassId) (X : va_W) (p1 : Int64) (p2 : Int64) (h_0 : ¬ p2 = 0) : ZM l yX3_floor wsX3_floor { frames := 0, cells := 0, slots := 0, locals := 0 } [.long p1, .long p2] D (zTys cI cJ) X 0 0 (fun v w => v = some (.long (f_X3_floor p1 p2)) ∧ w = X) (fun _ _ => False) := by
  refine z_open (own := RX3) hfl (cc := cX3_floor) (maxL := 4) (ret := (some .long)) (lv := [(0, .long p1), (2, .long p2)]) rfl (by decide) rfl rfl (Nat.le_of_ble_eq_true rfl) ?_
  intro p e s m args below meth c A C hno hnm hargs
  refine z_lload_n C dX3_floor_0 rfl 0 rfl ?_
  refine z_lconst (v := 0) C dX3_floor_1 (by decide) ?_
  refine z_lcmp_lt (tgt := 12) C dX3_floor_2 dX3_floor_3 (by decide) (fun h1 => ?_) (fun h1 => ?_)
  · refine z_lload_n C dX3_floor_12 rfl 1 rfl ?_
    refine z_lconst (v := 1) C dX3_floor_13 (by decide) ?_
    refine z_lsub C dX3_floor_14 ?_
    refine z_lload_n C dX3_floor_15 rfl 0 rfl ?_
    refine z_lsub C dX3_floor_16 ?_
    refine z_lload_n C dX3_floor_17 rfl 1 rfl ?_
    refine z_ldiv C dX3_floor_18 h_0 ?_
    refine z_lneg C dX3_floor_19 ?_
    exact z_lret C ⟨congrArg (fun v => some (Value.long v)) (by rw [f_X3_floor, if_pos h1] : (-(((p2 - 1) - p1) / p2)) = (f_X3_floor p1 p2)), rfl⟩ (by decide) (by decide) dX3_floor_20
  · refine z_lload_n C dX3_floor_6 rfl 0 rfl ?_
    refine z_lload_n C dX3_floor_7 rfl 1 rfl ?_
    refine z_ldiv C dX3_floor_8 h_0 ?_
    refine z_goto (tgt := 20) C dX3_floor_9 (by decide) ?_
    exact z_lret C ⟨congrArg (fun v => some (Value.long v)) (by rw [f_X3_floor, if_neg h1] : (p1 / p2) = (f_X3_floor p1 p2)), rfl⟩ (by decide) (by decide) dX3_floor_20
def f_X3_rest (p1 : Int64) (p2 : Int64) : Int64 := (p1 - (p2 * (f_X3_floor p1 p2)))
theorem q_X3_rest : ZY yX3_rest wsX3_rest cX3_rest 4 (some .long) 2 := ⟨⟨_, rfl⟩, by decide +kernel, by decide +kernel, by decide +kernel⟩
set_option maxHeartbeats 4000000 in
set_option maxRecDepth 100000 in
theorem c_X3_rest (l : Launch) (hfl : l.stackTraces = false) (D : va_G) (cI cJ : ClassId) (X : va_W) (p1 : Int64) (p2 : Int64) (h_0 : ¬ p2 = 0) : ZM l yX3_rest wsX3_rest { frames := 1, cells := 0, slots := 0, locals := 23 } [.long p1, .long p2] D (zTys cI cJ) X 0 0 (fun v w => v = some (.long (f_X3_rest p1 p2)) ∧ w = X) (fun _ _ => False) := by
  refine z_open (own := RX3) hfl (cc := cX3_rest) (maxL := 4) (ret := (some .long)) (lv := [(0, .long p1), (2, .long p2)]) rfl (by decide) rfl rfl (Nat.le_of_ble_eq_true rfl) ?_
  intro p e s m args below meth c A C hno hnm hargs
  refine z_lload_n C dX3_rest_0 rfl 0 rfl ?_
  refine z_lload_n C dX3_rest_1 rfl 1 rfl ?_
  refine z_lload_n C dX3_rest_2 rfl 0 rfl ?_
  refine z_lload_n C dX3_rest_3 rfl 1 rfl ?_
  refine z_sl (rest := [.long p2, .long p1]) C (c_X3_floor l hfl D cI cJ _ p1 p2 h_0) q_X3_floor gX3_rest_X3_floor ⟨rfl, rfl⟩ rfl rfl (Nat.le_of_ble_eq_true rfl) ⟨Nat.le_of_ble_eq_true rfl, Nat.le_of_ble_eq_true rfl⟩ ⟨Nat.le_of_ble_eq_true rfl, Nat.le_of_ble_eq_true rfl⟩ dX3_rest_4 ?_
  refine z_lmul C dX3_rest_7 ?_
  refine z_lsub C dX3_rest_8 ?_
  exact z_lret C ⟨congrArg (fun v => some (Value.long v)) (rfl : (p1 - (p2 * (f_X3_floor p1 p2))) = (f_X3_rest p1 p2)), rfl⟩ (by decide) (by decide) dX3_rest_9
def f_X3_in (p1 : Int64) (p2 : Int64) (p3 : Int64) : Int32 := (if p1 < p2 then 0 else (if p3 < p1 then 0 else 1))
theorem q_X3_in : ZY yX3_in wsX3_in cX3_in 6 (some .boolean) 3 := ⟨⟨_, rfl⟩, by decide +kernel, by decide +kernel, by decide +kernel⟩
set_option maxHeartbeats 4000000 in
set_option maxRecDepth 100000 in
theorem c_X3_in (l : Launch) (hfl : l.stackTraces = false) (D : va_G) (cI cJ : ClassId) (X : va_W) (p1 : Int64) (p2 : Int64) (p3 : Int64)  : ZM l yX3_in wsX3_in { frames := 0, cells := 0, slots := 0, locals := 0 } [.long p1, .long p2, .long p3] D (zTys cI cJ) X 0 0 (fun v w => v = some (.int (f_X3_in p1 p2 p3)) ∧ w = X) (fun _ _ => False) := by
  refine z_open (own := RX3) hfl (cc := cX3_in) (maxL := 6) (ret := (some .boolean)) (lv := [(0, .long p1), (2, .long p2), (4, .long p3)]) rfl (by decide) rfl rfl (Nat.le_of_ble_eq_true rfl) ?_
  intro p e s m args below meth c A C hno hnm hargs
  refine z_lload_n C dX3_in_0 rfl 0 rfl ?_
  refine z_lload_n C dX3_in_1 rfl 1 rfl ?_
  refine z_lcmp_lt (tgt := 17) C dX3_in_2 dX3_in_3 (by decide) (fun h1 => ?_) (fun h1 => ?_)
  · refine z_iconst (v := 0) C dX3_in_17 (by decide) ?_
    exact z_zret C (by decide) ⟨congrArg (fun v => some (Value.int v)) (by rw [f_X3_in, if_pos h1] : (0 : Int32) = (f_X3_in p1 p2 p3)), rfl⟩ (by decide) (by decide) dX3_in_18
  · refine z_lload_n C dX3_in_6 rfl 0 rfl ?_
    refine z_lload C dX3_in_7 2 rfl ?_
    refine z_lcmp_gt (tgt := 17) C dX3_in_9 dX3_in_10 (by decide) (fun h2 => ?_) (fun h2 => ?_)
    · refine z_iconst (v := 0) C dX3_in_17 (by decide) ?_
      exact z_zret C (by decide) ⟨congrArg (fun v => some (Value.int v)) (by rw [f_X3_in, if_neg h1, if_pos h2] : (0 : Int32) = (f_X3_in p1 p2 p3)), rfl⟩ (by decide) (by decide) dX3_in_18
    · refine z_iconst (v := 1) C dX3_in_13 (by decide) ?_
      refine z_goto (tgt := 18) C dX3_in_14 (by decide) ?_
      exact z_zret C (by decide) ⟨congrArg (fun v => some (Value.int v)) (by rw [f_X3_in, if_neg h1, if_neg h2] : (1 : Int32) = (f_X3_in p1 p2 p3)), rfl⟩ (by decide) (by decide) dX3_in_18
theorem b_X3_in (p1 : Int64) (p2 : Int64) (p3 : Int64) : f_X3_in p1 p2 p3 = 0 ∨ f_X3_in p1 p2 p3 = 1 := by
  unfold f_X3_in
  repeat (first | apply z01_ite | exact Or.inl rfl | exact Or.inr rfl | apply zbor)
def f_X3_isLong (p1 : Int64) : Int32 := (if (f_X3_rest p1 4) = 0 then (if (f_X3_rest p1 100) = 0 then (if (f_X3_rest p1 400) = 0 then 1 else 0) else 1) else (if (f_X3_rest p1 400) = 0 then 1 else 0))
theorem q_X3_isLong : ZY yX3_isLong wsX3_isLong cX3_isLong 2 (some .boolean) 1 := ⟨⟨_, rfl⟩, by decide +kernel, by decide +kernel, by decide +kernel⟩
set_option maxHeartbeats 4000000 in
set_option maxRecDepth 100000 in
theorem c_X3_isLong (l : Launch) (hfl : l.stackTraces = false) (D : va_G) (cI cJ : ClassId) (X : va_W) (p1 : Int64)  : ZM l yX3_isLong wsX3_isLong { frames := 2, cells := 0, slots := 0, locals := 46 } [.long p1] D (zTys cI cJ) X 0 0 (fun v w => v = some (.int (f_X3_isLong p1)) ∧ w = X) (fun _ _ => False) := by
  refine z_open (own := RX3) hfl (cc := cX3_isLong) (maxL := 2) (ret := (some .boolean)) (lv := [(0, .long p1)]) rfl (by decide) rfl rfl (Nat.le_of_ble_eq_true rfl) ?_
  intro p e s m args below meth c A C hno hnm hargs
  have w1 := C.1.2.2.2.2 (.constantLong RX3 50 (4)) (by decide +kernel)
  have w2 := C.1.2.2.2.2 (.constantLong RX3 57 (400)) (by decide +kernel)
  have w3 := C.1.2.2.2.2 (.constantLong RX3 55 (100)) (by decide +kernel)
  refine z_lload_n C dX3_isLong_0 rfl 0 rfl ?_
  refine z_ldc2 (v := 4) C w1 dX3_isLong_1 ?_
  refine z_sl (rest := []) C (c_X3_rest l hfl D cI cJ _ p1 (4 : Int64) (by decide)) q_X3_rest gX3_isLong_X3_rest ⟨rfl, rfl⟩ rfl rfl (Nat.le_of_ble_eq_true rfl) ⟨Nat.le_of_ble_eq_true rfl, Nat.le_of_ble_eq_true rfl⟩ ⟨Nat.le_of_ble_eq_true rfl, Nat.le_of_ble_eq_true rfl⟩ dX3_isLong_4 ?_
  refine z_lconst (v := 0) C dX3_isLong_7 (by decide) ?_
  refine z_lcmp_ne (tgt := 24) C dX3_isLong_8 dX3_isLong_9 (by decide) (fun h1 => ?_) (fun h1 => ?_)
  · refine z_lload_n C dX3_isLong_24 rfl 0 rfl ?_
    refine z_ldc2 (v := 400) C w2 dX3_isLong_25 ?_
    refine z_sl (rest := []) C (c_X3_rest l hfl D cI cJ _ p1 (400 : Int64) (by decide)) q_X3_rest gX3_isLong_X3_rest ⟨rfl, rfl⟩ rfl rfl (Nat.le_of_ble_eq_true rfl) ⟨Nat.le_of_ble_eq_true rfl, Nat.le_of_ble_eq_true rfl⟩ ⟨Nat.le_of_ble_eq_true rfl, Nat.le_of_ble_eq_true rfl⟩ dX3_isLong_28 ?_
    refine z_lconst (v := 0) C dX3_isLong_31 (by decide) ?_
    refine z_lcmp_ne (tgt := 40) C dX3_isLong_32 dX3_isLong_33 (by decide) (fun h2 => ?_) (fun h2 => ?_)
    · refine z_iconst (v := 0) C dX3_isLong_40 (by decide) ?_
      exact z_zret C (by decide) ⟨congrArg (fun v => some (Value.int v)) (by rw [f_X3_isLong, if_neg h1, if_neg h2] : (0 : Int32) = (f_X3_isLong p1)), rfl⟩ (by decide) (by decide) dX3_isLong_41
    · refine z_iconst (v := 1) C dX3_isLong_36 (by decide) ?_
      refine z_goto (tgt := 41) C dX3_isLong_37 (by decide) ?_
      exact z_zret C (by decide) ⟨congrArg (fun v => some (Value.int v)) (by rw [f_X3_isLong, if_neg h1, if_pos h2] : (1 : Int32) = (f_X3_isLong p1)), rfl⟩ (by decide) (by decide) dX3_isLong_41
  · refine z_lload_n C dX3_isLong_12 rfl 0 rfl ?_
    refine z_ldc2 (v := 100) C w3 dX3_isLong_13 ?_
    refine z_sl (rest := []) C (c_X3_rest l hfl D cI cJ _ p1 (100 : Int64) (by decide)) q_X3_rest gX3_isLong_X3_rest ⟨rfl, rfl⟩ rfl rfl (Nat.le_of_ble_eq_true rfl) ⟨Nat.le_of_ble_eq_true rfl, Nat.le_of_ble_eq_true rfl⟩ ⟨Nat.le_of_ble_eq_true rfl, Nat.le_of_ble_eq_true rfl⟩ dX3_isLong_16 ?_
    refine z_lconst (v := 0) C dX3_isLong_19 (by decide) ?_
    refine z_lcmp_ne (tgt := 36) C dX3_isLong_20 dX3_isLong_21 (by decide) (fun h3 => ?_) (fun h3 => ?_)
    · refine z_iconst (v := 1) C dX3_isLong_36 (by decide) ?_
      refine z_goto (tgt := 41) C dX3_isLong_37 (by decide) ?_
      exact z_zret C (by decide) ⟨congrArg (fun v => some (Value.int v)) (by rw [f_X3_isLong, if_pos h1, if_neg h3] : (1 : Int32) = (f_X3_isLong p1)), rfl⟩ (by decide) (by decide) dX3_isLong_41
    · refine z_lload_n C dX3_isLong_24 rfl 0 rfl ?_
      refine z_ldc2 (v := 400) C w2 dX3_isLong_25 ?_
      refine z_sl (rest := []) C (c_X3_rest l hfl D cI cJ _ p1 (400 : Int64) (by decide)) q_X3_rest gX3_isLong_X3_rest ⟨rfl, rfl⟩ rfl rfl (Nat.le_of_ble_eq_true rfl) ⟨Nat.le_of_ble_eq_true rfl, Nat.le_of_ble_eq_true rfl⟩ ⟨Nat.le_of_ble_eq_true rfl, Nat.le_of_ble_eq_true rfl⟩ dX3_isLong_28 ?_
      refine z_lconst (v := 0) C dX3_isLong_31 (by decide) ?_
      refine z_lcmp_ne (tgt := 40) C dX3_isLong_32 dX3_isLong_33 (by decide) (fun h4 => ?_) (fun h4 => ?_)
      · refine z_iconst (v := 0) C dX3_isLong_40 (by decide) ?_
        exact z_zret C (by decide) ⟨congrArg (fun v => some (Value.int v)) (by rw [f_X3_isLong, if_pos h1, if_pos h3, if_neg h4] : (0 : Int32) = (f_X3_isLong p1)), rfl⟩ (by decide) (by decide) dX3_isLong_41
      · refine z_iconst (v := 1) C dX3_isLong_36 (by decide) ?_
        refine z_goto (tgt := 41) C dX3_isLong_37 (by decide) ?_
        exact z_zret C (by decide) ⟨congrArg (fun v => some (Value.int v)) (by rw [f_X3_isLong, if_pos h1, if_pos h3, if_pos h4] : (1 : Int32) = (f_X3_isLong p1)), rfl⟩ (by decide) (by decide) dX3_isLong_41
theorem b_X3_isLong (p1 : Int64) : f_X3_isLong p1 = 0 ∨ f_X3_isLong p1 = 1 := by
  unfold f_X3_isLong
  repeat (first | apply z01_ite | exact Or.inl rfl | exact Or.inr rfl | apply zbor)
def f_X3_ahead (p1 : Int64) : Int64 := ((((365 * p1) + (f_X3_floor (p1 + 3) 4)) - (f_X3_floor (p1 + 99) 100)) + (f_X3_floor (p1 + 399) 400))
theorem q_X3_ahead : ZY yX3_ahead wsX3_ahead cX3_ahead 2 (some .long) 1 := ⟨⟨_, rfl⟩, by decide +kernel, by decide +kernel, by decide +kernel⟩
set_option maxHeartbeats 4000000 in
set_option maxRecDepth 100000 in
theorem c_X3_ahead (l : Launch) (hfl : l.stackTraces = false) (D : va_G) (cI cJ : ClassId) (X : va_W) (p1 : Int64)  : ZM l yX3_ahead wsX3_ahead { frames := 1, cells := 0, slots := 0, locals := 23 } [.long p1] D (zTys cI cJ) X 0 0 (fun v w => v = some (.long (f_X3_ahead p1)) ∧ w = X) (fun _ _ => False) := by
  refine z_open (own := RX3) hfl (cc := cX3_ahead) (maxL := 2) (ret := (some .long)) (lv := [(0, .long p1)]) rfl (by decide) rfl rfl (Nat.le_of_ble_eq_true rfl) ?_
  intro p e s m args below meth c A C hno hnm hargs
  have w1 := C.1.2.2.2.2 (.constantLong RX3 59 (365)) (by decide +kernel)
  have w2 := C.1.2.2.2.2 (.constantLong RX3 61 (3)) (by decide +kernel)
  have w3 := C.1.2.2.2.2 (.constantLong RX3 50 (4)) (by decide +kernel)
  have w4 := C.1.2.2.2.2 (.constantLong RX3 63 (99)) (by decide +kernel)
  have w5 := C.1.2.2.2.2 (.constantLong RX3 55 (100)) (by decide +kernel)
  have w6 := C.1.2.2.2.2 (.constantLong RX3 65 (399)) (by decide +kernel)
  have w7 := C.1.2.2.2.2 (.constantLong RX3 57 (400)) (by decide +kernel)
  refine z_ldc2 (v := 365) C w1 dX3_ahead_0 ?_
  refine z_lload_n C dX3_ahead_3 rfl 0 rfl ?_
  refine z_lmul C dX3_ahead_4 ?_
  refine z_lload_n C dX3_ahead_5 rfl 0 rfl ?_
  refine z_ldc2 (v := 3) C w2 dX3_ahead_6 ?_
  refine z_ladd C dX3_ahead_9 ?_
  refine z_ldc2 (v := 4) C w3 dX3_ahead_10 ?_
  refine z_sl (rest := [.long (365 * p1)]) C (c_X3_floor l hfl D cI cJ _ (p1 + 3) (4 : Int64) (by decide)) q_X3_floor gX3_ahead_X3_floor ⟨rfl, rfl⟩ rfl rfl (Nat.le_of_ble_eq_true rfl) ⟨Nat.le_of_ble_eq_true rfl, Nat.le_of_ble_eq_true rfl⟩ ⟨Nat.le_of_ble_eq_true rfl, Nat.le_of_ble_eq_true rfl⟩ dX3_ahead_13 ?_
  refine z_ladd C dX3_ahead_16 ?_
  refine z_lload_n C dX3_ahead_17 rfl 0 rfl ?_
  refine z_ldc2 (v := 99) C w4 dX3_ahead_18 ?_
  refine z_ladd C dX3_ahead_21 ?_
  refine z_ldc2 (v := 100) C w5 dX3_ahead_22 ?_
  refine z_sl (rest := [.long ((365 * p1) + (f_X3_floor (p1 + 3) 4))]) C (c_X3_floor l hfl D cI cJ _ (p1 + 99) (100 : Int64) (by decide)) q_X3_floor gX3_ahead_X3_floor ⟨rfl, rfl⟩ rfl rfl (Nat.le_of_ble_eq_true rfl) ⟨Nat.le_of_ble_eq_true rfl, Nat.le_of_ble_eq_true rfl⟩ ⟨Nat.le_of_ble_eq_true rfl, Nat.le_of_ble_eq_true rfl⟩ dX3_ahead_25 ?_
  refine z_lsub C dX3_ahead_28 ?_
  refine z_lload_n C dX3_ahead_29 rfl 0 rfl ?_
  refine z_ldc2 (v := 399) C w6 dX3_ahead_30 ?_
  refine z_ladd C dX3_ahead_33 ?_
  refine z_ldc2 (v := 400) C w7 dX3_ahead_34 ?_
  refine z_sl (rest := [.long (((365 * p1) + (f_X3_floor (p1 + 3) 4)) - (f_X3_floor (p1 + 99) 100))]) C (c_X3_floor l hfl D cI cJ _ (p1 + 399) (400 : Int64) (by decide)) q_X3_floor gX3_ahead_X3_floor ⟨rfl, rfl⟩ rfl rfl (Nat.le_of_ble_eq_true rfl) ⟨Nat.le_of_ble_eq_true rfl, Nat.le_of_ble_eq_true rfl⟩ ⟨Nat.le_of_ble_eq_true rfl, Nat.le_of_ble_eq_true rfl⟩ dX3_ahead_37 ?_
  refine z_ladd C dX3_ahead_40 ?_
  exact z_lret C ⟨congrArg (fun v => some (Value.long v)) (rfl : ((((365 * p1) + (f_X3_floor (p1 + 3) 4)) - (f_X3_floor (p1 + 99) 100)) + (f_X3_floor (p1 + 399) 400)) = (f_X3_ahead p1)), rfl⟩ (by decide) (by decide) dX3_ahead_41
def f_X3_first (p1 : Int64) : Int64 := ((f_X3_ahead p1) - (f_X3_ahead 1970))
theorem q_X3_first : ZY yX3_first wsX3_first cX3_first 2 (some .long) 1 := ⟨⟨_, rfl⟩, by decide +kernel, by decide +kernel, by decide +kernel⟩
set_option maxHeartbeats 4000000 in
set_option maxRecDepth 100000 in
theorem c_X3_first (l : Launch) (hfl : l.stackTraces = false) (D : va_G) (cI cJ : ClassId) (X : va_W) (p1 : Int64)  : ZM l yX3_first wsX3_first { frames := 2, cells := 0, slots := 0, locals := 44 } [.long p1] D (zTys cI cJ) X 0 0 (fun v w => v = some (.long (f_X3_first p1)) ∧ w = X) (fun _ _ => False) := by
  refine z_open (own := RX3) hfl (cc := cX3_first) (maxL := 2) (ret := (some .long)) (lv := [(0, .long p1)]) rfl (by decide) rfl rfl (Nat.le_of_ble_eq_true rfl) ?_
  intro p e s m args below meth c A C hno hnm hargs
  have w1 := C.1.2.2.2.2 (.constantLong RX3 71 (1970)) (by decide +kernel)
  refine z_lload_n C dX3_first_0 rfl 0 rfl ?_
  refine z_sl (rest := []) C (c_X3_ahead l hfl D cI cJ _ p1 ) q_X3_ahead gX3_first_X3_ahead ⟨rfl, rfl⟩ rfl rfl (Nat.le_of_ble_eq_true rfl) ⟨Nat.le_of_ble_eq_true rfl, Nat.le_of_ble_eq_true rfl⟩ ⟨Nat.le_of_ble_eq_true rfl, Nat.le_of_ble_eq_true rfl⟩ dX3_first_1 ?_
  refine z_ldc2 (v := 1970) C w1 dX3_first_4 ?_
  refine z_sl (rest := [.long (f_X3_ahead p1)]) C (c_X3_ahead l hfl D cI cJ _ (1970 : Int64) ) q_X3_ahead gX3_first_X3_ahead ⟨rfl, rfl⟩ rfl rfl (Nat.le_of_ble_eq_true rfl) ⟨Nat.le_of_ble_eq_true rfl, Nat.le_of_ble_eq_true rfl⟩ ⟨Nat.le_of_ble_eq_true rfl, Nat.le_of_ble_eq_true rfl⟩ dX3_first_7 ?_
  refine z_lsub C dX3_first_10 ?_
  exact z_lret C ⟨congrArg (fun v => some (Value.long v)) (rfl : ((f_X3_ahead p1) - (f_X3_ahead 1970)) = (f_X3_first p1)), rfl⟩ (by decide) (by decide) dX3_first_11
def f_X3_many (p1 : Int64) (p2 : Int32) : Int32 := (if p2 = 2 then (if (f_X3_isLong p1) = 0 then 28 else 29) else (if p2 = 4 then 30 else (if p2 = 6 then 30 else (if p2 = 9 then 30 else (if p2 = 11 then 30 else 31)))))
theorem q_X3_many : ZY yX3_many wsX3_many cX3_many 3 (some .int) 2 := ⟨⟨_, rfl⟩, by decide +kernel, by decide +kernel, by decide +kernel⟩
set_option maxHeartbeats 4000000 in
set_option maxRecDepth 100000 in
theorem c_X3_many (l : Launch) (hfl : l.stackTraces = false) (D : va_G) (cI cJ : ClassId) (X : va_W) (p1 : Int64) (p2 : Int32)  : ZM l yX3_many wsX3_many { frames := 3, cells := 0, slots := 0, locals := 67 } [.long p1, .int p2] D (zTys cI cJ) X 0 0 (fun v w => v = some (.int (f_X3_many p1 p2)) ∧ w = X) (fun _ _ => False) := by
  refine z_open (own := RX3) hfl (cc := cX3_many) (maxL := 3) (ret := (some .int)) (lv := [(0, .long p1), (2, .int p2)]) rfl (by decide) rfl rfl (Nat.le_of_ble_eq_true rfl) ?_
  intro p e s m args below meth c A C hno hnm hargs
  refine z_iload_n C dX3_many_0 rfl 1 rfl ?_
  refine z_iconst (v := 2) C dX3_many_1 (by decide) ?_
  refine z_icmp_ne (tgt := 22) C dX3_many_2 (by decide) (fun h1 => ?_) (fun h1 => ?_)
  · refine z_iload_n C dX3_many_22 rfl 1 rfl ?_
    refine z_iconst (v := 4) C dX3_many_23 (by decide) ?_
    refine z_icmp_eq (tgt := 45) C dX3_many_24 (by decide) (fun h2 => ?_) (fun h2 => ?_)
    · refine z_bipush (v := 30) C dX3_many_45 (by decide) ?_
      refine z_goto (tgt := 52) C dX3_many_47 (by decide) ?_
      exact z_iret C ⟨congrArg (fun v => some (Value.int v)) (by rw [f_X3_many, if_neg h1, if_pos h2] : (30 : Int32) = (f_X3_many p1 p2)), rfl⟩ (by decide) (by decide) dX3_many_52
    · refine z_iload_n C dX3_many_27 rfl 1 rfl ?_
      refine z_bipush (v := 6) C dX3_many_28 (by decide) ?_
      refine z_icmp_eq (tgt := 45) C dX3_many_30 (by decide) (fun h3 => ?_) (fun h3 => ?_)
      · refine z_bipush (v := 30) C dX3_many_45 (by decide) ?_
        refine z_goto (tgt := 52) C dX3_many_47 (by decide) ?_
        exact z_iret C ⟨congrArg (fun v => some (Value.int v)) (by rw [f_X3_many, if_neg h1, if_neg h2, if_pos h3] : (30 : Int32) = (f_X3_many p1 p2)), rfl⟩ (by decide) (by decide) dX3_many_52
      · refine z_iload_n C dX3_many_33 rfl 1 rfl ?_
        refine z_bipush (v := 9) C dX3_many_34 (by decide) ?_
        refine z_icmp_eq (tgt := 45) C dX3_many_36 (by decide) (fun h4 => ?_) (fun h4 => ?_)
        · refine z_bipush (v := 30) C dX3_many_45 (by decide) ?_
          refine z_goto (tgt := 52) C dX3_many_47 (by decide) ?_
          exact z_iret C ⟨congrArg (fun v => some (Value.int v)) (by rw [f_X3_many, if_neg h1, if_neg h2, if_neg h3, if_pos h4] : (30 : Int32) = (f_X3_many p1 p2)), rfl⟩ (by decide) (by decide) dX3_many_52
        · refine z_iload_n C dX3_many_39 rfl 1 rfl ?_
          refine z_bipush (v := 11) C dX3_many_40 (by decide) ?_
          refine z_icmp_ne (tgt := 50) C dX3_many_42 (by decide) (fun h5 => ?_) (fun h5 => ?_)
          · refine z_bipush (v := 31) C dX3_many_50 (by decide) ?_
            exact z_iret C ⟨congrArg (fun v => some (Value.int v)) (by rw [f_X3_many, if_neg h1, if_neg h2, if_neg h3, if_neg h4, if_neg h5] : (31 : Int32) = (f_X3_many p1 p2)), rfl⟩ (by decide) (by decide) dX3_many_52
          · refine z_bipush (v := 30) C dX3_many_45 (by decide) ?_
            refine z_goto (tgt := 52) C dX3_many_47 (by decide) ?_
            exact z_iret C ⟨congrArg (fun v => some (Value.int v)) (by rw [f_X3_many, if_neg h1, if_neg h2, if_neg h3, if_neg h4, if_pos h5] : (30 : Int32) = (f_X3_many p1 p2)), rfl⟩ (by decide) (by decide) dX3_many_52
  · refine z_lload_n C dX3_many_5 rfl 0 rfl ?_
    refine z_si (rest := []) C (c_X3_isLong l hfl D cI cJ _ p1 ) q_X3_isLong gX3_many_X3_isLong ⟨rfl, rfl⟩ rfl rfl (Nat.le_of_ble_eq_true rfl) ⟨Nat.le_of_ble_eq_true rfl, Nat.le_of_ble_eq_true rfl⟩ ⟨Nat.le_of_ble_eq_true rfl, Nat.le_of_ble_eq_true rfl⟩ dX3_many_6 ?_
    refine z_if_eq (tgt := 17) C dX3_many_9 (by decide) (fun h6 => ?_) (fun h6 => ?_)
    · refine z_bipush (v := 28) C dX3_many_17 (by decide) ?_
      refine z_goto (tgt := 52) C dX3_many_19 (by decide) ?_
      exact z_iret C ⟨congrArg (fun v => some (Value.int v)) (by rw [f_X3_many, if_pos h1, if_pos h6] : (28 : Int32) = (f_X3_many p1 p2)), rfl⟩ (by decide) (by decide) dX3_many_52
    · refine z_bipush (v := 29) C dX3_many_12 (by decide) ?_
      refine z_goto (tgt := 52) C dX3_many_14 (by decide) ?_
      exact z_iret C ⟨congrArg (fun v => some (Value.int v)) (by rw [f_X3_many, if_pos h1, if_neg h6] : (29 : Int32) = (f_X3_many p1 p2)), rfl⟩ (by decide) (by decide) dX3_many_52
def f_X3_number (p1 : Int64) (p2 : Int32) (p3 : Int32) : Int64 := (if p2 ≤ 1 then (((f_X3_first p1) + (p3).toInt64) - 1) else (if p2 ≤ 2 then ((((f_X3_first p1) + (p3).toInt64) - 1) + ((f_X3_many p1 1)).toInt64) else (if p2 ≤ 3 then (((((f_X3_first p1) + (p3).toInt64) - 1) + ((f_X3_many p1 1)).toInt64) + ((f_X3_many p1 2)).toInt64) else (if p2 ≤ 4 then ((((((f_X3_first p1) + (p3).toInt64) - 1) + ((f_X3_many p1 1)).toInt64) + ((f_X3_many p1 2)).toInt64) + ((f_X3_many p1 3)).toInt64) else (if p2 ≤ 5 then (((((((f_X3_first p1) + (p3).toInt64) - 1) + ((f_X3_many p1 1)).toInt64) + ((f_X3_many p1 2)).toInt64) + ((f_X3_many p1 3)).toInt64) + ((f_X3_many p1 4)).toInt64) else (if p2 ≤ 6 then ((((((((f_X3_first p1) + (p3).toInt64) - 1) + ((f_X3_many p1 1)).toInt64) + ((f_X3_many p1 2)).toInt64) + ((f_X3_many p1 3)).toInt64) + ((f_X3_many p1 4)).toInt64) + ((f_X3_many p1 5)).toInt64) else (if p2 ≤ 7 then (((((((((f_X3_first p1) + (p3).toInt64) - 1) + ((f_X3_many p1 1)).toInt64) + ((f_X3_many p1 2)).toInt64) + ((f_X3_many p1 3)).toInt64) + ((f_X3_many p1 4)).toInt64) + ((f_X3_many p1 5)).toInt64) + ((f_X3_many p1 6)).toInt64) else (if p2 ≤ 8 then ((((((((((f_X3_first p1) + (p3).toInt64) - 1) + ((f_X3_many p1 1)).toInt64) + ((f_X3_many p1 2)).toInt64) + ((f_X3_many p1 3)).toInt64) + ((f_X3_many p1 4)).toInt64) + ((f_X3_many p1 5)).toInt64) + ((f_X3_many p1 6)).toInt64) + ((f_X3_many p1 7)).toInt64) else (if p2 ≤ 9 then (((((((((((f_X3_first p1) + (p3).toInt64) - 1) + ((f_X3_many p1 1)).toInt64) + ((f_X3_many p1 2)).toInt64) + ((f_X3_many p1 3)).toInt64) + ((f_X3_many p1 4)).toInt64) + ((f_X3_many p1 5)).toInt64) + ((f_X3_many p1 6)).toInt64) + ((f_X3_many p1 7)).toInt64) + ((f_X3_many p1 8)).toInt64) else (if p2 ≤ 10 then ((((((((((((f_X3_first p1) + (p3).toInt64) - 1) + ((f_X3_many p1 1)).toInt64) + ((f_X3_many p1 2)).toInt64) + ((f_X3_many p1 3)).toInt64) + ((f_X3_many p1 4)).toInt64) + ((f_X3_many p1 5)).toInt64) + ((f_X3_many p1 6)).toInt64) + ((f_X3_many p1 7)).toInt64) + ((f_X3_many p1 8)).toInt64) + ((f_X3_many p1 9)).toInt64) else (if p2 ≤ 11 then (((((((((((((f_X3_first p1) + (p3).toInt64) - 1) + ((f_X3_many p1 1)).toInt64) + ((f_X3_many p1 2)).toInt64) + ((f_X3_many p1 3)).toInt64) + ((f_X3_many p1 4)).toInt64) + ((f_X3_many p1 5)).toInt64) + ((f_X3_many p1 6)).toInt64) + ((f_X3_many p1 7)).toInt64) + ((f_X3_many p1 8)).toInt64) + ((f_X3_many p1 9)).toInt64) + ((f_X3_many p1 10)).toInt64) else ((((((((((((((f_X3_first p1) + (p3).toInt64) - 1) + ((f_X3_many p1 1)).toInt64) + ((f_X3_many p1 2)).toInt64) + ((f_X3_many p1 3)).toInt64) + ((f_X3_many p1 4)).toInt64) + ((f_X3_many p1 5)).toInt64) + ((f_X3_many p1 6)).toInt64) + ((f_X3_many p1 7)).toInt64) + ((f_X3_many p1 8)).toInt64) + ((f_X3_many p1 9)).toInt64) + ((f_X3_many p1 10)).toInt64) + ((f_X3_many p1 11)).toInt64))))))))))))
theorem q_X3_number : ZY yX3_number wsX3_number cX3_number 7 (some .long) 3 := ⟨⟨_, rfl⟩, by decide +kernel, by decide +kernel, by decide +kernel⟩
set_option maxHeartbeats 4000000 in
set_option maxRecDepth 100000 in
theorem c_X3_number (l : Launch) (hfl : l.stackTraces = false) (D : va_G) (cI cJ : ClassId) (X : va_W) (p1 : Int64) (p2 : Int32) (p3 : Int32) (h_0 : p2 ≤ 12) : ZM l yX3_number wsX3_number { frames := 4, cells := 0, slots := 0, locals := 89 } [.long p1, .int p2, .int p3] D (zTys cI cJ) X 0 0 (fun v w => v = some (.long (f_X3_number p1 p2 p3)) ∧ w = X) (fun _ _ => False) := by
  refine z_open (own := RX3) hfl (cc := cX3_number) (maxL := 7) (ret := (some .long)) (lv := [(0, .long p1), (2, .int p2), (3, .int p3)]) rfl (by decide) rfl rfl (Nat.le_of_ble_eq_true rfl) ?_
  intro p e s m args below meth c A C hno hnm hargs
  refine z_lload_n C dX3_number_0 rfl 0 rfl ?_
  refine z_sl (rest := []) C (c_X3_first l hfl D cI cJ _ p1 ) q_X3_first gX3_number_X3_first ⟨rfl, rfl⟩ rfl rfl (Nat.le_of_ble_eq_true rfl) ⟨Nat.le_of_ble_eq_true rfl, Nat.le_of_ble_eq_true rfl⟩ ⟨Nat.le_of_ble_eq_true rfl, Nat.le_of_ble_eq_true rfl⟩ dX3_number_1 ?_
  refine z_iload_n C dX3_number_4 rfl 2 rfl ?_
  refine z_i2l (v := (p3).toInt64) C dX3_number_5 rfl ?_
  refine z_ladd C dX3_number_6 ?_
  refine z_lconst (v := 1) C dX3_number_7 (by decide) ?_
  refine z_lsub C dX3_number_8 ?_
  refine z_lstore (lv' := [(4, .long (((f_X3_first p1) + (p3).toInt64) - 1)), (0, .long p1), (2, .int p2), (3, .int p3)]) C dX3_number_9 (by decide) rfl ?_
  refine z_iconst (v := 1) C dX3_number_11 (by decide) ?_
  refine z_istore (lv' := [(6, .int 1), (4, .long (((f_X3_first p1) + (p3).toInt64) - 1)), (0, .long p1), (2, .int p2), (3, .int p3)]) C dX3_number_12 (by decide) rfl ?_
  refine z_iload C dX3_number_14 0 rfl ?_
  refine z_iload_n C dX3_number_16 rfl 3 rfl ?_
  refine z_icmp_ge (tgt := 38) C dX3_number_17 (by decide) (fun h1 => ?_) (fun h1 => ?_)
  · refine z_lload C dX3_number_38 1 rfl ?_
    exact z_lret C ⟨congrArg (fun v => some (Value.long v)) (by rw [f_X3_number, if_pos h1] : (((f_X3_first p1) + (p3).toInt64) - 1) = (f_X3_number p1 p2 p3)), rfl⟩ (by decide) (by decide) dX3_number_40
  · refine z_lload C dX3_number_20 1 rfl ?_
    refine z_lload_n C dX3_number_22 rfl 2 rfl ?_
    refine z_iload C dX3_number_23 0 rfl ?_
    refine z_si (rest := [.long (((f_X3_first p1) + (p3).toInt64) - 1)]) C (c_X3_many l hfl D cI cJ _ p1 (1 : Int32) ) q_X3_many gX3_number_X3_many ⟨rfl, rfl⟩ rfl rfl (Nat.le_of_ble_eq_true rfl) ⟨Nat.le_of_ble_eq_true rfl, Nat.le_of_ble_eq_true rfl⟩ ⟨Nat.le_of_ble_eq_true rfl, Nat.le_of_ble_eq_true rfl⟩ dX3_number_25 ?_
    refine z_i2l (v := ((f_X3_many p1 1)).toInt64) C dX3_number_28 rfl ?_
    refine z_ladd C dX3_number_29 ?_
    refine z_lstore (lv' := [(4, .long ((((f_X3_first p1) + (p3).toInt64) - 1) + ((f_X3_many p1 1)).toInt64)), (6, .int 1), (0, .long p1), (2, .int p2), (3, .int p3)]) C dX3_number_30 (by decide) rfl ?_
    refine z_iinc (q := 1) (v := 2) (lv' := [(6, .int 2), (4, .long ((((f_X3_first p1) + (p3).toInt64) - 1) + ((f_X3_many p1 1)).toInt64)), (0, .long p1), (2, .int p2), (3, .int p3)]) C dX3_number_32 rfl (by decide) (by decide) rfl ?_
    refine z_goto (tgt := 14) C dX3_number_35 (by decide) ?_
    refine z_iload C dX3_number_14 0 rfl ?_
    refine z_iload_n C dX3_number_16 rfl 3 rfl ?_
    refine z_icmp_ge (tgt := 38) C dX3_number_17 (by decide) (fun h2 => ?_) (fun h2 => ?_)
    · refine z_lload C dX3_number_38 1 rfl ?_
      exact z_lret C ⟨congrArg (fun v => some (Value.long v)) (by rw [f_X3_number, if_neg h1, if_pos h2] : ((((f_X3_first p1) + (p3).toInt64) - 1) + ((f_X3_many p1 1)).toInt64) = (f_X3_number p1 p2 p3)), rfl⟩ (by decide) (by decide) dX3_number_40
    · refine z_lload C dX3_number_20 1 rfl ?_
      refine z_lload_n C dX3_number_22 rfl 2 rfl ?_
      refine z_iload C dX3_number_23 0 rfl ?_
      refine z_si (rest := [.long ((((f_X3_first p1) + (p3).toInt64) - 1) + ((f_X3_many p1 1)).toInt64)]) C (c_X3_many l hfl D cI cJ _ p1 (2 : Int32) ) q_X3_many gX3_number_X3_many ⟨rfl, rfl⟩ rfl rfl (Nat.le_of_ble_eq_true rfl) ⟨Nat.le_of_ble_eq_true rfl, Nat.le_of_ble_eq_true rfl⟩ ⟨Nat.le_of_ble_eq_true rfl, Nat.le_of_ble_eq_true rfl⟩ dX3_number_25 ?_
      refine z_i2l (v := ((f_X3_many p1 2)).toInt64) C dX3_number_28 rfl ?_
      refine z_ladd C dX3_number_29 ?_
      refine z_lstore (lv' := [(4, .long (((((f_X3_first p1) + (p3).toInt64) - 1) + ((f_X3_many p1 1)).toInt64) + ((f_X3_many p1 2)).toInt64)), (6, .int 2), (0, .long p1), (2, .int p2), (3, .int p3)]) C dX3_number_30 (by decide) rfl ?_
      refine z_iinc (q := 1) (v := 3) (lv' := [(6, .int 3), (4, .long (((((f_X3_first p1) + (p3).toInt64) - 1) + ((f_X3_many p1 1)).toInt64) + ((f_X3_many p1 2)).toInt64)), (0, .long p1), (2, .int p2), (3, .int p3)]) C dX3_number_32 rfl (by decide) (by decide) rfl ?_
      refine z_goto (tgt := 14) C dX3_number_35 (by decide) ?_
      refine z_iload C dX3_number_14 0 rfl ?_
      refine z_iload_n C dX3_number_16 rfl 3 rfl ?_
      refine z_icmp_ge (tgt := 38) C dX3_number_17 (by decide) (fun h3 => ?_) (fun h3 => ?_)
      · refine z_lload C dX3_number_38 1 rfl ?_
        exact z_lret C ⟨congrArg (fun v => some (Value.long v)) (by rw [f_X3_number, if_neg h1, if_neg h2, if_pos h3] : (((((f_X3_first p1) + (p3).toInt64) - 1) + ((f_X3_many p1 1)).toInt64) + ((f_X3_many p1 2)).toInt64) = (f_X3_number p1 p2 p3)), rfl⟩ (by decide) (by decide) dX3_number_40
      · refine z_lload C dX3_number_20 1 rfl ?_
        refine z_lload_n C dX3_number_22 rfl 2 rfl ?_
        refine z_iload C dX3_number_23 0 rfl ?_
        refine z_si (rest := [.long (((((f_X3_first p1) + (p3).toInt64) - 1) + ((f_X3_many p1 1)).toInt64) + ((f_X3_many p1 2)).toInt64)]) C (c_X3_many l hfl D cI cJ _ p1 (3 : Int32) ) q_X3_many gX3_number_X3_many ⟨rfl, rfl⟩ rfl rfl (Nat.le_of_ble_eq_true rfl) ⟨Nat.le_of_ble_eq_true rfl, Nat.le_of_ble_eq_true rfl⟩ ⟨Nat.le_of_ble_eq_true rfl, Nat.le_of_ble_eq_true rfl⟩ dX3_number_25 ?_
        refine z_i2l (v := ((f_X3_many p1 3)).toInt64) C dX3_number_28 rfl ?_
        refine z_ladd C dX3_number_29 ?_
        refine z_lstore (lv' := [(4, .long ((((((f_X3_first p1) + (p3).toInt64) - 1) + ((f_X3_many p1 1)).toInt64) + ((f_X3_many p1 2)).toInt64) + ((f_X3_many p1 3)).toInt64)), (6, .int 3), (0, .long p1), (2, .int p2), (3, .int p3)]) C dX3_number_30 (by decide) rfl ?_
        refine z_iinc (q := 1) (v := 4) (lv' := [(6, .int 4), (4, .long ((((((f_X3_first p1) + (p3).toInt64) - 1) + ((f_X3_many p1 1)).toInt64) + ((f_X3_many p1 2)).toInt64) + ((f_X3_many p1 3)).toInt64)), (0, .long p1), (2, .int p2), (3, .int p3)]) C dX3_number_32 rfl (by decide) (by decide) rfl ?_
        refine z_goto (tgt := 14) C dX3_number_35 (by decide) ?_
        refine z_iload C dX3_number_14 0 rfl ?_
        refine z_iload_n C dX3_number_16 rfl 3 rfl ?_
        refine z_icmp_ge (tgt := 38) C dX3_number_17 (by decide) (fun h4 => ?_) (fun h4 => ?_)
        · refine z_lload C dX3_number_38 1 rfl ?_
          exact z_lret C ⟨congrArg (fun v => some (Value.long v)) (by rw [f_X3_number, if_neg h1, if_neg h2, if_neg h3, if_pos h4] : ((((((f_X3_first p1) + (p3).toInt64) - 1) + ((f_X3_many p1 1)).toInt64) + ((f_X3_many p1 2)).toInt64) + ((f_X3_many p1 3)).toInt64) = (f_X3_number p1 p2 p3)), rfl⟩ (by decide) (by decide) dX3_number_40
        · refine z_lload C dX3_number_20 1 rfl ?_
          refine z_lload_n C dX3_number_22 rfl 2 rfl ?_
          refine z_iload C dX3_number_23 0 rfl ?_
          refine z_si (rest := [.long ((((((f_X3_first p1) + (p3).toInt64) - 1) + ((f_X3_many p1 1)).toInt64) + ((f_X3_many p1 2)).toInt64) + ((f_X3_many p1 3)).toInt64)]) C (c_X3_many l hfl D cI cJ _ p1 (4 : Int32) ) q_X3_many gX3_number_X3_many ⟨rfl, rfl⟩ rfl rfl (Nat.le_of_ble_eq_true rfl) ⟨Nat.le_of_ble_eq_true rfl, Nat.le_of_ble_eq_true rfl⟩ ⟨Nat.le_of_ble_eq_true rfl, Nat.le_of_ble_eq_true rfl⟩ dX3_number_25 ?_
          refine z_i2l (v := ((f_X3_many p1 4)).toInt64) C dX3_number_28 rfl ?_
          refine z_ladd C dX3_number_29 ?_
          refine z_lstore (lv' := [(4, .long (((((((f_X3_first p1) + (p3).toInt64) - 1) + ((f_X3_many p1 1)).toInt64) + ((f_X3_many p1 2)).toInt64) + ((f_X3_many p1 3)).toInt64) + ((f_X3_many p1 4)).toInt64)), (6, .int 4), (0, .long p1), (2, .int p2), (3, .int p3)]) C dX3_number_30 (by decide) rfl ?_
          refine z_iinc (q := 1) (v := 5) (lv' := [(6, .int 5), (4, .long (((((((f_X3_first p1) + (p3).toInt64) - 1) + ((f_X3_many p1 1)).toInt64) + ((f_X3_many p1 2)).toInt64) + ((f_X3_many p1 3)).toInt64) + ((f_X3_many p1 4)).toInt64)), (0, .long p1), (2, .int p2), (3, .int p3)]) C dX3_number_32 rfl (by decide) (by decide) rfl ?_
          refine z_goto (tgt := 14) C dX3_number_35 (by decide) ?_
          refine z_iload C dX3_number_14 0 rfl ?_
          refine z_iload_n C dX3_number_16 rfl 3 rfl ?_
          refine z_icmp_ge (tgt := 38) C dX3_number_17 (by decide) (fun h5 => ?_) (fun h5 => ?_)
          · refine z_lload C dX3_number_38 1 rfl ?_
            exact z_lret C ⟨congrArg (fun v => some (Value.long v)) (by rw [f_X3_number, if_neg h1, if_neg h2, if_neg h3, if_neg h4, if_pos h5] : (((((((f_X3_first p1) + (p3).toInt64) - 1) + ((f_X3_many p1 1)).toInt64) + ((f_X3_many p1 2)).toInt64) + ((f_X3_many p1 3)).toInt64) + ((f_X3_many p1 4)).toInt64) = (f_X3_number p1 p2 p3)), rfl⟩ (by decide) (by decide) dX3_number_40
          · refine z_lload C dX3_number_20 1 rfl ?_
            refine z_lload_n C dX3_number_22 rfl 2 rfl ?_
            refine z_iload C dX3_number_23 0 rfl ?_
            refine z_si (rest := [.long (((((((f_X3_first p1) + (p3).toInt64) - 1) + ((f_X3_many p1 1)).toInt64) + ((f_X3_many p1 2)).toInt64) + ((f_X3_many p1 3)).toInt64) + ((f_X3_many p1 4)).toInt64)]) C (c_X3_many l hfl D cI cJ _ p1 (5 : Int32) ) q_X3_many gX3_number_X3_many ⟨rfl, rfl⟩ rfl rfl (Nat.le_of_ble_eq_true rfl) ⟨Nat.le_of_ble_eq_true rfl, Nat.le_of_ble_eq_true rfl⟩ ⟨Nat.le_of_ble_eq_true rfl, Nat.le_of_ble_eq_true rfl⟩ dX3_number_25 ?_
            refine z_i2l (v := ((f_X3_many p1 5)).toInt64) C dX3_number_28 rfl ?_
            refine z_ladd C dX3_number_29 ?_
            refine z_lstore (lv' := [(4, .long ((((((((f_X3_first p1) + (p3).toInt64) - 1) + ((f_X3_many p1 1)).toInt64) + ((f_X3_many p1 2)).toInt64) + ((f_X3_many p1 3)).toInt64) + ((f_X3_many p1 4)).toInt64) + ((f_X3_many p1 5)).toInt64)), (6, .int 5), (0, .long p1), (2, .int p2), (3, .int p3)]) C dX3_number_30 (by decide) rfl ?_
            refine z_iinc (q := 1) (v := 6) (lv' := [(6, .int 6), (4, .long ((((((((f_X3_first p1) + (p3).toInt64) - 1) + ((f_X3_many p1 1)).toInt64) + ((f_X3_many p1 2)).toInt64) + ((f_X3_many p1 3)).toInt64) + ((f_X3_many p1 4)).toInt64) + ((f_X3_many p1 5)).toInt64)), (0, .long p1), (2, .int p2), (3, .int p3)]) C dX3_number_32 rfl (by decide) (by decide) rfl ?_
            refine z_goto (tgt := 14) C dX3_number_35 (by decide) ?_
            refine z_iload C dX3_number_14 0 rfl ?_
            refine z_iload_n C dX3_number_16 rfl 3 rfl ?_
            refine z_icmp_ge (tgt := 38) C dX3_number_17 (by decide) (fun h6 => ?_) (fun h6 => ?_)
            · refine z_lload C dX3_number_38 1 rfl ?_
              exact z_lret C ⟨congrArg (fun v => some (Value.long v)) (by rw [f_X3_number, if_neg h1, if_neg h2, if_neg h3, if_neg h4, if_neg h5, if_pos h6] : ((((((((f_X3_first p1) + (p3).toInt64) - 1) + ((f_X3_many p1 1)).toInt64) + ((f_X3_many p1 2)).toInt64) + ((f_X3_many p1 3)).toInt64) + ((f_X3_many p1 4)).toInt64) + ((f_X3_many p1 5)).toInt64) = (f_X3_number p1 p2 p3)), rfl⟩ (by decide) (by decide) dX3_number_40
            · refine z_lload C dX3_number_20 1 rfl ?_
              refine z_lload_n C dX3_number_22 rfl 2 rfl ?_
              refine z_iload C dX3_number_23 0 rfl ?_
              refine z_si (rest := [.long ((((((((f_X3_first p1) + (p3).toInt64) - 1) + ((f_X3_many p1 1)).toInt64) + ((f_X3_many p1 2)).toInt64) + ((f_X3_many p1 3)).toInt64) + ((f_X3_many p1 4)).toInt64) + ((f_X3_many p1 5)).toInt64)]) C (c_X3_many l hfl D cI cJ _ p1 (6 : Int32) ) q_X3_many gX3_number_X3_many ⟨rfl, rfl⟩ rfl rfl (Nat.le_of_ble_eq_true rfl) ⟨Nat.le_of_ble_eq_true rfl, Nat.le_of_ble_eq_true rfl⟩ ⟨Nat.le_of_ble_eq_true rfl, Nat.le_of_ble_eq_true rfl⟩ dX3_number_25 ?_
              refine z_i2l (v := ((f_X3_many p1 6)).toInt64) C dX3_number_28 rfl ?_
              refine z_ladd C dX3_number_29 ?_
              refine z_lstore (lv' := [(4, .long (((((((((f_X3_first p1) + (p3).toInt64) - 1) + ((f_X3_many p1 1)).toInt64) + ((f_X3_many p1 2)).toInt64) + ((f_X3_many p1 3)).toInt64) + ((f_X3_many p1 4)).toInt64) + ((f_X3_many p1 5)).toInt64) + ((f_X3_many p1 6)).toInt64)), (6, .int 6), (0, .long p1), (2, .int p2), (3, .int p3)]) C dX3_number_30 (by decide) rfl ?_
              refine z_iinc (q := 1) (v := 7) (lv' := [(6, .int 7), (4, .long (((((((((f_X3_first p1) + (p3).toInt64) - 1) + ((f_X3_many p1 1)).toInt64) + ((f_X3_many p1 2)).toInt64) + ((f_X3_many p1 3)).toInt64) + ((f_X3_many p1 4)).toInt64) + ((f_X3_many p1 5)).toInt64) + ((f_X3_many p1 6)).toInt64)), (0, .long p1), (2, .int p2), (3, .int p3)]) C dX3_number_32 rfl (by decide) (by decide) rfl ?_
              refine z_goto (tgt := 14) C dX3_number_35 (by decide) ?_
              refine z_iload C dX3_number_14 0 rfl ?_
              refine z_iload_n C dX3_number_16 rfl 3 rfl ?_
              refine z_icmp_ge (tgt := 38) C dX3_number_17 (by decide) (fun h7 => ?_) (fun h7 => ?_)
              · refine z_lload C dX3_number_38 1 rfl ?_
                exact z_lret C ⟨congrArg (fun v => some (Value.long v)) (by rw [f_X3_number, if_neg h1, if_neg h2, if_neg h3, if_neg h4, if_neg h5, if_neg h6, if_pos h7] : (((((((((f_X3_first p1) + (p3).toInt64) - 1) + ((f_X3_many p1 1)).toInt64) + ((f_X3_many p1 2)).toInt64) + ((f_X3_many p1 3)).toInt64) + ((f_X3_many p1 4)).toInt64) + ((f_X3_many p1 5)).toInt64) + ((f_X3_many p1 6)).toInt64) = (f_X3_number p1 p2 p3)), rfl⟩ (by decide) (by decide) dX3_number_40
              · refine z_lload C dX3_number_20 1 rfl ?_
                refine z_lload_n C dX3_number_22 rfl 2 rfl ?_
                refine z_iload C dX3_number_23 0 rfl ?_
                refine z_si (rest := [.long (((((((((f_X3_first p1) + (p3).toInt64) - 1) + ((f_X3_many p1 1)).toInt64) + ((f_X3_many p1 2)).toInt64) + ((f_X3_many p1 3)).toInt64) + ((f_X3_many p1 4)).toInt64) + ((f_X3_many p1 5)).toInt64) + ((f_X3_many p1 6)).toInt64)]) C (c_X3_many l hfl D cI cJ _ p1 (7 : Int32) ) q_X3_many gX3_number_X3_many ⟨rfl, rfl⟩ rfl rfl (Nat.le_of_ble_eq_true rfl) ⟨Nat.le_of_ble_eq_true rfl, Nat.le_of_ble_eq_true rfl⟩ ⟨Nat.le_of_ble_eq_true rfl, Nat.le_of_ble_eq_true rfl⟩ dX3_number_25 ?_
                refine z_i2l (v := ((f_X3_many p1 7)).toInt64) C dX3_number_28 rfl ?_
                refine z_ladd C dX3_number_29 ?_
                refine z_lstore (lv' := [(4, .long ((((((((((f_X3_first p1) + (p3).toInt64) - 1) + ((f_X3_many p1 1)).toInt64) + ((f_X3_many p1 2)).toInt64) + ((f_X3_many p1 3)).toInt64) + ((f_X3_many p1 4)).toInt64) + ((f_X3_many p1 5)).toInt64) + ((f_X3_many p1 6)).toInt64) + ((f_X3_many p1 7)).toInt64)), (6, .int 7), (0, .long p1), (2, .int p2), (3, .int p3)]) C dX3_number_30 (by decide) rfl ?_
                refine z_iinc (q := 1) (v := 8) (lv' := [(6, .int 8), (4, .long ((((((((((f_X3_first p1) + (p3).toInt64) - 1) + ((f_X3_many p1 1)).toInt64) + ((f_X3_many p1 2)).toInt64) + ((f_X3_many p1 3)).toInt64) + ((f_X3_many p1 4)).toInt64) + ((f_X3_many p1 5)).toInt64) + ((f_X3_many p1 6)).toInt64) + ((f_X3_many p1 7)).toInt64)), (0, .long p1), (2, .int p2), (3, .int p3)]) C dX3_number_32 rfl (by decide) (by decide) rfl ?_
                refine z_goto (tgt := 14) C dX3_number_35 (by decide) ?_
                refine z_iload C dX3_number_14 0 rfl ?_
                refine z_iload_n C dX3_number_16 rfl 3 rfl ?_
                refine z_icmp_ge (tgt := 38) C dX3_number_17 (by decide) (fun h8 => ?_) (fun h8 => ?_)
                · refine z_lload C dX3_number_38 1 rfl ?_
                  exact z_lret C ⟨congrArg (fun v => some (Value.long v)) (by rw [f_X3_number, if_neg h1, if_neg h2, if_neg h3, if_neg h4, if_neg h5, if_neg h6, if_neg h7, if_pos h8] : ((((((((((f_X3_first p1) + (p3).toInt64) - 1) + ((f_X3_many p1 1)).toInt64) + ((f_X3_many p1 2)).toInt64) + ((f_X3_many p1 3)).toInt64) + ((f_X3_many p1 4)).toInt64) + ((f_X3_many p1 5)).toInt64) + ((f_X3_many p1 6)).toInt64) + ((f_X3_many p1 7)).toInt64) = (f_X3_number p1 p2 p3)), rfl⟩ (by decide) (by decide) dX3_number_40
                · refine z_lload C dX3_number_20 1 rfl ?_
                  refine z_lload_n C dX3_number_22 rfl 2 rfl ?_
                  refine z_iload C dX3_number_23 0 rfl ?_
                  refine z_si (rest := [.long ((((((((((f_X3_first p1) + (p3).toInt64) - 1) + ((f_X3_many p1 1)).toInt64) + ((f_X3_many p1 2)).toInt64) + ((f_X3_many p1 3)).toInt64) + ((f_X3_many p1 4)).toInt64) + ((f_X3_many p1 5)).toInt64) + ((f_X3_many p1 6)).toInt64) + ((f_X3_many p1 7)).toInt64)]) C (c_X3_many l hfl D cI cJ _ p1 (8 : Int32) ) q_X3_many gX3_number_X3_many ⟨rfl, rfl⟩ rfl rfl (Nat.le_of_ble_eq_true rfl) ⟨Nat.le_of_ble_eq_true rfl, Nat.le_of_ble_eq_true rfl⟩ ⟨Nat.le_of_ble_eq_true rfl, Nat.le_of_ble_eq_true rfl⟩ dX3_number_25 ?_
                  refine z_i2l (v := ((f_X3_many p1 8)).toInt64) C dX3_number_28 rfl ?_
                  refine z_ladd C dX3_number_29 ?_
                  refine z_lstore (lv' := [(4, .long (((((((((((f_X3_first p1) + (p3).toInt64) - 1) + ((f_X3_many p1 1)).toInt64) + ((f_X3_many p1 2)).toInt64) + ((f_X3_many p1 3)).toInt64) + ((f_X3_many p1 4)).toInt64) + ((f_X3_many p1 5)).toInt64) + ((f_X3_many p1 6)).toInt64) + ((f_X3_many p1 7)).toInt64) + ((f_X3_many p1 8)).toInt64)), (6, .int 8), (0, .long p1), (2, .int p2), (3, .int p3)]) C dX3_number_30 (by decide) rfl ?_
                  refine z_iinc (q := 1) (v := 9) (lv' := [(6, .int 9), (4, .long (((((((((((f_X3_first p1) + (p3).toInt64) - 1) + ((f_X3_many p1 1)).toInt64) + ((f_X3_many p1 2)).toInt64) + ((f_X3_many p1 3)).toInt64) + ((f_X3_many p1 4)).toInt64) + ((f_X3_many p1 5)).toInt64) + ((f_X3_many p1 6)).toInt64) + ((f_X3_many p1 7)).toInt64) + ((f_X3_many p1 8)).toInt64)), (0, .long p1), (2, .int p2), (3, .int p3)]) C dX3_number_32 rfl (by decide) (by decide) rfl ?_
                  refine z_goto (tgt := 14) C dX3_number_35 (by decide) ?_
                  refine z_iload C dX3_number_14 0 rfl ?_
                  refine z_iload_n C dX3_number_16 rfl 3 rfl ?_
                  refine z_icmp_ge (tgt := 38) C dX3_number_17 (by decide) (fun h9 => ?_) (fun h9 => ?_)
                  · refine z_lload C dX3_number_38 1 rfl ?_
                    exact z_lret C ⟨congrArg (fun v => some (Value.long v)) (by rw [f_X3_number, if_neg h1, if_neg h2, if_neg h3, if_neg h4, if_neg h5, if_neg h6, if_neg h7, if_neg h8, if_pos h9] : (((((((((((f_X3_first p1) + (p3).toInt64) - 1) + ((f_X3_many p1 1)).toInt64) + ((f_X3_many p1 2)).toInt64) + ((f_X3_many p1 3)).toInt64) + ((f_X3_many p1 4)).toInt64) + ((f_X3_many p1 5)).toInt64) + ((f_X3_many p1 6)).toInt64) + ((f_X3_many p1 7)).toInt64) + ((f_X3_many p1 8)).toInt64) = (f_X3_number p1 p2 p3)), rfl⟩ (by decide) (by decide) dX3_number_40
                  · refine z_lload C dX3_number_20 1 rfl ?_
                    refine z_lload_n C dX3_number_22 rfl 2 rfl ?_
                    refine z_iload C dX3_number_23 0 rfl ?_
                    refine z_si (rest := [.long (((((((((((f_X3_first p1) + (p3).toInt64) - 1) + ((f_X3_many p1 1)).toInt64) + ((f_X3_many p1 2)).toInt64) + ((f_X3_many p1 3)).toInt64) + ((f_X3_many p1 4)).toInt64) + ((f_X3_many p1 5)).toInt64) + ((f_X3_many p1 6)).toInt64) + ((f_X3_many p1 7)).toInt64) + ((f_X3_many p1 8)).toInt64)]) C (c_X3_many l hfl D cI cJ _ p1 (9 : Int32) ) q_X3_many gX3_number_X3_many ⟨rfl, rfl⟩ rfl rfl (Nat.le_of_ble_eq_true rfl) ⟨Nat.le_of_ble_eq_true rfl, Nat.le_of_ble_eq_true rfl⟩ ⟨Nat.le_of_ble_eq_true rfl, Nat.le_of_ble_eq_true rfl⟩ dX3_number_25 ?_
                    refine z_i2l (v := ((f_X3_many p1 9)).toInt64) C dX3_number_28 rfl ?_
                    refine z_ladd C dX3_number_29 ?_
                    refine z_lstore (lv' := [(4, .long ((((((((((((f_X3_first p1) + (p3).toInt64) - 1) + ((f_X3_many p1 1)).toInt64) + ((f_X3_many p1 2)).toInt64) + ((f_X3_many p1 3)).toInt64) + ((f_X3_many p1 4)).toInt64) + ((f_X3_many p1 5)).toInt64) + ((f_X3_many p1 6)).toInt64) + ((f_X3_many p1 7)).toInt64) + ((f_X3_many p1 8)).toInt64) + ((f_X3_many p1 9)).toInt64)), (6, .int 9), (0, .long p1), (2, .int p2), (3, .int p3)]) C dX3_number_30 (by decide) rfl ?_
                    refine z_iinc (q := 1) (v := 10) (lv' := [(6, .int 10), (4, .long ((((((((((((f_X3_first p1) + (p3).toInt64) - 1) + ((f_X3_many p1 1)).toInt64) + ((f_X3_many p1 2)).toInt64) + ((f_X3_many p1 3)).toInt64) + ((f_X3_many p1 4)).toInt64) + ((f_X3_many p1 5)).toInt64) + ((f_X3_many p1 6)).toInt64) + ((f_X3_many p1 7)).toInt64) + ((f_X3_many p1 8)).toInt64) + ((f_X3_many p1 9)).toInt64)), (0, .long p1), (2, .int p2), (3, .int p3)]) C dX3_number_32 rfl (by decide) (by decide) rfl ?_
                    refine z_goto (tgt := 14) C dX3_number_35 (by decide) ?_
                    refine z_iload C dX3_number_14 0 rfl ?_
                    refine z_iload_n C dX3_number_16 rfl 3 rfl ?_
                    refine z_icmp_ge (tgt := 38) C dX3_number_17 (by decide) (fun h10 => ?_) (fun h10 => ?_)
                    · refine z_lload C dX3_number_38 1 rfl ?_
                      exact z_lret C ⟨congrArg (fun v => some (Value.long v)) (by rw [f_X3_number, if_neg h1, if_neg h2, if_neg h3, if_neg h4, if_neg h5, if_neg h6, if_neg h7, if_neg h8, if_neg h9, if_pos h10] : ((((((((((((f_X3_first p1) + (p3).toInt64) - 1) + ((f_X3_many p1 1)).toInt64) + ((f_X3_many p1 2)).toInt64) + ((f_X3_many p1 3)).toInt64) + ((f_X3_many p1 4)).toInt64) + ((f_X3_many p1 5)).toInt64) + ((f_X3_many p1 6)).toInt64) + ((f_X3_many p1 7)).toInt64) + ((f_X3_many p1 8)).toInt64) + ((f_X3_many p1 9)).toInt64) = (f_X3_number p1 p2 p3)), rfl⟩ (by decide) (by decide) dX3_number_40
                    · refine z_lload C dX3_number_20 1 rfl ?_
                      refine z_lload_n C dX3_number_22 rfl 2 rfl ?_
                      refine z_iload C dX3_number_23 0 rfl ?_
                      refine z_si (rest := [.long ((((((((((((f_X3_first p1) + (p3).toInt64) - 1) + ((f_X3_many p1 1)).toInt64) + ((f_X3_many p1 2)).toInt64) + ((f_X3_many p1 3)).toInt64) + ((f_X3_many p1 4)).toInt64) + ((f_X3_many p1 5)).toInt64) + ((f_X3_many p1 6)).toInt64) + ((f_X3_many p1 7)).toInt64) + ((f_X3_many p1 8)).toInt64) + ((f_X3_many p1 9)).toInt64)]) C (c_X3_many l hfl D cI cJ _ p1 (10 : Int32) ) q_X3_many gX3_number_X3_many ⟨rfl, rfl⟩ rfl rfl (Nat.le_of_ble_eq_true rfl) ⟨Nat.le_of_ble_eq_true rfl, Nat.le_of_ble_eq_true rfl⟩ ⟨Nat.le_of_ble_eq_true rfl, Nat.le_of_ble_eq_true rfl⟩ dX3_number_25 ?_
                      refine z_i2l (v := ((f_X3_many p1 10)).toInt64) C dX3_number_28 rfl ?_
                      refine z_ladd C dX3_number_29 ?_
                      refine z_lstore (lv' := [(4, .long (((((((((((((f_X3_first p1) + (p3).toInt64) - 1) + ((f_X3_many p1 1)).toInt64) + ((f_X3_many p1 2)).toInt64) + ((f_X3_many p1 3)).toInt64) + ((f_X3_many p1 4)).toInt64) + ((f_X3_many p1 5)).toInt64) + ((f_X3_many p1 6)).toInt64) + ((f_X3_many p1 7)).toInt64) + ((f_X3_many p1 8)).toInt64) + ((f_X3_many p1 9)).toInt64) + ((f_X3_many p1 10)).toInt64)), (6, .int 10), (0, .long p1), (2, .int p2), (3, .int p3)]) C dX3_number_30 (by decide) rfl ?_
                      refine z_iinc (q := 1) (v := 11) (lv' := [(6, .int 11), (4, .long (((((((((((((f_X3_first p1) + (p3).toInt64) - 1) + ((f_X3_many p1 1)).toInt64) + ((f_X3_many p1 2)).toInt64) + ((f_X3_many p1 3)).toInt64) + ((f_X3_many p1 4)).toInt64) + ((f_X3_many p1 5)).toInt64) + ((f_X3_many p1 6)).toInt64) + ((f_X3_many p1 7)).toInt64) + ((f_X3_many p1 8)).toInt64) + ((f_X3_many p1 9)).toInt64) + ((f_X3_many p1 10)).toInt64)), (0, .long p1), (2, .int p2), (3, .int p3)]) C dX3_number_32 rfl (by decide) (by decide) rfl ?_
                      refine z_goto (tgt := 14) C dX3_number_35 (by decide) ?_
                      refine z_iload C dX3_number_14 0 rfl ?_
                      refine z_iload_n C dX3_number_16 rfl 3 rfl ?_
                      refine z_icmp_ge (tgt := 38) C dX3_number_17 (by decide) (fun h11 => ?_) (fun h11 => ?_)
                      · refine z_lload C dX3_number_38 1 rfl ?_
                        exact z_lret C ⟨congrArg (fun v => some (Value.long v)) (by rw [f_X3_number, if_neg h1, if_neg h2, if_neg h3, if_neg h4, if_neg h5, if_neg h6, if_neg h7, if_neg h8, if_neg h9, if_neg h10, if_pos h11] : (((((((((((((f_X3_first p1) + (p3).toInt64) - 1) + ((f_X3_many p1 1)).toInt64) + ((f_X3_many p1 2)).toInt64) + ((f_X3_many p1 3)).toInt64) + ((f_X3_many p1 4)).toInt64) + ((f_X3_many p1 5)).toInt64) + ((f_X3_many p1 6)).toInt64) + ((f_X3_many p1 7)).toInt64) + ((f_X3_many p1 8)).toInt64) + ((f_X3_many p1 9)).toInt64) + ((f_X3_many p1 10)).toInt64) = (f_X3_number p1 p2 p3)), rfl⟩ (by decide) (by decide) dX3_number_40
                      · refine z_lload C dX3_number_20 1 rfl ?_
                        refine z_lload_n C dX3_number_22 rfl 2 rfl ?_
                        refine z_iload C dX3_number_23 0 rfl ?_
                        refine z_si (rest := [.long (((((((((((((f_X3_first p1) + (p3).toInt64) - 1) + ((f_X3_many p1 1)).toInt64) + ((f_X3_many p1 2)).toInt64) + ((f_X3_many p1 3)).toInt64) + ((f_X3_many p1 4)).toInt64) + ((f_X3_many p1 5)).toInt64) + ((f_X3_many p1 6)).toInt64) + ((f_X3_many p1 7)).toInt64) + ((f_X3_many p1 8)).toInt64) + ((f_X3_many p1 9)).toInt64) + ((f_X3_many p1 10)).toInt64)]) C (c_X3_many l hfl D cI cJ _ p1 (11 : Int32) ) q_X3_many gX3_number_X3_many ⟨rfl, rfl⟩ rfl rfl (Nat.le_of_ble_eq_true rfl) ⟨Nat.le_of_ble_eq_true rfl, Nat.le_of_ble_eq_true rfl⟩ ⟨Nat.le_of_ble_eq_true rfl, Nat.le_of_ble_eq_true rfl⟩ dX3_number_25 ?_
                        refine z_i2l (v := ((f_X3_many p1 11)).toInt64) C dX3_number_28 rfl ?_
                        refine z_ladd C dX3_number_29 ?_
                        refine z_lstore (lv' := [(4, .long ((((((((((((((f_X3_first p1) + (p3).toInt64) - 1) + ((f_X3_many p1 1)).toInt64) + ((f_X3_many p1 2)).toInt64) + ((f_X3_many p1 3)).toInt64) + ((f_X3_many p1 4)).toInt64) + ((f_X3_many p1 5)).toInt64) + ((f_X3_many p1 6)).toInt64) + ((f_X3_many p1 7)).toInt64) + ((f_X3_many p1 8)).toInt64) + ((f_X3_many p1 9)).toInt64) + ((f_X3_many p1 10)).toInt64) + ((f_X3_many p1 11)).toInt64)), (6, .int 11), (0, .long p1), (2, .int p2), (3, .int p3)]) C dX3_number_30 (by decide) rfl ?_
                        refine z_iinc (q := 1) (v := 12) (lv' := [(6, .int 12), (4, .long ((((((((((((((f_X3_first p1) + (p3).toInt64) - 1) + ((f_X3_many p1 1)).toInt64) + ((f_X3_many p1 2)).toInt64) + ((f_X3_many p1 3)).toInt64) + ((f_X3_many p1 4)).toInt64) + ((f_X3_many p1 5)).toInt64) + ((f_X3_many p1 6)).toInt64) + ((f_X3_many p1 7)).toInt64) + ((f_X3_many p1 8)).toInt64) + ((f_X3_many p1 9)).toInt64) + ((f_X3_many p1 10)).toInt64) + ((f_X3_many p1 11)).toInt64)), (0, .long p1), (2, .int p2), (3, .int p3)]) C dX3_number_32 rfl (by decide) (by decide) rfl ?_
                        refine z_goto (tgt := 14) C dX3_number_35 (by decide) ?_
                        refine z_iload C dX3_number_14 0 rfl ?_
                        refine z_iload_n C dX3_number_16 rfl 3 rfl ?_
                        refine z_icmp_ge (tgt := 38) C dX3_number_17 (by decide) (fun _ => ?_) (fun h => absurd h_0 h)
                        refine z_lload C dX3_number_38 1 rfl ?_
                        exact z_lret C ⟨congrArg (fun v => some (Value.long v)) (by rw [f_X3_number, if_neg h1, if_neg h2, if_neg h3, if_neg h4, if_neg h5, if_neg h6, if_neg h7, if_neg h8, if_neg h9, if_neg h10, if_neg h11] : ((((((((((((((f_X3_first p1) + (p3).toInt64) - 1) + ((f_X3_many p1 1)).toInt64) + ((f_X3_many p1 2)).toInt64) + ((f_X3_many p1 3)).toInt64) + ((f_X3_many p1 4)).toInt64) + ((f_X3_many p1 5)).toInt64) + ((f_X3_many p1 6)).toInt64) + ((f_X3_many p1 7)).toInt64) + ((f_X3_many p1 8)).toInt64) + ((f_X3_many p1 9)).toInt64) + ((f_X3_many p1 10)).toInt64) + ((f_X3_many p1 11)).toInt64) = (f_X3_number p1 p2 p3)), rfl⟩ (by decide) (by decide) dX3_number_40
def f_X3_isYear (p1 : Int64) : Int32 := (f_X3_in p1 (-9999) 9999)
theorem q_X3_isYear : ZY yX3_isYear wsX3_isYear cX3_isYear 2 (some .boolean) 1 := ⟨⟨_, rfl⟩, by decide +kernel, by decide +kernel, by decide +kernel⟩
set_option maxHeartbeats 4000000 in
set_option maxRecDepth 100000 in
theorem c_X3_isYear (l : Launch) (hfl : l.stackTraces = false) (D : va_G) (cI cJ : ClassId) (X : va_W) (p1 : Int64)  : ZM l yX3_isYear wsX3_isYear { frames := 1, cells := 0, slots := 0, locals := 25 } [.long p1] D (zTys cI cJ) X 0 0 (fun v w => v = some (.int (f_X3_isYear p1)) ∧ w = X) (fun _ _ => False) := by
  refine z_open (own := RX3) hfl (cc := cX3_isYear) (maxL := 2) (ret := (some .boolean)) (lv := [(0, .long p1)]) rfl (by decide) rfl rfl (Nat.le_of_ble_eq_true rfl) ?_
  intro p e s m args below meth c A C hno hnm hargs
  have w1 := C.1.2.2.2.2 (.constantLong RX3 96 (-9999)) (by decide +kernel)
  have w2 := C.1.2.2.2.2 (.constantLong RX3 98 (9999)) (by decide +kernel)
  refine z_lload_n C dX3_isYear_0 rfl 0 rfl ?_
  refine z_ldc2 (v := (-9999)) C w1 dX3_isYear_1 ?_
  refine z_ldc2 (v := 9999) C w2 dX3_isYear_4 ?_
  refine z_si (rest := []) C (c_X3_in l hfl D cI cJ _ p1 ((-9999) : Int64) (9999 : Int64) ) q_X3_in gX3_isYear_X3_in ⟨rfl, rfl⟩ rfl rfl (Nat.le_of_ble_eq_true rfl) ⟨Nat.le_of_ble_eq_true rfl, Nat.le_of_ble_eq_true rfl⟩ ⟨Nat.le_of_ble_eq_true rfl, Nat.le_of_ble_eq_true rfl⟩ dX3_isYear_7 ?_
  exact z_zret C (zb01 (b_X3_in p1 (-9999) 9999)) ⟨congrArg (fun v => some (Value.int v)) (rfl : (f_X3_in p1 (-9999) 9999) = (f_X3_isYear p1)), rfl⟩ (by decide) (by decide) dX3_isYear_10
theorem b_X3_isYear (p1 : Int64) : f_X3_isYear p1 = 0 ∨ f_X3_isYear p1 = 1 := b_X3_in _ _ _
def f_X3_weekdayOf (p1 : Int64) : Int32 := (1 + ((f_X3_rest (p1 + 3) 7)).toInt32)
theorem q_X3_weekdayOf : ZY yX3_weekdayOf wsX3_weekdayOf cX3_weekdayOf 2 (some .int) 1 := ⟨⟨_, rfl⟩, by decide +kernel, by decide +kernel, by decide +kernel⟩
set_option maxHeartbeats 4000000 in
set_option maxRecDepth 100000 in
theorem c_X3_weekdayOf (l : Launch) (hfl : l.stackTraces = false) (D : va_G) (cI cJ : ClassId) (X : va_W) (p1 : Int64)  : ZM l yX3_weekdayOf wsX3_weekdayOf { frames := 2, cells := 0, slots := 0, locals := 46 } [.long p1] D (zTys cI cJ) X 0 0 (fun v w => v = some (.int (f_X3_weekdayOf p1)) ∧ w = X) (fun _ _ => False) := by
  refine z_open (own := RX3) hfl (cc := cX3_weekdayOf) (maxL := 2) (ret := (some .int)) (lv := [(0, .long p1)]) rfl (by decide) rfl rfl (Nat.le_of_ble_eq_true rfl) ?_
  intro p e s m args below meth c A C hno hnm hargs
  have w1 := C.1.2.2.2.2 (.constantLong RX3 61 (3)) (by decide +kernel)
  have w2 := C.1.2.2.2.2 (.constantLong RX3 111 (7)) (by decide +kernel)
  refine z_iconst (v := 1) C dX3_weekdayOf_0 (by decide) ?_
  refine z_lload_n C dX3_weekdayOf_1 rfl 0 rfl ?_
  refine z_ldc2 (v := 3) C w1 dX3_weekdayOf_2 ?_
  refine z_ladd C dX3_weekdayOf_5 ?_
  refine z_ldc2 (v := 7) C w2 dX3_weekdayOf_6 ?_
  refine z_sl (rest := [.int 1]) C (c_X3_rest l hfl D cI cJ _ (p1 + 3) (7 : Int64) (by decide)) q_X3_rest gX3_weekdayOf_X3_rest ⟨rfl, rfl⟩ rfl rfl (Nat.le_of_ble_eq_true rfl) ⟨Nat.le_of_ble_eq_true rfl, Nat.le_of_ble_eq_true rfl⟩ ⟨Nat.le_of_ble_eq_true rfl, Nat.le_of_ble_eq_true rfl⟩ dX3_weekdayOf_9 ?_
  refine z_l2i (v := ((f_X3_rest (p1 + 3) 7)).toInt32) C dX3_weekdayOf_12 rfl ?_
  refine z_iadd C dX3_weekdayOf_13 ?_
  exact z_iret C ⟨congrArg (fun v => some (Value.int v)) (rfl : (1 + ((f_X3_rest (p1 + 3) 7)).toInt32) = (f_X3_weekdayOf p1)), rfl⟩ (by decide) (by decide) dX3_weekdayOf_14
def f_X3_isDate (p1 : Int32) : Int32 := (f_X3_in ((p1).toInt64) 0 5)
theorem q_X3_isDate : ZY yX3_isDate wsX3_isDate cX3_isDate 1 (some .boolean) 1 := ⟨⟨_, rfl⟩, by decide +kernel, by decide +kernel, by decide +kernel⟩
set_option maxHeartbeats 4000000 in
set_option maxRecDepth 100000 in
theorem c_X3_isDate (l : Launch) (hfl : l.stackTraces = false) (D : va_G) (cI cJ : ClassId) (X : va_W) (p1 : Int32)  : ZM l yX3_isDate wsX3_isDate { frames := 1, cells := 0, slots := 0, locals := 25 } [.int p1] D (zTys cI cJ) X 0 0 (fun v w => v = some (.int (f_X3_isDate p1)) ∧ w = X) (fun _ _ => False) := by
  refine z_open (own := RX3) hfl (cc := cX3_isDate) (maxL := 1) (ret := (some .boolean)) (lv := [(0, .int p1)]) rfl (by decide) rfl rfl (Nat.le_of_ble_eq_true rfl) ?_
  intro p e s m args below meth c A C hno hnm hargs
  have w1 := C.1.2.2.2.2 (.constantLong RX3 119 (5)) (by decide +kernel)
  refine z_iload_n C dX3_isDate_0 rfl 0 rfl ?_
  refine z_i2l (v := (p1).toInt64) C dX3_isDate_1 rfl ?_
  refine z_lconst (v := 0) C dX3_isDate_2 (by decide) ?_
  refine z_ldc2 (v := 5) C w1 dX3_isDate_3 ?_
  refine z_si (rest := []) C (c_X3_in l hfl D cI cJ _ ((p1).toInt64) (0 : Int64) (5 : Int64) ) q_X3_in gX3_isDate_X3_in ⟨rfl, rfl⟩ rfl rfl (Nat.le_of_ble_eq_true rfl) ⟨Nat.le_of_ble_eq_true rfl, Nat.le_of_ble_eq_true rfl⟩ ⟨Nat.le_of_ble_eq_true rfl, Nat.le_of_ble_eq_true rfl⟩ dX3_isDate_6 ?_
  exact z_zret C (zb01 (b_X3_in ((p1).toInt64) 0 5)) ⟨congrArg (fun v => some (Value.int v)) (rfl : (f_X3_in ((p1).toInt64) 0 5) = (f_X3_isDate p1)), rfl⟩ (by decide) (by decide) dX3_isDate_9
theorem b_X3_isDate (p1 : Int32) : f_X3_isDate p1 = 0 ∨ f_X3_isDate p1 = 1 := b_X3_in _ _ _
def f_X3_isSlot (p1 : Int32) : Int32 := (f_X3_in ((p1).toInt64) 0 3)
theorem q_X3_isSlot : ZY yX3_isSlot wsX3_isSlot cX3_isSlot 1 (some .boolean) 1 := ⟨⟨_, rfl⟩, by decide +kernel, by decide +kernel, by decide +kernel⟩
set_option maxHeartbeats 4000000 in
set_option maxRecDepth 100000 in
theorem c_X3_isSlot (l : Launch) (hfl : l.stackTraces = false) (D : va_G) (cI cJ : ClassId) (X : va_W) (p1 : Int32)  : ZM l yX3_isSlot wsX3_isSlot { frames := 1, cells := 0, slots := 0, locals := 25 } [.int p1] D (zTys cI cJ) X 0 0 (fun v w => v = some (.int (f_X3_isSlot p1)) ∧ w = X) (fun _ _ => False) := by
  refine z_open (own := RX3) hfl (cc := cX3_isSlot) (maxL := 1) (ret := (some .boolean)) (lv := [(0, .int p1)]) rfl (by decide) rfl rfl (Nat.le_of_ble_eq_true rfl) ?_
  intro p e s m args below meth c A C hno hnm hargs
  have w1 := C.1.2.2.2.2 (.constantLong RX3 61 (3)) (by decide +kernel)
  refine z_iload_n C dX3_isSlot_0 rfl 0 rfl ?_
  refine z_i2l (v := (p1).toInt64) C dX3_isSlot_1 rfl ?_
  refine z_lconst (v := 0) C dX3_isSlot_2 (by decide) ?_
  refine z_ldc2 (v := 3) C w1 dX3_isSlot_3 ?_
  refine z_si (rest := []) C (c_X3_in l hfl D cI cJ _ ((p1).toInt64) (0 : Int64) (3 : Int64) ) q_X3_in gX3_isSlot_X3_in ⟨rfl, rfl⟩ rfl rfl (Nat.le_of_ble_eq_true rfl) ⟨Nat.le_of_ble_eq_true rfl, Nat.le_of_ble_eq_true rfl⟩ ⟨Nat.le_of_ble_eq_true rfl, Nat.le_of_ble_eq_true rfl⟩ dX3_isSlot_6 ?_
  exact z_zret C (zb01 (b_X3_in ((p1).toInt64) 0 3)) ⟨congrArg (fun v => some (Value.int v)) (rfl : (f_X3_in ((p1).toInt64) 0 3) = (f_X3_isSlot p1)), rfl⟩ (by decide) (by decide) dX3_isSlot_9
theorem b_X3_isSlot (p1 : Int32) : f_X3_isSlot p1 = 0 ∨ f_X3_isSlot p1 = 1 := b_X3_in _ _ _
def f_X3_isUnit (p1 : Int32) : Int32 := (if p1 = 100 then 1 else (if p1 = 119 then 1 else (if p1 = 109 then 1 else (if p1 = 121 then 1 else 0))))
theorem q_X3_isUnit : ZY yX3_isUnit wsX3_isUnit cX3_isUnit 1 (some .boolean) 1 := ⟨⟨_, rfl⟩, by decide +kernel, by decide +kernel, by decide +kernel⟩
set_option maxHeartbeats 4000000 in
set_option maxRecDepth 100000 in
theorem c_X3_isUnit (l : Launch) (hfl : l.stackTraces = false) (D : va_G) (cI cJ : ClassId) (X : va_W) (p1 : Int32)  : ZM l yX3_isUnit wsX3_isUnit { frames := 0, cells := 0, slots := 0, locals := 0 } [.int p1] D (zTys cI cJ) X 0 0 (fun v w => v = some (.int (f_X3_isUnit p1)) ∧ w = X) (fun _ _ => False) := by
  refine z_open (own := RX3) hfl (cc := cX3_isUnit) (maxL := 1) (ret := (some .boolean)) (lv := [(0, .int p1)]) rfl (by decide) rfl rfl (Nat.le_of_ble_eq_true rfl) ?_
  intro p e s m args below meth c A C hno hnm hargs
  refine z_iload_n C dX3_isUnit_0 rfl 0 rfl ?_
  refine z_bipush (v := 100) C dX3_isUnit_1 (by decide) ?_
  refine z_icmp_eq (tgt := 24) C dX3_isUnit_3 (by decide) (fun h1 => ?_) (fun h1 => ?_)
  · refine z_iconst (v := 1) C dX3_isUnit_24 (by decide) ?_
    refine z_goto (tgt := 29) C dX3_isUnit_25 (by decide) ?_
    exact z_zret C (by decide) ⟨congrArg (fun v => some (Value.int v)) (by rw [f_X3_isUnit, if_pos h1] : (1 : Int32) = (f_X3_isUnit p1)), rfl⟩ (by decide) (by decide) dX3_isUnit_29
  · refine z_iload_n C dX3_isUnit_6 rfl 0 rfl ?_
    refine z_bipush (v := 119) C dX3_isUnit_7 (by decide) ?_
    refine z_icmp_eq (tgt := 24) C dX3_isUnit_9 (by decide) (fun h2 => ?_) (fun h2 => ?_)
    · refine z_iconst (v := 1) C dX3_isUnit_24 (by decide) ?_
      refine z_goto (tgt := 29) C dX3_isUnit_25 (by decide) ?_
      exact z_zret C (by decide) ⟨congrArg (fun v => some (Value.int v)) (by rw [f_X3_isUnit, if_neg h1, if_pos h2] : (1 : Int32) = (f_X3_isUnit p1)), rfl⟩ (by decide) (by decide) dX3_isUnit_29
    · refine z_iload_n C dX3_isUnit_12 rfl 0 rfl ?_
      refine z_bipush (v := 109) C dX3_isUnit_13 (by decide) ?_
      refine z_icmp_eq (tgt := 24) C dX3_isUnit_15 (by decide) (fun h3 => ?_) (fun h3 => ?_)
      · refine z_iconst (v := 1) C dX3_isUnit_24 (by decide) ?_
        refine z_goto (tgt := 29) C dX3_isUnit_25 (by decide) ?_
        exact z_zret C (by decide) ⟨congrArg (fun v => some (Value.int v)) (by rw [f_X3_isUnit, if_neg h1, if_neg h2, if_pos h3] : (1 : Int32) = (f_X3_isUnit p1)), rfl⟩ (by decide) (by decide) dX3_isUnit_29
      · refine z_iload_n C dX3_isUnit_18 rfl 0 rfl ?_
        refine z_bipush (v := 121) C dX3_isUnit_19 (by decide) ?_
        refine z_icmp_ne (tgt := 28) C dX3_isUnit_21 (by decide) (fun h4 => ?_) (fun h4 => ?_)
        · refine z_iconst (v := 0) C dX3_isUnit_28 (by decide) ?_
          exact z_zret C (by decide) ⟨congrArg (fun v => some (Value.int v)) (by rw [f_X3_isUnit, if_neg h1, if_neg h2, if_neg h3, if_neg h4] : (0 : Int32) = (f_X3_isUnit p1)), rfl⟩ (by decide) (by decide) dX3_isUnit_29
        · refine z_iconst (v := 1) C dX3_isUnit_24 (by decide) ?_
          refine z_goto (tgt := 29) C dX3_isUnit_25 (by decide) ?_
          exact z_zret C (by decide) ⟨congrArg (fun v => some (Value.int v)) (by rw [f_X3_isUnit, if_neg h1, if_neg h2, if_neg h3, if_pos h4] : (1 : Int32) = (f_X3_isUnit p1)), rfl⟩ (by decide) (by decide) dX3_isUnit_29
theorem b_X3_isUnit (p1 : Int32) : f_X3_isUnit p1 = 0 ∨ f_X3_isUnit p1 = 1 := by
  unfold f_X3_isUnit
  repeat (first | apply z01_ite | exact Or.inl rfl | exact Or.inr rfl | apply zbor)
def f_X3_ordered (p1 : Int64) (p2 : Int64) : Int32 := (if p2 ≤ p1 then (if p1 ≤ p2 then 0 else 1) else (-1))
theorem q_X3_ordered : ZY yX3_ordered wsX3_ordered cX3_ordered 4 (some .int) 2 := ⟨⟨_, rfl⟩, by decide +kernel, by decide +kernel, by decide +kernel⟩
set_option maxHeartbeats 4000000 in
set_option maxRecDepth 100000 in
theorem c_X3_ordered (l : Launch) (hfl : l.stackTraces = false) (D : va_G) (cI cJ : ClassId) (X : va_W) (p1 : Int64) (p2 : Int64)  : ZM l yX3_ordered wsX3_ordered { frames := 0, cells := 0, slots := 0, locals := 0 } [.long p1, .long p2] D (zTys cI cJ) X 0 0 (fun v w => v = some (.int (f_X3_ordered p1 p2)) ∧ w = X) (fun _ _ => False) := by
  refine z_open (own := RX3) hfl (cc := cX3_ordered) (maxL := 4) (ret := (some .int)) (lv := [(0, .long p1), (2, .long p2)]) rfl (by decide) rfl rfl (Nat.le_of_ble_eq_true rfl) ?_
  intro p e s m args below meth c A C hno hnm hargs
  refine z_lload_n C dX3_ordered_0 rfl 0 rfl ?_
  refine z_lload_n C dX3_ordered_1 rfl 1 rfl ?_
  refine z_lcmp_ge (tgt := 10) C dX3_ordered_2 dX3_ordered_3 (by decide) (fun h1 => ?_) (fun h1 => ?_)
  · refine z_lload_n C dX3_ordered_10 rfl 0 rfl ?_
    refine z_lload_n C dX3_ordered_11 rfl 1 rfl ?_
    refine z_lcmp_le (tgt := 20) C dX3_ordered_12 dX3_ordered_13 (by decide) (fun h2 => ?_) (fun h2 => ?_)
    · refine z_iconst (v := 0) C dX3_ordered_20 (by decide) ?_
      exact z_iret C ⟨congrArg (fun v => some (Value.int v)) (by rw [f_X3_ordered, if_pos h1, if_pos h2] : (0 : Int32) = (f_X3_ordered p1 p2)), rfl⟩ (by decide) (by decide) dX3_ordered_21
    · refine z_iconst (v := 1) C dX3_ordered_16 (by decide) ?_
      refine z_goto (tgt := 21) C dX3_ordered_17 (by decide) ?_
      exact z_iret C ⟨congrArg (fun v => some (Value.int v)) (by rw [f_X3_ordered, if_pos h1, if_neg h2] : (1 : Int32) = (f_X3_ordered p1 p2)), rfl⟩ (by decide) (by decide) dX3_ordered_21
  · refine z_iconst (v := (-1)) C dX3_ordered_6 (by decide) ?_
    refine z_goto (tgt := 21) C dX3_ordered_7 (by decide) ?_
    exact z_iret C ⟨congrArg (fun v => some (Value.int v)) (by rw [f_X3_ordered, if_neg h1] : ((-1) : Int32) = (f_X3_ordered p1 p2)), rfl⟩ (by decide) (by decide) dX3_ordered_21
theorem vpMDate {a : Int32} (h : ¬ f_X3_isDate a = 0) : vp_in a 6 := by
  unfold f_X3_isDate f_X3_in at h
  by_cases h1 : a.toInt64 < 0
  · rw [if_pos h1] at h; exact absurd rfl h
  rw [if_neg h1] at h
  by_cases h2 : 5 < a.toInt64
  · rw [if_pos h2] at h; exact absurd rfl h
  rw [Int64.lt_iff_toInt_lt, Int32.toInt_toInt64] at h1 h2
  have e0 : (0 : Int64).toInt = 0 := rfl
  have e1 : (5 : Int64).toInt = 5 := rfl
  rw [e0] at h1; rw [e1] at h2
  exact vp_of (by omega) (by omega)
theorem vpMSlot {a : Int32} (h : ¬ f_X3_isSlot a = 0) : vp_in a 4 := by
  unfold f_X3_isSlot f_X3_in at h
  by_cases h1 : a.toInt64 < 0
  · rw [if_pos h1] at h; exact absurd rfl h
  rw [if_neg h1] at h
  by_cases h2 : 3 < a.toInt64
  · rw [if_pos h2] at h; exact absurd rfl h
  rw [Int64.lt_iff_toInt_lt, Int32.toInt_toInt64] at h1 h2
  have e0 : (0 : Int64).toInt = 0 := rfl
  have e1 : (3 : Int64).toInt = 3 := rfl
  rw [e0] at h1; rw [e1] at h2
  exact vp_of (by omega) (by omega)
def f_X3_sought (p1 : Int64) (p2 : Int32) (p3 : Int32) : Int64 := (if (f_X3_weekdayOf p1) = p2 then p1 else (if (f_X3_weekdayOf (p1 + (p3).toInt64)) = p2 then (p1 + (p3).toInt64) else (if (f_X3_weekdayOf ((p1 + (p3).toInt64) + (p3).toInt64)) = p2 then ((p1 + (p3).toInt64) + (p3).toInt64) else (if (f_X3_weekdayOf (((p1 + (p3).toInt64) + (p3).toInt64) + (p3).toInt64)) = p2 then (((p1 + (p3).toInt64) + (p3).toInt64) + (p3).toInt64) else (if (f_X3_weekdayOf ((((p1 + (p3).toInt64) + (p3).toInt64) + (p3).toInt64) + (p3).toInt64)) = p2 then ((((p1 + (p3).toInt64) + (p3).toInt64) + (p3).toInt64) + (p3).toInt64) else (if (f_X3_weekdayOf (((((p1 + (p3).toInt64) + (p3).toInt64) + (p3).toInt64) + (p3).toInt64) + (p3).toInt64)) = p2 then (((((p1 + (p3).toInt64) + (p3).toInt64) + (p3).toInt64) + (p3).toInt64) + (p3).toInt64) else ((((((p1 + (p3).toInt64) + (p3).toInt64) + (p3).toInt64) + (p3).toInt64) + (p3).toInt64) + (p3).toInt64)))))))
def pre_X3_sought (p1 : Int64) (p2 : Int32) (p3 : Int32) : Prop := ((¬ (f_X3_weekdayOf p1) = p2) → (¬ (f_X3_weekdayOf (p1 + (p3).toInt64)) = p2) → (¬ (f_X3_weekdayOf ((p1 + (p3).toInt64) + (p3).toInt64)) = p2) → (¬ (f_X3_weekdayOf (((p1 + (p3).toInt64) + (p3).toInt64) + (p3).toInt64)) = p2) → (¬ (f_X3_weekdayOf ((((p1 + (p3).toInt64) + (p3).toInt64) + (p3).toInt64) + (p3).toInt64)) = p2) → (¬ (f_X3_weekdayOf (((((p1 + (p3).toInt64) + (p3).toInt64) + (p3).toInt64) + (p3).toInt64) + (p3).toInt64)) = p2) → ((f_X3_weekdayOf ((((((p1 + (p3).toInt64) + (p3).toInt64) + (p3).toInt64) + (p3).toInt64) + (p3).toInt64) + (p3).toInt64)) = p2))
theorem q_X3_sought : ZY yX3_sought wsX3_sought cX3_sought 6 (some .long) 3 := ⟨⟨_, rfl⟩, by decide +kernel, by decide +kernel, by decide +kernel⟩
set_option maxHeartbeats 4000000 in
set_option maxRecDepth 100000 in
theorem c_X3_sought (l : Launch) (hfl : l.stackTraces = false) (D : va_G) (cI cJ : ClassId) (X : va_W) (p1 : Int64) (p2 : Int32) (p3 : Int32)  (h_g : pre_X3_sought p1 p2 p3) : ZM l yX3_sought wsX3_sought { frames := 3, cells := 0, slots := 0, locals := 67 } [.long p1, .int p2, .int p3] D (zTys cI cJ) X 0 0 (fun v w => v = some (.long (f_X3_sought p1 p2 p3)) ∧ w = X) (fun _ _ => False) := by
  refine z_open (own := RX3) hfl (cc := cX3_sought) (maxL := 6) (ret := (some .long)) (lv := [(0, .long p1), (2, .int p2), (3, .int p3)]) rfl (by decide) rfl rfl (Nat.le_of_ble_eq_true rfl) ?_
  intro p e s m args below meth c A C hno hnm hargs
  have g_0 := h_g
  refine z_lload_n C dX3_sought_0 rfl 0 rfl ?_
  refine z_lstore (lv' := [(4, .long p1), (0, .long p1), (2, .int p2), (3, .int p3)]) C dX3_sought_1 (by decide) rfl ?_
  refine z_lload C dX3_sought_3 0 rfl ?_
  refine z_si (rest := []) C (c_X3_weekdayOf l hfl D cI cJ _ p1 ) q_X3_weekdayOf gX3_sought_X3_weekdayOf ⟨rfl, rfl⟩ rfl rfl (Nat.le_of_ble_eq_true rfl) ⟨Nat.le_of_ble_eq_true rfl, Nat.le_of_ble_eq_true rfl⟩ ⟨Nat.le_of_ble_eq_true rfl, Nat.le_of_ble_eq_true rfl⟩ dX3_sought_5 ?_
  refine z_iload_n C dX3_sought_8 rfl 2 rfl ?_
  refine z_icmp_eq (tgt := 22) C dX3_sought_9 (by decide) (fun h1 => ?_) (fun h1 => ?_)
  · refine z_lload C dX3_sought_22 0 rfl ?_
    exact z_lret C ⟨congrArg (fun v => some (Value.long v)) (by rw [f_X3_sought, if_pos h1] : p1 = (f_X3_sought p1 p2 p3)), rfl⟩ (by decide) (by decide) dX3_sought_24
  · refine z_lload C dX3_sought_12 0 rfl ?_
    refine z_iload_n C dX3_sought_14 rfl 3 rfl ?_
    refine z_i2l (v := (p3).toInt64) C dX3_sought_15 rfl ?_
    refine z_ladd C dX3_sought_16 ?_
    refine z_lstore (lv' := [(4, .long (p1 + (p3).toInt64)), (0, .long p1), (2, .int p2), (3, .int p3)]) C dX3_sought_17 (by decide) rfl ?_
    refine z_goto (tgt := 3) C dX3_sought_19 (by decide) ?_
    refine z_lload C dX3_sought_3 0 rfl ?_
    refine z_si (rest := []) C (c_X3_weekdayOf l hfl D cI cJ _ (p1 + (p3).toInt64) ) q_X3_weekdayOf gX3_sought_X3_weekdayOf ⟨rfl, rfl⟩ rfl rfl (Nat.le_of_ble_eq_true rfl) ⟨Nat.le_of_ble_eq_true rfl, Nat.le_of_ble_eq_true rfl⟩ ⟨Nat.le_of_ble_eq_true rfl, Nat.le_of_ble_eq_true rfl⟩ dX3_sought_5 ?_
    refine z_iload_n C dX3_sought_8 rfl 2 rfl ?_
    refine z_icmp_eq (tgt := 22) C dX3_sought_9 (by decide) (fun h2 => ?_) (fun h2 => ?_)
    · refine z_lload C dX3_sought_22 0 rfl ?_
      exact z_lret C ⟨congrArg (fun v => some (Value.long v)) (by rw [f_X3_sought, if_neg h1, if_pos h2] : (p1 + (p3).toInt64) = (f_X3_sought p1 p2 p3)), rfl⟩ (by decide) (by decide) dX3_sought_24
    · refine z_lload C dX3_sought_12 0 rfl ?_
      refine z_iload_n C dX3_sought_14 rfl 3 rfl ?_
      refine z_i2l (v := (p3).toInt64) C dX3_sought_15 rfl ?_
      refine z_ladd C dX3_sought_16 ?_
      refine z_lstore (lv' := [(4, .long ((p1 + (p3).toInt64) + (p3).toInt64)), (0, .long p1), (2, .int p2), (3, .int p3)]) C dX3_sought_17 (by decide) rfl ?_
      refine z_goto (tgt := 3) C dX3_sought_19 (by decide) ?_
      refine z_lload C dX3_sought_3 0 rfl ?_
      refine z_si (rest := []) C (c_X3_weekdayOf l hfl D cI cJ _ ((p1 + (p3).toInt64) + (p3).toInt64) ) q_X3_weekdayOf gX3_sought_X3_weekdayOf ⟨rfl, rfl⟩ rfl rfl (Nat.le_of_ble_eq_true rfl) ⟨Nat.le_of_ble_eq_true rfl, Nat.le_of_ble_eq_true rfl⟩ ⟨Nat.le_of_ble_eq_true rfl, Nat.le_of_ble_eq_true rfl⟩ dX3_sought_5 ?_
      refine z_iload_n C dX3_sought_8 rfl 2 rfl ?_
      refine z_icmp_eq (tgt := 22) C dX3_sought_9 (by decide) (fun h3 => ?_) (fun h3 => ?_)
      · refine z_lload C dX3_sought_22 0 rfl ?_
        exact z_lret C ⟨congrArg (fun v => some (Value.long v)) (by rw [f_X3_sought, if_neg h1, if_neg h2, if_pos h3] : ((p1 + (p3).toInt64) + (p3).toInt64) = (f_X3_sought p1 p2 p3)), rfl⟩ (by decide) (by decide) dX3_sought_24
      · refine z_lload C dX3_sought_12 0 rfl ?_
        refine z_iload_n C dX3_sought_14 rfl 3 rfl ?_
        refine z_i2l (v := (p3).toInt64) C dX3_sought_15 rfl ?_
        refine z_ladd C dX3_sought_16 ?_
        refine z_lstore (lv' := [(4, .long (((p1 + (p3).toInt64) + (p3).toInt64) + (p3).toInt64)), (0, .long p1), (2, .int p2), (3, .int p3)]) C dX3_sought_17 (by decide) rfl ?_
        refine z_goto (tgt := 3) C dX3_sought_19 (by decide) ?_
        refine z_lload C dX3_sought_3 0 rfl ?_
        refine z_si (rest := []) C (c_X3_weekdayOf l hfl D cI cJ _ (((p1 + (p3).toInt64) + (p3).toInt64) + (p3).toInt64) ) q_X3_weekdayOf gX3_sought_X3_weekdayOf ⟨rfl, rfl⟩ rfl rfl (Nat.le_of_ble_eq_true rfl) ⟨Nat.le_of_ble_eq_true rfl, Nat.le_of_ble_eq_true rfl⟩ ⟨Nat.le_of_ble_eq_true rfl, Nat.le_of_ble_eq_true rfl⟩ dX3_sought_5 ?_
        refine z_iload_n C dX3_sought_8 rfl 2 rfl ?_
        refine z_icmp_eq (tgt := 22) C dX3_sought_9 (by decide) (fun h4 => ?_) (fun h4 => ?_)
        · refine z_lload C dX3_sought_22 0 rfl ?_
          exact z_lret C ⟨congrArg (fun v => some (Value.long v)) (by rw [f_X3_sought, if_neg h1, if_neg h2, if_neg h3, if_pos h4] : (((p1 + (p3).toInt64) + (p3).toInt64) + (p3).toInt64) = (f_X3_sought p1 p2 p3)), rfl⟩ (by decide) (by decide) dX3_sought_24
        · refine z_lload C dX3_sought_12 0 rfl ?_
          refine z_iload_n C dX3_sought_14 rfl 3 rfl ?_
          refine z_i2l (v := (p3).toInt64) C dX3_sought_15 rfl ?_
          refine z_ladd C dX3_sought_16 ?_
          refine z_lstore (lv' := [(4, .long ((((p1 + (p3).toInt64) + (p3).toInt64) + (p3).toInt64) + (p3).toInt64)), (0, .long p1), (2, .int p2), (3, .int p3)]) C dX3_sought_17 (by decide) rfl ?_
          refine z_goto (tgt := 3) C dX3_sought_19 (by decide) ?_
          refine z_lload C dX3_sought_3 0 rfl ?_
          refine z_si (rest := []) C (c_X3_weekdayOf l hfl D cI cJ _ ((((p1 + (p3).toInt64) + (p3).toInt64) + (p3).toInt64) + (p3).toInt64) ) q_X3_weekdayOf gX3_sought_X3_weekdayOf ⟨rfl, rfl⟩ rfl rfl (Nat.le_of_ble_eq_true rfl) ⟨Nat.le_of_ble_eq_true rfl, Nat.le_of_ble_eq_true rfl⟩ ⟨Nat.le_of_ble_eq_true rfl, Nat.le_of_ble_eq_true rfl⟩ dX3_sought_5 ?_
          refine z_iload_n C dX3_sought_8 rfl 2 rfl ?_
          refine z_icmp_eq (tgt := 22) C dX3_sought_9 (by decide) (fun h5 => ?_) (fun h5 => ?_)
          · refine z_lload C dX3_sought_22 0 rfl ?_
            exact z_lret C ⟨congrArg (fun v => some (Value.long v)) (by rw [f_X3_sought, if_neg h1, if_neg h2, if_neg h3, if_neg h4, if_pos h5] : ((((p1 + (p3).toInt64) + (p3).toInt64) + (p3).toInt64) + (p3).toInt64) = (f_X3_sought p1 p2 p3)), rfl⟩ (by decide) (by decide) dX3_sought_24
          · refine z_lload C dX3_sought_12 0 rfl ?_
            refine z_iload_n C dX3_sought_14 rfl 3 rfl ?_
            refine z_i2l (v := (p3).toInt64) C dX3_sought_15 rfl ?_
            refine z_ladd C dX3_sought_16 ?_
            refine z_lstore (lv' := [(4, .long (((((p1 + (p3).toInt64) + (p3).toInt64) + (p3).toInt64) + (p3).toInt64) + (p3).toInt64)), (0, .long p1), (2, .int p2), (3, .int p3)]) C dX3_sought_17 (by decide) rfl ?_
            refine z_goto (tgt := 3) C dX3_sought_19 (by decide) ?_
            refine z_lload C dX3_sought_3 0 rfl ?_
            refine z_si (rest := []) C (c_X3_weekdayOf l hfl D cI cJ _ (((((p1 + (p3).toInt64) + (p3).toInt64) + (p3).toInt64) + (p3).toInt64) + (p3).toInt64) ) q_X3_weekdayOf gX3_sought_X3_weekdayOf ⟨rfl, rfl⟩ rfl rfl (Nat.le_of_ble_eq_true rfl) ⟨Nat.le_of_ble_eq_true rfl, Nat.le_of_ble_eq_true rfl⟩ ⟨Nat.le_of_ble_eq_true rfl, Nat.le_of_ble_eq_true rfl⟩ dX3_sought_5 ?_
            refine z_iload_n C dX3_sought_8 rfl 2 rfl ?_
            refine z_icmp_eq (tgt := 22) C dX3_sought_9 (by decide) (fun h6 => ?_) (fun h6 => ?_)
            · refine z_lload C dX3_sought_22 0 rfl ?_
              exact z_lret C ⟨congrArg (fun v => some (Value.long v)) (by rw [f_X3_sought, if_neg h1, if_neg h2, if_neg h3, if_neg h4, if_neg h5, if_pos h6] : (((((p1 + (p3).toInt64) + (p3).toInt64) + (p3).toInt64) + (p3).toInt64) + (p3).toInt64) = (f_X3_sought p1 p2 p3)), rfl⟩ (by decide) (by decide) dX3_sought_24
            · refine z_lload C dX3_sought_12 0 rfl ?_
              refine z_iload_n C dX3_sought_14 rfl 3 rfl ?_
              refine z_i2l (v := (p3).toInt64) C dX3_sought_15 rfl ?_
              refine z_ladd C dX3_sought_16 ?_
              refine z_lstore (lv' := [(4, .long ((((((p1 + (p3).toInt64) + (p3).toInt64) + (p3).toInt64) + (p3).toInt64) + (p3).toInt64) + (p3).toInt64)), (0, .long p1), (2, .int p2), (3, .int p3)]) C dX3_sought_17 (by decide) rfl ?_
              refine z_goto (tgt := 3) C dX3_sought_19 (by decide) ?_
              refine z_lload C dX3_sought_3 0 rfl ?_
              refine z_si (rest := []) C (c_X3_weekdayOf l hfl D cI cJ _ ((((((p1 + (p3).toInt64) + (p3).toInt64) + (p3).toInt64) + (p3).toInt64) + (p3).toInt64) + (p3).toInt64) ) q_X3_weekdayOf gX3_sought_X3_weekdayOf ⟨rfl, rfl⟩ rfl rfl (Nat.le_of_ble_eq_true rfl) ⟨Nat.le_of_ble_eq_true rfl, Nat.le_of_ble_eq_true rfl⟩ ⟨Nat.le_of_ble_eq_true rfl, Nat.le_of_ble_eq_true rfl⟩ dX3_sought_5 ?_
              refine z_iload_n C dX3_sought_8 rfl 2 rfl ?_
              refine z_icmp_eq (tgt := 22) C dX3_sought_9 (by decide) (fun _ => ?_) (fun h => absurd (g_0 h1 h2 h3 h4 h5 h6) h)
              refine z_lload C dX3_sought_22 0 rfl ?_
              exact z_lret C ⟨congrArg (fun v => some (Value.long v)) (by rw [f_X3_sought, if_neg h1, if_neg h2, if_neg h3, if_neg h4, if_neg h5, if_neg h6] : ((((((p1 + (p3).toInt64) + (p3).toInt64) + (p3).toInt64) + (p3).toInt64) + (p3).toInt64) + (p3).toInt64) = (f_X3_sought p1 p2 p3)), rfl⟩ (by decide) (by decide) dX3_sought_24
def f_X3_round (p1 : Int64) (p2 : Int64) : Int64 := ((f_X3_rest p1 (86400000000000 / p2)) * p2)
def pre_X3_round (p2 : Int64) : Prop := ((¬ (86400000000000 / p2) = 0))
theorem q_X3_round : ZY yX3_round wsX3_round cX3_round 4 (some .long) 2 := ⟨⟨_, rfl⟩, by decide +kernel, by decide +kernel, by decide +kernel⟩
set_option maxHeartbeats 4000000 in
set_option maxRecDepth 100000 in
theorem c_X3_round (l : Launch) (hfl : l.stackTraces = false) (D : va_G) (cI cJ : ClassId) (X : va_W) (p1 : Int64) (p2 : Int64) (h_0 : ¬ p2 = 0) (h_g : pre_X3_round p2) : ZM l yX3_round wsX3_round { frames := 2, cells := 0, slots := 0, locals := 46 } [.long p1, .long p2] D (zTys cI cJ) X 0 0 (fun v w => v = some (.long (f_X3_round p1 p2)) ∧ w = X) (fun _ _ => False) := by
  refine z_open (own := RX3) hfl (cc := cX3_round) (maxL := 4) (ret := (some .long)) (lv := [(0, .long p1), (2, .long p2)]) rfl (by decide) rfl rfl (Nat.le_of_ble_eq_true rfl) ?_
  intro p e s m args below meth c A C hno hnm hargs
  have w1 := C.1.2.2.2.2 (.constantLong RX3 205 (86400000000000)) (by decide +kernel)
  have g_0 := h_g
  refine z_lload_n C dX3_round_0 rfl 0 rfl ?_
  refine z_ldc2 (v := 86400000000000) C w1 dX3_round_1 ?_
  refine z_lload_n C dX3_round_4 rfl 1 rfl ?_
  refine z_ldiv C dX3_round_5 h_0 ?_
  refine z_sl (rest := []) C (c_X3_rest l hfl D cI cJ _ p1 (86400000000000 / p2) (g_0)) q_X3_rest gX3_round_X3_rest ⟨rfl, rfl⟩ rfl rfl (Nat.le_of_ble_eq_true rfl) ⟨Nat.le_of_ble_eq_true rfl, Nat.le_of_ble_eq_true rfl⟩ ⟨Nat.le_of_ble_eq_true rfl, Nat.le_of_ble_eq_true rfl⟩ dX3_round_6 ?_
  refine z_lload_n C dX3_round_9 rfl 1 rfl ?_
  refine z_lmul C dX3_round_10 ?_
  exact z_lret C ⟨congrArg (fun v => some (Value.long v)) (rfl : ((f_X3_rest p1 (86400000000000 / p2)) * p2) = (f_X3_round p1 p2)), rfl⟩ (by decide) (by decide) dX3_round_11
theorem q_X3_thrown : ZY yX3_thrown wsX3_thrown cX3_thrown 1 (some .int) 0 := ⟨⟨_, rfl⟩, by decide +kernel, by decide +kernel, by decide +kernel⟩
set_option maxHeartbeats 4000000 in
set_option maxRecDepth 100000 in
theorem c_X3_thrown (l : Launch) (hfl : l.stackTraces = false) (D : va_G) (cI cJ : ClassId) (X : va_W) (z : Nat → Nat) (co : Int32) (d : Nat → Int64) (ti : Nat → Int64) (sL : Nat → Int64) (bL : Nat → Int64) (mD : Nat → Int64) (mT : Nat → Int64) (sy : Nat → Int64) (sm : Nat → Int64) (sd : Nat → Int64) (mi : Nat → Int64) (yr : Int64) (mo : Int32) (dy : Int32)  : ZM l yX3_thrown wsX3_thrown { frames := 0, cells := 0, slots := 0, locals := 0 } [.ref (z 0)] D (zTys cI cJ) (wM cI cJ z co d ti sL bL mD mT sy sm sd mi yr mo dy X) 0 0 (fun v w => v = some (.int co) ∧ w = (wM cI cJ z co d ti sL bL mD mT sy sm sd mi yr mo dy X)) (fun _ _ => False) := by
  refine z_open (own := RX3) hfl (cc := cX3_thrown) (maxL := 1) (ret := (some .int)) (lv := [(0, .ref (z 0))]) rfl (by decide) rfl rfl (Nat.le_of_ble_eq_true rfl) ?_
  intro p e s m args below meth c A C hno hnm hargs
  have hin : ∀ w ∈ wsX30, w ∈ wsX3_thrown := by decide +kernel
  have w1 := C.1.2.2.2.2 (.fieldLink RX3 1 "YearwheelModel" "code" "I") (by decide +kernel)
  refine z_aload_n C dX3_thrown_0 rfl 0 rfl ?_
  refine z_get (CC := RX3) (T := TX3) (N := 14) (ci := 3) C hin 0 rfl rfl 0 (by decide) w1 rfl rfl dX3_thrown_1 ?_
  exact z_iret C ⟨congrArg (fun v => some (Value.int v)) (rfl : co = co), rfl⟩ (by decide) (by decide) dX3_thrown_4
def f_X3_fails (p1 : Int32) : Int32 := (if p1 ≤ 0 then 0 else 1)
def s_X3_fails_co (p1 : Int32) : Int32 := (if p1 ≤ 0 then p1 else p1)
theorem q_X3_fails : ZY yX3_fails wsX3_fails cX3_fails 2 (some .boolean) 1 := ⟨⟨_, rfl⟩, by decide +kernel, by decide +kernel, by decide +kernel⟩
set_option maxHeartbeats 4000000 in
set_option maxRecDepth 100000 in
theorem c_X3_fails (l : Launch) (hfl : l.stackTraces = false) (D : va_G) (cI cJ : ClassId) (X : va_W) (z : Nat → Nat) (co : Int32) (d : Nat → Int64) (ti : Nat → Int64) (sL : Nat → Int64) (bL : Nat → Int64) (mD : Nat → Int64) (mT : Nat → Int64) (sy : Nat → Int64) (sm : Nat → Int64) (sd : Nat → Int64) (mi : Nat → Int64) (yr : Int64) (mo : Int32) (dy : Int32) (p1 : Int32)  : ZM l yX3_fails wsX3_fails { frames := 0, cells := 0, slots := 0, locals := 0 } [.ref (z 0), .int p1] D (zTys cI cJ) (wM cI cJ z co d ti sL bL mD mT sy sm sd mi yr mo dy X) 0 0 (fun v w => v = some (.int (f_X3_fails p1)) ∧ w = (wM cI cJ z (s_X3_fails_co p1) d ti sL bL mD mT sy sm sd mi yr mo dy X)) (fun _ _ => False) := by
  refine z_open (own := RX3) hfl (cc := cX3_fails) (maxL := 2) (ret := (some .boolean)) (lv := [(0, .ref (z 0)), (1, .int p1)]) rfl (by decide) rfl rfl (Nat.le_of_ble_eq_true rfl) ?_
  intro p e s m args below meth c A C hno hnm hargs
  have hin : ∀ w ∈ wsX30, w ∈ wsX3_fails := by decide +kernel
  have w1 := C.1.2.2.2.2 (.fieldLink RX3 1 "YearwheelModel" "code" "I") (by decide +kernel)
  refine z_aload_n C dX3_fails_0 rfl 0 rfl ?_
  refine z_iload_n C dX3_fails_1 rfl 1 rfl ?_
  refine z_put (CC := RX3) (T := TX3) (N := 14) (ci := 3) C hin tyX3 tyX3_ok nmX3 0 rfl rfl 0 (by decide) w1 rfl rfl rfl rfl rfl (Nat.le_of_ble_eq_true rfl) (ws' := (wM cI cJ z p1 d ti sL bL mD mT sy sm sd mi yr mo dy X)) rfl dX3_fails_2 ?_
  refine z_iload_n C dX3_fails_5 rfl 1 rfl ?_
  refine z_if_le (tgt := 13) C dX3_fails_6 (by decide) (fun h1 => ?_) (fun h1 => ?_)
  · refine z_iconst (v := 0) C dX3_fails_13 (by decide) ?_
    exact z_zret C (by decide) ⟨congrArg (fun v => some (Value.int v)) (by rw [f_X3_fails, if_pos h1] : (0 : Int32) = (f_X3_fails p1)), by rw [s_X3_fails_co, if_pos h1]⟩ (by decide) (by decide) dX3_fails_14
  · refine z_iconst (v := 1) C dX3_fails_9 (by decide) ?_
    refine z_goto (tgt := 14) C dX3_fails_10 (by decide) ?_
    exact z_zret C (by decide) ⟨congrArg (fun v => some (Value.int v)) (by rw [f_X3_fails, if_neg h1] : (1 : Int32) = (f_X3_fails p1)), by rw [s_X3_fails_co, if_neg h1]⟩ (by decide) (by decide) dX3_fails_14
theorem b_X3_fails (p1 : Int32) : f_X3_fails p1 = 0 ∨ f_X3_fails p1 = 1 := by
  unfold f_X3_fails
  repeat (first | apply z01_ite | exact Or.inl rfl | exact Or.inr rfl | apply zbor)
def f_X3_parts_j1 (p1 : Int64) : Int64 := (if (f_X3_first (1970 + (f_X3_floor (p1 * 400) 146097))) ≤ p1 then (1970 + (f_X3_floor (p1 * 400) 146097)) else ((1970 + (f_X3_floor (p1 * 400) 146097)) - 1))
def f_X3_parts_j2 (p1 : Int64) : Int64 := (if p1 < (f_X3_first ((f_X3_parts_j1 p1) + 1)) then (f_X3_parts_j1 p1) else ((f_X3_parts_j1 p1) + 1))
def f_X3_parts_j3a (p1 : Int64) : Int64 := (if (p1 - (f_X3_first (f_X3_parts_j2 p1))) < ((f_X3_many (f_X3_parts_j2 p1) 1)).toInt64 then (p1 - (f_X3_first (f_X3_parts_j2 p1))) else (if ((p1 - (f_X3_first (f_X3_parts_j2 p1))) - ((f_X3_many (f_X3_parts_j2 p1) 1)).toInt64) < ((f_X3_many (f_X3_parts_j2 p1) 2)).toInt64 then ((p1 - (f_X3_first (f_X3_parts_j2 p1))) - ((f_X3_many (f_X3_parts_j2 p1) 1)).toInt64) else (if (((p1 - (f_X3_first (f_X3_parts_j2 p1))) - ((f_X3_many (f_X3_parts_j2 p1) 1)).toInt64) - ((f_X3_many (f_X3_parts_j2 p1) 2)).toInt64) < ((f_X3_many (f_X3_parts_j2 p1) 3)).toInt64 then (((p1 - (f_X3_first (f_X3_parts_j2 p1))) - ((f_X3_many (f_X3_parts_j2 p1) 1)).toInt64) - ((f_X3_many (f_X3_parts_j2 p1) 2)).toInt64) else (if ((((p1 - (f_X3_first (f_X3_parts_j2 p1))) - ((f_X3_many (f_X3_parts_j2 p1) 1)).toInt64) - ((f_X3_many (f_X3_parts_j2 p1) 2)).toInt64) - ((f_X3_many (f_X3_parts_j2 p1) 3)).toInt64) < ((f_X3_many (f_X3_parts_j2 p1) 4)).toInt64 then ((((p1 - (f_X3_first (f_X3_parts_j2 p1))) - ((f_X3_many (f_X3_parts_j2 p1) 1)).toInt64) - ((f_X3_many (f_X3_parts_j2 p1) 2)).toInt64) - ((f_X3_many (f_X3_parts_j2 p1) 3)).toInt64) else (if (((((p1 - (f_X3_first (f_X3_parts_j2 p1))) - ((f_X3_many (f_X3_parts_j2 p1) 1)).toInt64) - ((f_X3_many (f_X3_parts_j2 p1) 2)).toInt64) - ((f_X3_many (f_X3_parts_j2 p1) 3)).toInt64) - ((f_X3_many (f_X3_parts_j2 p1) 4)).toInt64) < ((f_X3_many (f_X3_parts_j2 p1) 5)).toInt64 then (((((p1 - (f_X3_first (f_X3_parts_j2 p1))) - ((f_X3_many (f_X3_parts_j2 p1) 1)).toInt64) - ((f_X3_many (f_X3_parts_j2 p1) 2)).toInt64) - ((f_X3_many (f_X3_parts_j2 p1) 3)).toInt64) - ((f_X3_many (f_X3_parts_j2 p1) 4)).toInt64) else (if ((((((p1 - (f_X3_first (f_X3_parts_j2 p1))) - ((f_X3_many (f_X3_parts_j2 p1) 1)).toInt64) - ((f_X3_many (f_X3_parts_j2 p1) 2)).toInt64) - ((f_X3_many (f_X3_parts_j2 p1) 3)).toInt64) - ((f_X3_many (f_X3_parts_j2 p1) 4)).toInt64) - ((f_X3_many (f_X3_parts_j2 p1) 5)).toInt64) < ((f_X3_many (f_X3_parts_j2 p1) 6)).toInt64 then ((((((p1 - (f_X3_first (f_X3_parts_j2 p1))) - ((f_X3_many (f_X3_parts_j2 p1) 1)).toInt64) - ((f_X3_many (f_X3_parts_j2 p1) 2)).toInt64) - ((f_X3_many (f_X3_parts_j2 p1) 3)).toInt64) - ((f_X3_many (f_X3_parts_j2 p1) 4)).toInt64) - ((f_X3_many (f_X3_parts_j2 p1) 5)).toInt64) else (if (((((((p1 - (f_X3_first (f_X3_parts_j2 p1))) - ((f_X3_many (f_X3_parts_j2 p1) 1)).toInt64) - ((f_X3_many (f_X3_parts_j2 p1) 2)).toInt64) - ((f_X3_many (f_X3_parts_j2 p1) 3)).toInt64) - ((f_X3_many (f_X3_parts_j2 p1) 4)).toInt64) - ((f_X3_many (f_X3_parts_j2 p1) 5)).toInt64) - ((f_X3_many (f_X3_parts_j2 p1) 6)).toInt64) < ((f_X3_many (f_X3_parts_j2 p1) 7)).toInt64 then (((((((p1 - (f_X3_first (f_X3_parts_j2 p1))) - ((f_X3_many (f_X3_parts_j2 p1) 1)).toInt64) - ((f_X3_many (f_X3_parts_j2 p1) 2)).toInt64) - ((f_X3_many (f_X3_parts_j2 p1) 3)).toInt64) - ((f_X3_many (f_X3_parts_j2 p1) 4)).toInt64) - ((f_X3_many (f_X3_parts_j2 p1) 5)).toInt64) - ((f_X3_many (f_X3_parts_j2 p1) 6)).toInt64) else (if ((((((((p1 - (f_X3_first (f_X3_parts_j2 p1))) - ((f_X3_many (f_X3_parts_j2 p1) 1)).toInt64) - ((f_X3_many (f_X3_parts_j2 p1) 2)).toInt64) - ((f_X3_many (f_X3_parts_j2 p1) 3)).toInt64) - ((f_X3_many (f_X3_parts_j2 p1) 4)).toInt64) - ((f_X3_many (f_X3_parts_j2 p1) 5)).toInt64) - ((f_X3_many (f_X3_parts_j2 p1) 6)).toInt64) - ((f_X3_many (f_X3_parts_j2 p1) 7)).toInt64) < ((f_X3_many (f_X3_parts_j2 p1) 8)).toInt64 then ((((((((p1 - (f_X3_first (f_X3_parts_j2 p1))) - ((f_X3_many (f_X3_parts_j2 p1) 1)).toInt64) - ((f_X3_many (f_X3_parts_j2 p1) 2)).toInt64) - ((f_X3_many (f_X3_parts_j2 p1) 3)).toInt64) - ((f_X3_many (f_X3_parts_j2 p1) 4)).toInt64) - ((f_X3_many (f_X3_parts_j2 p1) 5)).toInt64) - ((f_X3_many (f_X3_parts_j2 p1) 6)).toInt64) - ((f_X3_many (f_X3_parts_j2 p1) 7)).toInt64) else (if (((((((((p1 - (f_X3_first (f_X3_parts_j2 p1))) - ((f_X3_many (f_X3_parts_j2 p1) 1)).toInt64) - ((f_X3_many (f_X3_parts_j2 p1) 2)).toInt64) - ((f_X3_many (f_X3_parts_j2 p1) 3)).toInt64) - ((f_X3_many (f_X3_parts_j2 p1) 4)).toInt64) - ((f_X3_many (f_X3_parts_j2 p1) 5)).toInt64) - ((f_X3_many (f_X3_parts_j2 p1) 6)).toInt64) - ((f_X3_many (f_X3_parts_j2 p1) 7)).toInt64) - ((f_X3_many (f_X3_parts_j2 p1) 8)).toInt64) < ((f_X3_many (f_X3_parts_j2 p1) 9)).toInt64 then (((((((((p1 - (f_X3_first (f_X3_parts_j2 p1))) - ((f_X3_many (f_X3_parts_j2 p1) 1)).toInt64) - ((f_X3_many (f_X3_parts_j2 p1) 2)).toInt64) - ((f_X3_many (f_X3_parts_j2 p1) 3)).toInt64) - ((f_X3_many (f_X3_parts_j2 p1) 4)).toInt64) - ((f_X3_many (f_X3_parts_j2 p1) 5)).toInt64) - ((f_X3_many (f_X3_parts_j2 p1) 6)).toInt64) - ((f_X3_many (f_X3_parts_j2 p1) 7)).toInt64) - ((f_X3_many (f_X3_parts_j2 p1) 8)).toInt64) else (if ((((((((((p1 - (f_X3_first (f_X3_parts_j2 p1))) - ((f_X3_many (f_X3_parts_j2 p1) 1)).toInt64) - ((f_X3_many (f_X3_parts_j2 p1) 2)).toInt64) - ((f_X3_many (f_X3_parts_j2 p1) 3)).toInt64) - ((f_X3_many (f_X3_parts_j2 p1) 4)).toInt64) - ((f_X3_many (f_X3_parts_j2 p1) 5)).toInt64) - ((f_X3_many (f_X3_parts_j2 p1) 6)).toInt64) - ((f_X3_many (f_X3_parts_j2 p1) 7)).toInt64) - ((f_X3_many (f_X3_parts_j2 p1) 8)).toInt64) - ((f_X3_many (f_X3_parts_j2 p1) 9)).toInt64) < ((f_X3_many (f_X3_parts_j2 p1) 10)).toInt64 then ((((((((((p1 - (f_X3_first (f_X3_parts_j2 p1))) - ((f_X3_many (f_X3_parts_j2 p1) 1)).toInt64) - ((f_X3_many (f_X3_parts_j2 p1) 2)).toInt64) - ((f_X3_many (f_X3_parts_j2 p1) 3)).toInt64) - ((f_X3_many (f_X3_parts_j2 p1) 4)).toInt64) - ((f_X3_many (f_X3_parts_j2 p1) 5)).toInt64) - ((f_X3_many (f_X3_parts_j2 p1) 6)).toInt64) - ((f_X3_many (f_X3_parts_j2 p1) 7)).toInt64) - ((f_X3_many (f_X3_parts_j2 p1) 8)).toInt64) - ((f_X3_many (f_X3_parts_j2 p1) 9)).toInt64) else (if (((((((((((p1 - (f_X3_first (f_X3_parts_j2 p1))) - ((f_X3_many (f_X3_parts_j2 p1) 1)).toInt64) - ((f_X3_many (f_X3_parts_j2 p1) 2)).toInt64) - ((f_X3_many (f_X3_parts_j2 p1) 3)).toInt64) - ((f_X3_many (f_X3_parts_j2 p1) 4)).toInt64) - ((f_X3_many (f_X3_parts_j2 p1) 5)).toInt64) - ((f_X3_many (f_X3_parts_j2 p1) 6)).toInt64) - ((f_X3_many (f_X3_parts_j2 p1) 7)).toInt64) - ((f_X3_many (f_X3_parts_j2 p1) 8)).toInt64) - ((f_X3_many (f_X3_parts_j2 p1) 9)).toInt64) - ((f_X3_many (f_X3_parts_j2 p1) 10)).toInt64) < ((f_X3_many (f_X3_parts_j2 p1) 11)).toInt64 then (((((((((((p1 - (f_X3_first (f_X3_parts_j2 p1))) - ((f_X3_many (f_X3_parts_j2 p1) 1)).toInt64) - ((f_X3_many (f_X3_parts_j2 p1) 2)).toInt64) - ((f_X3_many (f_X3_parts_j2 p1) 3)).toInt64) - ((f_X3_many (f_X3_parts_j2 p1) 4)).toInt64) - ((f_X3_many (f_X3_parts_j2 p1) 5)).toInt64) - ((f_X3_many (f_X3_parts_j2 p1) 6)).toInt64) - ((f_X3_many (f_X3_parts_j2 p1) 7)).toInt64) - ((f_X3_many (f_X3_parts_j2 p1) 8)).toInt64) - ((f_X3_many (f_X3_parts_j2 p1) 9)).toInt64) - ((f_X3_many (f_X3_parts_j2 p1) 10)).toInt64) else ((((((((((((p1 - (f_X3_first (f_X3_parts_j2 p1))) - ((f_X3_many (f_X3_parts_j2 p1) 1)).toInt64) - ((f_X3_many (f_X3_parts_j2 p1) 2)).toInt64) - ((f_X3_many (f_X3_parts_j2 p1) 3)).toInt64) - ((f_X3_many (f_X3_parts_j2 p1) 4)).toInt64) - ((f_X3_many (f_X3_parts_j2 p1) 5)).toInt64) - ((f_X3_many (f_X3_parts_j2 p1) 6)).toInt64) - ((f_X3_many (f_X3_parts_j2 p1) 7)).toInt64) - ((f_X3_many (f_X3_parts_j2 p1) 8)).toInt64) - ((f_X3_many (f_X3_parts_j2 p1) 9)).toInt64) - ((f_X3_many (f_X3_parts_j2 p1) 10)).toInt64) - ((f_X3_many (f_X3_parts_j2 p1) 11)).toInt64))))))))))))
def f_X3_parts_j3b (p1 : Int64) : Int32 := (if (p1 - (f_X3_first (f_X3_parts_j2 p1))) < ((f_X3_many (f_X3_parts_j2 p1) 1)).toInt64 then 1 else (if ((p1 - (f_X3_first (f_X3_parts_j2 p1))) - ((f_X3_many (f_X3_parts_j2 p1) 1)).toInt64) < ((f_X3_many (f_X3_parts_j2 p1) 2)).toInt64 then 2 else (if (((p1 - (f_X3_first (f_X3_parts_j2 p1))) - ((f_X3_many (f_X3_parts_j2 p1) 1)).toInt64) - ((f_X3_many (f_X3_parts_j2 p1) 2)).toInt64) < ((f_X3_many (f_X3_parts_j2 p1) 3)).toInt64 then 3 else (if ((((p1 - (f_X3_first (f_X3_parts_j2 p1))) - ((f_X3_many (f_X3_parts_j2 p1) 1)).toInt64) - ((f_X3_many (f_X3_parts_j2 p1) 2)).toInt64) - ((f_X3_many (f_X3_parts_j2 p1) 3)).toInt64) < ((f_X3_many (f_X3_parts_j2 p1) 4)).toInt64 then 4 else (if (((((p1 - (f_X3_first (f_X3_parts_j2 p1))) - ((f_X3_many (f_X3_parts_j2 p1) 1)).toInt64) - ((f_X3_many (f_X3_parts_j2 p1) 2)).toInt64) - ((f_X3_many (f_X3_parts_j2 p1) 3)).toInt64) - ((f_X3_many (f_X3_parts_j2 p1) 4)).toInt64) < ((f_X3_many (f_X3_parts_j2 p1) 5)).toInt64 then 5 else (if ((((((p1 - (f_X3_first (f_X3_parts_j2 p1))) - ((f_X3_many (f_X3_parts_j2 p1) 1)).toInt64) - ((f_X3_many (f_X3_parts_j2 p1) 2)).toInt64) - ((f_X3_many (f_X3_parts_j2 p1) 3)).toInt64) - ((f_X3_many (f_X3_parts_j2 p1) 4)).toInt64) - ((f_X3_many (f_X3_parts_j2 p1) 5)).toInt64) < ((f_X3_many (f_X3_parts_j2 p1) 6)).toInt64 then 6 else (if (((((((p1 - (f_X3_first (f_X3_parts_j2 p1))) - ((f_X3_many (f_X3_parts_j2 p1) 1)).toInt64) - ((f_X3_many (f_X3_parts_j2 p1) 2)).toInt64) - ((f_X3_many (f_X3_parts_j2 p1) 3)).toInt64) - ((f_X3_many (f_X3_parts_j2 p1) 4)).toInt64) - ((f_X3_many (f_X3_parts_j2 p1) 5)).toInt64) - ((f_X3_many (f_X3_parts_j2 p1) 6)).toInt64) < ((f_X3_many (f_X3_parts_j2 p1) 7)).toInt64 then 7 else (if ((((((((p1 - (f_X3_first (f_X3_parts_j2 p1))) - ((f_X3_many (f_X3_parts_j2 p1) 1)).toInt64) - ((f_X3_many (f_X3_parts_j2 p1) 2)).toInt64) - ((f_X3_many (f_X3_parts_j2 p1) 3)).toInt64) - ((f_X3_many (f_X3_parts_j2 p1) 4)).toInt64) - ((f_X3_many (f_X3_parts_j2 p1) 5)).toInt64) - ((f_X3_many (f_X3_parts_j2 p1) 6)).toInt64) - ((f_X3_many (f_X3_parts_j2 p1) 7)).toInt64) < ((f_X3_many (f_X3_parts_j2 p1) 8)).toInt64 then 8 else (if (((((((((p1 - (f_X3_first (f_X3_parts_j2 p1))) - ((f_X3_many (f_X3_parts_j2 p1) 1)).toInt64) - ((f_X3_many (f_X3_parts_j2 p1) 2)).toInt64) - ((f_X3_many (f_X3_parts_j2 p1) 3)).toInt64) - ((f_X3_many (f_X3_parts_j2 p1) 4)).toInt64) - ((f_X3_many (f_X3_parts_j2 p1) 5)).toInt64) - ((f_X3_many (f_X3_parts_j2 p1) 6)).toInt64) - ((f_X3_many (f_X3_parts_j2 p1) 7)).toInt64) - ((f_X3_many (f_X3_parts_j2 p1) 8)).toInt64) < ((f_X3_many (f_X3_parts_j2 p1) 9)).toInt64 then 9 else (if ((((((((((p1 - (f_X3_first (f_X3_parts_j2 p1))) - ((f_X3_many (f_X3_parts_j2 p1) 1)).toInt64) - ((f_X3_many (f_X3_parts_j2 p1) 2)).toInt64) - ((f_X3_many (f_X3_parts_j2 p1) 3)).toInt64) - ((f_X3_many (f_X3_parts_j2 p1) 4)).toInt64) - ((f_X3_many (f_X3_parts_j2 p1) 5)).toInt64) - ((f_X3_many (f_X3_parts_j2 p1) 6)).toInt64) - ((f_X3_many (f_X3_parts_j2 p1) 7)).toInt64) - ((f_X3_many (f_X3_parts_j2 p1) 8)).toInt64) - ((f_X3_many (f_X3_parts_j2 p1) 9)).toInt64) < ((f_X3_many (f_X3_parts_j2 p1) 10)).toInt64 then 10 else (if (((((((((((p1 - (f_X3_first (f_X3_parts_j2 p1))) - ((f_X3_many (f_X3_parts_j2 p1) 1)).toInt64) - ((f_X3_many (f_X3_parts_j2 p1) 2)).toInt64) - ((f_X3_many (f_X3_parts_j2 p1) 3)).toInt64) - ((f_X3_many (f_X3_parts_j2 p1) 4)).toInt64) - ((f_X3_many (f_X3_parts_j2 p1) 5)).toInt64) - ((f_X3_many (f_X3_parts_j2 p1) 6)).toInt64) - ((f_X3_many (f_X3_parts_j2 p1) 7)).toInt64) - ((f_X3_many (f_X3_parts_j2 p1) 8)).toInt64) - ((f_X3_many (f_X3_parts_j2 p1) 9)).toInt64) - ((f_X3_many (f_X3_parts_j2 p1) 10)).toInt64) < ((f_X3_many (f_X3_parts_j2 p1) 11)).toInt64 then 11 else 12)))))))))))
def s_X3_parts_yr (p1 : Int64) : Int64 := (f_X3_parts_j2 p1)
def s_X3_parts_mo (p1 : Int64) : Int32 := (f_X3_parts_j3b p1)
def s_X3_parts_dy (p1 : Int64) : Int32 := (((f_X3_parts_j3a p1)).toInt32 + 1)
def pre_X3_parts (p1 : Int64) : Prop := ((¬ (f_X3_first (1970 + (f_X3_floor (p1 * 400) 146097))) ≤ p1) → ((f_X3_first ((1970 + (f_X3_floor (p1 * 400) 146097)) - 1)) ≤ p1)) ∧ ((¬ p1 < (f_X3_first ((f_X3_parts_j1 p1) + 1))) → (p1 < (f_X3_first (((f_X3_parts_j1 p1) + 1) + 1)))) ∧ ((¬ (p1 - (f_X3_first (f_X3_parts_j2 p1))) < ((f_X3_many (f_X3_parts_j2 p1) 1)).toInt64) → (¬ ((p1 - (f_X3_first (f_X3_parts_j2 p1))) - ((f_X3_many (f_X3_parts_j2 p1) 1)).toInt64) < ((f_X3_many (f_X3_parts_j2 p1) 2)).toInt64) → (¬ (((p1 - (f_X3_first (f_X3_parts_j2 p1))) - ((f_X3_many (f_X3_parts_j2 p1) 1)).toInt64) - ((f_X3_many (f_X3_parts_j2 p1) 2)).toInt64) < ((f_X3_many (f_X3_parts_j2 p1) 3)).toInt64) → (¬ ((((p1 - (f_X3_first (f_X3_parts_j2 p1))) - ((f_X3_many (f_X3_parts_j2 p1) 1)).toInt64) - ((f_X3_many (f_X3_parts_j2 p1) 2)).toInt64) - ((f_X3_many (f_X3_parts_j2 p1) 3)).toInt64) < ((f_X3_many (f_X3_parts_j2 p1) 4)).toInt64) → (¬ (((((p1 - (f_X3_first (f_X3_parts_j2 p1))) - ((f_X3_many (f_X3_parts_j2 p1) 1)).toInt64) - ((f_X3_many (f_X3_parts_j2 p1) 2)).toInt64) - ((f_X3_many (f_X3_parts_j2 p1) 3)).toInt64) - ((f_X3_many (f_X3_parts_j2 p1) 4)).toInt64) < ((f_X3_many (f_X3_parts_j2 p1) 5)).toInt64) → (¬ ((((((p1 - (f_X3_first (f_X3_parts_j2 p1))) - ((f_X3_many (f_X3_parts_j2 p1) 1)).toInt64) - ((f_X3_many (f_X3_parts_j2 p1) 2)).toInt64) - ((f_X3_many (f_X3_parts_j2 p1) 3)).toInt64) - ((f_X3_many (f_X3_parts_j2 p1) 4)).toInt64) - ((f_X3_many (f_X3_parts_j2 p1) 5)).toInt64) < ((f_X3_many (f_X3_parts_j2 p1) 6)).toInt64) → (¬ (((((((p1 - (f_X3_first (f_X3_parts_j2 p1))) - ((f_X3_many (f_X3_parts_j2 p1) 1)).toInt64) - ((f_X3_many (f_X3_parts_j2 p1) 2)).toInt64) - ((f_X3_many (f_X3_parts_j2 p1) 3)).toInt64) - ((f_X3_many (f_X3_parts_j2 p1) 4)).toInt64) - ((f_X3_many (f_X3_parts_j2 p1) 5)).toInt64) - ((f_X3_many (f_X3_parts_j2 p1) 6)).toInt64) < ((f_X3_many (f_X3_parts_j2 p1) 7)).toInt64) → (¬ ((((((((p1 - (f_X3_first (f_X3_parts_j2 p1))) - ((f_X3_many (f_X3_parts_j2 p1) 1)).toInt64) - ((f_X3_many (f_X3_parts_j2 p1) 2)).toInt64) - ((f_X3_many (f_X3_parts_j2 p1) 3)).toInt64) - ((f_X3_many (f_X3_parts_j2 p1) 4)).toInt64) - ((f_X3_many (f_X3_parts_j2 p1) 5)).toInt64) - ((f_X3_many (f_X3_parts_j2 p1) 6)).toInt64) - ((f_X3_many (f_X3_parts_j2 p1) 7)).toInt64) < ((f_X3_many (f_X3_parts_j2 p1) 8)).toInt64) → (¬ (((((((((p1 - (f_X3_first (f_X3_parts_j2 p1))) - ((f_X3_many (f_X3_parts_j2 p1) 1)).toInt64) - ((f_X3_many (f_X3_parts_j2 p1) 2)).toInt64) - ((f_X3_many (f_X3_parts_j2 p1) 3)).toInt64) - ((f_X3_many (f_X3_parts_j2 p1) 4)).toInt64) - ((f_X3_many (f_X3_parts_j2 p1) 5)).toInt64) - ((f_X3_many (f_X3_parts_j2 p1) 6)).toInt64) - ((f_X3_many (f_X3_parts_j2 p1) 7)).toInt64) - ((f_X3_many (f_X3_parts_j2 p1) 8)).toInt64) < ((f_X3_many (f_X3_parts_j2 p1) 9)).toInt64) → (¬ ((((((((((p1 - (f_X3_first (f_X3_parts_j2 p1))) - ((f_X3_many (f_X3_parts_j2 p1) 1)).toInt64) - ((f_X3_many (f_X3_parts_j2 p1) 2)).toInt64) - ((f_X3_many (f_X3_parts_j2 p1) 3)).toInt64) - ((f_X3_many (f_X3_parts_j2 p1) 4)).toInt64) - ((f_X3_many (f_X3_parts_j2 p1) 5)).toInt64) - ((f_X3_many (f_X3_parts_j2 p1) 6)).toInt64) - ((f_X3_many (f_X3_parts_j2 p1) 7)).toInt64) - ((f_X3_many (f_X3_parts_j2 p1) 8)).toInt64) - ((f_X3_many (f_X3_parts_j2 p1) 9)).toInt64) < ((f_X3_many (f_X3_parts_j2 p1) 10)).toInt64) → (¬ (((((((((((p1 - (f_X3_first (f_X3_parts_j2 p1))) - ((f_X3_many (f_X3_parts_j2 p1) 1)).toInt64) - ((f_X3_many (f_X3_parts_j2 p1) 2)).toInt64) - ((f_X3_many (f_X3_parts_j2 p1) 3)).toInt64) - ((f_X3_many (f_X3_parts_j2 p1) 4)).toInt64) - ((f_X3_many (f_X3_parts_j2 p1) 5)).toInt64) - ((f_X3_many (f_X3_parts_j2 p1) 6)).toInt64) - ((f_X3_many (f_X3_parts_j2 p1) 7)).toInt64) - ((f_X3_many (f_X3_parts_j2 p1) 8)).toInt64) - ((f_X3_many (f_X3_parts_j2 p1) 9)).toInt64) - ((f_X3_many (f_X3_parts_j2 p1) 10)).toInt64) < ((f_X3_many (f_X3_parts_j2 p1) 11)).toInt64) → (((((((((((((p1 - (f_X3_first (f_X3_parts_j2 p1))) - ((f_X3_many (f_X3_parts_j2 p1) 1)).toInt64) - ((f_X3_many (f_X3_parts_j2 p1) 2)).toInt64) - ((f_X3_many (f_X3_parts_j2 p1) 3)).toInt64) - ((f_X3_many (f_X3_parts_j2 p1) 4)).toInt64) - ((f_X3_many (f_X3_parts_j2 p1) 5)).toInt64) - ((f_X3_many (f_X3_parts_j2 p1) 6)).toInt64) - ((f_X3_many (f_X3_parts_j2 p1) 7)).toInt64) - ((f_X3_many (f_X3_parts_j2 p1) 8)).toInt64) - ((f_X3_many (f_X3_parts_j2 p1) 9)).toInt64) - ((f_X3_many (f_X3_parts_j2 p1) 10)).toInt64) - ((f_X3_many (f_X3_parts_j2 p1) 11)).toInt64) < ((f_X3_many (f_X3_parts_j2 p1) 12)).toInt64))
theorem q_X3_parts : ZY yX3_parts wsX3_parts cX3_parts 5 none 1 := ⟨⟨_, rfl⟩, by decide +kernel, by decide +kernel, by decide +kernel⟩
set_option maxHeartbeats 4000000 in
set_option maxRecDepth 100000 in
theorem c_X3_parts (l : Launch) (hfl : l.stackTraces = false) (D : va_G) (cI cJ : ClassId) (X : va_W) (z : Nat → Nat) (co : Int32) (d : Nat → Int64) (ti : Nat → Int64) (sL : Nat → Int64) (bL : Nat → Int64) (mD : Nat → Int64) (mT : Nat → Int64) (sy : Nat → Int64) (sm : Nat → Int64) (sd : Nat → Int64) (mi : Nat → Int64) (yr : Int64) (mo : Int32) (dy : Int32) (p1 : Int64)  (h_g : pre_X3_parts p1) : ZM l yX3_parts wsX3_parts { frames := 4, cells := 0, slots := 0, locals := 89 } [.ref (z 0), .long p1] D (zTys cI cJ) (wM cI cJ z co d ti sL bL mD mT sy sm sd mi yr mo dy X) 0 0 (fun v w => v = none ∧ w = (wM cI cJ z co d ti sL bL mD mT sy sm sd mi (s_X3_parts_yr p1) (s_X3_parts_mo p1) (s_X3_parts_dy p1) X)) (fun _ _ => False) := by
  refine z_open (own := RX3) hfl (cc := cX3_parts) (maxL := 5) (ret := none) (lv := [(0, .ref (z 0)), (1, .long p1)]) rfl (by decide) rfl rfl (Nat.le_of_ble_eq_true rfl) ?_
  intro p e s m args below meth c A C hno hnm hargs
  have hin : ∀ w ∈ wsX30, w ∈ wsX3_parts := by decide +kernel
  have w1 := C.1.2.2.2.2 (.constantLong RX3 71 (1970)) (by decide +kernel)
  have w2 := C.1.2.2.2.2 (.constantLong RX3 57 (400)) (by decide +kernel)
  have w3 := C.1.2.2.2.2 (.constantLong RX3 84 (146097)) (by decide +kernel)
  have w4 := C.1.2.2.2.2 (.fieldLink RX3 86 "YearwheelModel" "year" "J") (by decide +kernel)
  have w5 := C.1.2.2.2.2 (.fieldLink RX3 90 "YearwheelModel" "month" "I") (by decide +kernel)
  have w6 := C.1.2.2.2.2 (.fieldLink RX3 93 "YearwheelModel" "day" "I") (by decide +kernel)
  obtain ⟨g_0, g_1, g_2⟩ := h_g
  refine z_aload_n C dX3_parts_0 rfl 0 rfl ?_
  refine z_ldc2 (v := 1970) C w1 dX3_parts_1 ?_
  refine z_lload_n C dX3_parts_4 rfl 1 rfl ?_
  refine z_ldc2 (v := 400) C w2 dX3_parts_5 ?_
  refine z_lmul C dX3_parts_8 ?_
  refine z_ldc2 (v := 146097) C w3 dX3_parts_9 ?_
  refine z_sl (rest := [.long 1970, .ref (z 0)]) C (c_X3_floor l hfl D cI cJ _ (p1 * 400) (146097 : Int64) (by decide)) q_X3_floor gX3_parts_X3_floor ⟨rfl, rfl⟩ rfl rfl (Nat.le_of_ble_eq_true rfl) ⟨Nat.le_of_ble_eq_true rfl, Nat.le_of_ble_eq_true rfl⟩ ⟨Nat.le_of_ble_eq_true rfl, Nat.le_of_ble_eq_true rfl⟩ dX3_parts_12 ?_
  refine z_ladd C dX3_parts_15 ?_
  refine z_put (CC := RX3) (T := TX3) (N := 14) (ci := 3) C hin tyX3 tyX3_ok nmX3 0 rfl rfl 11 (by decide) w4 rfl rfl rfl rfl rfl (Nat.le_of_ble_eq_true rfl) (ws' := (wM cI cJ z co d ti sL bL mD mT sy sm sd mi (1970 + (f_X3_floor (p1 * 400) 146097)) mo dy X)) rfl dX3_parts_16 ?_
  refine z_aload_n C dX3_parts_19 rfl 0 rfl ?_
  refine z_get (CC := RX3) (T := TX3) (N := 14) (ci := 3) C hin 0 rfl rfl 11 (by decide) w4 rfl rfl dX3_parts_20 ?_
  refine z_sl (rest := []) C (c_X3_first l hfl D cI cJ _ (1970 + (f_X3_floor (p1 * 400) 146097)) ) q_X3_first gX3_parts_X3_first ⟨rfl, rfl⟩ rfl rfl (Nat.le_of_ble_eq_true rfl) ⟨Nat.le_of_ble_eq_true rfl, Nat.le_of_ble_eq_true rfl⟩ ⟨Nat.le_of_ble_eq_true rfl, Nat.le_of_ble_eq_true rfl⟩ dX3_parts_23 ?_
  refine z_lload_n C dX3_parts_26 rfl 1 rfl ?_
  have K1 : ∀ (v1_0 : Int64), (f_X3_parts_j1 p1) = v1_0 → ZW p l e { frames := 4, cells := 0, slots := 0, locals := 89 } s m args below meth c 5 D (zTys cI cJ) A (zE D (zTys cI cJ) A below args s (fun v w => v = none ∧ w = (wM cI cJ z co d ti sL bL mD mT sy sm sd mi (s_X3_parts_yr p1) (s_X3_parts_mo p1) (s_X3_parts_dy p1) X)) (fun _ _ => False) 0 0) 0 0 (wM cI cJ z co d ti sL bL mD mT sy sm sd mi v1_0 mo dy X) 44 [(0, .ref (z 0)), (1, .long p1)] [] := by
    rintro _ rfl
    refine z_aload_n C dX3_parts_44 rfl 0 rfl ?_
    refine z_get (CC := RX3) (T := TX3) (N := 14) (ci := 3) C hin 0 rfl rfl 11 (by decide) w4 rfl rfl dX3_parts_45 ?_
    refine z_lconst (v := 1) C dX3_parts_48 (by decide) ?_
    refine z_ladd C dX3_parts_49 ?_
    refine z_sl (rest := []) C (c_X3_first l hfl D cI cJ _ ((f_X3_parts_j1 p1) + 1) ) q_X3_first gX3_parts_X3_first ⟨rfl, rfl⟩ rfl rfl (Nat.le_of_ble_eq_true rfl) ⟨Nat.le_of_ble_eq_true rfl, Nat.le_of_ble_eq_true rfl⟩ ⟨Nat.le_of_ble_eq_true rfl, Nat.le_of_ble_eq_true rfl⟩ dX3_parts_50 ?_
    refine z_lload_n C dX3_parts_53 rfl 1 rfl ?_
    have K2 : ∀ (v2_0 : Int64), (f_X3_parts_j2 p1) = v2_0 → ZW p l e { frames := 4, cells := 0, slots := 0, locals := 89 } s m args below meth c 5 D (zTys cI cJ) A (zE D (zTys cI cJ) A below args s (fun v w => v = none ∧ w = (wM cI cJ z co d ti sL bL mD mT sy sm sd mi (s_X3_parts_yr p1) (s_X3_parts_mo p1) (s_X3_parts_dy p1) X)) (fun _ _ => False) 0 0) 0 0 (wM cI cJ z co d ti sL bL mD mT sy sm sd mi v2_0 mo dy X) 71 [(0, .ref (z 0)), (1, .long p1)] [] := by
      rintro _ rfl
      refine z_lload_n C dX3_parts_71 rfl 1 rfl ?_
      refine z_aload_n C dX3_parts_72 rfl 0 rfl ?_
      refine z_get (CC := RX3) (T := TX3) (N := 14) (ci := 3) C hin 0 rfl rfl 11 (by decide) w4 rfl rfl dX3_parts_73 ?_
      refine z_sl (rest := [.long p1]) C (c_X3_first l hfl D cI cJ _ (f_X3_parts_j2 p1) ) q_X3_first gX3_parts_X3_first ⟨rfl, rfl⟩ rfl rfl (Nat.le_of_ble_eq_true rfl) ⟨Nat.le_of_ble_eq_true rfl, Nat.le_of_ble_eq_true rfl⟩ ⟨Nat.le_of_ble_eq_true rfl, Nat.le_of_ble_eq_true rfl⟩ dX3_parts_76 ?_
      refine z_lsub C dX3_parts_79 ?_
      refine z_lstore_n (lv' := [(3, .long (p1 - (f_X3_first (f_X3_parts_j2 p1)))), (0, .ref (z 0)), (1, .long p1)]) C dX3_parts_80 rfl (by decide) rfl ?_
      refine z_aload_n C dX3_parts_81 rfl 1 rfl ?_
      refine z_iconst (v := 1) C dX3_parts_82 (by decide) ?_
      refine z_put (CC := RX3) (T := TX3) (N := 14) (ci := 3) C hin tyX3 tyX3_ok nmX3 0 rfl rfl 12 (by decide) w5 rfl rfl rfl rfl rfl (Nat.le_of_ble_eq_true rfl) (ws' := (wM cI cJ z co d ti sL bL mD mT sy sm sd mi (f_X3_parts_j2 p1) 1 dy X)) rfl dX3_parts_83 ?_
      refine z_lload_n C dX3_parts_86 rfl 0 rfl ?_
      refine z_aload_n C dX3_parts_87 rfl 1 rfl ?_
      refine z_get (CC := RX3) (T := TX3) (N := 14) (ci := 3) C hin 0 rfl rfl 11 (by decide) w4 rfl rfl dX3_parts_88 ?_
      refine z_aload_n C dX3_parts_91 rfl 1 rfl ?_
      refine z_get (CC := RX3) (T := TX3) (N := 14) (ci := 3) C hin 0 rfl rfl 12 (by decide) w5 rfl rfl dX3_parts_92 ?_
      refine z_si (rest := [.long (p1 - (f_X3_first (f_X3_parts_j2 p1)))]) C (c_X3_many l hfl D cI cJ _ (f_X3_parts_j2 p1) (1 : Int32) ) q_X3_many gX3_parts_X3_many ⟨rfl, rfl⟩ rfl rfl (Nat.le_of_ble_eq_true rfl) ⟨Nat.le_of_ble_eq_true rfl, Nat.le_of_ble_eq_true rfl⟩ ⟨Nat.le_of_ble_eq_true rfl, Nat.le_of_ble_eq_true rfl⟩ dX3_parts_95 ?_
      refine z_i2l (v := ((f_X3_many (f_X3_parts_j2 p1) 1)).toInt64) C dX3_parts_98 rfl ?_
      have K3 : ∀ (v3_0 : Int64) (v3_1 : Int32), (f_X3_parts_j3a p1) = v3_0 → (f_X3_parts_j3b p1) = v3_1 → ZW p l e { frames := 4, cells := 0, slots := 0, locals := 89 } s m args below meth c 5 D (zTys cI cJ) A (zE D (zTys cI cJ) A below args s (fun v w => v = none ∧ w = (wM cI cJ z co d ti sL bL mD mT sy sm sd mi (s_X3_parts_yr p1) (s_X3_parts_mo p1) (s_X3_parts_dy p1) X)) (fun _ _ => False) 0 0) 0 0 (wM cI cJ z co d ti sL bL mD mT sy sm sd mi (f_X3_parts_j2 p1) v3_1 dy X) 131 [(3, .long v3_0), (0, .ref (z 0)), (1, .long p1)] [] := by
        rintro _ _ rfl rfl
        refine z_aload_n C dX3_parts_131 rfl 1 rfl ?_
        refine z_lload_n C dX3_parts_132 rfl 0 rfl ?_
        refine z_l2i (v := ((f_X3_parts_j3a p1)).toInt32) C dX3_parts_133 rfl ?_
        refine z_iconst (v := 1) C dX3_parts_134 (by decide) ?_
        refine z_iadd C dX3_parts_135 ?_
        refine z_put (CC := RX3) (T := TX3) (N := 14) (ci := 3) C hin tyX3 tyX3_ok nmX3 0 rfl rfl 13 (by decide) w6 rfl rfl rfl rfl rfl (Nat.le_of_ble_eq_true rfl) (ws' := (wM cI cJ z co d ti sL bL mD mT sy sm sd mi (f_X3_parts_j2 p1) (f_X3_parts_j3b p1) (((f_X3_parts_j3a p1)).toInt32 + 1) X)) rfl dX3_parts_136 ?_
        exact z_vret C ⟨rfl, rfl⟩ (by decide) (by decide) dX3_parts_139
      refine z_lcmp_lt (tgt := 131) C dX3_parts_99 dX3_parts_100 (by decide) (fun h3 => ?_) (fun h3 => ?_)
      · exact K3 _ _ (by rw [f_X3_parts_j3a, if_pos h3]) (by rw [f_X3_parts_j3b, if_pos h3])
      · refine z_lload_n C dX3_parts_103 rfl 0 rfl ?_
        refine z_aload_n C dX3_parts_104 rfl 1 rfl ?_
        refine z_get (CC := RX3) (T := TX3) (N := 14) (ci := 3) C hin 0 rfl rfl 11 (by decide) w4 rfl rfl dX3_parts_105 ?_
        refine z_aload_n C dX3_parts_108 rfl 1 rfl ?_
        refine z_get (CC := RX3) (T := TX3) (N := 14) (ci := 3) C hin 0 rfl rfl 12 (by decide) w5 rfl rfl dX3_parts_109 ?_
        refine z_si (rest := [.long (p1 - (f_X3_first (f_X3_parts_j2 p1)))]) C (c_X3_many l hfl D cI cJ _ (f_X3_parts_j2 p1) (1 : Int32) ) q_X3_many gX3_parts_X3_many ⟨rfl, rfl⟩ rfl rfl (Nat.le_of_ble_eq_true rfl) ⟨Nat.le_of_ble_eq_true rfl, Nat.le_of_ble_eq_true rfl⟩ ⟨Nat.le_of_ble_eq_true rfl, Nat.le_of_ble_eq_true rfl⟩ dX3_parts_112 ?_
        refine z_i2l (v := ((f_X3_many (f_X3_parts_j2 p1) 1)).toInt64) C dX3_parts_115 rfl ?_
        refine z_lsub C dX3_parts_116 ?_
        refine z_lstore_n (lv' := [(3, .long ((p1 - (f_X3_first (f_X3_parts_j2 p1))) - ((f_X3_many (f_X3_parts_j2 p1) 1)).toInt64)), (0, .ref (z 0)), (1, .long p1)]) C dX3_parts_117 rfl (by decide) rfl ?_
        refine z_aload_n C dX3_parts_118 rfl 1 rfl ?_
        refine z_dup C dX3_parts_119 rfl ?_
        refine z_get (CC := RX3) (T := TX3) (N := 14) (ci := 3) C hin 0 rfl rfl 12 (by decide) w5 rfl rfl dX3_parts_120 ?_
        refine z_iconst (v := 1) C dX3_parts_123 (by decide) ?_
        refine z_iadd C dX3_parts_124 ?_
        refine z_eqst (st' := [.int 2, .ref (z 0)]) (congrArg (fun v => Value.int v :: _) (by decide : (1 + 1) = (2 : Int32))) ?_
        refine z_put (CC := RX3) (T := TX3) (N := 14) (ci := 3) C hin tyX3 tyX3_ok nmX3 0 rfl rfl 12 (by decide) w5 rfl rfl rfl rfl rfl (Nat.le_of_ble_eq_true rfl) (ws' := (wM cI cJ z co d ti sL bL mD mT sy sm sd mi (f_X3_parts_j2 p1) 2 dy X)) rfl dX3_parts_125 ?_
        refine z_goto (tgt := 86) C dX3_parts_128 (by decide) ?_
        refine z_lload_n C dX3_parts_86 rfl 0 rfl ?_
        refine z_aload_n C dX3_parts_87 rfl 1 rfl ?_
        refine z_get (CC := RX3) (T := TX3) (N := 14) (ci := 3) C hin 0 rfl rfl 11 (by decide) w4 rfl rfl dX3_parts_88 ?_
        refine z_aload_n C dX3_parts_91 rfl 1 rfl ?_
        refine z_get (CC := RX3) (T := TX3) (N := 14) (ci := 3) C hin 0 rfl rfl 12 (by decide) w5 rfl rfl dX3_parts_92 ?_
        refine z_si (rest := [.long ((p1 - (f_X3_first (f_X3_parts_j2 p1))) - ((f_X3_many (f_X3_parts_j2 p1) 1)).toInt64)]) C (c_X3_many l hfl D cI cJ _ (f_X3_parts_j2 p1) (2 : Int32) ) q_X3_many gX3_parts_X3_many ⟨rfl, rfl⟩ rfl rfl (Nat.le_of_ble_eq_true rfl) ⟨Nat.le_of_ble_eq_true rfl, Nat.le_of_ble_eq_true rfl⟩ ⟨Nat.le_of_ble_eq_true rfl, Nat.le_of_ble_eq_true rfl⟩ dX3_parts_95 ?_
        refine z_i2l (v := ((f_X3_many (f_X3_parts_j2 p1) 2)).toInt64) C dX3_parts_98 rfl ?_
        refine z_lcmp_lt (tgt := 131) C dX3_parts_99 dX3_parts_100 (by decide) (fun h4 => ?_) (fun h4 => ?_)
        · exact K3 _ _ (by rw [f_X3_parts_j3a, if_neg h3, if_pos h4]) (by rw [f_X3_parts_j3b, if_neg h3, if_pos h4])
        · refine z_lload_n C dX3_parts_103 rfl 0 rfl ?_
          refine z_aload_n C dX3_parts_104 rfl 1 rfl ?_
          refine z_get (CC := RX3) (T := TX3) (N := 14) (ci := 3) C hin 0 rfl rfl 11 (by decide) w4 rfl rfl dX3_parts_105 ?_
          refine z_aload_n C dX3_parts_108 rfl 1 rfl ?_
          refine z_get (CC := RX3) (T := TX3) (N := 14) (ci := 3) C hin 0 rfl rfl 12 (by decide) w5 rfl rfl dX3_parts_109 ?_
          refine z_si (rest := [.long ((p1 - (f_X3_first (f_X3_parts_j2 p1))) - ((f_X3_many (f_X3_parts_j2 p1) 1)).toInt64)]) C (c_X3_many l hfl D cI cJ _ (f_X3_parts_j2 p1) (2 : Int32) ) q_X3_many gX3_parts_X3_many ⟨rfl, rfl⟩ rfl rfl (Nat.le_of_ble_eq_true rfl) ⟨Nat.le_of_ble_eq_true rfl, Nat.le_of_ble_eq_true rfl⟩ ⟨Nat.le_of_ble_eq_true rfl, Nat.le_of_ble_eq_true rfl⟩ dX3_parts_112 ?_
          refine z_i2l (v := ((f_X3_many (f_X3_parts_j2 p1) 2)).toInt64) C dX3_parts_115 rfl ?_
          refine z_lsub C dX3_parts_116 ?_
          refine z_lstore_n (lv' := [(3, .long (((p1 - (f_X3_first (f_X3_parts_j2 p1))) - ((f_X3_many (f_X3_parts_j2 p1) 1)).toInt64) - ((f_X3_many (f_X3_parts_j2 p1) 2)).toInt64)), (0, .ref (z 0)), (1, .long p1)]) C dX3_parts_117 rfl (by decide) rfl ?_
          refine z_aload_n C dX3_parts_118 rfl 1 rfl ?_
          refine z_dup C dX3_parts_119 rfl ?_
          refine z_get (CC := RX3) (T := TX3) (N := 14) (ci := 3) C hin 0 rfl rfl 12 (by decide) w5 rfl rfl dX3_parts_120 ?_
          refine z_iconst (v := 1) C dX3_parts_123 (by decide) ?_
          refine z_iadd C dX3_parts_124 ?_
          refine z_eqst (st' := [.int 3, .ref (z 0)]) (congrArg (fun v => Value.int v :: _) (by decide : (2 + 1) = (3 : Int32))) ?_
          refine z_put (CC := RX3) (T := TX3) (N := 14) (ci := 3) C hin tyX3 tyX3_ok nmX3 0 rfl rfl 12 (by decide) w5 rfl rfl rfl rfl rfl (Nat.le_of_ble_eq_true rfl) (ws' := (wM cI cJ z co d ti sL bL mD mT sy sm sd mi (f_X3_parts_j2 p1) 3 dy X)) rfl dX3_parts_125 ?_
          refine z_goto (tgt := 86) C dX3_parts_128 (by decide) ?_
          refine z_lload_n C dX3_parts_86 rfl 0 rfl ?_
          refine z_aload_n C dX3_parts_87 rfl 1 rfl ?_
          refine z_get (CC := RX3) (T := TX3) (N := 14) (ci := 3) C hin 0 rfl rfl 11 (by decide) w4 rfl rfl dX3_parts_88 ?_
          refine z_aload_n C dX3_parts_91 rfl 1 rfl ?_
          refine z_get (CC := RX3) (T := TX3) (N := 14) (ci := 3) C hin 0 rfl rfl 12 (by decide) w5 rfl rfl dX3_parts_92 ?_
          refine z_si (rest := [.long (((p1 - (f_X3_first (f_X3_parts_j2 p1))) - ((f_X3_many (f_X3_parts_j2 p1) 1)).toInt64) - ((f_X3_many (f_X3_parts_j2 p1) 2)).toInt64)]) C (c_X3_many l hfl D cI cJ _ (f_X3_parts_j2 p1) (3 : Int32) ) q_X3_many gX3_parts_X3_many ⟨rfl, rfl⟩ rfl rfl (Nat.le_of_ble_eq_true rfl) ⟨Nat.le_of_ble_eq_true rfl, Nat.le_of_ble_eq_true rfl⟩ ⟨Nat.le_of_ble_eq_true rfl, Nat.le_of_ble_eq_true rfl⟩ dX3_parts_95 ?_
          refine z_i2l (v := ((f_X3_many (f_X3_parts_j2 p1) 3)).toInt64) C dX3_parts_98 rfl ?_
          refine z_lcmp_lt (tgt := 131) C dX3_parts_99 dX3_parts_100 (by decide) (fun h5 => ?_) (fun h5 => ?_)
          · exact K3 _ _ (by rw [f_X3_parts_j3a, if_neg h3, if_neg h4, if_pos h5]) (by rw [f_X3_parts_j3b, if_neg h3, if_neg h4, if_pos h5])
          · refine z_lload_n C dX3_parts_103 rfl 0 rfl ?_
            refine z_aload_n C dX3_parts_104 rfl 1 rfl ?_
            refine z_get (CC := RX3) (T := TX3) (N := 14) (ci := 3) C hin 0 rfl rfl 11 (by decide) w4 rfl rfl dX3_parts_105 ?_
            refine z_aload_n C dX3_parts_108 rfl 1 rfl ?_
            refine z_get (CC := RX3) (T := TX3) (N := 14) (ci := 3) C hin 0 rfl rfl 12 (by decide) w5 rfl rfl dX3_parts_109 ?_
            refine z_si (rest := [.long (((p1 - (f_X3_first (f_X3_parts_j2 p1))) - ((f_X3_many (f_X3_parts_j2 p1) 1)).toInt64) - ((f_X3_many (f_X3_parts_j2 p1) 2)).toInt64)]) C (c_X3_many l hfl D cI cJ _ (f_X3_parts_j2 p1) (3 : Int32) ) q_X3_many gX3_parts_X3_many ⟨rfl, rfl⟩ rfl rfl (Nat.le_of_ble_eq_true rfl) ⟨Nat.le_of_ble_eq_true rfl, Nat.le_of_ble_eq_true rfl⟩ ⟨Nat.le_of_ble_eq_true rfl, Nat.le_of_ble_eq_true rfl⟩ dX3_parts_112 ?_
            refine z_i2l (v := ((f_X3_many (f_X3_parts_j2 p1) 3)).toInt64) C dX3_parts_115 rfl ?_
            refine z_lsub C dX3_parts_116 ?_
            refine z_lstore_n (lv' := [(3, .long ((((p1 - (f_X3_first (f_X3_parts_j2 p1))) - ((f_X3_many (f_X3_parts_j2 p1) 1)).toInt64) - ((f_X3_many (f_X3_parts_j2 p1) 2)).toInt64) - ((f_X3_many (f_X3_parts_j2 p1) 3)).toInt64)), (0, .ref (z 0)), (1, .long p1)]) C dX3_parts_117 rfl (by decide) rfl ?_
            refine z_aload_n C dX3_parts_118 rfl 1 rfl ?_
            refine z_dup C dX3_parts_119 rfl ?_
            refine z_get (CC := RX3) (T := TX3) (N := 14) (ci := 3) C hin 0 rfl rfl 12 (by decide) w5 rfl rfl dX3_parts_120 ?_
            refine z_iconst (v := 1) C dX3_parts_123 (by decide) ?_
            refine z_iadd C dX3_parts_124 ?_
            refine z_eqst (st' := [.int 4, .ref (z 0)]) (congrArg (fun v => Value.int v :: _) (by decide : (3 + 1) = (4 : Int32))) ?_
            refine z_put (CC := RX3) (T := TX3) (N := 14) (ci := 3) C hin tyX3 tyX3_ok nmX3 0 rfl rfl 12 (by decide) w5 rfl rfl rfl rfl rfl (Nat.le_of_ble_eq_true rfl) (ws' := (wM cI cJ z co d ti sL bL mD mT sy sm sd mi (f_X3_parts_j2 p1) 4 dy X)) rfl dX3_parts_125 ?_
            refine z_goto (tgt := 86) C dX3_parts_128 (by decide) ?_
            refine z_lload_n C dX3_parts_86 rfl 0 rfl ?_
            refine z_aload_n C dX3_parts_87 rfl 1 rfl ?_
            refine z_get (CC := RX3) (T := TX3) (N := 14) (ci := 3) C hin 0 rfl rfl 11 (by decide) w4 rfl rfl dX3_parts_88 ?_
            refine z_aload_n C dX3_parts_91 rfl 1 rfl ?_
            refine z_get (CC := RX3) (T := TX3) (N := 14) (ci := 3) C hin 0 rfl rfl 12 (by decide) w5 rfl rfl dX3_parts_92 ?_
            refine z_si (rest := [.long ((((p1 - (f_X3_first (f_X3_parts_j2 p1))) - ((f_X3_many (f_X3_parts_j2 p1) 1)).toInt64) - ((f_X3_many (f_X3_parts_j2 p1) 2)).toInt64) - ((f_X3_many (f_X3_parts_j2 p1) 3)).toInt64)]) C (c_X3_many l hfl D cI cJ _ (f_X3_parts_j2 p1) (4 : Int32) ) q_X3_many gX3_parts_X3_many ⟨rfl, rfl⟩ rfl rfl (Nat.le_of_ble_eq_true rfl) ⟨Nat.le_of_ble_eq_true rfl, Nat.le_of_ble_eq_true rfl⟩ ⟨Nat.le_of_ble_eq_true rfl, Nat.le_of_ble_eq_true rfl⟩ dX3_parts_95 ?_
            refine z_i2l (v := ((f_X3_many (f_X3_parts_j2 p1) 4)).toInt64) C dX3_parts_98 rfl ?_
            refine z_lcmp_lt (tgt := 131) C dX3_parts_99 dX3_parts_100 (by decide) (fun h6 => ?_) (fun h6 => ?_)
            · exact K3 _ _ (by rw [f_X3_parts_j3a, if_neg h3, if_neg h4, if_neg h5, if_pos h6]) (by rw [f_X3_parts_j3b, if_neg h3, if_neg h4, if_neg h5, if_pos h6])
            · refine z_lload_n C dX3_parts_103 rfl 0 rfl ?_
              refine z_aload_n C dX3_parts_104 rfl 1 rfl ?_
              refine z_get (CC := RX3) (T := TX3) (N := 14) (ci := 3) C hin 0 rfl rfl 11 (by decide) w4 rfl rfl dX3_parts_105 ?_
              refine z_aload_n C dX3_parts_108 rfl 1 rfl ?_
              refine z_get (CC := RX3) (T := TX3) (N := 14) (ci := 3) C hin 0 rfl rfl 12 (by decide) w5 rfl rfl dX3_parts_109 ?_
              refine z_si (rest := [.long ((((p1 - (f_X3_first (f_X3_parts_j2 p1))) - ((f_X3_many (f_X3_parts_j2 p1) 1)).toInt64) - ((f_X3_many (f_X3_parts_j2 p1) 2)).toInt64) - ((f_X3_many (f_X3_parts_j2 p1) 3)).toInt64)]) C (c_X3_many l hfl D cI cJ _ (f_X3_parts_j2 p1) (4 : Int32) ) q_X3_many gX3_parts_X3_many ⟨rfl, rfl⟩ rfl rfl (Nat.le_of_ble_eq_true rfl) ⟨Nat.le_of_ble_eq_true rfl, Nat.le_of_ble_eq_true rfl⟩ ⟨Nat.le_of_ble_eq_true rfl, Nat.le_of_ble_eq_true rfl⟩ dX3_parts_112 ?_
              refine z_i2l (v := ((f_X3_many (f_X3_parts_j2 p1) 4)).toInt64) C dX3_parts_115 rfl ?_
              refine z_lsub C dX3_parts_116 ?_
              refine z_lstore_n (lv' := [(3, .long (((((p1 - (f_X3_first (f_X3_parts_j2 p1))) - ((f_X3_many (f_X3_parts_j2 p1) 1)).toInt64) - ((f_X3_many (f_X3_parts_j2 p1) 2)).toInt64) - ((f_X3_many (f_X3_parts_j2 p1) 3)).toInt64) - ((f_X3_many (f_X3_parts_j2 p1) 4)).toInt64)), (0, .ref (z 0)), (1, .long p1)]) C dX3_parts_117 rfl (by decide) rfl ?_
              refine z_aload_n C dX3_parts_118 rfl 1 rfl ?_
              refine z_dup C dX3_parts_119 rfl ?_
              refine z_get (CC := RX3) (T := TX3) (N := 14) (ci := 3) C hin 0 rfl rfl 12 (by decide) w5 rfl rfl dX3_parts_120 ?_
              refine z_iconst (v := 1) C dX3_parts_123 (by decide) ?_
              refine z_iadd C dX3_parts_124 ?_
              refine z_eqst (st' := [.int 5, .ref (z 0)]) (congrArg (fun v => Value.int v :: _) (by decide : (4 + 1) = (5 : Int32))) ?_
              refine z_put (CC := RX3) (T := TX3) (N := 14) (ci := 3) C hin tyX3 tyX3_ok nmX3 0 rfl rfl 12 (by decide) w5 rfl rfl rfl rfl rfl (Nat.le_of_ble_eq_true rfl) (ws' := (wM cI cJ z co d ti sL bL mD mT sy sm sd mi (f_X3_parts_j2 p1) 5 dy X)) rfl dX3_parts_125 ?_
              refine z_goto (tgt := 86) C dX3_parts_128 (by decide) ?_
              refine z_lload_n C dX3_parts_86 rfl 0 rfl ?_
              refine z_aload_n C dX3_parts_87 rfl 1 rfl ?_
              refine z_get (CC := RX3) (T := TX3) (N := 14) (ci := 3) C hin 0 rfl rfl 11 (by decide) w4 rfl rfl dX3_parts_88 ?_
              refine z_aload_n C dX3_parts_91 rfl 1 rfl ?_
              refine z_get (CC := RX3) (T := TX3) (N := 14) (ci := 3) C hin 0 rfl rfl 12 (by decide) w5 rfl rfl dX3_parts_92 ?_
              refine z_si (rest := [.long (((((p1 - (f_X3_first (f_X3_parts_j2 p1))) - ((f_X3_many (f_X3_parts_j2 p1) 1)).toInt64) - ((f_X3_many (f_X3_parts_j2 p1) 2)).toInt64) - ((f_X3_many (f_X3_parts_j2 p1) 3)).toInt64) - ((f_X3_many (f_X3_parts_j2 p1) 4)).toInt64)]) C (c_X3_many l hfl D cI cJ _ (f_X3_parts_j2 p1) (5 : Int32) ) q_X3_many gX3_parts_X3_many ⟨rfl, rfl⟩ rfl rfl (Nat.le_of_ble_eq_true rfl) ⟨Nat.le_of_ble_eq_true rfl, Nat.le_of_ble_eq_true rfl⟩ ⟨Nat.le_of_ble_eq_true rfl, Nat.le_of_ble_eq_true rfl⟩ dX3_parts_95 ?_
              refine z_i2l (v := ((f_X3_many (f_X3_parts_j2 p1) 5)).toInt64) C dX3_parts_98 rfl ?_
              refine z_lcmp_lt (tgt := 131) C dX3_parts_99 dX3_parts_100 (by decide) (fun h7 => ?_) (fun h7 => ?_)
              · exact K3 _ _ (by rw [f_X3_parts_j3a, if_neg h3, if_neg h4, if_neg h5, if_neg h6, if_pos h7]) (by rw [f_X3_parts_j3b, if_neg h3, if_neg h4, if_neg h5, if_neg h6, if_pos h7])
              · refine z_lload_n C dX3_parts_103 rfl 0 rfl ?_
                refine z_aload_n C dX3_parts_104 rfl 1 rfl ?_
                refine z_get (CC := RX3) (T := TX3) (N := 14) (ci := 3) C hin 0 rfl rfl 11 (by decide) w4 rfl rfl dX3_parts_105 ?_
                refine z_aload_n C dX3_parts_108 rfl 1 rfl ?_
                refine z_get (CC := RX3) (T := TX3) (N := 14) (ci := 3) C hin 0 rfl rfl 12 (by decide) w5 rfl rfl dX3_parts_109 ?_
                refine z_si (rest := [.long (((((p1 - (f_X3_first (f_X3_parts_j2 p1))) - ((f_X3_many (f_X3_parts_j2 p1) 1)).toInt64) - ((f_X3_many (f_X3_parts_j2 p1) 2)).toInt64) - ((f_X3_many (f_X3_parts_j2 p1) 3)).toInt64) - ((f_X3_many (f_X3_parts_j2 p1) 4)).toInt64)]) C (c_X3_many l hfl D cI cJ _ (f_X3_parts_j2 p1) (5 : Int32) ) q_X3_many gX3_parts_X3_many ⟨rfl, rfl⟩ rfl rfl (Nat.le_of_ble_eq_true rfl) ⟨Nat.le_of_ble_eq_true rfl, Nat.le_of_ble_eq_true rfl⟩ ⟨Nat.le_of_ble_eq_true rfl, Nat.le_of_ble_eq_true rfl⟩ dX3_parts_112 ?_
                refine z_i2l (v := ((f_X3_many (f_X3_parts_j2 p1) 5)).toInt64) C dX3_parts_115 rfl ?_
                refine z_lsub C dX3_parts_116 ?_
                refine z_lstore_n (lv' := [(3, .long ((((((p1 - (f_X3_first (f_X3_parts_j2 p1))) - ((f_X3_many (f_X3_parts_j2 p1) 1)).toInt64) - ((f_X3_many (f_X3_parts_j2 p1) 2)).toInt64) - ((f_X3_many (f_X3_parts_j2 p1) 3)).toInt64) - ((f_X3_many (f_X3_parts_j2 p1) 4)).toInt64) - ((f_X3_many (f_X3_parts_j2 p1) 5)).toInt64)), (0, .ref (z 0)), (1, .long p1)]) C dX3_parts_117 rfl (by decide) rfl ?_
                refine z_aload_n C dX3_parts_118 rfl 1 rfl ?_
                refine z_dup C dX3_parts_119 rfl ?_
                refine z_get (CC := RX3) (T := TX3) (N := 14) (ci := 3) C hin 0 rfl rfl 12 (by decide) w5 rfl rfl dX3_parts_120 ?_
                refine z_iconst (v := 1) C dX3_parts_123 (by decide) ?_
                refine z_iadd C dX3_parts_124 ?_
                refine z_eqst (st' := [.int 6, .ref (z 0)]) (congrArg (fun v => Value.int v :: _) (by decide : (5 + 1) = (6 : Int32))) ?_
                refine z_put (CC := RX3) (T := TX3) (N := 14) (ci := 3) C hin tyX3 tyX3_ok nmX3 0 rfl rfl 12 (by decide) w5 rfl rfl rfl rfl rfl (Nat.le_of_ble_eq_true rfl) (ws' := (wM cI cJ z co d ti sL bL mD mT sy sm sd mi (f_X3_parts_j2 p1) 6 dy X)) rfl dX3_parts_125 ?_
                refine z_goto (tgt := 86) C dX3_parts_128 (by decide) ?_
                refine z_lload_n C dX3_parts_86 rfl 0 rfl ?_
                refine z_aload_n C dX3_parts_87 rfl 1 rfl ?_
                refine z_get (CC := RX3) (T := TX3) (N := 14) (ci := 3) C hin 0 rfl rfl 11 (by decide) w4 rfl rfl dX3_parts_88 ?_
                refine z_aload_n C dX3_parts_91 rfl 1 rfl ?_
                refine z_get (CC := RX3) (T := TX3) (N := 14) (ci := 3) C hin 0 rfl rfl 12 (by decide) w5 rfl rfl dX3_parts_92 ?_
                refine z_si (rest := [.long ((((((p1 - (f_X3_first (f_X3_parts_j2 p1))) - ((f_X3_many (f_X3_parts_j2 p1) 1)).toInt64) - ((f_X3_many (f_X3_parts_j2 p1) 2)).toInt64) - ((f_X3_many (f_X3_parts_j2 p1) 3)).toInt64) - ((f_X3_many (f_X3_parts_j2 p1) 4)).toInt64) - ((f_X3_many (f_X3_parts_j2 p1) 5)).toInt64)]) C (c_X3_many l hfl D cI cJ _ (f_X3_parts_j2 p1) (6 : Int32) ) q_X3_many gX3_parts_X3_many ⟨rfl, rfl⟩ rfl rfl (Nat.le_of_ble_eq_true rfl) ⟨Nat.le_of_ble_eq_true rfl, Nat.le_of_ble_eq_true rfl⟩ ⟨Nat.le_of_ble_eq_true rfl, Nat.le_of_ble_eq_true rfl⟩ dX3_parts_95 ?_
                refine z_i2l (v := ((f_X3_many (f_X3_parts_j2 p1) 6)).toInt64) C dX3_parts_98 rfl ?_
                refine z_lcmp_lt (tgt := 131) C dX3_parts_99 dX3_parts_100 (by decide) (fun h8 => ?_) (fun h8 => ?_)
                · exact K3 _ _ (by rw [f_X3_parts_j3a, if_neg h3, if_neg h4, if_neg h5, if_neg h6, if_neg h7, if_pos h8]) (by rw [f_X3_parts_j3b, if_neg h3, if_neg h4, if_neg h5, if_neg h6, if_neg h7, if_pos h8])
                · refine z_lload_n C dX3_parts_103 rfl 0 rfl ?_
                  refine z_aload_n C dX3_parts_104 rfl 1 rfl ?_
                  refine z_get (CC := RX3) (T := TX3) (N := 14) (ci := 3) C hin 0 rfl rfl 11 (by decide) w4 rfl rfl dX3_parts_105 ?_
                  refine z_aload_n C dX3_parts_108 rfl 1 rfl ?_
                  refine z_get (CC := RX3) (T := TX3) (N := 14) (ci := 3) C hin 0 rfl rfl 12 (by decide) w5 rfl rfl dX3_parts_109 ?_
                  refine z_si (rest := [.long ((((((p1 - (f_X3_first (f_X3_parts_j2 p1))) - ((f_X3_many (f_X3_parts_j2 p1) 1)).toInt64) - ((f_X3_many (f_X3_parts_j2 p1) 2)).toInt64) - ((f_X3_many (f_X3_parts_j2 p1) 3)).toInt64) - ((f_X3_many (f_X3_parts_j2 p1) 4)).toInt64) - ((f_X3_many (f_X3_parts_j2 p1) 5)).toInt64)]) C (c_X3_many l hfl D cI cJ _ (f_X3_parts_j2 p1) (6 : Int32) ) q_X3_many gX3_parts_X3_many ⟨rfl, rfl⟩ rfl rfl (Nat.le_of_ble_eq_true rfl) ⟨Nat.le_of_ble_eq_true rfl, Nat.le_of_ble_eq_true rfl⟩ ⟨Nat.le_of_ble_eq_true rfl, Nat.le_of_ble_eq_true rfl⟩ dX3_parts_112 ?_
                  refine z_i2l (v := ((f_X3_many (f_X3_parts_j2 p1) 6)).toInt64) C dX3_parts_115 rfl ?_
                  refine z_lsub C dX3_parts_116 ?_
                  refine z_lstore_n (lv' := [(3, .long (((((((p1 - (f_X3_first (f_X3_parts_j2 p1))) - ((f_X3_many (f_X3_parts_j2 p1) 1)).toInt64) - ((f_X3_many (f_X3_parts_j2 p1) 2)).toInt64) - ((f_X3_many (f_X3_parts_j2 p1) 3)).toInt64) - ((f_X3_many (f_X3_parts_j2 p1) 4)).toInt64) - ((f_X3_many (f_X3_parts_j2 p1) 5)).toInt64) - ((f_X3_many (f_X3_parts_j2 p1) 6)).toInt64)), (0, .ref (z 0)), (1, .long p1)]) C dX3_parts_117 rfl (by decide) rfl ?_
                  refine z_aload_n C dX3_parts_118 rfl 1 rfl ?_
                  refine z_dup C dX3_parts_119 rfl ?_
                  refine z_get (CC := RX3) (T := TX3) (N := 14) (ci := 3) C hin 0 rfl rfl 12 (by decide) w5 rfl rfl dX3_parts_120 ?_
                  refine z_iconst (v := 1) C dX3_parts_123 (by decide) ?_
                  refine z_iadd C dX3_parts_124 ?_
                  refine z_eqst (st' := [.int 7, .ref (z 0)]) (congrArg (fun v => Value.int v :: _) (by decide : (6 + 1) = (7 : Int32))) ?_
                  refine z_put (CC := RX3) (T := TX3) (N := 14) (ci := 3) C hin tyX3 tyX3_ok nmX3 0 rfl rfl 12 (by decide) w5 rfl rfl rfl rfl rfl (Nat.le_of_ble_eq_true rfl) (ws' := (wM cI cJ z co d ti sL bL mD mT sy sm sd mi (f_X3_parts_j2 p1) 7 dy X)) rfl dX3_parts_125 ?_
                  refine z_goto (tgt := 86) C dX3_parts_128 (by decide) ?_
                  refine z_lload_n C dX3_parts_86 rfl 0 rfl ?_
                  refine z_aload_n C dX3_parts_87 rfl 1 rfl ?_
                  refine z_get (CC := RX3) (T := TX3) (N := 14) (ci := 3) C hin 0 rfl rfl 11 (by decide) w4 rfl rfl dX3_parts_88 ?_
                  refine z_aload_n C dX3_parts_91 rfl 1 rfl ?_
                  refine z_get (CC := RX3) (T := TX3) (N := 14) (ci := 3) C hin 0 rfl rfl 12 (by decide) w5 rfl rfl dX3_parts_92 ?_
                  refine z_si (rest := [.long (((((((p1 - (f_X3_first (f_X3_parts_j2 p1))) - ((f_X3_many (f_X3_parts_j2 p1) 1)).toInt64) - ((f_X3_many (f_X3_parts_j2 p1) 2)).toInt64) - ((f_X3_many (f_X3_parts_j2 p1) 3)).toInt64) - ((f_X3_many (f_X3_parts_j2 p1) 4)).toInt64) - ((f_X3_many (f_X3_parts_j2 p1) 5)).toInt64) - ((f_X3_many (f_X3_parts_j2 p1) 6)).toInt64)]) C (c_X3_many l hfl D cI cJ _ (f_X3_parts_j2 p1) (7 : Int32) ) q_X3_many gX3_parts_X3_many ⟨rfl, rfl⟩ rfl rfl (Nat.le_of_ble_eq_true rfl) ⟨Nat.le_of_ble_eq_true rfl, Nat.le_of_ble_eq_true rfl⟩ ⟨Nat.le_of_ble_eq_true rfl, Nat.le_of_ble_eq_true rfl⟩ dX3_parts_95 ?_
                  refine z_i2l (v := ((f_X3_many (f_X3_parts_j2 p1) 7)).toInt64) C dX3_parts_98 rfl ?_
                  refine z_lcmp_lt (tgt := 131) C dX3_parts_99 dX3_parts_100 (by decide) (fun h9 => ?_) (fun h9 => ?_)
                  · exact K3 _ _ (by rw [f_X3_parts_j3a, if_neg h3, if_neg h4, if_neg h5, if_neg h6, if_neg h7, if_neg h8, if_pos h9]) (by rw [f_X3_parts_j3b, if_neg h3, if_neg h4, if_neg h5, if_neg h6, if_neg h7, if_neg h8, if_pos h9])
                  · refine z_lload_n C dX3_parts_103 rfl 0 rfl ?_
                    refine z_aload_n C dX3_parts_104 rfl 1 rfl ?_
                    refine z_get (CC := RX3) (T := TX3) (N := 14) (ci := 3) C hin 0 rfl rfl 11 (by decide) w4 rfl rfl dX3_parts_105 ?_
                    refine z_aload_n C dX3_parts_108 rfl 1 rfl ?_
                    refine z_get (CC := RX3) (T := TX3) (N := 14) (ci := 3) C hin 0 rfl rfl 12 (by decide) w5 rfl rfl dX3_parts_109 ?_
                    refine z_si (rest := [.long (((((((p1 - (f_X3_first (f_X3_parts_j2 p1))) - ((f_X3_many (f_X3_parts_j2 p1) 1)).toInt64) - ((f_X3_many (f_X3_parts_j2 p1) 2)).toInt64) - ((f_X3_many (f_X3_parts_j2 p1) 3)).toInt64) - ((f_X3_many (f_X3_parts_j2 p1) 4)).toInt64) - ((f_X3_many (f_X3_parts_j2 p1) 5)).toInt64) - ((f_X3_many (f_X3_parts_j2 p1) 6)).toInt64)]) C (c_X3_many l hfl D cI cJ _ (f_X3_parts_j2 p1) (7 : Int32) ) q_X3_many gX3_parts_X3_many ⟨rfl, rfl⟩ rfl rfl (Nat.le_of_ble_eq_true rfl) ⟨Nat.le_of_ble_eq_true rfl, Nat.le_of_ble_eq_true rfl⟩ ⟨Nat.le_of_ble_eq_true rfl, Nat.le_of_ble_eq_true rfl⟩ dX3_parts_112 ?_
                    refine z_i2l (v := ((f_X3_many (f_X3_parts_j2 p1) 7)).toInt64) C dX3_parts_115 rfl ?_
                    refine z_lsub C dX3_parts_116 ?_
                    refine z_lstore_n (lv' := [(3, .long ((((((((p1 - (f_X3_first (f_X3_parts_j2 p1))) - ((f_X3_many (f_X3_parts_j2 p1) 1)).toInt64) - ((f_X3_many (f_X3_parts_j2 p1) 2)).toInt64) - ((f_X3_many (f_X3_parts_j2 p1) 3)).toInt64) - ((f_X3_many (f_X3_parts_j2 p1) 4)).toInt64) - ((f_X3_many (f_X3_parts_j2 p1) 5)).toInt64) - ((f_X3_many (f_X3_parts_j2 p1) 6)).toInt64) - ((f_X3_many (f_X3_parts_j2 p1) 7)).toInt64)), (0, .ref (z 0)), (1, .long p1)]) C dX3_parts_117 rfl (by decide) rfl ?_
                    refine z_aload_n C dX3_parts_118 rfl 1 rfl ?_
                    refine z_dup C dX3_parts_119 rfl ?_
                    refine z_get (CC := RX3) (T := TX3) (N := 14) (ci := 3) C hin 0 rfl rfl 12 (by decide) w5 rfl rfl dX3_parts_120 ?_
                    refine z_iconst (v := 1) C dX3_parts_123 (by decide) ?_
                    refine z_iadd C dX3_parts_124 ?_
                    refine z_eqst (st' := [.int 8, .ref (z 0)]) (congrArg (fun v => Value.int v :: _) (by decide : (7 + 1) = (8 : Int32))) ?_
                    refine z_put (CC := RX3) (T := TX3) (N := 14) (ci := 3) C hin tyX3 tyX3_ok nmX3 0 rfl rfl 12 (by decide) w5 rfl rfl rfl rfl rfl (Nat.le_of_ble_eq_true rfl) (ws' := (wM cI cJ z co d ti sL bL mD mT sy sm sd mi (f_X3_parts_j2 p1) 8 dy X)) rfl dX3_parts_125 ?_
                    refine z_goto (tgt := 86) C dX3_parts_128 (by decide) ?_
                    refine z_lload_n C dX3_parts_86 rfl 0 rfl ?_
                    refine z_aload_n C dX3_parts_87 rfl 1 rfl ?_
                    refine z_get (CC := RX3) (T := TX3) (N := 14) (ci := 3) C hin 0 rfl rfl 11 (by decide) w4 rfl rfl dX3_parts_88 ?_
                    refine z_aload_n C dX3_parts_91 rfl 1 rfl ?_
                    refine z_get (CC := RX3) (T := TX3) (N := 14) (ci := 3) C hin 0 rfl rfl 12 (by decide) w5 rfl rfl dX3_parts_92 ?_
                    refine z_si (rest := [.long ((((((((p1 - (f_X3_first (f_X3_parts_j2 p1))) - ((f_X3_many (f_X3_parts_j2 p1) 1)).toInt64) - ((f_X3_many (f_X3_parts_j2 p1) 2)).toInt64) - ((f_X3_many (f_X3_parts_j2 p1) 3)).toInt64) - ((f_X3_many (f_X3_parts_j2 p1) 4)).toInt64) - ((f_X3_many (f_X3_parts_j2 p1) 5)).toInt64) - ((f_X3_many (f_X3_parts_j2 p1) 6)).toInt64) - ((f_X3_many (f_X3_parts_j2 p1) 7)).toInt64)]) C (c_X3_many l hfl D cI cJ _ (f_X3_parts_j2 p1) (8 : Int32) ) q_X3_many gX3_parts_X3_many ⟨rfl, rfl⟩ rfl rfl (Nat.le_of_ble_eq_true rfl) ⟨Nat.le_of_ble_eq_true rfl, Nat.le_of_ble_eq_true rfl⟩ ⟨Nat.le_of_ble_eq_true rfl, Nat.le_of_ble_eq_true rfl⟩ dX3_parts_95 ?_
                    refine z_i2l (v := ((f_X3_many (f_X3_parts_j2 p1) 8)).toInt64) C dX3_parts_98 rfl ?_
                    refine z_lcmp_lt (tgt := 131) C dX3_parts_99 dX3_parts_100 (by decide) (fun h10 => ?_) (fun h10 => ?_)
                    · exact K3 _ _ (by rw [f_X3_parts_j3a, if_neg h3, if_neg h4, if_neg h5, if_neg h6, if_neg h7, if_neg h8, if_neg h9, if_pos h10]) (by rw [f_X3_parts_j3b, if_neg h3, if_neg h4, if_neg h5, if_neg h6, if_neg h7, if_neg h8, if_neg h9, if_pos h10])
                    · refine z_lload_n C dX3_parts_103 rfl 0 rfl ?_
                      refine z_aload_n C dX3_parts_104 rfl 1 rfl ?_
                      refine z_get (CC := RX3) (T := TX3) (N := 14) (ci := 3) C hin 0 rfl rfl 11 (by decide) w4 rfl rfl dX3_parts_105 ?_
                      refine z_aload_n C dX3_parts_108 rfl 1 rfl ?_
                      refine z_get (CC := RX3) (T := TX3) (N := 14) (ci := 3) C hin 0 rfl rfl 12 (by decide) w5 rfl rfl dX3_parts_109 ?_
                      refine z_si (rest := [.long ((((((((p1 - (f_X3_first (f_X3_parts_j2 p1))) - ((f_X3_many (f_X3_parts_j2 p1) 1)).toInt64) - ((f_X3_many (f_X3_parts_j2 p1) 2)).toInt64) - ((f_X3_many (f_X3_parts_j2 p1) 3)).toInt64) - ((f_X3_many (f_X3_parts_j2 p1) 4)).toInt64) - ((f_X3_many (f_X3_parts_j2 p1) 5)).toInt64) - ((f_X3_many (f_X3_parts_j2 p1) 6)).toInt64) - ((f_X3_many (f_X3_parts_j2 p1) 7)).toInt64)]) C (c_X3_many l hfl D cI cJ _ (f_X3_parts_j2 p1) (8 : Int32) ) q_X3_many gX3_parts_X3_many ⟨rfl, rfl⟩ rfl rfl (Nat.le_of_ble_eq_true rfl) ⟨Nat.le_of_ble_eq_true rfl, Nat.le_of_ble_eq_true rfl⟩ ⟨Nat.le_of_ble_eq_true rfl, Nat.le_of_ble_eq_true rfl⟩ dX3_parts_112 ?_
                      refine z_i2l (v := ((f_X3_many (f_X3_parts_j2 p1) 8)).toInt64) C dX3_parts_115 rfl ?_
                      refine z_lsub C dX3_parts_116 ?_
                      refine z_lstore_n (lv' := [(3, .long (((((((((p1 - (f_X3_first (f_X3_parts_j2 p1))) - ((f_X3_many (f_X3_parts_j2 p1) 1)).toInt64) - ((f_X3_many (f_X3_parts_j2 p1) 2)).toInt64) - ((f_X3_many (f_X3_parts_j2 p1) 3)).toInt64) - ((f_X3_many (f_X3_parts_j2 p1) 4)).toInt64) - ((f_X3_many (f_X3_parts_j2 p1) 5)).toInt64) - ((f_X3_many (f_X3_parts_j2 p1) 6)).toInt64) - ((f_X3_many (f_X3_parts_j2 p1) 7)).toInt64) - ((f_X3_many (f_X3_parts_j2 p1) 8)).toInt64)), (0, .ref (z 0)), (1, .long p1)]) C dX3_parts_117 rfl (by decide) rfl ?_
                      refine z_aload_n C dX3_parts_118 rfl 1 rfl ?_
                      refine z_dup C dX3_parts_119 rfl ?_
                      refine z_get (CC := RX3) (T := TX3) (N := 14) (ci := 3) C hin 0 rfl rfl 12 (by decide) w5 rfl rfl dX3_parts_120 ?_
                      refine z_iconst (v := 1) C dX3_parts_123 (by decide) ?_
                      refine z_iadd C dX3_parts_124 ?_
                      refine z_eqst (st' := [.int 9, .ref (z 0)]) (congrArg (fun v => Value.int v :: _) (by decide : (8 + 1) = (9 : Int32))) ?_
                      refine z_put (CC := RX3) (T := TX3) (N := 14) (ci := 3) C hin tyX3 tyX3_ok nmX3 0 rfl rfl 12 (by decide) w5 rfl rfl rfl rfl rfl (Nat.le_of_ble_eq_true rfl) (ws' := (wM cI cJ z co d ti sL bL mD mT sy sm sd mi (f_X3_parts_j2 p1) 9 dy X)) rfl dX3_parts_125 ?_
                      refine z_goto (tgt := 86) C dX3_parts_128 (by decide) ?_
                      refine z_lload_n C dX3_parts_86 rfl 0 rfl ?_
                      refine z_aload_n C dX3_parts_87 rfl 1 rfl ?_
                      refine z_get (CC := RX3) (T := TX3) (N := 14) (ci := 3) C hin 0 rfl rfl 11 (by decide) w4 rfl rfl dX3_parts_88 ?_
                      refine z_aload_n C dX3_parts_91 rfl 1 rfl ?_
                      refine z_get (CC := RX3) (T := TX3) (N := 14) (ci := 3) C hin 0 rfl rfl 12 (by decide) w5 rfl rfl dX3_parts_92 ?_
                      refine z_si (rest := [.long (((((((((p1 - (f_X3_first (f_X3_parts_j2 p1))) - ((f_X3_many (f_X3_parts_j2 p1) 1)).toInt64) - ((f_X3_many (f_X3_parts_j2 p1) 2)).toInt64) - ((f_X3_many (f_X3_parts_j2 p1) 3)).toInt64) - ((f_X3_many (f_X3_parts_j2 p1) 4)).toInt64) - ((f_X3_many (f_X3_parts_j2 p1) 5)).toInt64) - ((f_X3_many (f_X3_parts_j2 p1) 6)).toInt64) - ((f_X3_many (f_X3_parts_j2 p1) 7)).toInt64) - ((f_X3_many (f_X3_parts_j2 p1) 8)).toInt64)]) C (c_X3_many l hfl D cI cJ _ (f_X3_parts_j2 p1) (9 : Int32) ) q_X3_many gX3_parts_X3_many ⟨rfl, rfl⟩ rfl rfl (Nat.le_of_ble_eq_true rfl) ⟨Nat.le_of_ble_eq_true rfl, Nat.le_of_ble_eq_true rfl⟩ ⟨Nat.le_of_ble_eq_true rfl, Nat.le_of_ble_eq_true rfl⟩ dX3_parts_95 ?_
                      refine z_i2l (v := ((f_X3_many (f_X3_parts_j2 p1) 9)).toInt64) C dX3_parts_98 rfl ?_
                      refine z_lcmp_lt (tgt := 131) C dX3_parts_99 dX3_parts_100 (by decide) (fun h11 => ?_) (fun h11 => ?_)
                      · exact K3 _ _ (by rw [f_X3_parts_j3a, if_neg h3, if_neg h4, if_neg h5, if_neg h6, if_neg h7, if_neg h8, if_neg h9, if_neg h10, if_pos h11]) (by rw [f_X3_parts_j3b, if_neg h3, if_neg h4, if_neg h5, if_neg h6, if_neg h7, if_neg h8, if_neg h9, if_neg h10, if_pos h11])
                      · refine z_lload_n C dX3_parts_103 rfl 0 rfl ?_
                        refine z_aload_n C dX3_parts_104 rfl 1 rfl ?_
                        refine z_get (CC := RX3) (T := TX3) (N := 14) (ci := 3) C hin 0 rfl rfl 11 (by decide) w4 rfl rfl dX3_parts_105 ?_
                        refine z_aload_n C dX3_parts_108 rfl 1 rfl ?_
                        refine z_get (CC := RX3) (T := TX3) (N := 14) (ci := 3) C hin 0 rfl rfl 12 (by decide) w5 rfl rfl dX3_parts_109 ?_
                        refine z_si (rest := [.long (((((((((p1 - (f_X3_first (f_X3_parts_j2 p1))) - ((f_X3_many (f_X3_parts_j2 p1) 1)).toInt64) - ((f_X3_many (f_X3_parts_j2 p1) 2)).toInt64) - ((f_X3_many (f_X3_parts_j2 p1) 3)).toInt64) - ((f_X3_many (f_X3_parts_j2 p1) 4)).toInt64) - ((f_X3_many (f_X3_parts_j2 p1) 5)).toInt64) - ((f_X3_many (f_X3_parts_j2 p1) 6)).toInt64) - ((f_X3_many (f_X3_parts_j2 p1) 7)).toInt64) - ((f_X3_many (f_X3_parts_j2 p1) 8)).toInt64)]) C (c_X3_many l hfl D cI cJ _ (f_X3_parts_j2 p1) (9 : Int32) ) q_X3_many gX3_parts_X3_many ⟨rfl, rfl⟩ rfl rfl (Nat.le_of_ble_eq_true rfl) ⟨Nat.le_of_ble_eq_true rfl, Nat.le_of_ble_eq_true rfl⟩ ⟨Nat.le_of_ble_eq_true rfl, Nat.le_of_ble_eq_true rfl⟩ dX3_parts_112 ?_
                        refine z_i2l (v := ((f_X3_many (f_X3_parts_j2 p1) 9)).toInt64) C dX3_parts_115 rfl ?_
                        refine z_lsub C dX3_parts_116 ?_
                        refine z_lstore_n (lv' := [(3, .long ((((((((((p1 - (f_X3_first (f_X3_parts_j2 p1))) - ((f_X3_many (f_X3_parts_j2 p1) 1)).toInt64) - ((f_X3_many (f_X3_parts_j2 p1) 2)).toInt64) - ((f_X3_many (f_X3_parts_j2 p1) 3)).toInt64) - ((f_X3_many (f_X3_parts_j2 p1) 4)).toInt64) - ((f_X3_many (f_X3_parts_j2 p1) 5)).toInt64) - ((f_X3_many (f_X3_parts_j2 p1) 6)).toInt64) - ((f_X3_many (f_X3_parts_j2 p1) 7)).toInt64) - ((f_X3_many (f_X3_parts_j2 p1) 8)).toInt64) - ((f_X3_many (f_X3_parts_j2 p1) 9)).toInt64)), (0, .ref (z 0)), (1, .long p1)]) C dX3_parts_117 rfl (by decide) rfl ?_
                        refine z_aload_n C dX3_parts_118 rfl 1 rfl ?_
                        refine z_dup C dX3_parts_119 rfl ?_
                        refine z_get (CC := RX3) (T := TX3) (N := 14) (ci := 3) C hin 0 rfl rfl 12 (by decide) w5 rfl rfl dX3_parts_120 ?_
                        refine z_iconst (v := 1) C dX3_parts_123 (by decide) ?_
                        refine z_iadd C dX3_parts_124 ?_
                        refine z_eqst (st' := [.int 10, .ref (z 0)]) (congrArg (fun v => Value.int v :: _) (by decide : (9 + 1) = (10 : Int32))) ?_
                        refine z_put (CC := RX3) (T := TX3) (N := 14) (ci := 3) C hin tyX3 tyX3_ok nmX3 0 rfl rfl 12 (by decide) w5 rfl rfl rfl rfl rfl (Nat.le_of_ble_eq_true rfl) (ws' := (wM cI cJ z co d ti sL bL mD mT sy sm sd mi (f_X3_parts_j2 p1) 10 dy X)) rfl dX3_parts_125 ?_
                        refine z_goto (tgt := 86) C dX3_parts_128 (by decide) ?_
                        refine z_lload_n C dX3_parts_86 rfl 0 rfl ?_
                        refine z_aload_n C dX3_parts_87 rfl 1 rfl ?_
                        refine z_get (CC := RX3) (T := TX3) (N := 14) (ci := 3) C hin 0 rfl rfl 11 (by decide) w4 rfl rfl dX3_parts_88 ?_
                        refine z_aload_n C dX3_parts_91 rfl 1 rfl ?_
                        refine z_get (CC := RX3) (T := TX3) (N := 14) (ci := 3) C hin 0 rfl rfl 12 (by decide) w5 rfl rfl dX3_parts_92 ?_
                        refine z_si (rest := [.long ((((((((((p1 - (f_X3_first (f_X3_parts_j2 p1))) - ((f_X3_many (f_X3_parts_j2 p1) 1)).toInt64) - ((f_X3_many (f_X3_parts_j2 p1) 2)).toInt64) - ((f_X3_many (f_X3_parts_j2 p1) 3)).toInt64) - ((f_X3_many (f_X3_parts_j2 p1) 4)).toInt64) - ((f_X3_many (f_X3_parts_j2 p1) 5)).toInt64) - ((f_X3_many (f_X3_parts_j2 p1) 6)).toInt64) - ((f_X3_many (f_X3_parts_j2 p1) 7)).toInt64) - ((f_X3_many (f_X3_parts_j2 p1) 8)).toInt64) - ((f_X3_many (f_X3_parts_j2 p1) 9)).toInt64)]) C (c_X3_many l hfl D cI cJ _ (f_X3_parts_j2 p1) (10 : Int32) ) q_X3_many gX3_parts_X3_many ⟨rfl, rfl⟩ rfl rfl (Nat.le_of_ble_eq_true rfl) ⟨Nat.le_of_ble_eq_true rfl, Nat.le_of_ble_eq_true rfl⟩ ⟨Nat.le_of_ble_eq_true rfl, Nat.le_of_ble_eq_true rfl⟩ dX3_parts_95 ?_
                        refine z_i2l (v := ((f_X3_many (f_X3_parts_j2 p1) 10)).toInt64) C dX3_parts_98 rfl ?_
                        refine z_lcmp_lt (tgt := 131) C dX3_parts_99 dX3_parts_100 (by decide) (fun h12 => ?_) (fun h12 => ?_)
                        · exact K3 _ _ (by rw [f_X3_parts_j3a, if_neg h3, if_neg h4, if_neg h5, if_neg h6, if_neg h7, if_neg h8, if_neg h9, if_neg h10, if_neg h11, if_pos h12]) (by rw [f_X3_parts_j3b, if_neg h3, if_neg h4, if_neg h5, if_neg h6, if_neg h7, if_neg h8, if_neg h9, if_neg h10, if_neg h11, if_pos h12])
                        · refine z_lload_n C dX3_parts_103 rfl 0 rfl ?_
                          refine z_aload_n C dX3_parts_104 rfl 1 rfl ?_
                          refine z_get (CC := RX3) (T := TX3) (N := 14) (ci := 3) C hin 0 rfl rfl 11 (by decide) w4 rfl rfl dX3_parts_105 ?_
                          refine z_aload_n C dX3_parts_108 rfl 1 rfl ?_
                          refine z_get (CC := RX3) (T := TX3) (N := 14) (ci := 3) C hin 0 rfl rfl 12 (by decide) w5 rfl rfl dX3_parts_109 ?_
                          refine z_si (rest := [.long ((((((((((p1 - (f_X3_first (f_X3_parts_j2 p1))) - ((f_X3_many (f_X3_parts_j2 p1) 1)).toInt64) - ((f_X3_many (f_X3_parts_j2 p1) 2)).toInt64) - ((f_X3_many (f_X3_parts_j2 p1) 3)).toInt64) - ((f_X3_many (f_X3_parts_j2 p1) 4)).toInt64) - ((f_X3_many (f_X3_parts_j2 p1) 5)).toInt64) - ((f_X3_many (f_X3_parts_j2 p1) 6)).toInt64) - ((f_X3_many (f_X3_parts_j2 p1) 7)).toInt64) - ((f_X3_many (f_X3_parts_j2 p1) 8)).toInt64) - ((f_X3_many (f_X3_parts_j2 p1) 9)).toInt64)]) C (c_X3_many l hfl D cI cJ _ (f_X3_parts_j2 p1) (10 : Int32) ) q_X3_many gX3_parts_X3_many ⟨rfl, rfl⟩ rfl rfl (Nat.le_of_ble_eq_true rfl) ⟨Nat.le_of_ble_eq_true rfl, Nat.le_of_ble_eq_true rfl⟩ ⟨Nat.le_of_ble_eq_true rfl, Nat.le_of_ble_eq_true rfl⟩ dX3_parts_112 ?_
                          refine z_i2l (v := ((f_X3_many (f_X3_parts_j2 p1) 10)).toInt64) C dX3_parts_115 rfl ?_
                          refine z_lsub C dX3_parts_116 ?_
                          refine z_lstore_n (lv' := [(3, .long (((((((((((p1 - (f_X3_first (f_X3_parts_j2 p1))) - ((f_X3_many (f_X3_parts_j2 p1) 1)).toInt64) - ((f_X3_many (f_X3_parts_j2 p1) 2)).toInt64) - ((f_X3_many (f_X3_parts_j2 p1) 3)).toInt64) - ((f_X3_many (f_X3_parts_j2 p1) 4)).toInt64) - ((f_X3_many (f_X3_parts_j2 p1) 5)).toInt64) - ((f_X3_many (f_X3_parts_j2 p1) 6)).toInt64) - ((f_X3_many (f_X3_parts_j2 p1) 7)).toInt64) - ((f_X3_many (f_X3_parts_j2 p1) 8)).toInt64) - ((f_X3_many (f_X3_parts_j2 p1) 9)).toInt64) - ((f_X3_many (f_X3_parts_j2 p1) 10)).toInt64)), (0, .ref (z 0)), (1, .long p1)]) C dX3_parts_117 rfl (by decide) rfl ?_
                          refine z_aload_n C dX3_parts_118 rfl 1 rfl ?_
                          refine z_dup C dX3_parts_119 rfl ?_
                          refine z_get (CC := RX3) (T := TX3) (N := 14) (ci := 3) C hin 0 rfl rfl 12 (by decide) w5 rfl rfl dX3_parts_120 ?_
                          refine z_iconst (v := 1) C dX3_parts_123 (by decide) ?_
                          refine z_iadd C dX3_parts_124 ?_
                          refine z_eqst (st' := [.int 11, .ref (z 0)]) (congrArg (fun v => Value.int v :: _) (by decide : (10 + 1) = (11 : Int32))) ?_
                          refine z_put (CC := RX3) (T := TX3) (N := 14) (ci := 3) C hin tyX3 tyX3_ok nmX3 0 rfl rfl 12 (by decide) w5 rfl rfl rfl rfl rfl (Nat.le_of_ble_eq_true rfl) (ws' := (wM cI cJ z co d ti sL bL mD mT sy sm sd mi (f_X3_parts_j2 p1) 11 dy X)) rfl dX3_parts_125 ?_
                          refine z_goto (tgt := 86) C dX3_parts_128 (by decide) ?_
                          refine z_lload_n C dX3_parts_86 rfl 0 rfl ?_
                          refine z_aload_n C dX3_parts_87 rfl 1 rfl ?_
                          refine z_get (CC := RX3) (T := TX3) (N := 14) (ci := 3) C hin 0 rfl rfl 11 (by decide) w4 rfl rfl dX3_parts_88 ?_
                          refine z_aload_n C dX3_parts_91 rfl 1 rfl ?_
                          refine z_get (CC := RX3) (T := TX3) (N := 14) (ci := 3) C hin 0 rfl rfl 12 (by decide) w5 rfl rfl dX3_parts_92 ?_
                          refine z_si (rest := [.long (((((((((((p1 - (f_X3_first (f_X3_parts_j2 p1))) - ((f_X3_many (f_X3_parts_j2 p1) 1)).toInt64) - ((f_X3_many (f_X3_parts_j2 p1) 2)).toInt64) - ((f_X3_many (f_X3_parts_j2 p1) 3)).toInt64) - ((f_X3_many (f_X3_parts_j2 p1) 4)).toInt64) - ((f_X3_many (f_X3_parts_j2 p1) 5)).toInt64) - ((f_X3_many (f_X3_parts_j2 p1) 6)).toInt64) - ((f_X3_many (f_X3_parts_j2 p1) 7)).toInt64) - ((f_X3_many (f_X3_parts_j2 p1) 8)).toInt64) - ((f_X3_many (f_X3_parts_j2 p1) 9)).toInt64) - ((f_X3_many (f_X3_parts_j2 p1) 10)).toInt64)]) C (c_X3_many l hfl D cI cJ _ (f_X3_parts_j2 p1) (11 : Int32) ) q_X3_many gX3_parts_X3_many ⟨rfl, rfl⟩ rfl rfl (Nat.le_of_ble_eq_true rfl) ⟨Nat.le_of_ble_eq_true rfl, Nat.le_of_ble_eq_true rfl⟩ ⟨Nat.le_of_ble_eq_true rfl, Nat.le_of_ble_eq_true rfl⟩ dX3_parts_95 ?_
                          refine z_i2l (v := ((f_X3_many (f_X3_parts_j2 p1) 11)).toInt64) C dX3_parts_98 rfl ?_
                          refine z_lcmp_lt (tgt := 131) C dX3_parts_99 dX3_parts_100 (by decide) (fun h13 => ?_) (fun h13 => ?_)
                          · exact K3 _ _ (by rw [f_X3_parts_j3a, if_neg h3, if_neg h4, if_neg h5, if_neg h6, if_neg h7, if_neg h8, if_neg h9, if_neg h10, if_neg h11, if_neg h12, if_pos h13]) (by rw [f_X3_parts_j3b, if_neg h3, if_neg h4, if_neg h5, if_neg h6, if_neg h7, if_neg h8, if_neg h9, if_neg h10, if_neg h11, if_neg h12, if_pos h13])
                          · refine z_lload_n C dX3_parts_103 rfl 0 rfl ?_
                            refine z_aload_n C dX3_parts_104 rfl 1 rfl ?_
                            refine z_get (CC := RX3) (T := TX3) (N := 14) (ci := 3) C hin 0 rfl rfl 11 (by decide) w4 rfl rfl dX3_parts_105 ?_
                            refine z_aload_n C dX3_parts_108 rfl 1 rfl ?_
                            refine z_get (CC := RX3) (T := TX3) (N := 14) (ci := 3) C hin 0 rfl rfl 12 (by decide) w5 rfl rfl dX3_parts_109 ?_
                            refine z_si (rest := [.long (((((((((((p1 - (f_X3_first (f_X3_parts_j2 p1))) - ((f_X3_many (f_X3_parts_j2 p1) 1)).toInt64) - ((f_X3_many (f_X3_parts_j2 p1) 2)).toInt64) - ((f_X3_many (f_X3_parts_j2 p1) 3)).toInt64) - ((f_X3_many (f_X3_parts_j2 p1) 4)).toInt64) - ((f_X3_many (f_X3_parts_j2 p1) 5)).toInt64) - ((f_X3_many (f_X3_parts_j2 p1) 6)).toInt64) - ((f_X3_many (f_X3_parts_j2 p1) 7)).toInt64) - ((f_X3_many (f_X3_parts_j2 p1) 8)).toInt64) - ((f_X3_many (f_X3_parts_j2 p1) 9)).toInt64) - ((f_X3_many (f_X3_parts_j2 p1) 10)).toInt64)]) C (c_X3_many l hfl D cI cJ _ (f_X3_parts_j2 p1) (11 : Int32) ) q_X3_many gX3_parts_X3_many ⟨rfl, rfl⟩ rfl rfl (Nat.le_of_ble_eq_true rfl) ⟨Nat.le_of_ble_eq_true rfl, Nat.le_of_ble_eq_true rfl⟩ ⟨Nat.le_of_ble_eq_true rfl, Nat.le_of_ble_eq_true rfl⟩ dX3_parts_112 ?_
                            refine z_i2l (v := ((f_X3_many (f_X3_parts_j2 p1) 11)).toInt64) C dX3_parts_115 rfl ?_
                            refine z_lsub C dX3_parts_116 ?_
                            refine z_lstore_n (lv' := [(3, .long ((((((((((((p1 - (f_X3_first (f_X3_parts_j2 p1))) - ((f_X3_many (f_X3_parts_j2 p1) 1)).toInt64) - ((f_X3_many (f_X3_parts_j2 p1) 2)).toInt64) - ((f_X3_many (f_X3_parts_j2 p1) 3)).toInt64) - ((f_X3_many (f_X3_parts_j2 p1) 4)).toInt64) - ((f_X3_many (f_X3_parts_j2 p1) 5)).toInt64) - ((f_X3_many (f_X3_parts_j2 p1) 6)).toInt64) - ((f_X3_many (f_X3_parts_j2 p1) 7)).toInt64) - ((f_X3_many (f_X3_parts_j2 p1) 8)).toInt64) - ((f_X3_many (f_X3_parts_j2 p1) 9)).toInt64) - ((f_X3_many (f_X3_parts_j2 p1) 10)).toInt64) - ((f_X3_many (f_X3_parts_j2 p1) 11)).toInt64)), (0, .ref (z 0)), (1, .long p1)]) C dX3_parts_117 rfl (by decide) rfl ?_
                            refine z_aload_n C dX3_parts_118 rfl 1 rfl ?_
                            refine z_dup C dX3_parts_119 rfl ?_
                            refine z_get (CC := RX3) (T := TX3) (N := 14) (ci := 3) C hin 0 rfl rfl 12 (by decide) w5 rfl rfl dX3_parts_120 ?_
                            refine z_iconst (v := 1) C dX3_parts_123 (by decide) ?_
                            refine z_iadd C dX3_parts_124 ?_
                            refine z_eqst (st' := [.int 12, .ref (z 0)]) (congrArg (fun v => Value.int v :: _) (by decide : (11 + 1) = (12 : Int32))) ?_
                            refine z_put (CC := RX3) (T := TX3) (N := 14) (ci := 3) C hin tyX3 tyX3_ok nmX3 0 rfl rfl 12 (by decide) w5 rfl rfl rfl rfl rfl (Nat.le_of_ble_eq_true rfl) (ws' := (wM cI cJ z co d ti sL bL mD mT sy sm sd mi (f_X3_parts_j2 p1) 12 dy X)) rfl dX3_parts_125 ?_
                            refine z_goto (tgt := 86) C dX3_parts_128 (by decide) ?_
                            refine z_lload_n C dX3_parts_86 rfl 0 rfl ?_
                            refine z_aload_n C dX3_parts_87 rfl 1 rfl ?_
                            refine z_get (CC := RX3) (T := TX3) (N := 14) (ci := 3) C hin 0 rfl rfl 11 (by decide) w4 rfl rfl dX3_parts_88 ?_
                            refine z_aload_n C dX3_parts_91 rfl 1 rfl ?_
                            refine z_get (CC := RX3) (T := TX3) (N := 14) (ci := 3) C hin 0 rfl rfl 12 (by decide) w5 rfl rfl dX3_parts_92 ?_
                            refine z_si (rest := [.long ((((((((((((p1 - (f_X3_first (f_X3_parts_j2 p1))) - ((f_X3_many (f_X3_parts_j2 p1) 1)).toInt64) - ((f_X3_many (f_X3_parts_j2 p1) 2)).toInt64) - ((f_X3_many (f_X3_parts_j2 p1) 3)).toInt64) - ((f_X3_many (f_X3_parts_j2 p1) 4)).toInt64) - ((f_X3_many (f_X3_parts_j2 p1) 5)).toInt64) - ((f_X3_many (f_X3_parts_j2 p1) 6)).toInt64) - ((f_X3_many (f_X3_parts_j2 p1) 7)).toInt64) - ((f_X3_many (f_X3_parts_j2 p1) 8)).toInt64) - ((f_X3_many (f_X3_parts_j2 p1) 9)).toInt64) - ((f_X3_many (f_X3_parts_j2 p1) 10)).toInt64) - ((f_X3_many (f_X3_parts_j2 p1) 11)).toInt64)]) C (c_X3_many l hfl D cI cJ _ (f_X3_parts_j2 p1) (12 : Int32) ) q_X3_many gX3_parts_X3_many ⟨rfl, rfl⟩ rfl rfl (Nat.le_of_ble_eq_true rfl) ⟨Nat.le_of_ble_eq_true rfl, Nat.le_of_ble_eq_true rfl⟩ ⟨Nat.le_of_ble_eq_true rfl, Nat.le_of_ble_eq_true rfl⟩ dX3_parts_95 ?_
                            refine z_i2l (v := ((f_X3_many (f_X3_parts_j2 p1) 12)).toInt64) C dX3_parts_98 rfl ?_
                            refine z_lcmp_lt (tgt := 131) C dX3_parts_99 dX3_parts_100 (by decide) (fun _ => ?_) (fun h => absurd (g_2 h3 h4 h5 h6 h7 h8 h9 h10 h11 h12 h13) h)
                            exact K3 _ _ (by rw [f_X3_parts_j3a, if_neg h3, if_neg h4, if_neg h5, if_neg h6, if_neg h7, if_neg h8, if_neg h9, if_neg h10, if_neg h11, if_neg h12, if_neg h13]) (by rw [f_X3_parts_j3b, if_neg h3, if_neg h4, if_neg h5, if_neg h6, if_neg h7, if_neg h8, if_neg h9, if_neg h10, if_neg h11, if_neg h12, if_neg h13])
    refine z_lcmp_gt (tgt := 71) C dX3_parts_54 dX3_parts_55 (by decide) (fun h2 => ?_) (fun h2 => ?_)
    · exact K2 _ (by rw [f_X3_parts_j2, if_pos h2])
    · refine z_aload_n C dX3_parts_58 rfl 0 rfl ?_
      refine z_dup C dX3_parts_59 rfl ?_
      refine z_get (CC := RX3) (T := TX3) (N := 14) (ci := 3) C hin 0 rfl rfl 11 (by decide) w4 rfl rfl dX3_parts_60 ?_
      refine z_lconst (v := 1) C dX3_parts_63 (by decide) ?_
      refine z_ladd C dX3_parts_64 ?_
      refine z_put (CC := RX3) (T := TX3) (N := 14) (ci := 3) C hin tyX3 tyX3_ok nmX3 0 rfl rfl 11 (by decide) w4 rfl rfl rfl rfl rfl (Nat.le_of_ble_eq_true rfl) (ws' := (wM cI cJ z co d ti sL bL mD mT sy sm sd mi ((f_X3_parts_j1 p1) + 1) mo dy X)) rfl dX3_parts_65 ?_
      refine z_goto (tgt := 44) C dX3_parts_68 (by decide) ?_
      refine z_aload_n C dX3_parts_44 rfl 0 rfl ?_
      refine z_get (CC := RX3) (T := TX3) (N := 14) (ci := 3) C hin 0 rfl rfl 11 (by decide) w4 rfl rfl dX3_parts_45 ?_
      refine z_lconst (v := 1) C dX3_parts_48 (by decide) ?_
      refine z_ladd C dX3_parts_49 ?_
      refine z_sl (rest := []) C (c_X3_first l hfl D cI cJ _ (((f_X3_parts_j1 p1) + 1) + 1) ) q_X3_first gX3_parts_X3_first ⟨rfl, rfl⟩ rfl rfl (Nat.le_of_ble_eq_true rfl) ⟨Nat.le_of_ble_eq_true rfl, Nat.le_of_ble_eq_true rfl⟩ ⟨Nat.le_of_ble_eq_true rfl, Nat.le_of_ble_eq_true rfl⟩ dX3_parts_50 ?_
      refine z_lload_n C dX3_parts_53 rfl 1 rfl ?_
      refine z_lcmp_gt (tgt := 71) C dX3_parts_54 dX3_parts_55 (by decide) (fun _ => ?_) (fun h => absurd (g_1 h2) h)
      exact K2 _ (by rw [f_X3_parts_j2, if_neg h2])
  refine z_lcmp_le (tgt := 44) C dX3_parts_27 dX3_parts_28 (by decide) (fun h1 => ?_) (fun h1 => ?_)
  · exact K1 _ (by rw [f_X3_parts_j1, if_pos h1])
  · refine z_aload_n C dX3_parts_31 rfl 0 rfl ?_
    refine z_dup C dX3_parts_32 rfl ?_
    refine z_get (CC := RX3) (T := TX3) (N := 14) (ci := 3) C hin 0 rfl rfl 11 (by decide) w4 rfl rfl dX3_parts_33 ?_
    refine z_lconst (v := 1) C dX3_parts_36 (by decide) ?_
    refine z_lsub C dX3_parts_37 ?_
    refine z_put (CC := RX3) (T := TX3) (N := 14) (ci := 3) C hin tyX3 tyX3_ok nmX3 0 rfl rfl 11 (by decide) w4 rfl rfl rfl rfl rfl (Nat.le_of_ble_eq_true rfl) (ws' := (wM cI cJ z co d ti sL bL mD mT sy sm sd mi ((1970 + (f_X3_floor (p1 * 400) 146097)) - 1) mo dy X)) rfl dX3_parts_38 ?_
    refine z_goto (tgt := 19) C dX3_parts_41 (by decide) ?_
    refine z_aload_n C dX3_parts_19 rfl 0 rfl ?_
    refine z_get (CC := RX3) (T := TX3) (N := 14) (ci := 3) C hin 0 rfl rfl 11 (by decide) w4 rfl rfl dX3_parts_20 ?_
    refine z_sl (rest := []) C (c_X3_first l hfl D cI cJ _ ((1970 + (f_X3_floor (p1 * 400) 146097)) - 1) ) q_X3_first gX3_parts_X3_first ⟨rfl, rfl⟩ rfl rfl (Nat.le_of_ble_eq_true rfl) ⟨Nat.le_of_ble_eq_true rfl, Nat.le_of_ble_eq_true rfl⟩ ⟨Nat.le_of_ble_eq_true rfl, Nat.le_of_ble_eq_true rfl⟩ dX3_parts_23 ?_
    refine z_lload_n C dX3_parts_26 rfl 1 rfl ?_
    refine z_lcmp_le (tgt := 44) C dX3_parts_27 dX3_parts_28 (by decide) (fun _ => ?_) (fun h => absurd (g_0 h1) h)
    exact K1 _ (by rw [f_X3_parts_j1, if_neg h1])
def f_X3_isKept (p1 : Int64) : Int32 := (f_X3_isYear (s_X3_parts_yr p1))
def s_X3_isKept_yr (p1 : Int64) : Int64 := (s_X3_parts_yr p1)
def s_X3_isKept_mo (p1 : Int64) : Int32 := (s_X3_parts_mo p1)
def s_X3_isKept_dy (p1 : Int64) : Int32 := (s_X3_parts_dy p1)
def pre_X3_isKept (p1 : Int64) : Prop := ((pre_X3_parts p1))
theorem q_X3_isKept : ZY yX3_isKept wsX3_isKept cX3_isKept 3 (some .boolean) 1 := ⟨⟨_, rfl⟩, by decide +kernel, by decide +kernel, by decide +kernel⟩
set_option maxHeartbeats 4000000 in
set_option maxRecDepth 100000 in
theorem c_X3_isKept (l : Launch) (hfl : l.stackTraces = false) (D : va_G) (cI cJ : ClassId) (X : va_W) (z : Nat → Nat) (co : Int32) (d : Nat → Int64) (ti : Nat → Int64) (sL : Nat → Int64) (bL : Nat → Int64) (mD : Nat → Int64) (mT : Nat → Int64) (sy : Nat → Int64) (sm : Nat → Int64) (sd : Nat → Int64) (mi : Nat → Int64) (yr : Int64) (mo : Int32) (dy : Int32) (p1 : Int64)  (h_g : pre_X3_isKept p1) : ZM l yX3_isKept wsX3_isKept { frames := 5, cells := 0, slots := 0, locals := 113 } [.ref (z 0), .long p1] D (zTys cI cJ) (wM cI cJ z co d ti sL bL mD mT sy sm sd mi yr mo dy X) 0 0 (fun v w => v = some (.int (f_X3_isKept p1)) ∧ w = (wM cI cJ z co d ti sL bL mD mT sy sm sd mi (s_X3_isKept_yr p1) (s_X3_isKept_mo p1) (s_X3_isKept_dy p1) X)) (fun _ _ => False) := by
  refine z_open (own := RX3) hfl (cc := cX3_isKept) (maxL := 3) (ret := (some .boolean)) (lv := [(0, .ref (z 0)), (1, .long p1)]) rfl (by decide) rfl rfl (Nat.le_of_ble_eq_true rfl) ?_
  intro p e s m args below meth c A C hno hnm hargs
  have hin : ∀ w ∈ wsX30, w ∈ wsX3_isKept := by decide +kernel
  have w1 := C.1.2.2.2.2 (.fieldLink RX3 86 "YearwheelModel" "year" "J") (by decide +kernel)
  have g_0 := h_g
  refine z_aload_n C dX3_isKept_0 rfl 0 rfl ?_
  refine z_lload_n C dX3_isKept_1 rfl 1 rfl ?_
  refine z_wv (ws' := (wM cI cJ z co d ti sL bL mD mT sy sm sd mi (s_X3_parts_yr p1) (s_X3_parts_mo p1) (s_X3_parts_dy p1) X)) (rest := []) (ci := 3) (q0 := 0) C (c_X3_parts l hfl D cI cJ X z co d ti sL bL mD mT sy sm sd mi yr mo dy p1 (g_0)) q_X3_parts rfl rfl rfl gX3_isKept_X3_parts ⟨rfl, rfl⟩ rfl rfl (Nat.le_of_ble_eq_true rfl) ⟨Nat.le_of_ble_eq_true rfl, Nat.le_of_ble_eq_true rfl⟩ ⟨Nat.le_of_ble_eq_true rfl, Nat.le_of_ble_eq_true rfl⟩ dX3_isKept_2 ?_
  refine z_aload_n C dX3_isKept_5 rfl 0 rfl ?_
  refine z_get (CC := RX3) (T := TX3) (N := 14) (ci := 3) C hin 0 rfl rfl 11 (by decide) w1 rfl rfl dX3_isKept_6 ?_
  refine z_si (rest := []) C (c_X3_isYear l hfl D cI cJ _ (s_X3_parts_yr p1) ) q_X3_isYear gX3_isKept_X3_isYear ⟨rfl, rfl⟩ rfl rfl (Nat.le_of_ble_eq_true rfl) ⟨Nat.le_of_ble_eq_true rfl, Nat.le_of_ble_eq_true rfl⟩ ⟨Nat.le_of_ble_eq_true rfl, Nat.le_of_ble_eq_true rfl⟩ dX3_isKept_9 ?_
  exact z_zret C (zb01 (b_X3_isYear (s_X3_parts_yr p1))) ⟨congrArg (fun v => some (Value.int v)) (rfl : (f_X3_isYear (s_X3_parts_yr p1)) = (f_X3_isKept p1)), rfl⟩ (by decide) (by decide) dX3_isKept_12
theorem b_X3_isKept (p1 : Int64) : f_X3_isKept p1 = 0 ∨ f_X3_isKept p1 = 1 := b_X3_isYear _
def f_X3_byMonths_j1 (p1 : Int64) (p2 : Int64) : Int32 := (if (s_X3_parts_dy p1) ≤ (f_X3_many (f_X3_floor ((((12 * (s_X3_parts_yr p1)) + ((s_X3_parts_mo p1)).toInt64) - 1) + p2) 12) (1 + ((f_X3_rest ((((12 * (s_X3_parts_yr p1)) + ((s_X3_parts_mo p1)).toInt64) - 1) + p2) 12)).toInt32)) then (s_X3_parts_dy p1) else (f_X3_many (f_X3_floor ((((12 * (s_X3_parts_yr p1)) + ((s_X3_parts_mo p1)).toInt64) - 1) + p2) 12) (1 + ((f_X3_rest ((((12 * (s_X3_parts_yr p1)) + ((s_X3_parts_mo p1)).toInt64) - 1) + p2) 12)).toInt32)))
def f_X3_byMonths (p1 : Int64) (p2 : Int64) : Int64 := (f_X3_number (f_X3_floor ((((12 * (s_X3_parts_yr p1)) + ((s_X3_parts_mo p1)).toInt64) - 1) + p2) 12) (1 + ((f_X3_rest ((((12 * (s_X3_parts_yr p1)) + ((s_X3_parts_mo p1)).toInt64) - 1) + p2) 12)).toInt32) (f_X3_byMonths_j1 p1 p2))
def s_X3_byMonths_yr (p1 : Int64) : Int64 := (s_X3_parts_yr p1)
def s_X3_byMonths_mo (p1 : Int64) : Int32 := (s_X3_parts_mo p1)
def s_X3_byMonths_dy (p1 : Int64) : Int32 := (s_X3_parts_dy p1)
def pre_X3_byMonths (p1 : Int64) (p2 : Int64) : Prop := ((pre_X3_parts p1)) ∧ (((1 + ((f_X3_rest ((((12 * (s_X3_parts_yr p1)) + ((s_X3_parts_mo p1)).toInt64) - 1) + p2) 12)).toInt32) ≤ 12))
theorem q_X3_byMonths : ZY yX3_byMonths wsX3_byMonths cX3_byMonths 10 (some .long) 2 := ⟨⟨_, rfl⟩, by decide +kernel, by decide +kernel, by decide +kernel⟩
set_option maxHeartbeats 4000000 in
set_option maxRecDepth 100000 in
theorem c_X3_byMonths (l : Launch) (hfl : l.stackTraces = false) (D : va_G) (cI cJ : ClassId) (X : va_W) (z : Nat → Nat) (co : Int32) (d : Nat → Int64) (ti : Nat → Int64) (sL : Nat → Int64) (bL : Nat → Int64) (mD : Nat → Int64) (mT : Nat → Int64) (sy : Nat → Int64) (sm : Nat → Int64) (sd : Nat → Int64) (mi : Nat → Int64) (yr : Int64) (mo : Int32) (dy : Int32) (p1 : Int64) (p2 : Int64)  (h_g : pre_X3_byMonths p1 p2) : ZM l yX3_byMonths wsX3_byMonths { frames := 5, cells := 0, slots := 0, locals := 115 } [.ref (z 0), .long p1, .long p2] D (zTys cI cJ) (wM cI cJ z co d ti sL bL mD mT sy sm sd mi yr mo dy X) 0 0 (fun v w => v = some (.long (f_X3_byMonths p1 p2)) ∧ w = (wM cI cJ z co d ti sL bL mD mT sy sm sd mi (s_X3_byMonths_yr p1) (s_X3_byMonths_mo p1) (s_X3_byMonths_dy p1) X)) (fun _ _ => False) := by
  refine z_open (own := RX3) hfl (cc := cX3_byMonths) (maxL := 10) (ret := (some .long)) (lv := [(0, .ref (z 0)), (1, .long p1), (3, .long p2)]) rfl (by decide) rfl rfl (Nat.le_of_ble_eq_true rfl) ?_
  intro p e s m args below meth c A C hno hnm hargs
  have hin : ∀ w ∈ wsX30, w ∈ wsX3_byMonths := by decide +kernel
  have w1 := C.1.2.2.2.2 (.constantLong RX3 113 (12)) (by decide +kernel)
  have w2 := C.1.2.2.2.2 (.fieldLink RX3 86 "YearwheelModel" "year" "J") (by decide +kernel)
  have w3 := C.1.2.2.2.2 (.fieldLink RX3 90 "YearwheelModel" "month" "I") (by decide +kernel)
  have w4 := C.1.2.2.2.2 (.fieldLink RX3 93 "YearwheelModel" "day" "I") (by decide +kernel)
  obtain ⟨g_0, g_1⟩ := h_g
  refine z_aload_n C dX3_byMonths_0 rfl 0 rfl ?_
  refine z_lload_n C dX3_byMonths_1 rfl 1 rfl ?_
  refine z_wv (ws' := (wM cI cJ z co d ti sL bL mD mT sy sm sd mi (s_X3_parts_yr p1) (s_X3_parts_mo p1) (s_X3_parts_dy p1) X)) (rest := []) (ci := 3) (q0 := 0) C (c_X3_parts l hfl D cI cJ X z co d ti sL bL mD mT sy sm sd mi yr mo dy p1 (g_0)) q_X3_parts rfl rfl rfl gX3_byMonths_X3_parts ⟨rfl, rfl⟩ rfl rfl (Nat.le_of_ble_eq_true rfl) ⟨Nat.le_of_ble_eq_true rfl, Nat.le_of_ble_eq_true rfl⟩ ⟨Nat.le_of_ble_eq_true rfl, Nat.le_of_ble_eq_true rfl⟩ dX3_byMonths_2 ?_
  refine z_ldc2 (v := 12) C w1 dX3_byMonths_5 ?_
  refine z_aload_n C dX3_byMonths_8 rfl 0 rfl ?_
  refine z_get (CC := RX3) (T := TX3) (N := 14) (ci := 3) C hin 0 rfl rfl 11 (by decide) w2 rfl rfl dX3_byMonths_9 ?_
  refine z_lmul C dX3_byMonths_12 ?_
  refine z_aload_n C dX3_byMonths_13 rfl 0 rfl ?_
  refine z_get (CC := RX3) (T := TX3) (N := 14) (ci := 3) C hin 0 rfl rfl 12 (by decide) w3 rfl rfl dX3_byMonths_14 ?_
  refine z_i2l (v := ((s_X3_parts_mo p1)).toInt64) C dX3_byMonths_17 rfl ?_
  refine z_ladd C dX3_byMonths_18 ?_
  refine z_lconst (v := 1) C dX3_byMonths_19 (by decide) ?_
  refine z_lsub C dX3_byMonths_20 ?_
  refine z_lload_n C dX3_byMonths_21 rfl 2 rfl ?_
  refine z_ladd C dX3_byMonths_22 ?_
  refine z_lstore (lv' := [(5, .long ((((12 * (s_X3_parts_yr p1)) + ((s_X3_parts_mo p1)).toInt64) - 1) + p2)), (0, .ref (z 0)), (1, .long p1), (3, .long p2)]) C dX3_byMonths_23 (by decide) rfl ?_
  refine z_lload C dX3_byMonths_25 0 rfl ?_
  refine z_ldc2 (v := 12) C w1 dX3_byMonths_27 ?_
  refine z_sl (rest := []) C (c_X3_floor l hfl D cI cJ _ ((((12 * (s_X3_parts_yr p1)) + ((s_X3_parts_mo p1)).toInt64) - 1) + p2) (12 : Int64) (by decide)) q_X3_floor gX3_byMonths_X3_floor ⟨rfl, rfl⟩ rfl rfl (Nat.le_of_ble_eq_true rfl) ⟨Nat.le_of_ble_eq_true rfl, Nat.le_of_ble_eq_true rfl⟩ ⟨Nat.le_of_ble_eq_true rfl, Nat.le_of_ble_eq_true rfl⟩ dX3_byMonths_30 ?_
  refine z_lstore (lv' := [(7, .long (f_X3_floor ((((12 * (s_X3_parts_yr p1)) + ((s_X3_parts_mo p1)).toInt64) - 1) + p2) 12)), (5, .long ((((12 * (s_X3_parts_yr p1)) + ((s_X3_parts_mo p1)).toInt64) - 1) + p2)), (0, .ref (z 0)), (1, .long p1), (3, .long p2)]) C dX3_byMonths_33 (by decide) rfl ?_
  refine z_iconst (v := 1) C dX3_byMonths_35 (by decide) ?_
  refine z_lload C dX3_byMonths_36 1 rfl ?_
  refine z_ldc2 (v := 12) C w1 dX3_byMonths_38 ?_
  refine z_sl (rest := [.int 1]) C (c_X3_rest l hfl D cI cJ _ ((((12 * (s_X3_parts_yr p1)) + ((s_X3_parts_mo p1)).toInt64) - 1) + p2) (12 : Int64) (by decide)) q_X3_rest gX3_byMonths_X3_rest ⟨rfl, rfl⟩ rfl rfl (Nat.le_of_ble_eq_true rfl) ⟨Nat.le_of_ble_eq_true rfl, Nat.le_of_ble_eq_true rfl⟩ ⟨Nat.le_of_ble_eq_true rfl, Nat.le_of_ble_eq_true rfl⟩ dX3_byMonths_41 ?_
  refine z_l2i (v := ((f_X3_rest ((((12 * (s_X3_parts_yr p1)) + ((s_X3_parts_mo p1)).toInt64) - 1) + p2) 12)).toInt32) C dX3_byMonths_44 rfl ?_
  refine z_iadd C dX3_byMonths_45 ?_
  refine z_istore (lv' := [(9, .int (1 + ((f_X3_rest ((((12 * (s_X3_parts_yr p1)) + ((s_X3_parts_mo p1)).toInt64) - 1) + p2) 12)).toInt32)), (7, .long (f_X3_floor ((((12 * (s_X3_parts_yr p1)) + ((s_X3_parts_mo p1)).toInt64) - 1) + p2) 12)), (5, .long ((((12 * (s_X3_parts_yr p1)) + ((s_X3_parts_mo p1)).toInt64) - 1) + p2)), (0, .ref (z 0)), (1, .long p1), (3, .long p2)]) C dX3_byMonths_46 (by decide) rfl ?_
  refine z_lload C dX3_byMonths_48 1 rfl ?_
  refine z_iload C dX3_byMonths_50 0 rfl ?_
  refine z_aload_n C dX3_byMonths_52 rfl 3 rfl ?_
  refine z_get (CC := RX3) (T := TX3) (N := 14) (ci := 3) C hin 0 rfl rfl 13 (by decide) w4 rfl rfl dX3_byMonths_53 ?_
  refine z_lload C dX3_byMonths_56 1 rfl ?_
  refine z_iload C dX3_byMonths_58 0 rfl ?_
  refine z_si (rest := [.int (s_X3_parts_dy p1), .int (1 + ((f_X3_rest ((((12 * (s_X3_parts_yr p1)) + ((s_X3_parts_mo p1)).toInt64) - 1) + p2) 12)).toInt32), .long (f_X3_floor ((((12 * (s_X3_parts_yr p1)) + ((s_X3_parts_mo p1)).toInt64) - 1) + p2) 12)]) C (c_X3_many l hfl D cI cJ _ (f_X3_floor ((((12 * (s_X3_parts_yr p1)) + ((s_X3_parts_mo p1)).toInt64) - 1) + p2) 12) (1 + ((f_X3_rest ((((12 * (s_X3_parts_yr p1)) + ((s_X3_parts_mo p1)).toInt64) - 1) + p2) 12)).toInt32) ) q_X3_many gX3_byMonths_X3_many ⟨rfl, rfl⟩ rfl rfl (Nat.le_of_ble_eq_true rfl) ⟨Nat.le_of_ble_eq_true rfl, Nat.le_of_ble_eq_true rfl⟩ ⟨Nat.le_of_ble_eq_true rfl, Nat.le_of_ble_eq_true rfl⟩ dX3_byMonths_60 ?_
  have K1 : ∀ (v1_0 : Int32), (f_X3_byMonths_j1 p1 p2) = v1_0 → ZW p l e { frames := 5, cells := 0, slots := 0, locals := 115 } s m args below meth c 10 D (zTys cI cJ) A (zE D (zTys cI cJ) A below args s (fun v w => v = some (.long (f_X3_byMonths p1 p2)) ∧ w = (wM cI cJ z co d ti sL bL mD mT sy sm sd mi (s_X3_byMonths_yr p1) (s_X3_byMonths_mo p1) (s_X3_byMonths_dy p1) X)) (fun _ _ => False) 0 0) 0 0 (wM cI cJ z co d ti sL bL mD mT sy sm sd mi (s_X3_parts_yr p1) (s_X3_parts_mo p1) (s_X3_parts_dy p1) X) 80 [(9, .int (1 + ((f_X3_rest ((((12 * (s_X3_parts_yr p1)) + ((s_X3_parts_mo p1)).toInt64) - 1) + p2) 12)).toInt32)), (7, .long (f_X3_floor ((((12 * (s_X3_parts_yr p1)) + ((s_X3_parts_mo p1)).toInt64) - 1) + p2) 12)), (5, .long ((((12 * (s_X3_parts_yr p1)) + ((s_X3_parts_mo p1)).toInt64) - 1) + p2)), (0, .ref (z 0)), (1, .long p1), (3, .long p2)] [.int v1_0, .int (1 + ((f_X3_rest ((((12 * (s_X3_parts_yr p1)) + ((s_X3_parts_mo p1)).toInt64) - 1) + p2) 12)).toInt32), .long (f_X3_floor ((((12 * (s_X3_parts_yr p1)) + ((s_X3_parts_mo p1)).toInt64) - 1) + p2) 12)] := by
    rintro _ rfl
    refine z_sl (rest := []) C (c_X3_number l hfl D cI cJ _ (f_X3_floor ((((12 * (s_X3_parts_yr p1)) + ((s_X3_parts_mo p1)).toInt64) - 1) + p2) 12) (1 + ((f_X3_rest ((((12 * (s_X3_parts_yr p1)) + ((s_X3_parts_mo p1)).toInt64) - 1) + p2) 12)).toInt32) (f_X3_byMonths_j1 p1 p2) (g_1)) q_X3_number gX3_byMonths_X3_number ⟨rfl, rfl⟩ rfl rfl (Nat.le_of_ble_eq_true rfl) ⟨Nat.le_of_ble_eq_true rfl, Nat.le_of_ble_eq_true rfl⟩ ⟨Nat.le_of_ble_eq_true rfl, Nat.le_of_ble_eq_true rfl⟩ dX3_byMonths_80 ?_
    exact z_lret C ⟨congrArg (fun v => some (Value.long v)) (rfl : (f_X3_number (f_X3_floor ((((12 * (s_X3_parts_yr p1)) + ((s_X3_parts_mo p1)).toInt64) - 1) + p2) 12) (1 + ((f_X3_rest ((((12 * (s_X3_parts_yr p1)) + ((s_X3_parts_mo p1)).toInt64) - 1) + p2) 12)).toInt32) (f_X3_byMonths_j1 p1 p2)) = (f_X3_byMonths p1 p2)), rfl⟩ (by decide) (by decide) dX3_byMonths_83
  refine z_icmp_le (tgt := 76) C dX3_byMonths_63 (by decide) (fun h1 => ?_) (fun h1 => ?_)
  · refine z_aload_n C dX3_byMonths_76 rfl 3 rfl ?_
    refine z_get (CC := RX3) (T := TX3) (N := 14) (ci := 3) C hin 0 rfl rfl 13 (by decide) w4 rfl rfl dX3_byMonths_77 ?_
    exact K1 _ (by rw [f_X3_byMonths_j1, if_pos h1])
  · refine z_lload C dX3_byMonths_66 1 rfl ?_
    refine z_iload C dX3_byMonths_68 0 rfl ?_
    refine z_si (rest := [.int (1 + ((f_X3_rest ((((12 * (s_X3_parts_yr p1)) + ((s_X3_parts_mo p1)).toInt64) - 1) + p2) 12)).toInt32), .long (f_X3_floor ((((12 * (s_X3_parts_yr p1)) + ((s_X3_parts_mo p1)).toInt64) - 1) + p2) 12)]) C (c_X3_many l hfl D cI cJ _ (f_X3_floor ((((12 * (s_X3_parts_yr p1)) + ((s_X3_parts_mo p1)).toInt64) - 1) + p2) 12) (1 + ((f_X3_rest ((((12 * (s_X3_parts_yr p1)) + ((s_X3_parts_mo p1)).toInt64) - 1) + p2) 12)).toInt32) ) q_X3_many gX3_byMonths_X3_many ⟨rfl, rfl⟩ rfl rfl (Nat.le_of_ble_eq_true rfl) ⟨Nat.le_of_ble_eq_true rfl, Nat.le_of_ble_eq_true rfl⟩ ⟨Nat.le_of_ble_eq_true rfl, Nat.le_of_ble_eq_true rfl⟩ dX3_byMonths_70 ?_
    refine z_goto (tgt := 80) C dX3_byMonths_73 (by decide) ?_
    exact K1 _ (by rw [f_X3_byMonths_j1, if_neg h1])
def f_X3_becomes_j1 (p2 : Int64) (p3 : Int32) : Int32 := (if (f_X3_isKept p2) = 0 then p3 else 0)
def f_X3_becomes (p2 : Int64) (p3 : Int32) : Int64 := (if (f_X3_fails (f_X3_becomes_j1 p2 p3)) = 0 then p2 else 0)
def s_X3_becomes_co (p2 : Int64) (p3 : Int32) : Int32 := (if (f_X3_fails (f_X3_becomes_j1 p2 p3)) = 0 then (s_X3_fails_co (f_X3_becomes_j1 p2 p3)) else (s_X3_fails_co (f_X3_becomes_j1 p2 p3)))
def s_X3_becomes_d (d : Nat → Int64) (p1 : Int32) (p2 : Int64) (p3 : Int32) : Nat → Int64 := (if (f_X3_fails (f_X3_becomes_j1 p2 p3)) = 0 then (vp_updL d p1.toNatClampNeg p2) else d)
def s_X3_becomes_yr (p2 : Int64) (p3 : Int32) : Int64 := (if (f_X3_fails (f_X3_becomes_j1 p2 p3)) = 0 then (s_X3_isKept_yr p2) else (s_X3_isKept_yr p2))
def s_X3_becomes_mo (p2 : Int64) (p3 : Int32) : Int32 := (if (f_X3_fails (f_X3_becomes_j1 p2 p3)) = 0 then (s_X3_isKept_mo p2) else (s_X3_isKept_mo p2))
def s_X3_becomes_dy (p2 : Int64) (p3 : Int32) : Int32 := (if (f_X3_fails (f_X3_becomes_j1 p2 p3)) = 0 then (s_X3_isKept_dy p2) else (s_X3_isKept_dy p2))
def pre_X3_becomes (p1 : Int32) (p2 : Int64) (p3 : Int32) : Prop := ((pre_X3_isKept p2)) ∧ (((f_X3_fails (f_X3_becomes_j1 p2 p3)) = 0) → (vp_in p1 6))
theorem q_X3_becomes : ZY yX3_becomes wsX3_becomes cX3_becomes 5 (some .long) 3 := ⟨⟨_, rfl⟩, by decide +kernel, by decide +kernel, by decide +kernel⟩
set_option maxHeartbeats 4000000 in
set_option maxRecDepth 100000 in
theorem c_X3_becomes (l : Launch) (hfl : l.stackTraces = false) (D : va_G) (cI cJ : ClassId) (X : va_W) (z : Nat → Nat) (co : Int32) (d : Nat → Int64) (ti : Nat → Int64) (sL : Nat → Int64) (bL : Nat → Int64) (mD : Nat → Int64) (mT : Nat → Int64) (sy : Nat → Int64) (sm : Nat → Int64) (sd : Nat → Int64) (mi : Nat → Int64) (yr : Int64) (mo : Int32) (dy : Int32) (p1 : Int32) (p2 : Int64) (p3 : Int32)  (h_g : pre_X3_becomes p1 p2 p3) : ZM l yX3_becomes wsX3_becomes { frames := 6, cells := 0, slots := 0, locals := 135 } [.ref (z 0), .int p1, .long p2, .int p3] D (zTys cI cJ) (wM cI cJ z co d ti sL bL mD mT sy sm sd mi yr mo dy X) 0 0 (fun v w => v = some (.long (f_X3_becomes p2 p3)) ∧ w = (wM cI cJ z (s_X3_becomes_co p2 p3) (s_X3_becomes_d d p1 p2 p3) ti sL bL mD mT sy sm sd mi (s_X3_becomes_yr p2 p3) (s_X3_becomes_mo p2 p3) (s_X3_becomes_dy p2 p3) X)) (fun _ _ => False) := by
  refine z_open (own := RX3) hfl (cc := cX3_becomes) (maxL := 5) (ret := (some .long)) (lv := [(0, .ref (z 0)), (1, .int p1), (2, .long p2), (4, .int p3)]) rfl (by decide) rfl rfl (Nat.le_of_ble_eq_true rfl) ?_
  intro p e s m args below meth c A C hno hnm hargs
  have hin : ∀ w ∈ wsX30, w ∈ wsX3_becomes := by decide +kernel
  have w1 := C.1.2.2.2.2 (.fieldLink RX3 13 "YearwheelModel" "dates" "[J") (by decide +kernel)
  obtain ⟨g_0, g_1⟩ := h_g
  refine z_aload_n C dX3_becomes_0 rfl 0 rfl ?_
  refine z_aload_n C dX3_becomes_1 rfl 0 rfl ?_
  refine z_lload_n C dX3_becomes_2 rfl 2 rfl ?_
  refine z_wi (ws' := (wM cI cJ z co d ti sL bL mD mT sy sm sd mi (s_X3_isKept_yr p2) (s_X3_isKept_mo p2) (s_X3_isKept_dy p2) X)) (rest := [.ref (z 0)]) (ci := 3) (q0 := 0) C (c_X3_isKept l hfl D cI cJ X z co d ti sL bL mD mT sy sm sd mi yr mo dy p2 (g_0)) q_X3_isKept rfl rfl rfl gX3_becomes_X3_isKept ⟨rfl, rfl⟩ rfl rfl (Nat.le_of_ble_eq_true rfl) ⟨Nat.le_of_ble_eq_true rfl, Nat.le_of_ble_eq_true rfl⟩ ⟨Nat.le_of_ble_eq_true rfl, Nat.le_of_ble_eq_true rfl⟩ dX3_becomes_3 ?_
  have K1 : ∀ (v1_0 : Int32), (f_X3_becomes_j1 p2 p3) = v1_0 → ZW p l e { frames := 6, cells := 0, slots := 0, locals := 135 } s m args below meth c 5 D (zTys cI cJ) A (zE D (zTys cI cJ) A below args s (fun v w => v = some (.long (f_X3_becomes p2 p3)) ∧ w = (wM cI cJ z (s_X3_becomes_co p2 p3) (s_X3_becomes_d d p1 p2 p3) ti sL bL mD mT sy sm sd mi (s_X3_becomes_yr p2 p3) (s_X3_becomes_mo p2 p3) (s_X3_becomes_dy p2 p3) X)) (fun _ _ => False) 0 0) 0 0 (wM cI cJ z co d ti sL bL mD mT sy sm sd mi (s_X3_isKept_yr p2) (s_X3_isKept_mo p2) (s_X3_isKept_dy p2) X) 15 [(0, .ref (z 0)), (1, .int p1), (2, .long p2), (4, .int p3)] [.int v1_0, .ref (z 0)] := by
    rintro _ rfl
    refine z_wi (ws' := (wM cI cJ z (s_X3_fails_co (f_X3_becomes_j1 p2 p3)) d ti sL bL mD mT sy sm sd mi (s_X3_isKept_yr p2) (s_X3_isKept_mo p2) (s_X3_isKept_dy p2) X)) (rest := []) (ci := 3) (q0 := 0) C (c_X3_fails l hfl D cI cJ X z co d ti sL bL mD mT sy sm sd mi (s_X3_isKept_yr p2) (s_X3_isKept_mo p2) (s_X3_isKept_dy p2) (f_X3_becomes_j1 p2 p3) ) q_X3_fails rfl rfl rfl gX3_becomes_X3_fails ⟨rfl, rfl⟩ rfl rfl (Nat.le_of_ble_eq_true rfl) ⟨Nat.le_of_ble_eq_true rfl, Nat.le_of_ble_eq_true rfl⟩ ⟨Nat.le_of_ble_eq_true rfl, Nat.le_of_ble_eq_true rfl⟩ dX3_becomes_15 ?_
    refine z_if_eq (tgt := 23) C dX3_becomes_18 (by decide) (fun h2 => ?_) (fun h2 => ?_)
    · refine z_aload_n C dX3_becomes_23 rfl 0 rfl ?_
      refine z_get (CC := RX3) (T := TX3) (N := 14) (ci := 3) C hin 0 rfl rfl 1 (by decide) w1 rfl rfl dX3_becomes_24 ?_
      refine z_iload_n C dX3_becomes_27 rfl 1 rfl ?_
      refine z_lload_n C dX3_becomes_28 rfl 2 rfl ?_
      refine z_last C 1 1 rfl rfl (g_1 h2) (ws' := (wM cI cJ z (s_X3_fails_co (f_X3_becomes_j1 p2 p3)) (vp_updL d p1.toNatClampNeg p2) ti sL bL mD mT sy sm sd mi (s_X3_isKept_yr p2) (s_X3_isKept_mo p2) (s_X3_isKept_dy p2) X)) rfl dX3_becomes_29 ?_
      refine z_lload_n C dX3_becomes_30 rfl 2 rfl ?_
      exact z_lret C ⟨congrArg (fun v => some (Value.long v)) (by rw [f_X3_becomes, if_pos h2] : p2 = (f_X3_becomes p2 p3)), by rw [s_X3_becomes_co, if_pos h2, s_X3_becomes_d, if_pos h2, s_X3_becomes_yr, if_pos h2, s_X3_becomes_mo, if_pos h2, s_X3_becomes_dy, if_pos h2]⟩ (by decide) (by decide) dX3_becomes_31
    · refine z_lconst (v := 0) C dX3_becomes_21 (by decide) ?_
      exact z_lret C ⟨congrArg (fun v => some (Value.long v)) (by rw [f_X3_becomes, if_neg h2] : (0 : Int64) = (f_X3_becomes p2 p3)), by rw [s_X3_becomes_co, if_neg h2, s_X3_becomes_d, if_neg h2, s_X3_becomes_yr, if_neg h2, s_X3_becomes_mo, if_neg h2, s_X3_becomes_dy, if_neg h2]⟩ (by decide) (by decide) dX3_becomes_22
  refine z_if_eq (tgt := 13) C dX3_becomes_6 (by decide) (fun h1 => ?_) (fun h1 => ?_)
  · refine z_iload C dX3_becomes_13 3 rfl ?_
    exact K1 _ (by rw [f_X3_becomes_j1, if_pos h1])
  · refine z_iconst (v := 0) C dX3_becomes_9 (by decide) ?_
    refine z_goto (tgt := 15) C dX3_becomes_10 (by decide) ?_
    exact K1 _ (by rw [f_X3_becomes_j1, if_neg h1])
def f_X3_moved_j1 (p2 : Int32) (p3 : Int64) : Int64 := (if p2 = 109 then p3 else (12 * p3))
def f_X3_moved (p1 : Int64) (p2 : Int32) (p3 : Int64) : Int64 := (if p2 = 100 then (p1 + p3) else (if p2 = 119 then (p1 + (7 * p3)) else (f_X3_byMonths p1 (f_X3_moved_j1 p2 p3))))
def s_X3_moved_yr (yr : Int64) (p1 : Int64) (p2 : Int32) : Int64 := (if p2 = 100 then yr else (if p2 = 119 then yr else (s_X3_byMonths_yr p1)))
def s_X3_moved_mo (mo : Int32) (p1 : Int64) (p2 : Int32) : Int32 := (if p2 = 100 then mo else (if p2 = 119 then mo else (s_X3_byMonths_mo p1)))
def s_X3_moved_dy (dy : Int32) (p1 : Int64) (p2 : Int32) : Int32 := (if p2 = 100 then dy else (if p2 = 119 then dy else (s_X3_byMonths_dy p1)))
def pre_X3_moved (p1 : Int64) (p2 : Int32) (p3 : Int64) : Prop := ((¬ p2 = 100) → (¬ p2 = 119) → (pre_X3_byMonths p1 (f_X3_moved_j1 p2 p3)))
theorem q_X3_moved : ZY yX3_moved wsX3_moved cX3_moved 6 (some .long) 3 := ⟨⟨_, rfl⟩, by decide +kernel, by decide +kernel, by decide +kernel⟩
set_option maxHeartbeats 4000000 in
set_option maxRecDepth 100000 in
theorem c_X3_moved (l : Launch) (hfl : l.stackTraces = false) (D : va_G) (cI cJ : ClassId) (X : va_W) (z : Nat → Nat) (co : Int32) (d : Nat → Int64) (ti : Nat → Int64) (sL : Nat → Int64) (bL : Nat → Int64) (mD : Nat → Int64) (mT : Nat → Int64) (sy : Nat → Int64) (sm : Nat → Int64) (sd : Nat → Int64) (mi : Nat → Int64) (yr : Int64) (mo : Int32) (dy : Int32) (p1 : Int64) (p2 : Int32) (p3 : Int64)  (h_g : pre_X3_moved p1 p2 p3) : ZM l yX3_moved wsX3_moved { frames := 6, cells := 0, slots := 0, locals := 144 } [.ref (z 0), .long p1, .int p2, .long p3] D (zTys cI cJ) (wM cI cJ z co d ti sL bL mD mT sy sm sd mi yr mo dy X) 0 0 (fun v w => v = some (.long (f_X3_moved p1 p2 p3)) ∧ w = (wM cI cJ z co d ti sL bL mD mT sy sm sd mi (s_X3_moved_yr yr p1 p2) (s_X3_moved_mo mo p1 p2) (s_X3_moved_dy dy p1 p2) X)) (fun _ _ => False) := by
  refine z_open (own := RX3) hfl (cc := cX3_moved) (maxL := 6) (ret := (some .long)) (lv := [(0, .ref (z 0)), (1, .long p1), (3, .int p2), (4, .long p3)]) rfl (by decide) rfl rfl (Nat.le_of_ble_eq_true rfl) ?_
  intro p e s m args below meth c A C hno hnm hargs
  have hin : ∀ w ∈ wsX30, w ∈ wsX3_moved := by decide +kernel
  have w1 := C.1.2.2.2.2 (.constantLong RX3 113 (12)) (by decide +kernel)
  have w2 := C.1.2.2.2.2 (.constantLong RX3 111 (7)) (by decide +kernel)
  have g_0 := h_g
  refine z_iload_n C dX3_moved_0 rfl 2 rfl ?_
  refine z_bipush (v := 100) C dX3_moved_1 (by decide) ?_
  refine z_icmp_ne (tgt := 13) C dX3_moved_3 (by decide) (fun h1 => ?_) (fun h1 => ?_)
  · refine z_iload_n C dX3_moved_13 rfl 2 rfl ?_
    refine z_bipush (v := 119) C dX3_moved_14 (by decide) ?_
    refine z_icmp_ne (tgt := 30) C dX3_moved_16 (by decide) (fun h2 => ?_) (fun h2 => ?_)
    · refine z_aload_n C dX3_moved_30 rfl 0 rfl ?_
      refine z_lload_n C dX3_moved_31 rfl 1 rfl ?_
      refine z_iload_n C dX3_moved_32 rfl 2 rfl ?_
      refine z_bipush (v := 109) C dX3_moved_33 (by decide) ?_
      have K1 : ∀ (v1_0 : Int64), (f_X3_moved_j1 p2 p3) = v1_0 → ZW p l e { frames := 6, cells := 0, slots := 0, locals := 144 } s m args below meth c 6 D (zTys cI cJ) A (zE D (zTys cI cJ) A below args s (fun v w => v = some (.long (f_X3_moved p1 p2 p3)) ∧ w = (wM cI cJ z co d ti sL bL mD mT sy sm sd mi (s_X3_moved_yr yr p1 p2) (s_X3_moved_mo mo p1 p2) (s_X3_moved_dy dy p1 p2) X)) (fun _ _ => False) 0 0) 0 0 (wM cI cJ z co d ti sL bL mD mT sy sm sd mi yr mo dy X) 49 [(0, .ref (z 0)), (1, .long p1), (3, .int p2), (4, .long p3)] [.long v1_0, .long p1, .ref (z 0)] := by
        rintro _ rfl
        refine z_wl (ws' := (wM cI cJ z co d ti sL bL mD mT sy sm sd mi (s_X3_byMonths_yr p1) (s_X3_byMonths_mo p1) (s_X3_byMonths_dy p1) X)) (rest := []) (ci := 3) (q0 := 0) C (c_X3_byMonths l hfl D cI cJ X z co d ti sL bL mD mT sy sm sd mi yr mo dy p1 (f_X3_moved_j1 p2 p3) (g_0 h1 h2)) q_X3_byMonths rfl rfl rfl gX3_moved_X3_byMonths ⟨rfl, rfl⟩ rfl rfl (Nat.le_of_ble_eq_true rfl) ⟨Nat.le_of_ble_eq_true rfl, Nat.le_of_ble_eq_true rfl⟩ ⟨Nat.le_of_ble_eq_true rfl, Nat.le_of_ble_eq_true rfl⟩ dX3_moved_49 ?_
        exact z_lret C ⟨congrArg (fun v => some (Value.long v)) (by rw [f_X3_moved, if_neg h1, if_neg h2] : (f_X3_byMonths p1 (f_X3_moved_j1 p2 p3)) = (f_X3_moved p1 p2 p3)), by rw [s_X3_moved_yr, if_neg h1, if_neg h2, s_X3_moved_mo, if_neg h1, if_neg h2, s_X3_moved_dy, if_neg h1, if_neg h2]⟩ (by decide) (by decide) dX3_moved_52
      refine z_icmp_ne (tgt := 43) C dX3_moved_35 (by decide) (fun h3 => ?_) (fun h3 => ?_)
      · refine z_ldc2 (v := 12) C w1 dX3_moved_43 ?_
        refine z_lload C dX3_moved_46 3 rfl ?_
        refine z_lmul C dX3_moved_48 ?_
        exact K1 _ (by rw [f_X3_moved_j1, if_neg h3])
      · refine z_lload C dX3_moved_38 3 rfl ?_
        refine z_goto (tgt := 49) C dX3_moved_40 (by decide) ?_
        exact K1 _ (by rw [f_X3_moved_j1, if_pos h3])
    · refine z_lload_n C dX3_moved_19 rfl 1 rfl ?_
      refine z_ldc2 (v := 7) C w2 dX3_moved_20 ?_
      refine z_lload C dX3_moved_23 3 rfl ?_
      refine z_lmul C dX3_moved_25 ?_
      refine z_ladd C dX3_moved_26 ?_
      refine z_goto (tgt := 52) C dX3_moved_27 (by decide) ?_
      exact z_lret C ⟨congrArg (fun v => some (Value.long v)) (by rw [f_X3_moved, if_neg h1, if_pos h2] : (p1 + (7 * p3)) = (f_X3_moved p1 p2 p3)), by rw [s_X3_moved_yr, if_neg h1, if_pos h2, s_X3_moved_mo, if_neg h1, if_pos h2, s_X3_moved_dy, if_neg h1, if_pos h2]⟩ (by decide) (by decide) dX3_moved_52
  · refine z_lload_n C dX3_moved_6 rfl 1 rfl ?_
    refine z_lload C dX3_moved_7 3 rfl ?_
    refine z_ladd C dX3_moved_9 ?_
    refine z_goto (tgt := 52) C dX3_moved_10 (by decide) ?_
    exact z_lret C ⟨congrArg (fun v => some (Value.long v)) (by rw [f_X3_moved, if_pos h1] : (p1 + p3) = (f_X3_moved p1 p2 p3)), by rw [s_X3_moved_yr, if_pos h1, s_X3_moved_mo, if_pos h1, s_X3_moved_dy, if_pos h1]⟩ (by decide) (by decide) dX3_moved_52
def f_X3_monthsFrom_j1 (p1 : Int64) (p2 : Int64) : Int64 := (if p2 ≤ p1 then p2 else p1)
def f_X3_monthsFrom_j2 (p1 : Int64) (p2 : Int64) : Int64 := (if p2 ≤ p1 then p1 else p2)
def f_X3_monthsFrom_j3 (p1 : Int64) (p2 : Int64) : Int64 := (if (s_X3_parts_dy (f_X3_monthsFrom_j1 p1 p2)) ≤ (s_X3_parts_dy (f_X3_monthsFrom_j2 p1 p2)) then 0 else 1)
def f_X3_monthsFrom (p1 : Int64) (p2 : Int64) : Int64 := (if f_X3_monthsFrom_j3 p1 p2 = 0 then (if p2 ≤ p1 then (-((((-((12 * (s_X3_parts_yr (f_X3_monthsFrom_j1 p1 p2))) + ((s_X3_parts_mo (f_X3_monthsFrom_j1 p1 p2))).toInt64)) + (12 * (s_X3_parts_yr (f_X3_monthsFrom_j2 p1 p2)))) + ((s_X3_parts_mo (f_X3_monthsFrom_j2 p1 p2))).toInt64) - 0)) else ((((-((12 * (s_X3_parts_yr (f_X3_monthsFrom_j1 p1 p2))) + ((s_X3_parts_mo (f_X3_monthsFrom_j1 p1 p2))).toInt64)) + (12 * (s_X3_parts_yr (f_X3_monthsFrom_j2 p1 p2)))) + ((s_X3_parts_mo (f_X3_monthsFrom_j2 p1 p2))).toInt64) - 0)) else (if p2 ≤ p1 then (-((((-((12 * (s_X3_parts_yr (f_X3_monthsFrom_j1 p1 p2))) + ((s_X3_parts_mo (f_X3_monthsFrom_j1 p1 p2))).toInt64)) + (12 * (s_X3_parts_yr (f_X3_monthsFrom_j2 p1 p2)))) + ((s_X3_parts_mo (f_X3_monthsFrom_j2 p1 p2))).toInt64) - 1)) else ((((-((12 * (s_X3_parts_yr (f_X3_monthsFrom_j1 p1 p2))) + ((s_X3_parts_mo (f_X3_monthsFrom_j1 p1 p2))).toInt64)) + (12 * (s_X3_parts_yr (f_X3_monthsFrom_j2 p1 p2)))) + ((s_X3_parts_mo (f_X3_monthsFrom_j2 p1 p2))).toInt64) - 1)))
def s_X3_monthsFrom_yr (p1 : Int64) (p2 : Int64) : Int64 := (if f_X3_monthsFrom_j3 p1 p2 = 0 then (if p2 ≤ p1 then (s_X3_parts_yr (f_X3_monthsFrom_j2 p1 p2)) else (s_X3_parts_yr (f_X3_monthsFrom_j2 p1 p2))) else (if p2 ≤ p1 then (s_X3_parts_yr (f_X3_monthsFrom_j2 p1 p2)) else (s_X3_parts_yr (f_X3_monthsFrom_j2 p1 p2))))
def s_X3_monthsFrom_mo (p1 : Int64) (p2 : Int64) : Int32 := (if f_X3_monthsFrom_j3 p1 p2 = 0 then (if p2 ≤ p1 then (s_X3_parts_mo (f_X3_monthsFrom_j2 p1 p2)) else (s_X3_parts_mo (f_X3_monthsFrom_j2 p1 p2))) else (if p2 ≤ p1 then (s_X3_parts_mo (f_X3_monthsFrom_j2 p1 p2)) else (s_X3_parts_mo (f_X3_monthsFrom_j2 p1 p2))))
def s_X3_monthsFrom_dy (p1 : Int64) (p2 : Int64) : Int32 := (if f_X3_monthsFrom_j3 p1 p2 = 0 then (if p2 ≤ p1 then (s_X3_parts_dy (f_X3_monthsFrom_j2 p1 p2)) else (s_X3_parts_dy (f_X3_monthsFrom_j2 p1 p2))) else (if p2 ≤ p1 then (s_X3_parts_dy (f_X3_monthsFrom_j2 p1 p2)) else (s_X3_parts_dy (f_X3_monthsFrom_j2 p1 p2))))
def pre_X3_monthsFrom (p1 : Int64) (p2 : Int64) : Prop := ((pre_X3_parts (f_X3_monthsFrom_j1 p1 p2))) ∧ ((pre_X3_parts (f_X3_monthsFrom_j2 p1 p2)))
theorem q_X3_monthsFrom : ZY yX3_monthsFrom wsX3_monthsFrom cX3_monthsFrom 10 (some .long) 2 := ⟨⟨_, rfl⟩, by decide +kernel, by decide +kernel, by decide +kernel⟩
set_option maxHeartbeats 4000000 in
set_option maxRecDepth 100000 in
theorem c_X3_monthsFrom (l : Launch) (hfl : l.stackTraces = false) (D : va_G) (cI cJ : ClassId) (X : va_W) (z : Nat → Nat) (co : Int32) (d : Nat → Int64) (ti : Nat → Int64) (sL : Nat → Int64) (bL : Nat → Int64) (mD : Nat → Int64) (mT : Nat → Int64) (sy : Nat → Int64) (sm : Nat → Int64) (sd : Nat → Int64) (mi : Nat → Int64) (yr : Int64) (mo : Int32) (dy : Int32) (p1 : Int64) (p2 : Int64)  (h_g : pre_X3_monthsFrom p1 p2) : ZM l yX3_monthsFrom wsX3_monthsFrom { frames := 5, cells := 0, slots := 0, locals := 113 } [.ref (z 0), .long p1, .long p2] D (zTys cI cJ) (wM cI cJ z co d ti sL bL mD mT sy sm sd mi yr mo dy X) 0 0 (fun v w => v = some (.long (f_X3_monthsFrom p1 p2)) ∧ w = (wM cI cJ z co d ti sL bL mD mT sy sm sd mi (s_X3_monthsFrom_yr p1 p2) (s_X3_monthsFrom_mo p1 p2) (s_X3_monthsFrom_dy p1 p2) X)) (fun _ _ => False) := by
  refine z_open (own := RX3) hfl (cc := cX3_monthsFrom) (maxL := 10) (ret := (some .long)) (lv := [(0, .ref (z 0)), (1, .long p1), (3, .long p2)]) rfl (by decide) rfl rfl (Nat.le_of_ble_eq_true rfl) ?_
  intro p e s m args below meth c A C hno hnm hargs
  have hin : ∀ w ∈ wsX30, w ∈ wsX3_monthsFrom := by decide +kernel
  have w1 := C.1.2.2.2.2 (.constantLong RX3 113 (12)) (by decide +kernel)
  have w2 := C.1.2.2.2.2 (.fieldLink RX3 86 "YearwheelModel" "year" "J") (by decide +kernel)
  have w3 := C.1.2.2.2.2 (.fieldLink RX3 90 "YearwheelModel" "month" "I") (by decide +kernel)
  have w4 := C.1.2.2.2.2 (.fieldLink RX3 93 "YearwheelModel" "day" "I") (by decide +kernel)
  obtain ⟨g_0, g_1⟩ := h_g
  refine z_aload_n C dX3_monthsFrom_0 rfl 0 rfl ?_
  refine z_lload_n C dX3_monthsFrom_1 rfl 1 rfl ?_
  refine z_lload_n C dX3_monthsFrom_2 rfl 2 rfl ?_
  have K1 : ∀ (v1_0 : Int64), (f_X3_monthsFrom_j1 p1 p2) = v1_0 → ZW p l e { frames := 5, cells := 0, slots := 0, locals := 113 } s m args below meth c 10 D (zTys cI cJ) A (zE D (zTys cI cJ) A below args s (fun v w => v = some (.long (f_X3_monthsFrom p1 p2)) ∧ w = (wM cI cJ z co d ti sL bL mD mT sy sm sd mi (s_X3_monthsFrom_yr p1 p2) (s_X3_monthsFrom_mo p1 p2) (s_X3_monthsFrom_dy p1 p2) X)) (fun _ _ => False) 0 0) 0 0 (wM cI cJ z co d ti sL bL mD mT sy sm sd mi yr mo dy X) 12 [(0, .ref (z 0)), (1, .long p1), (3, .long p2)] [.long v1_0, .ref (z 0)] := by
    rintro _ rfl
    refine z_wv (ws' := (wM cI cJ z co d ti sL bL mD mT sy sm sd mi (s_X3_parts_yr (f_X3_monthsFrom_j1 p1 p2)) (s_X3_parts_mo (f_X3_monthsFrom_j1 p1 p2)) (s_X3_parts_dy (f_X3_monthsFrom_j1 p1 p2)) X)) (rest := []) (ci := 3) (q0 := 0) C (c_X3_parts l hfl D cI cJ X z co d ti sL bL mD mT sy sm sd mi yr mo dy (f_X3_monthsFrom_j1 p1 p2) (g_0)) q_X3_parts rfl rfl rfl gX3_monthsFrom_X3_parts ⟨rfl, rfl⟩ rfl rfl (Nat.le_of_ble_eq_true rfl) ⟨Nat.le_of_ble_eq_true rfl, Nat.le_of_ble_eq_true rfl⟩ ⟨Nat.le_of_ble_eq_true rfl, Nat.le_of_ble_eq_true rfl⟩ dX3_monthsFrom_12 ?_
    refine z_ldc2 (v := 12) C w1 dX3_monthsFrom_15 ?_
    refine z_aload_n C dX3_monthsFrom_18 rfl 0 rfl ?_
    refine z_get (CC := RX3) (T := TX3) (N := 14) (ci := 3) C hin 0 rfl rfl 11 (by decide) w2 rfl rfl dX3_monthsFrom_19 ?_
    refine z_lmul C dX3_monthsFrom_22 ?_
    refine z_aload_n C dX3_monthsFrom_23 rfl 0 rfl ?_
    refine z_get (CC := RX3) (T := TX3) (N := 14) (ci := 3) C hin 0 rfl rfl 12 (by decide) w3 rfl rfl dX3_monthsFrom_24 ?_
    refine z_i2l (v := ((s_X3_parts_mo (f_X3_monthsFrom_j1 p1 p2))).toInt64) C dX3_monthsFrom_27 rfl ?_
    refine z_ladd C dX3_monthsFrom_28 ?_
    refine z_lneg C dX3_monthsFrom_29 ?_
    refine z_lstore (lv' := [(5, .long (-((12 * (s_X3_parts_yr (f_X3_monthsFrom_j1 p1 p2))) + ((s_X3_parts_mo (f_X3_monthsFrom_j1 p1 p2))).toInt64))), (0, .ref (z 0)), (1, .long p1), (3, .long p2)]) C dX3_monthsFrom_30 (by decide) rfl ?_
    refine z_aload_n C dX3_monthsFrom_32 rfl 1 rfl ?_
    refine z_get (CC := RX3) (T := TX3) (N := 14) (ci := 3) C hin 0 rfl rfl 13 (by decide) w4 rfl rfl dX3_monthsFrom_33 ?_
    refine z_istore (lv' := [(7, .int (s_X3_parts_dy (f_X3_monthsFrom_j1 p1 p2))), (5, .long (-((12 * (s_X3_parts_yr (f_X3_monthsFrom_j1 p1 p2))) + ((s_X3_parts_mo (f_X3_monthsFrom_j1 p1 p2))).toInt64))), (0, .ref (z 0)), (1, .long p1), (3, .long p2)]) C dX3_monthsFrom_36 (by decide) rfl ?_
    refine z_aload_n C dX3_monthsFrom_38 rfl 2 rfl ?_
    refine z_lload_n C dX3_monthsFrom_39 rfl 3 rfl ?_
    refine z_lload_n C dX3_monthsFrom_40 rfl 4 rfl ?_
    have K2 : ∀ (v2_0 : Int64), (f_X3_monthsFrom_j2 p1 p2) = v2_0 → ZW p l e { frames := 5, cells := 0, slots := 0, locals := 113 } s m args below meth c 10 D (zTys cI cJ) A (zE D (zTys cI cJ) A below args s (fun v w => v = some (.long (f_X3_monthsFrom p1 p2)) ∧ w = (wM cI cJ z co d ti sL bL mD mT sy sm sd mi (s_X3_monthsFrom_yr p1 p2) (s_X3_monthsFrom_mo p1 p2) (s_X3_monthsFrom_dy p1 p2) X)) (fun _ _ => False) 0 0) 0 0 (wM cI cJ z co d ti sL bL mD mT sy sm sd mi (s_X3_parts_yr (f_X3_monthsFrom_j1 p1 p2)) (s_X3_parts_mo (f_X3_monthsFrom_j1 p1 p2)) (s_X3_parts_dy (f_X3_monthsFrom_j1 p1 p2)) X) 50 [(7, .int (s_X3_parts_dy (f_X3_monthsFrom_j1 p1 p2))), (5, .long (-((12 * (s_X3_parts_yr (f_X3_monthsFrom_j1 p1 p2))) + ((s_X3_parts_mo (f_X3_monthsFrom_j1 p1 p2))).toInt64))), (0, .ref (z 0)), (1, .long p1), (3, .long p2)] [.long v2_0, .ref (z 0)] := by
      rintro _ rfl
      refine z_wv (ws' := (wM cI cJ z co d ti sL bL mD mT sy sm sd mi (s_X3_parts_yr (f_X3_monthsFrom_j2 p1 p2)) (s_X3_parts_mo (f_X3_monthsFrom_j2 p1 p2)) (s_X3_parts_dy (f_X3_monthsFrom_j2 p1 p2)) X)) (rest := []) (ci := 3) (q0 := 0) C (c_X3_parts l hfl D cI cJ X z co d ti sL bL mD mT sy sm sd mi (s_X3_parts_yr (f_X3_monthsFrom_j1 p1 p2)) (s_X3_parts_mo (f_X3_monthsFrom_j1 p1 p2)) (s_X3_parts_dy (f_X3_monthsFrom_j1 p1 p2)) (f_X3_monthsFrom_j2 p1 p2) (g_1)) q_X3_parts rfl rfl rfl gX3_monthsFrom_X3_parts ⟨rfl, rfl⟩ rfl rfl (Nat.le_of_ble_eq_true rfl) ⟨Nat.le_of_ble_eq_true rfl, Nat.le_of_ble_eq_true rfl⟩ ⟨Nat.le_of_ble_eq_true rfl, Nat.le_of_ble_eq_true rfl⟩ dX3_monthsFrom_50 ?_
      refine z_lload C dX3_monthsFrom_53 1 rfl ?_
      refine z_ldc2 (v := 12) C w1 dX3_monthsFrom_55 ?_
      refine z_aload_n C dX3_monthsFrom_58 rfl 2 rfl ?_
      refine z_get (CC := RX3) (T := TX3) (N := 14) (ci := 3) C hin 0 rfl rfl 11 (by decide) w2 rfl rfl dX3_monthsFrom_59 ?_
      refine z_lmul C dX3_monthsFrom_62 ?_
      refine z_ladd C dX3_monthsFrom_63 ?_
      refine z_aload_n C dX3_monthsFrom_64 rfl 2 rfl ?_
      refine z_get (CC := RX3) (T := TX3) (N := 14) (ci := 3) C hin 0 rfl rfl 12 (by decide) w3 rfl rfl dX3_monthsFrom_65 ?_
      refine z_i2l (v := ((s_X3_parts_mo (f_X3_monthsFrom_j2 p1 p2))).toInt64) C dX3_monthsFrom_68 rfl ?_
      refine z_ladd C dX3_monthsFrom_69 ?_
      refine z_aload_n C dX3_monthsFrom_70 rfl 2 rfl ?_
      refine z_get (CC := RX3) (T := TX3) (N := 14) (ci := 3) C hin 0 rfl rfl 13 (by decide) w4 rfl rfl dX3_monthsFrom_71 ?_
      refine z_iload C dX3_monthsFrom_74 0 rfl ?_
      have K3_0 : f_X3_monthsFrom_j3 p1 p2 = 0 → ((s_X3_parts_dy (f_X3_monthsFrom_j1 p1 p2)) ≤ (s_X3_parts_dy (f_X3_monthsFrom_j2 p1 p2))) → ZW p l e { frames := 5, cells := 0, slots := 0, locals := 113 } s m args below meth c 10 D (zTys cI cJ) A (zE D (zTys cI cJ) A below args s (fun v w => v = some (.long (f_X3_monthsFrom p1 p2)) ∧ w = (wM cI cJ z co d ti sL bL mD mT sy sm sd mi (s_X3_monthsFrom_yr p1 p2) (s_X3_monthsFrom_mo p1 p2) (s_X3_monthsFrom_dy p1 p2) X)) (fun _ _ => False) 0 0) 0 0 (wM cI cJ z co d ti sL bL mD mT sy sm sd mi (s_X3_parts_yr (f_X3_monthsFrom_j2 p1 p2)) (s_X3_parts_mo (f_X3_monthsFrom_j2 p1 p2)) (s_X3_parts_dy (f_X3_monthsFrom_j2 p1 p2)) X) 84 [(7, .int (s_X3_parts_dy (f_X3_monthsFrom_j1 p1 p2))), (5, .long (-((12 * (s_X3_parts_yr (f_X3_monthsFrom_j1 p1 p2))) + ((s_X3_parts_mo (f_X3_monthsFrom_j1 p1 p2))).toInt64))), (0, .ref (z 0)), (1, .long p1), (3, .long p2)] [.long 0, .long (((-((12 * (s_X3_parts_yr (f_X3_monthsFrom_j1 p1 p2))) + ((s_X3_parts_mo (f_X3_monthsFrom_j1 p1 p2))).toInt64)) + (12 * (s_X3_parts_yr (f_X3_monthsFrom_j2 p1 p2)))) + ((s_X3_parts_mo (f_X3_monthsFrom_j2 p1 p2))).toInt64)] := by
        intro h4 h5
        refine z_lsub C dX3_monthsFrom_84 ?_
        refine z_lstore (lv' := [(8, .long ((((-((12 * (s_X3_parts_yr (f_X3_monthsFrom_j1 p1 p2))) + ((s_X3_parts_mo (f_X3_monthsFrom_j1 p1 p2))).toInt64)) + (12 * (s_X3_parts_yr (f_X3_monthsFrom_j2 p1 p2)))) + ((s_X3_parts_mo (f_X3_monthsFrom_j2 p1 p2))).toInt64) - 0)), (7, .int (s_X3_parts_dy (f_X3_monthsFrom_j1 p1 p2))), (5, .long (-((12 * (s_X3_parts_yr (f_X3_monthsFrom_j1 p1 p2))) + ((s_X3_parts_mo (f_X3_monthsFrom_j1 p1 p2))).toInt64))), (0, .ref (z 0)), (1, .long p1), (3, .long p2)]) C dX3_monthsFrom_85 (by decide) rfl ?_
        refine z_lload_n C dX3_monthsFrom_87 rfl 4 rfl ?_
        refine z_lload_n C dX3_monthsFrom_88 rfl 5 rfl ?_
        refine z_lcmp_ge (tgt := 98) C dX3_monthsFrom_89 dX3_monthsFrom_90 (by decide) (fun h6 => ?_) (fun h6 => ?_)
        · refine z_lload C dX3_monthsFrom_98 0 rfl ?_
          refine z_lneg C dX3_monthsFrom_100 ?_
          exact z_lret C ⟨congrArg (fun v => some (Value.long v)) (by rw [f_X3_monthsFrom, if_pos h4, if_pos h6] : (-((((-((12 * (s_X3_parts_yr (f_X3_monthsFrom_j1 p1 p2))) + ((s_X3_parts_mo (f_X3_monthsFrom_j1 p1 p2))).toInt64)) + (12 * (s_X3_parts_yr (f_X3_monthsFrom_j2 p1 p2)))) + ((s_X3_parts_mo (f_X3_monthsFrom_j2 p1 p2))).toInt64) - 0)) = (f_X3_monthsFrom p1 p2)), by rw [s_X3_monthsFrom_yr, if_pos h4, if_pos h6, s_X3_monthsFrom_mo, if_pos h4, if_pos h6, s_X3_monthsFrom_dy, if_pos h4, if_pos h6]⟩ (by decide) (by decide) dX3_monthsFrom_101
        · refine z_lload C dX3_monthsFrom_93 0 rfl ?_
          refine z_goto (tgt := 101) C dX3_monthsFrom_95 (by decide) ?_
          exact z_lret C ⟨congrArg (fun v => some (Value.long v)) (by rw [f_X3_monthsFrom, if_pos h4, if_neg h6] : ((((-((12 * (s_X3_parts_yr (f_X3_monthsFrom_j1 p1 p2))) + ((s_X3_parts_mo (f_X3_monthsFrom_j1 p1 p2))).toInt64)) + (12 * (s_X3_parts_yr (f_X3_monthsFrom_j2 p1 p2)))) + ((s_X3_parts_mo (f_X3_monthsFrom_j2 p1 p2))).toInt64) - 0) = (f_X3_monthsFrom p1 p2)), by rw [s_X3_monthsFrom_yr, if_pos h4, if_neg h6, s_X3_monthsFrom_mo, if_pos h4, if_neg h6, s_X3_monthsFrom_dy, if_pos h4, if_neg h6]⟩ (by decide) (by decide) dX3_monthsFrom_101
      have K3_1 : f_X3_monthsFrom_j3 p1 p2 = 1 → (¬ (s_X3_parts_dy (f_X3_monthsFrom_j1 p1 p2)) ≤ (s_X3_parts_dy (f_X3_monthsFrom_j2 p1 p2))) → ZW p l e { frames := 5, cells := 0, slots := 0, locals := 113 } s m args below meth c 10 D (zTys cI cJ) A (zE D (zTys cI cJ) A below args s (fun v w => v = some (.long (f_X3_monthsFrom p1 p2)) ∧ w = (wM cI cJ z co d ti sL bL mD mT sy sm sd mi (s_X3_monthsFrom_yr p1 p2) (s_X3_monthsFrom_mo p1 p2) (s_X3_monthsFrom_dy p1 p2) X)) (fun _ _ => False) 0 0) 0 0 (wM cI cJ z co d ti sL bL mD mT sy sm sd mi (s_X3_parts_yr (f_X3_monthsFrom_j2 p1 p2)) (s_X3_parts_mo (f_X3_monthsFrom_j2 p1 p2)) (s_X3_parts_dy (f_X3_monthsFrom_j2 p1 p2)) X) 84 [(7, .int (s_X3_parts_dy (f_X3_monthsFrom_j1 p1 p2))), (5, .long (-((12 * (s_X3_parts_yr (f_X3_monthsFrom_j1 p1 p2))) + ((s_X3_parts_mo (f_X3_monthsFrom_j1 p1 p2))).toInt64))), (0, .ref (z 0)), (1, .long p1), (3, .long p2)] [.long 1, .long (((-((12 * (s_X3_parts_yr (f_X3_monthsFrom_j1 p1 p2))) + ((s_X3_parts_mo (f_X3_monthsFrom_j1 p1 p2))).toInt64)) + (12 * (s_X3_parts_yr (f_X3_monthsFrom_j2 p1 p2)))) + ((s_X3_parts_mo (f_X3_monthsFrom_j2 p1 p2))).toInt64)] := by
        intro h7 h8
        refine z_lsub C dX3_monthsFrom_84 ?_
        refine z_lstore (lv' := [(8, .long ((((-((12 * (s_X3_parts_yr (f_X3_monthsFrom_j1 p1 p2))) + ((s_X3_parts_mo (f_X3_monthsFrom_j1 p1 p2))).toInt64)) + (12 * (s_X3_parts_yr (f_X3_monthsFrom_j2 p1 p2)))) + ((s_X3_parts_mo (f_X3_monthsFrom_j2 p1 p2))).toInt64) - 1)), (7, .int (s_X3_parts_dy (f_X3_monthsFrom_j1 p1 p2))), (5, .long (-((12 * (s_X3_parts_yr (f_X3_monthsFrom_j1 p1 p2))) + ((s_X3_parts_mo (f_X3_monthsFrom_j1 p1 p2))).toInt64))), (0, .ref (z 0)), (1, .long p1), (3, .long p2)]) C dX3_monthsFrom_85 (by decide) rfl ?_
        refine z_lload_n C dX3_monthsFrom_87 rfl 4 rfl ?_
        refine z_lload_n C dX3_monthsFrom_88 rfl 5 rfl ?_
        refine z_lcmp_ge (tgt := 98) C dX3_monthsFrom_89 dX3_monthsFrom_90 (by decide) (fun h9 => ?_) (fun h9 => ?_)
        · refine z_lload C dX3_monthsFrom_98 0 rfl ?_
          refine z_lneg C dX3_monthsFrom_100 ?_
          exact z_lret C ⟨congrArg (fun v => some (Value.long v)) (by rw [f_X3_monthsFrom, if_neg (by rw [h7]; decide : ¬ f_X3_monthsFrom_j3 p1 p2 = 0), if_pos h9] : (-((((-((12 * (s_X3_parts_yr (f_X3_monthsFrom_j1 p1 p2))) + ((s_X3_parts_mo (f_X3_monthsFrom_j1 p1 p2))).toInt64)) + (12 * (s_X3_parts_yr (f_X3_monthsFrom_j2 p1 p2)))) + ((s_X3_parts_mo (f_X3_monthsFrom_j2 p1 p2))).toInt64) - 1)) = (f_X3_monthsFrom p1 p2)), by rw [s_X3_monthsFrom_yr, if_neg (by rw [h7]; decide : ¬ f_X3_monthsFrom_j3 p1 p2 = 0), if_pos h9, s_X3_monthsFrom_mo, if_neg (by rw [h7]; decide : ¬ f_X3_monthsFrom_j3 p1 p2 = 0), if_pos h9, s_X3_monthsFrom_dy, if_neg (by rw [h7]; decide : ¬ f_X3_monthsFrom_j3 p1 p2 = 0), if_pos h9]⟩ (by decide) (by decide) dX3_monthsFrom_101
        · refine z_lload C dX3_monthsFrom_93 0 rfl ?_
          refine z_goto (tgt := 101) C dX3_monthsFrom_95 (by decide) ?_
          exact z_lret C ⟨congrArg (fun v => some (Value.long v)) (by rw [f_X3_monthsFrom, if_neg (by rw [h7]; decide : ¬ f_X3_monthsFrom_j3 p1 p2 = 0), if_neg h9] : ((((-((12 * (s_X3_parts_yr (f_X3_monthsFrom_j1 p1 p2))) + ((s_X3_parts_mo (f_X3_monthsFrom_j1 p1 p2))).toInt64)) + (12 * (s_X3_parts_yr (f_X3_monthsFrom_j2 p1 p2)))) + ((s_X3_parts_mo (f_X3_monthsFrom_j2 p1 p2))).toInt64) - 1) = (f_X3_monthsFrom p1 p2)), by rw [s_X3_monthsFrom_yr, if_neg (by rw [h7]; decide : ¬ f_X3_monthsFrom_j3 p1 p2 = 0), if_neg h9, s_X3_monthsFrom_mo, if_neg (by rw [h7]; decide : ¬ f_X3_monthsFrom_j3 p1 p2 = 0), if_neg h9, s_X3_monthsFrom_dy, if_neg (by rw [h7]; decide : ¬ f_X3_monthsFrom_j3 p1 p2 = 0), if_neg h9]⟩ (by decide) (by decide) dX3_monthsFrom_101
      refine z_icmp_ge (tgt := 83) C dX3_monthsFrom_76 (by decide) (fun h3 => ?_) (fun h3 => ?_)
      · refine z_lconst (v := 0) C dX3_monthsFrom_83 (by decide) ?_
        exact K3_0 (by rw [f_X3_monthsFrom_j3, if_pos h3]) h3
      · refine z_lconst (v := 1) C dX3_monthsFrom_79 (by decide) ?_
        refine z_goto (tgt := 84) C dX3_monthsFrom_80 (by decide) ?_
        exact K3_1 (by rw [f_X3_monthsFrom_j3, if_neg h3]) h3
    refine z_lcmp_ge (tgt := 49) C dX3_monthsFrom_41 dX3_monthsFrom_42 (by decide) (fun h2 => ?_) (fun h2 => ?_)
    · refine z_lload_n C dX3_monthsFrom_49 rfl 3 rfl ?_
      exact K2 _ (by rw [f_X3_monthsFrom_j2, if_pos h2])
    · refine z_lload_n C dX3_monthsFrom_45 rfl 4 rfl ?_
      refine z_goto (tgt := 50) C dX3_monthsFrom_46 (by decide) ?_
      exact K2 _ (by rw [f_X3_monthsFrom_j2, if_neg h2])
  refine z_lcmp_ge (tgt := 11) C dX3_monthsFrom_3 dX3_monthsFrom_4 (by decide) (fun h1 => ?_) (fun h1 => ?_)
  · refine z_lload_n C dX3_monthsFrom_11 rfl 2 rfl ?_
    exact K1 _ (by rw [f_X3_monthsFrom_j1, if_pos h1])
  · refine z_lload_n C dX3_monthsFrom_7 rfl 1 rfl ?_
    refine z_goto (tgt := 12) C dX3_monthsFrom_8 (by decide) ?_
    exact K1 _ (by rw [f_X3_monthsFrom_j1, if_neg h1])
def f_X3_totalOf (sy : Nat → Int64) (sm : Nat → Int64) (p1 : Int32) : Int64 := ((12 * (sy p1.toNatClampNeg)) + (sm p1.toNatClampNeg))
theorem q_X3_totalOf : ZY yX3_totalOf wsX3_totalOf cX3_totalOf 2 (some .long) 1 := ⟨⟨_, rfl⟩, by decide +kernel, by decide +kernel, by decide +kernel⟩
set_option maxHeartbeats 4000000 in
set_option maxRecDepth 100000 in
theorem c_X3_totalOf (l : Launch) (hfl : l.stackTraces = false) (D : va_G) (cI cJ : ClassId) (X : va_W) (z : Nat → Nat) (co : Int32) (d : Nat → Int64) (ti : Nat → Int64) (sL : Nat → Int64) (bL : Nat → Int64) (mD : Nat → Int64) (mT : Nat → Int64) (sy : Nat → Int64) (sm : Nat → Int64) (sd : Nat → Int64) (mi : Nat → Int64) (yr : Int64) (mo : Int32) (dy : Int32) (p1 : Int32) (h_0 : vp_in p1 4) : ZM l yX3_totalOf wsX3_totalOf { frames := 0, cells := 0, slots := 0, locals := 0 } [.ref (z 0), .int p1] D (zTys cI cJ) (wM cI cJ z co d ti sL bL mD mT sy sm sd mi yr mo dy X) 0 0 (fun v w => v = some (.long (f_X3_totalOf sy sm p1)) ∧ w = (wM cI cJ z co d ti sL bL mD mT sy sm sd mi yr mo dy X)) (fun _ _ => False) := by
  refine z_open (own := RX3) hfl (cc := cX3_totalOf) (maxL := 2) (ret := (some .long)) (lv := [(0, .ref (z 0)), (1, .int p1)]) rfl (by decide) rfl rfl (Nat.le_of_ble_eq_true rfl) ?_
  intro p e s m args below meth c A C hno hnm hargs
  have hin : ∀ w ∈ wsX30, w ∈ wsX3_totalOf := by decide +kernel
  have w1 := C.1.2.2.2.2 (.constantLong RX3 113 (12)) (by decide +kernel)
  have w2 := C.1.2.2.2.2 (.fieldLink RX3 32 "YearwheelModel" "spanYears" "[J") (by decide +kernel)
  have w3 := C.1.2.2.2.2 (.fieldLink RX3 35 "YearwheelModel" "spanMonths" "[J") (by decide +kernel)
  refine z_ldc2 (v := 12) C w1 dX3_totalOf_0 ?_
  refine z_aload_n C dX3_totalOf_3 rfl 0 rfl ?_
  refine z_get (CC := RX3) (T := TX3) (N := 14) (ci := 3) C hin 0 rfl rfl 7 (by decide) w2 rfl rfl dX3_totalOf_4 ?_
  refine z_iload_n C dX3_totalOf_7 rfl 1 rfl ?_
  refine z_lald C 7 1 rfl rfl h_0 dX3_totalOf_8 ?_
  refine z_lmul C dX3_totalOf_9 ?_
  refine z_aload_n C dX3_totalOf_10 rfl 0 rfl ?_
  refine z_get (CC := RX3) (T := TX3) (N := 14) (ci := 3) C hin 0 rfl rfl 8 (by decide) w3 rfl rfl dX3_totalOf_11 ?_
  refine z_iload_n C dX3_totalOf_14 rfl 1 rfl ?_
  refine z_lald C 8 1 rfl rfl h_0 dX3_totalOf_15 ?_
  refine z_ladd C dX3_totalOf_16 ?_
  exact z_lret C ⟨congrArg (fun v => some (Value.long v)) (rfl : ((12 * (sy p1.toNatClampNeg)) + (sm p1.toNatClampNeg)) = (f_X3_totalOf sy sm p1)), rfl⟩ (by decide) (by decide) dX3_totalOf_17
def f_X3_spanned_j1 (p2 : Int64) (p3 : Int64) (p4 : Int64) (p5 : Int32) : Int32 := (if (f_X3_in p2 (-1000000) 1000000) = 0 then p5 else (if (f_X3_in p3 (-1000000) 1000000) = 0 then p5 else (if (f_X3_in p4 (-1000000) 1000000) = 0 then p5 else 0)))
def f_X3_spanned (sy : Nat → Int64) (sm : Nat → Int64) (p1 : Int32) (p2 : Int64) (p3 : Int64) (p4 : Int64) (p5 : Int32) : Int64 := (if (f_X3_fails (f_X3_spanned_j1 p2 p3 p4 p5)) = 0 then (f_X3_totalOf (vp_updL sy p1.toNatClampNeg p2) (vp_updL sm p1.toNatClampNeg p3) p1) else 0)
def s_X3_spanned_co (p2 : Int64) (p3 : Int64) (p4 : Int64) (p5 : Int32) : Int32 := (if (f_X3_fails (f_X3_spanned_j1 p2 p3 p4 p5)) = 0 then (s_X3_fails_co (f_X3_spanned_j1 p2 p3 p4 p5)) else (s_X3_fails_co (f_X3_spanned_j1 p2 p3 p4 p5)))
def s_X3_spanned_sy (sy : Nat → Int64) (p1 : Int32) (p2 : Int64) (p3 : Int64) (p4 : Int64) (p5 : Int32) : Nat → Int64 := (if (f_X3_fails (f_X3_spanned_j1 p2 p3 p4 p5)) = 0 then (vp_updL sy p1.toNatClampNeg p2) else sy)
def s_X3_spanned_sm (sm : Nat → Int64) (p1 : Int32) (p2 : Int64) (p3 : Int64) (p4 : Int64) (p5 : Int32) : Nat → Int64 := (if (f_X3_fails (f_X3_spanned_j1 p2 p3 p4 p5)) = 0 then (vp_updL sm p1.toNatClampNeg p3) else sm)
def s_X3_spanned_sd (sd : Nat → Int64) (p1 : Int32) (p2 : Int64) (p3 : Int64) (p4 : Int64) (p5 : Int32) : Nat → Int64 := (if (f_X3_fails (f_X3_spanned_j1 p2 p3 p4 p5)) = 0 then (vp_updL sd p1.toNatClampNeg p4) else sd)
theorem q_X3_spanned : ZY yX3_spanned wsX3_spanned cX3_spanned 9 (some .long) 5 := ⟨⟨_, rfl⟩, by decide +kernel, by decide +kernel, by decide +kernel⟩
set_option maxHeartbeats 4000000 in
set_option maxRecDepth 100000 in
theorem c_X3_spanned (l : Launch) (hfl : l.stackTraces = false) (D : va_G) (cI cJ : ClassId) (X : va_W) (z : Nat → Nat) (co : Int32) (d : Nat → Int64) (ti : Nat → Int64) (sL : Nat → Int64) (bL : Nat → Int64) (mD : Nat → Int64) (mT : Nat → Int64) (sy : Nat → Int64) (sm : Nat → Int64) (sd : Nat → Int64) (mi : Nat → Int64) (yr : Int64) (mo : Int32) (dy : Int32) (p1 : Int32) (p2 : Int64) (p3 : Int64) (p4 : Int64) (p5 : Int32) (h_0 : vp_in p1 4) : ZM l yX3_spanned wsX3_spanned { frames := 1, cells := 0, slots := 0, locals := 25 } [.ref (z 0), .int p1, .long p2, .long p3, .long p4, .int p5] D (zTys cI cJ) (wM cI cJ z co d ti sL bL mD mT sy sm sd mi yr mo dy X) 0 0 (fun v w => v = some (.long (f_X3_spanned sy sm p1 p2 p3 p4 p5)) ∧ w = (wM cI cJ z (s_X3_spanned_co p2 p3 p4 p5) d ti sL bL mD mT (s_X3_spanned_sy sy p1 p2 p3 p4 p5) (s_X3_spanned_sm sm p1 p2 p3 p4 p5) (s_X3_spanned_sd sd p1 p2 p3 p4 p5) mi yr mo dy X)) (fun _ _ => False) := by
  refine z_open (own := RX3) hfl (cc := cX3_spanned) (maxL := 9) (ret := (some .long)) (lv := [(0, .ref (z 0)), (1, .int p1), (2, .long p2), (4, .long p3), (6, .long p4), (8, .int p5)]) rfl (by decide) rfl rfl (Nat.le_of_ble_eq_true rfl) ?_
  intro p e s m args below meth c A C hno hnm hargs
  have hin : ∀ w ∈ wsX30, w ∈ wsX3_spanned := by decide +kernel
  have w1 := C.1.2.2.2.2 (.constantLong RX3 144 (-1000000)) (by decide +kernel)
  have w2 := C.1.2.2.2.2 (.constantLong RX3 146 (1000000)) (by decide +kernel)
  have w3 := C.1.2.2.2.2 (.fieldLink RX3 32 "YearwheelModel" "spanYears" "[J") (by decide +kernel)
  have w4 := C.1.2.2.2.2 (.fieldLink RX3 35 "YearwheelModel" "spanMonths" "[J") (by decide +kernel)
  have w5 := C.1.2.2.2.2 (.fieldLink RX3 38 "YearwheelModel" "spanDays" "[J") (by decide +kernel)
  refine z_aload_n C dX3_spanned_0 rfl 0 rfl ?_
  refine z_lload_n C dX3_spanned_1 rfl 2 rfl ?_
  refine z_ldc2 (v := (-1000000)) C w1 dX3_spanned_2 ?_
  refine z_ldc2 (v := 1000000) C w2 dX3_spanned_5 ?_
  refine z_si (rest := [.ref (z 0)]) C (c_X3_in l hfl D cI cJ _ p2 ((-1000000) : Int64) (1000000 : Int64) ) q_X3_in gX3_spanned_X3_in ⟨rfl, rfl⟩ rfl rfl (Nat.le_of_ble_eq_true rfl) ⟨Nat.le_of_ble_eq_true rfl, Nat.le_of_ble_eq_true rfl⟩ ⟨Nat.le_of_ble_eq_true rfl, Nat.le_of_ble_eq_true rfl⟩ dX3_spanned_8 ?_
  have K1 : ∀ (v1_0 : Int32), (f_X3_spanned_j1 p2 p3 p4 p5) = v1_0 → ZW p l e { frames := 1, cells := 0, slots := 0, locals := 25 } s m args below meth c 9 D (zTys cI cJ) A (zE D (zTys cI cJ) A below args s (fun v w => v = some (.long (f_X3_spanned sy sm p1 p2 p3 p4 p5)) ∧ w = (wM cI cJ z (s_X3_spanned_co p2 p3 p4 p5) d ti sL bL mD mT (s_X3_spanned_sy sy p1 p2 p3 p4 p5) (s_X3_spanned_sm sm p1 p2 p3 p4 p5) (s_X3_spanned_sd sd p1 p2 p3 p4 p5) mi yr mo dy X)) (fun _ _ => False) 0 0) 0 0 (wM cI cJ z co d ti sL bL mD mT sy sm sd mi yr mo dy X) 48 [(0, .ref (z 0)), (1, .int p1), (2, .long p2), (4, .long p3), (6, .long p4), (8, .int p5)] [.int v1_0, .ref (z 0)] := by
    rintro _ rfl
    refine z_wi (ws' := (wM cI cJ z (s_X3_fails_co (f_X3_spanned_j1 p2 p3 p4 p5)) d ti sL bL mD mT sy sm sd mi yr mo dy X)) (rest := []) (ci := 3) (q0 := 0) C (c_X3_fails l hfl D cI cJ X z co d ti sL bL mD mT sy sm sd mi yr mo dy (f_X3_spanned_j1 p2 p3 p4 p5) ) q_X3_fails rfl rfl rfl gX3_spanned_X3_fails ⟨rfl, rfl⟩ rfl rfl (Nat.le_of_ble_eq_true rfl) ⟨Nat.le_of_ble_eq_true rfl, Nat.le_of_ble_eq_true rfl⟩ ⟨Nat.le_of_ble_eq_true rfl, Nat.le_of_ble_eq_true rfl⟩ dX3_spanned_48 ?_
    refine z_if_eq (tgt := 56) C dX3_spanned_51 (by decide) (fun h4 => ?_) (fun h4 => ?_)
    · refine z_aload_n C dX3_spanned_56 rfl 0 rfl ?_
      refine z_get (CC := RX3) (T := TX3) (N := 14) (ci := 3) C hin 0 rfl rfl 7 (by decide) w3 rfl rfl dX3_spanned_57 ?_
      refine z_iload_n C dX3_spanned_60 rfl 1 rfl ?_
      refine z_lload_n C dX3_spanned_61 rfl 2 rfl ?_
      refine z_last C 7 1 rfl rfl h_0 (ws' := (wM cI cJ z (s_X3_fails_co (f_X3_spanned_j1 p2 p3 p4 p5)) d ti sL bL mD mT (vp_updL sy p1.toNatClampNeg p2) sm sd mi yr mo dy X)) rfl dX3_spanned_62 ?_
      refine z_aload_n C dX3_spanned_63 rfl 0 rfl ?_
      refine z_get (CC := RX3) (T := TX3) (N := 14) (ci := 3) C hin 0 rfl rfl 8 (by decide) w4 rfl rfl dX3_spanned_64 ?_
      refine z_iload_n C dX3_spanned_67 rfl 1 rfl ?_
      refine z_lload C dX3_spanned_68 3 rfl ?_
      refine z_last C 8 1 rfl rfl h_0 (ws' := (wM cI cJ z (s_X3_fails_co (f_X3_spanned_j1 p2 p3 p4 p5)) d ti sL bL mD mT (vp_updL sy p1.toNatClampNeg p2) (vp_updL sm p1.toNatClampNeg p3) sd mi yr mo dy X)) rfl dX3_spanned_70 ?_
      refine z_aload_n C dX3_spanned_71 rfl 0 rfl ?_
      refine z_get (CC := RX3) (T := TX3) (N := 14) (ci := 3) C hin 0 rfl rfl 9 (by decide) w5 rfl rfl dX3_spanned_72 ?_
      refine z_iload_n C dX3_spanned_75 rfl 1 rfl ?_
      refine z_lload C dX3_spanned_76 4 rfl ?_
      refine z_last C 9 1 rfl rfl h_0 (ws' := (wM cI cJ z (s_X3_fails_co (f_X3_spanned_j1 p2 p3 p4 p5)) d ti sL bL mD mT (vp_updL sy p1.toNatClampNeg p2) (vp_updL sm p1.toNatClampNeg p3) (vp_updL sd p1.toNatClampNeg p4) mi yr mo dy X)) rfl dX3_spanned_78 ?_
      refine z_aload_n C dX3_spanned_79 rfl 0 rfl ?_
      refine z_iload_n C dX3_spanned_80 rfl 1 rfl ?_
      refine z_wl (ws' := (wM cI cJ z (s_X3_fails_co (f_X3_spanned_j1 p2 p3 p4 p5)) d ti sL bL mD mT (vp_updL sy p1.toNatClampNeg p2) (vp_updL sm p1.toNatClampNeg p3) (vp_updL sd p1.toNatClampNeg p4) mi yr mo dy X)) (rest := []) (ci := 3) (q0 := 0) C (c_X3_totalOf l hfl D cI cJ X z (s_X3_fails_co (f_X3_spanned_j1 p2 p3 p4 p5)) d ti sL bL mD mT (vp_updL sy p1.toNatClampNeg p2) (vp_updL sm p1.toNatClampNeg p3) (vp_updL sd p1.toNatClampNeg p4) mi yr mo dy p1 h_0) q_X3_totalOf rfl rfl rfl gX3_spanned_X3_totalOf ⟨rfl, rfl⟩ rfl rfl (Nat.le_of_ble_eq_true rfl) ⟨Nat.le_of_ble_eq_true rfl, Nat.le_of_ble_eq_true rfl⟩ ⟨Nat.le_of_ble_eq_true rfl, Nat.le_of_ble_eq_true rfl⟩ dX3_spanned_81 ?_
      exact z_lret C ⟨congrArg (fun v => some (Value.long v)) (by rw [f_X3_spanned, if_pos h4] : (f_X3_totalOf (vp_updL sy p1.toNatClampNeg p2) (vp_updL sm p1.toNatClampNeg p3) p1) = (f_X3_spanned sy sm p1 p2 p3 p4 p5)), by rw [s_X3_spanned_co, if_pos h4, s_X3_spanned_sy, if_pos h4, s_X3_spanned_sm, if_pos h4, s_X3_spanned_sd, if_pos h4]⟩ (by decide) (by decide) dX3_spanned_84
    · refine z_lconst (v := 0) C dX3_spanned_54 (by decide) ?_
      exact z_lret C ⟨congrArg (fun v => some (Value.long v)) (by rw [f_X3_spanned, if_neg h4] : (0 : Int64) = (f_X3_spanned sy sm p1 p2 p3 p4 p5)), by rw [s_X3_spanned_co, if_neg h4, s_X3_spanned_sy, if_neg h4, s_X3_spanned_sm, if_neg h4, s_X3_spanned_sd, if_neg h4]⟩ (by decide) (by decide) dX3_spanned_55
  refine z_if_eq (tgt := 46) C dX3_spanned_11 (by decide) (fun h1 => ?_) (fun h1 => ?_)
  · refine z_iload C dX3_spanned_46 5 rfl ?_
    exact K1 _ (by rw [f_X3_spanned_j1, if_pos h1])
  · refine z_lload C dX3_spanned_14 3 rfl ?_
    refine z_ldc2 (v := (-1000000)) C w1 dX3_spanned_16 ?_
    refine z_ldc2 (v := 1000000) C w2 dX3_spanned_19 ?_
    refine z_si (rest := [.ref (z 0)]) C (c_X3_in l hfl D cI cJ _ p3 ((-1000000) : Int64) (1000000 : Int64) ) q_X3_in gX3_spanned_X3_in ⟨rfl, rfl⟩ rfl rfl (Nat.le_of_ble_eq_true rfl) ⟨Nat.le_of_ble_eq_true rfl, Nat.le_of_ble_eq_true rfl⟩ ⟨Nat.le_of_ble_eq_true rfl, Nat.le_of_ble_eq_true rfl⟩ dX3_spanned_22 ?_
    refine z_if_eq (tgt := 46) C dX3_spanned_25 (by decide) (fun h2 => ?_) (fun h2 => ?_)
    · refine z_iload C dX3_spanned_46 5 rfl ?_
      exact K1 _ (by rw [f_X3_spanned_j1, if_neg h1, if_pos h2])
    · refine z_lload C dX3_spanned_28 4 rfl ?_
      refine z_ldc2 (v := (-1000000)) C w1 dX3_spanned_30 ?_
      refine z_ldc2 (v := 1000000) C w2 dX3_spanned_33 ?_
      refine z_si (rest := [.ref (z 0)]) C (c_X3_in l hfl D cI cJ _ p4 ((-1000000) : Int64) (1000000 : Int64) ) q_X3_in gX3_spanned_X3_in ⟨rfl, rfl⟩ rfl rfl (Nat.le_of_ble_eq_true rfl) ⟨Nat.le_of_ble_eq_true rfl, Nat.le_of_ble_eq_true rfl⟩ ⟨Nat.le_of_ble_eq_true rfl, Nat.le_of_ble_eq_true rfl⟩ dX3_spanned_36 ?_
      refine z_if_eq (tgt := 46) C dX3_spanned_39 (by decide) (fun h3 => ?_) (fun h3 => ?_)
      · refine z_iload C dX3_spanned_46 5 rfl ?_
        exact K1 _ (by rw [f_X3_spanned_j1, if_neg h1, if_neg h2, if_pos h3])
      · refine z_iconst (v := 0) C dX3_spanned_42 (by decide) ?_
        refine z_goto (tgt := 48) C dX3_spanned_43 (by decide) ?_
        exact K1 _ (by rw [f_X3_spanned_j1, if_neg h1, if_neg h2, if_neg h3])
def f_X3_monthMany (mi : Nat → Int64) (p1 : Int32) : Int32 := (f_X3_many (f_X3_floor (mi p1.toNatClampNeg) 12) (1 + ((f_X3_rest (mi p1.toNatClampNeg) 12)).toInt32))
theorem q_X3_monthMany : ZY yX3_monthMany wsX3_monthMany cX3_monthMany 2 (some .int) 1 := ⟨⟨_, rfl⟩, by decide +kernel, by decide +kernel, by decide +kernel⟩
set_option maxHeartbeats 4000000 in
set_option maxRecDepth 100000 in
theorem c_X3_monthMany (l : Launch) (hfl : l.stackTraces = false) (D : va_G) (cI cJ : ClassId) (X : va_W) (z : Nat → Nat) (co : Int32) (d : Nat → Int64) (ti : Nat → Int64) (sL : Nat → Int64) (bL : Nat → Int64) (mD : Nat → Int64) (mT : Nat → Int64) (sy : Nat → Int64) (sm : Nat → Int64) (sd : Nat → Int64) (mi : Nat → Int64) (yr : Int64) (mo : Int32) (dy : Int32) (p1 : Int32) (h_0 : vp_in p1 4) : ZM l yX3_monthMany wsX3_monthMany { frames := 4, cells := 0, slots := 0, locals := 89 } [.ref (z 0), .int p1] D (zTys cI cJ) (wM cI cJ z co d ti sL bL mD mT sy sm sd mi yr mo dy X) 0 0 (fun v w => v = some (.int (f_X3_monthMany mi p1)) ∧ w = (wM cI cJ z co d ti sL bL mD mT sy sm sd mi yr mo dy X)) (fun _ _ => False) := by
  refine z_open (own := RX3) hfl (cc := cX3_monthMany) (maxL := 2) (ret := (some .int)) (lv := [(0, .ref (z 0)), (1, .int p1)]) rfl (by decide) rfl rfl (Nat.le_of_ble_eq_true rfl) ?_
  intro p e s m args below meth c A C hno hnm hargs
  have hin : ∀ w ∈ wsX30, w ∈ wsX3_monthMany := by decide +kernel
  have w1 := C.1.2.2.2.2 (.fieldLink RX3 41 "YearwheelModel" "months" "[J") (by decide +kernel)
  have w2 := C.1.2.2.2.2 (.constantLong RX3 113 (12)) (by decide +kernel)
  refine z_aload_n C dX3_monthMany_0 rfl 0 rfl ?_
  refine z_get (CC := RX3) (T := TX3) (N := 14) (ci := 3) C hin 0 rfl rfl 10 (by decide) w1 rfl rfl dX3_monthMany_1 ?_
  refine z_iload_n C dX3_monthMany_4 rfl 1 rfl ?_
  refine z_lald C 10 1 rfl rfl h_0 dX3_monthMany_5 ?_
  refine z_ldc2 (v := 12) C w2 dX3_monthMany_6 ?_
  refine z_sl (rest := []) C (c_X3_floor l hfl D cI cJ _ (mi p1.toNatClampNeg) (12 : Int64) (by decide)) q_X3_floor gX3_monthMany_X3_floor ⟨rfl, rfl⟩ rfl rfl (Nat.le_of_ble_eq_true rfl) ⟨Nat.le_of_ble_eq_true rfl, Nat.le_of_ble_eq_true rfl⟩ ⟨Nat.le_of_ble_eq_true rfl, Nat.le_of_ble_eq_true rfl⟩ dX3_monthMany_9 ?_
  refine z_iconst (v := 1) C dX3_monthMany_12 (by decide) ?_
  refine z_aload_n C dX3_monthMany_13 rfl 0 rfl ?_
  refine z_get (CC := RX3) (T := TX3) (N := 14) (ci := 3) C hin 0 rfl rfl 10 (by decide) w1 rfl rfl dX3_monthMany_14 ?_
  refine z_iload_n C dX3_monthMany_17 rfl 1 rfl ?_
  refine z_lald C 10 1 rfl rfl h_0 dX3_monthMany_18 ?_
  refine z_ldc2 (v := 12) C w2 dX3_monthMany_19 ?_
  refine z_sl (rest := [.int 1, .long (f_X3_floor (mi p1.toNatClampNeg) 12)]) C (c_X3_rest l hfl D cI cJ _ (mi p1.toNatClampNeg) (12 : Int64) (by decide)) q_X3_rest gX3_monthMany_X3_rest ⟨rfl, rfl⟩ rfl rfl (Nat.le_of_ble_eq_true rfl) ⟨Nat.le_of_ble_eq_true rfl, Nat.le_of_ble_eq_true rfl⟩ ⟨Nat.le_of_ble_eq_true rfl, Nat.le_of_ble_eq_true rfl⟩ dX3_monthMany_22 ?_
  refine z_l2i (v := ((f_X3_rest (mi p1.toNatClampNeg) 12)).toInt32) C dX3_monthMany_25 rfl ?_
  refine z_iadd C dX3_monthMany_26 ?_
  refine z_si (rest := []) C (c_X3_many l hfl D cI cJ _ (f_X3_floor (mi p1.toNatClampNeg) 12) (1 + ((f_X3_rest (mi p1.toNatClampNeg) 12)).toInt32) ) q_X3_many gX3_monthMany_X3_many ⟨rfl, rfl⟩ rfl rfl (Nat.le_of_ble_eq_true rfl) ⟨Nat.le_of_ble_eq_true rfl, Nat.le_of_ble_eq_true rfl⟩ ⟨Nat.le_of_ble_eq_true rfl, Nat.le_of_ble_eq_true rfl⟩ dX3_monthMany_27 ?_
  exact z_iret C ⟨congrArg (fun v => some (Value.int v)) (rfl : (f_X3_many (f_X3_floor (mi p1.toNatClampNeg) 12) (1 + ((f_X3_rest (mi p1.toNatClampNeg) 12)).toInt32)) = (f_X3_monthMany mi p1)), rfl⟩ (by decide) (by decide) dX3_monthMany_30
def f_X3_lasts_j1 (p2 : Int64) (p3 : Int64) (p4 : Int32) : Int32 := (if (p2 + (f_X3_floor p3 1000000000)) < (-1000000000000) then p4 else (if 1000000000000 < (p2 + (f_X3_floor p3 1000000000)) then p4 else (if (p2 + (f_X3_floor p3 1000000000)) = 1000000000000 then (if (f_X3_rest p3 1000000000) ≤ 0 then 0 else p4) else 0)))
def f_X3_lasts (p2 : Int64) (p3 : Int64) (p4 : Int32) : Int64 := (if (f_X3_fails (f_X3_lasts_j1 p2 p3 p4)) = 0 then (p2 + (f_X3_floor p3 1000000000)) else 0)
def s_X3_lasts_co (p2 : Int64) (p3 : Int64) (p4 : Int32) : Int32 := (if (f_X3_fails (f_X3_lasts_j1 p2 p3 p4)) = 0 then (s_X3_fails_co (f_X3_lasts_j1 p2 p3 p4)) else (s_X3_fails_co (f_X3_lasts_j1 p2 p3 p4)))
def s_X3_lasts_sL (sL : Nat → Int64) (p1 : Int32) (p2 : Int64) (p3 : Int64) (p4 : Int32) : Nat → Int64 := (if (f_X3_fails (f_X3_lasts_j1 p2 p3 p4)) = 0 then (vp_updL sL p1.toNatClampNeg (p2 + (f_X3_floor p3 1000000000))) else sL)
def s_X3_lasts_bL (bL : Nat → Int64) (p1 : Int32) (p2 : Int64) (p3 : Int64) (p4 : Int32) : Nat → Int64 := (if (f_X3_fails (f_X3_lasts_j1 p2 p3 p4)) = 0 then (vp_updL bL p1.toNatClampNeg (f_X3_rest p3 1000000000)) else bL)
theorem q_X3_lasts : ZY yX3_lasts wsX3_lasts cX3_lasts 11 (some .long) 4 := ⟨⟨_, rfl⟩, by decide +kernel, by decide +kernel, by decide +kernel⟩
set_option maxHeartbeats 4000000 in
set_option maxRecDepth 100000 in
theorem c_X3_lasts (l : Launch) (hfl : l.stackTraces = false) (D : va_G) (cI cJ : ClassId) (X : va_W) (z : Nat → Nat) (co : Int32) (d : Nat → Int64) (ti : Nat → Int64) (sL : Nat → Int64) (bL : Nat → Int64) (mD : Nat → Int64) (mT : Nat → Int64) (sy : Nat → Int64) (sm : Nat → Int64) (sd : Nat → Int64) (mi : Nat → Int64) (yr : Int64) (mo : Int32) (dy : Int32) (p1 : Int32) (p2 : Int64) (p3 : Int64) (p4 : Int32) (h_0 : vp_in p1 4) : ZM l yX3_lasts wsX3_lasts { frames := 2, cells := 0, slots := 0, locals := 46 } [.ref (z 0), .int p1, .long p2, .long p3, .int p4] D (zTys cI cJ) (wM cI cJ z co d ti sL bL mD mT sy sm sd mi yr mo dy X) 0 0 (fun v w => v = some (.long (f_X3_lasts p2 p3 p4)) ∧ w = (wM cI cJ z (s_X3_lasts_co p2 p3 p4) d ti (s_X3_lasts_sL sL p1 p2 p3 p4) (s_X3_lasts_bL bL p1 p2 p3 p4) mD mT sy sm sd mi yr mo dy X)) (fun _ _ => False) := by
  refine z_open (own := RX3) hfl (cc := cX3_lasts) (maxL := 11) (ret := (some .long)) (lv := [(0, .ref (z 0)), (1, .int p1), (2, .long p2), (4, .long p3), (6, .int p4)]) rfl (by decide) rfl rfl (Nat.le_of_ble_eq_true rfl) ?_
  intro p e s m args below meth c A C hno hnm hargs
  have hin : ∀ w ∈ wsX30, w ∈ wsX3_lasts := by decide +kernel
  have w1 := C.1.2.2.2.2 (.constantLong RX3 199 (1000000000)) (by decide +kernel)
  have w2 := C.1.2.2.2.2 (.constantLong RX3 216 (-1000000000000)) (by decide +kernel)
  have w3 := C.1.2.2.2.2 (.constantLong RX3 218 (1000000000000)) (by decide +kernel)
  have w4 := C.1.2.2.2.2 (.fieldLink RX3 20 "YearwheelModel" "seconds" "[J") (by decide +kernel)
  have w5 := C.1.2.2.2.2 (.fieldLink RX3 23 "YearwheelModel" "fines" "[J") (by decide +kernel)
  refine z_lload_n C dX3_lasts_0 rfl 2 rfl ?_
  refine z_lload C dX3_lasts_1 3 rfl ?_
  refine z_ldc2 (v := 1000000000) C w1 dX3_lasts_3 ?_
  refine z_sl (rest := [.long p2]) C (c_X3_floor l hfl D cI cJ _ p3 (1000000000 : Int64) (by decide)) q_X3_floor gX3_lasts_X3_floor ⟨rfl, rfl⟩ rfl rfl (Nat.le_of_ble_eq_true rfl) ⟨Nat.le_of_ble_eq_true rfl, Nat.le_of_ble_eq_true rfl⟩ ⟨Nat.le_of_ble_eq_true rfl, Nat.le_of_ble_eq_true rfl⟩ dX3_lasts_6 ?_
  refine z_ladd C dX3_lasts_9 ?_
  refine z_lstore (lv' := [(7, .long (p2 + (f_X3_floor p3 1000000000))), (0, .ref (z 0)), (1, .int p1), (2, .long p2), (4, .long p3), (6, .int p4)]) C dX3_lasts_10 (by decide) rfl ?_
  refine z_lload C dX3_lasts_12 4 rfl ?_
  refine z_ldc2 (v := 1000000000) C w1 dX3_lasts_14 ?_
  refine z_sl (rest := []) C (c_X3_rest l hfl D cI cJ _ p3 (1000000000 : Int64) (by decide)) q_X3_rest gX3_lasts_X3_rest ⟨rfl, rfl⟩ rfl rfl (Nat.le_of_ble_eq_true rfl) ⟨Nat.le_of_ble_eq_true rfl, Nat.le_of_ble_eq_true rfl⟩ ⟨Nat.le_of_ble_eq_true rfl, Nat.le_of_ble_eq_true rfl⟩ dX3_lasts_17 ?_
  refine z_lstore (lv' := [(9, .long (f_X3_rest p3 1000000000)), (7, .long (p2 + (f_X3_floor p3 1000000000))), (0, .ref (z 0)), (1, .int p1), (2, .long p2), (4, .long p3), (6, .int p4)]) C dX3_lasts_20 (by decide) rfl ?_
  refine z_aload_n C dX3_lasts_22 rfl 2 rfl ?_
  refine z_lload C dX3_lasts_23 1 rfl ?_
  refine z_ldc2 (v := (-1000000000000)) C w2 dX3_lasts_25 ?_
  have K1 : ∀ (v1_0 : Int32), (f_X3_lasts_j1 p2 p3 p4) = v1_0 → ZW p l e { frames := 2, cells := 0, slots := 0, locals := 46 } s m args below meth c 11 D (zTys cI cJ) A (zE D (zTys cI cJ) A below args s (fun v w => v = some (.long (f_X3_lasts p2 p3 p4)) ∧ w = (wM cI cJ z (s_X3_lasts_co p2 p3 p4) d ti (s_X3_lasts_sL sL p1 p2 p3 p4) (s_X3_lasts_bL bL p1 p2 p3 p4) mD mT sy sm sd mi yr mo dy X)) (fun _ _ => False) 0 0) 0 0 (wM cI cJ z co d ti sL bL mD mT sy sm sd mi yr mo dy X) 63 [(9, .long (f_X3_rest p3 1000000000)), (7, .long (p2 + (f_X3_floor p3 1000000000))), (0, .ref (z 0)), (1, .int p1), (2, .long p2), (4, .long p3), (6, .int p4)] [.int v1_0, .ref (z 0)] := by
    rintro _ rfl
    refine z_wi (ws' := (wM cI cJ z (s_X3_fails_co (f_X3_lasts_j1 p2 p3 p4)) d ti sL bL mD mT sy sm sd mi yr mo dy X)) (rest := []) (ci := 3) (q0 := 0) C (c_X3_fails l hfl D cI cJ X z co d ti sL bL mD mT sy sm sd mi yr mo dy (f_X3_lasts_j1 p2 p3 p4) ) q_X3_fails rfl rfl rfl gX3_lasts_X3_fails ⟨rfl, rfl⟩ rfl rfl (Nat.le_of_ble_eq_true rfl) ⟨Nat.le_of_ble_eq_true rfl, Nat.le_of_ble_eq_true rfl⟩ ⟨Nat.le_of_ble_eq_true rfl, Nat.le_of_ble_eq_true rfl⟩ dX3_lasts_63 ?_
    refine z_if_eq (tgt := 71) C dX3_lasts_66 (by decide) (fun h5 => ?_) (fun h5 => ?_)
    · refine z_aload_n C dX3_lasts_71 rfl 2 rfl ?_
      refine z_get (CC := RX3) (T := TX3) (N := 14) (ci := 3) C hin 0 rfl rfl 3 (by decide) w4 rfl rfl dX3_lasts_72 ?_
      refine z_iload_n C dX3_lasts_75 rfl 3 rfl ?_
      refine z_lload C dX3_lasts_76 1 rfl ?_
      refine z_last C 3 1 rfl rfl h_0 (ws' := (wM cI cJ z (s_X3_fails_co (f_X3_lasts_j1 p2 p3 p4)) d ti (vp_updL sL p1.toNatClampNeg (p2 + (f_X3_floor p3 1000000000))) bL mD mT sy sm sd mi yr mo dy X)) rfl dX3_lasts_78 ?_
      refine z_aload_n C dX3_lasts_79 rfl 2 rfl ?_
      refine z_get (CC := RX3) (T := TX3) (N := 14) (ci := 3) C hin 0 rfl rfl 4 (by decide) w5 rfl rfl dX3_lasts_80 ?_
      refine z_iload_n C dX3_lasts_83 rfl 3 rfl ?_
      refine z_lload C dX3_lasts_84 0 rfl ?_
      refine z_last C 4 1 rfl rfl h_0 (ws' := (wM cI cJ z (s_X3_fails_co (f_X3_lasts_j1 p2 p3 p4)) d ti (vp_updL sL p1.toNatClampNeg (p2 + (f_X3_floor p3 1000000000))) (vp_updL bL p1.toNatClampNeg (f_X3_rest p3 1000000000)) mD mT sy sm sd mi yr mo dy X)) rfl dX3_lasts_86 ?_
      refine z_lload C dX3_lasts_87 1 rfl ?_
      exact z_lret C ⟨congrArg (fun v => some (Value.long v)) (by rw [f_X3_lasts, if_pos h5] : (p2 + (f_X3_floor p3 1000000000)) = (f_X3_lasts p2 p3 p4)), by rw [s_X3_lasts_co, if_pos h5, s_X3_lasts_sL, if_pos h5, s_X3_lasts_bL, if_pos h5]⟩ (by decide) (by decide) dX3_lasts_89
    · refine z_lconst (v := 0) C dX3_lasts_69 (by decide) ?_
      exact z_lret C ⟨congrArg (fun v => some (Value.long v)) (by rw [f_X3_lasts, if_neg h5] : (0 : Int64) = (f_X3_lasts p2 p3 p4)), by rw [s_X3_lasts_co, if_neg h5, s_X3_lasts_sL, if_neg h5, s_X3_lasts_bL, if_neg h5]⟩ (by decide) (by decide) dX3_lasts_70
  refine z_lcmp_lt (tgt := 57) C dX3_lasts_28 dX3_lasts_29 (by decide) (fun h1 => ?_) (fun h1 => ?_)
  · refine z_iload C dX3_lasts_57 6 rfl ?_
    refine z_goto (tgt := 63) C dX3_lasts_59 (by decide) ?_
    exact K1 _ (by rw [f_X3_lasts_j1, if_pos h1])
  · refine z_lload C dX3_lasts_32 1 rfl ?_
    refine z_ldc2 (v := 1000000000000) C w3 dX3_lasts_34 ?_
    refine z_lcmp_gt (tgt := 57) C dX3_lasts_37 dX3_lasts_38 (by decide) (fun h2 => ?_) (fun h2 => ?_)
    · refine z_iload C dX3_lasts_57 6 rfl ?_
      refine z_goto (tgt := 63) C dX3_lasts_59 (by decide) ?_
      exact K1 _ (by rw [f_X3_lasts_j1, if_neg h1, if_pos h2])
    · refine z_lload C dX3_lasts_41 1 rfl ?_
      refine z_ldc2 (v := 1000000000000) C w3 dX3_lasts_43 ?_
      refine z_lcmp_ne (tgt := 62) C dX3_lasts_46 dX3_lasts_47 (by decide) (fun h3 => ?_) (fun h3 => ?_)
      · refine z_iconst (v := 0) C dX3_lasts_62 (by decide) ?_
        exact K1 _ (by rw [f_X3_lasts_j1, if_neg h1, if_neg h2, if_neg h3])
      · refine z_lload C dX3_lasts_50 0 rfl ?_
        refine z_lconst (v := 0) C dX3_lasts_52 (by decide) ?_
        refine z_lcmp_le (tgt := 62) C dX3_lasts_53 dX3_lasts_54 (by decide) (fun h4 => ?_) (fun h4 => ?_)
        · refine z_iconst (v := 0) C dX3_lasts_62 (by decide) ?_
          exact K1 _ (by rw [f_X3_lasts_j1, if_neg h1, if_neg h2, if_pos h3, if_pos h4])
        · refine z_iload C dX3_lasts_57 6 rfl ?_
          refine z_goto (tgt := 63) C dX3_lasts_59 (by decide) ?_
          exact K1 _ (by rw [f_X3_lasts_j1, if_neg h1, if_neg h2, if_pos h3, if_neg h4])
def f_X3_comes_j1 (p2 : Int64) (p4 : Int32) : Int32 := (if (f_X3_in p2 (f_X3_first (-9999)) ((f_X3_first 10000) - 1)) = 0 then p4 else 0)
def f_X3_comes (p2 : Int64) (p4 : Int32) : Int64 := (if (f_X3_fails (f_X3_comes_j1 p2 p4)) = 0 then p2 else 0)
def s_X3_comes_co (p2 : Int64) (p4 : Int32) : Int32 := (if (f_X3_fails (f_X3_comes_j1 p2 p4)) = 0 then (s_X3_fails_co (f_X3_comes_j1 p2 p4)) else (s_X3_fails_co (f_X3_comes_j1 p2 p4)))
def s_X3_comes_mD (mD : Nat → Int64) (p1 : Int32) (p2 : Int64) (p4 : Int32) : Nat → Int64 := (if (f_X3_fails (f_X3_comes_j1 p2 p4)) = 0 then (vp_updL mD p1.toNatClampNeg p2) else mD)
def s_X3_comes_mT (mT : Nat → Int64) (p1 : Int32) (p2 : Int64) (p3 : Int64) (p4 : Int32) : Nat → Int64 := (if (f_X3_fails (f_X3_comes_j1 p2 p4)) = 0 then (vp_updL mT p1.toNatClampNeg p3) else mT)
theorem q_X3_comes : ZY yX3_comes wsX3_comes cX3_comes 7 (some .long) 4 := ⟨⟨_, rfl⟩, by decide +kernel, by decide +kernel, by decide +kernel⟩
set_option maxHeartbeats 4000000 in
set_option maxRecDepth 100000 in
theorem c_X3_comes (l : Launch) (hfl : l.stackTraces = false) (D : va_G) (cI cJ : ClassId) (X : va_W) (z : Nat → Nat) (co : Int32) (d : Nat → Int64) (ti : Nat → Int64) (sL : Nat → Int64) (bL : Nat → Int64) (mD : Nat → Int64) (mT : Nat → Int64) (sy : Nat → Int64) (sm : Nat → Int64) (sd : Nat → Int64) (mi : Nat → Int64) (yr : Int64) (mo : Int32) (dy : Int32) (p1 : Int32) (p2 : Int64) (p3 : Int64) (p4 : Int32) (h_0 : vp_in p1 4) : ZM l yX3_comes wsX3_comes { frames := 3, cells := 0, slots := 0, locals := 65 } [.ref (z 0), .int p1, .long p2, .long p3, .int p4] D (zTys cI cJ) (wM cI cJ z co d ti sL bL mD mT sy sm sd mi yr mo dy X) 0 0 (fun v w => v = some (.long (f_X3_comes p2 p4)) ∧ w = (wM cI cJ z (s_X3_comes_co p2 p4) d ti sL bL (s_X3_comes_mD mD p1 p2 p4) (s_X3_comes_mT mT p1 p2 p3 p4) sy sm sd mi yr mo dy X)) (fun _ _ => False) := by
  refine z_open (own := RX3) hfl (cc := cX3_comes) (maxL := 7) (ret := (some .long)) (lv := [(0, .ref (z 0)), (1, .int p1), (2, .long p2), (4, .long p3), (6, .int p4)]) rfl (by decide) rfl rfl (Nat.le_of_ble_eq_true rfl) ?_
  intro p e s m args below meth c A C hno hnm hargs
  have hin : ∀ w ∈ wsX30, w ∈ wsX3_comes := by decide +kernel
  have w1 := C.1.2.2.2.2 (.constantLong RX3 96 (-9999)) (by decide +kernel)
  have w2 := C.1.2.2.2.2 (.constantLong RX3 128 (10000)) (by decide +kernel)
  have w3 := C.1.2.2.2.2 (.fieldLink RX3 26 "YearwheelModel" "days" "[J") (by decide +kernel)
  have w4 := C.1.2.2.2.2 (.fieldLink RX3 29 "YearwheelModel" "clocks" "[J") (by decide +kernel)
  refine z_aload_n C dX3_comes_0 rfl 0 rfl ?_
  refine z_lload_n C dX3_comes_1 rfl 2 rfl ?_
  refine z_ldc2 (v := (-9999)) C w1 dX3_comes_2 ?_
  refine z_sl (rest := [.long p2, .ref (z 0)]) C (c_X3_first l hfl D cI cJ _ ((-9999) : Int64) ) q_X3_first gX3_comes_X3_first ⟨rfl, rfl⟩ rfl rfl (Nat.le_of_ble_eq_true rfl) ⟨Nat.le_of_ble_eq_true rfl, Nat.le_of_ble_eq_true rfl⟩ ⟨Nat.le_of_ble_eq_true rfl, Nat.le_of_ble_eq_true rfl⟩ dX3_comes_5 ?_
  refine z_ldc2 (v := 10000) C w2 dX3_comes_8 ?_
  refine z_sl (rest := [.long (f_X3_first (-9999)), .long p2, .ref (z 0)]) C (c_X3_first l hfl D cI cJ _ (10000 : Int64) ) q_X3_first gX3_comes_X3_first ⟨rfl, rfl⟩ rfl rfl (Nat.le_of_ble_eq_true rfl) ⟨Nat.le_of_ble_eq_true rfl, Nat.le_of_ble_eq_true rfl⟩ ⟨Nat.le_of_ble_eq_true rfl, Nat.le_of_ble_eq_true rfl⟩ dX3_comes_11 ?_
  refine z_lconst (v := 1) C dX3_comes_14 (by decide) ?_
  refine z_lsub C dX3_comes_15 ?_
  refine z_si (rest := [.ref (z 0)]) C (c_X3_in l hfl D cI cJ _ p2 (f_X3_first (-9999)) ((f_X3_first 10000) - 1) ) q_X3_in gX3_comes_X3_in ⟨rfl, rfl⟩ rfl rfl (Nat.le_of_ble_eq_true rfl) ⟨Nat.le_of_ble_eq_true rfl, Nat.le_of_ble_eq_true rfl⟩ ⟨Nat.le_of_ble_eq_true rfl, Nat.le_of_ble_eq_true rfl⟩ dX3_comes_16 ?_
  have K1 : ∀ (v1_0 : Int32), (f_X3_comes_j1 p2 p4) = v1_0 → ZW p l e { frames := 3, cells := 0, slots := 0, locals := 65 } s m args below meth c 7 D (zTys cI cJ) A (zE D (zTys cI cJ) A below args s (fun v w => v = some (.long (f_X3_comes p2 p4)) ∧ w = (wM cI cJ z (s_X3_comes_co p2 p4) d ti sL bL (s_X3_comes_mD mD p1 p2 p4) (s_X3_comes_mT mT p1 p2 p3 p4) sy sm sd mi yr mo dy X)) (fun _ _ => False) 0 0) 0 0 (wM cI cJ z co d ti sL bL mD mT sy sm sd mi yr mo dy X) 28 [(0, .ref (z 0)), (1, .int p1), (2, .long p2), (4, .long p3), (6, .int p4)] [.int v1_0, .ref (z 0)] := by
    rintro _ rfl
    refine z_wi (ws' := (wM cI cJ z (s_X3_fails_co (f_X3_comes_j1 p2 p4)) d ti sL bL mD mT sy sm sd mi yr mo dy X)) (rest := []) (ci := 3) (q0 := 0) C (c_X3_fails l hfl D cI cJ X z co d ti sL bL mD mT sy sm sd mi yr mo dy (f_X3_comes_j1 p2 p4) ) q_X3_fails rfl rfl rfl gX3_comes_X3_fails ⟨rfl, rfl⟩ rfl rfl (Nat.le_of_ble_eq_true rfl) ⟨Nat.le_of_ble_eq_true rfl, Nat.le_of_ble_eq_true rfl⟩ ⟨Nat.le_of_ble_eq_true rfl, Nat.le_of_ble_eq_true rfl⟩ dX3_comes_28 ?_
    refine z_if_eq (tgt := 36) C dX3_comes_31 (by decide) (fun h2 => ?_) (fun h2 => ?_)
    · refine z_aload_n C dX3_comes_36 rfl 0 rfl ?_
      refine z_get (CC := RX3) (T := TX3) (N := 14) (ci := 3) C hin 0 rfl rfl 5 (by decide) w3 rfl rfl dX3_comes_37 ?_
      refine z_iload_n C dX3_comes_40 rfl 1 rfl ?_
      refine z_lload_n C dX3_comes_41 rfl 2 rfl ?_
      refine z_last C 5 1 rfl rfl h_0 (ws' := (wM cI cJ z (s_X3_fails_co (f_X3_comes_j1 p2 p4)) d ti sL bL (vp_updL mD p1.toNatClampNeg p2) mT sy sm sd mi yr mo dy X)) rfl dX3_comes_42 ?_
      refine z_aload_n C dX3_comes_43 rfl 0 rfl ?_
      refine z_get (CC := RX3) (T := TX3) (N := 14) (ci := 3) C hin 0 rfl rfl 6 (by decide) w4 rfl rfl dX3_comes_44 ?_
      refine z_iload_n C dX3_comes_47 rfl 1 rfl ?_
      refine z_lload C dX3_comes_48 3 rfl ?_
      refine z_last C 6 1 rfl rfl h_0 (ws' := (wM cI cJ z (s_X3_fails_co (f_X3_comes_j1 p2 p4)) d ti sL bL (vp_updL mD p1.toNatClampNeg p2) (vp_updL mT p1.toNatClampNeg p3) sy sm sd mi yr mo dy X)) rfl dX3_comes_50 ?_
      refine z_lload_n C dX3_comes_51 rfl 2 rfl ?_
      exact z_lret C ⟨congrArg (fun v => some (Value.long v)) (by rw [f_X3_comes, if_pos h2] : p2 = (f_X3_comes p2 p4)), by rw [s_X3_comes_co, if_pos h2, s_X3_comes_mD, if_pos h2, s_X3_comes_mT, if_pos h2]⟩ (by decide) (by decide) dX3_comes_52
    · refine z_lconst (v := 0) C dX3_comes_34 (by decide) ?_
      exact z_lret C ⟨congrArg (fun v => some (Value.long v)) (by rw [f_X3_comes, if_neg h2] : (0 : Int64) = (f_X3_comes p2 p4)), by rw [s_X3_comes_co, if_neg h2, s_X3_comes_mD, if_neg h2, s_X3_comes_mT, if_neg h2]⟩ (by decide) (by decide) dX3_comes_35
  refine z_if_eq (tgt := 26) C dX3_comes_19 (by decide) (fun h1 => ?_) (fun h1 => ?_)
  · refine z_iload C dX3_comes_26 4 rfl ?_
    exact K1 _ (by rw [f_X3_comes_j1, if_pos h1])
  · refine z_iconst (v := 0) C dX3_comes_22 (by decide) ?_
    refine z_goto (tgt := 28) C dX3_comes_23 (by decide) ?_
    exact K1 _ (by rw [f_X3_comes_j1, if_neg h1])
def f_X3_isAhead (mD : Nat → Int64) (mT : Nat → Int64) (p1 : Int32) (p2 : Int32) : Int32 := (if (mD p1.toNatClampNeg) < (mD p2.toNatClampNeg) then 1 else (if (mD p1.toNatClampNeg) = (mD p2.toNatClampNeg) then (if (mT p2.toNatClampNeg) ≤ (mT p1.toNatClampNeg) then 0 else 1) else 0))
theorem q_X3_isAhead : ZY yX3_isAhead wsX3_isAhead cX3_isAhead 3 (some .boolean) 2 := ⟨⟨_, rfl⟩, by decide +kernel, by decide +kernel, by decide +kernel⟩
set_option maxHeartbeats 4000000 in
set_option maxRecDepth 100000 in
theorem c_X3_isAhead (l : Launch) (hfl : l.stackTraces = false) (D : va_G) (cI cJ : ClassId) (X : va_W) (z : Nat → Nat) (co : Int32) (d : Nat → Int64) (ti : Nat → Int64) (sL : Nat → Int64) (bL : Nat → Int64) (mD : Nat → Int64) (mT : Nat → Int64) (sy : Nat → Int64) (sm : Nat → Int64) (sd : Nat → Int64) (mi : Nat → Int64) (yr : Int64) (mo : Int32) (dy : Int32) (p1 : Int32) (p2 : Int32) (h_0 : vp_in p1 4) (h_1 : vp_in p2 4) : ZM l yX3_isAhead wsX3_isAhead { frames := 0, cells := 0, slots := 0, locals := 0 } [.ref (z 0), .int p1, .int p2] D (zTys cI cJ) (wM cI cJ z co d ti sL bL mD mT sy sm sd mi yr mo dy X) 0 0 (fun v w => v = some (.int (f_X3_isAhead mD mT p1 p2)) ∧ w = (wM cI cJ z co d ti sL bL mD mT sy sm sd mi yr mo dy X)) (fun _ _ => False) := by
  refine z_open (own := RX3) hfl (cc := cX3_isAhead) (maxL := 3) (ret := (some .boolean)) (lv := [(0, .ref (z 0)), (1, .int p1), (2, .int p2)]) rfl (by decide) rfl rfl (Nat.le_of_ble_eq_true rfl) ?_
  intro p e s m args below meth c A C hno hnm hargs
  have hin : ∀ w ∈ wsX30, w ∈ wsX3_isAhead := by decide +kernel
  have w1 := C.1.2.2.2.2 (.fieldLink RX3 26 "YearwheelModel" "days" "[J") (by decide +kernel)
  have w2 := C.1.2.2.2.2 (.fieldLink RX3 29 "YearwheelModel" "clocks" "[J") (by decide +kernel)
  refine z_aload_n C dX3_isAhead_0 rfl 0 rfl ?_
  refine z_get (CC := RX3) (T := TX3) (N := 14) (ci := 3) C hin 0 rfl rfl 5 (by decide) w1 rfl rfl dX3_isAhead_1 ?_
  refine z_iload_n C dX3_isAhead_4 rfl 1 rfl ?_
  refine z_lald C 5 1 rfl rfl h_0 dX3_isAhead_5 ?_
  refine z_aload_n C dX3_isAhead_6 rfl 0 rfl ?_
  refine z_get (CC := RX3) (T := TX3) (N := 14) (ci := 3) C hin 0 rfl rfl 5 (by decide) w1 rfl rfl dX3_isAhead_7 ?_
  refine z_iload_n C dX3_isAhead_10 rfl 2 rfl ?_
  refine z_lald C 5 1 rfl rfl h_1 dX3_isAhead_11 ?_
  refine z_lcmp_lt (tgt := 48) C dX3_isAhead_12 dX3_isAhead_13 (by decide) (fun h1 => ?_) (fun h1 => ?_)
  · refine z_iconst (v := 1) C dX3_isAhead_48 (by decide) ?_
    refine z_goto (tgt := 53) C dX3_isAhead_49 (by decide) ?_
    exact z_zret C (by decide) ⟨congrArg (fun v => some (Value.int v)) (by rw [f_X3_isAhead, if_pos h1] : (1 : Int32) = (f_X3_isAhead mD mT p1 p2)), rfl⟩ (by decide) (by decide) dX3_isAhead_53
  · refine z_aload_n C dX3_isAhead_16 rfl 0 rfl ?_
    refine z_get (CC := RX3) (T := TX3) (N := 14) (ci := 3) C hin 0 rfl rfl 5 (by decide) w1 rfl rfl dX3_isAhead_17 ?_
    refine z_iload_n C dX3_isAhead_20 rfl 1 rfl ?_
    refine z_lald C 5 1 rfl rfl h_0 dX3_isAhead_21 ?_
    refine z_aload_n C dX3_isAhead_22 rfl 0 rfl ?_
    refine z_get (CC := RX3) (T := TX3) (N := 14) (ci := 3) C hin 0 rfl rfl 5 (by decide) w1 rfl rfl dX3_isAhead_23 ?_
    refine z_iload_n C dX3_isAhead_26 rfl 2 rfl ?_
    refine z_lald C 5 1 rfl rfl h_1 dX3_isAhead_27 ?_
    refine z_lcmp_ne (tgt := 52) C dX3_isAhead_28 dX3_isAhead_29 (by decide) (fun h2 => ?_) (fun h2 => ?_)
    · refine z_iconst (v := 0) C dX3_isAhead_52 (by decide) ?_
      exact z_zret C (by decide) ⟨congrArg (fun v => some (Value.int v)) (by rw [f_X3_isAhead, if_neg h1, if_neg h2] : (0 : Int32) = (f_X3_isAhead mD mT p1 p2)), rfl⟩ (by decide) (by decide) dX3_isAhead_53
    · refine z_aload_n C dX3_isAhead_32 rfl 0 rfl ?_
      refine z_get (CC := RX3) (T := TX3) (N := 14) (ci := 3) C hin 0 rfl rfl 6 (by decide) w2 rfl rfl dX3_isAhead_33 ?_
      refine z_iload_n C dX3_isAhead_36 rfl 1 rfl ?_
      refine z_lald C 6 1 rfl rfl h_0 dX3_isAhead_37 ?_
      refine z_aload_n C dX3_isAhead_38 rfl 0 rfl ?_
      refine z_get (CC := RX3) (T := TX3) (N := 14) (ci := 3) C hin 0 rfl rfl 6 (by decide) w2 rfl rfl dX3_isAhead_39 ?_
      refine z_iload_n C dX3_isAhead_42 rfl 2 rfl ?_
      refine z_lald C 6 1 rfl rfl h_1 dX3_isAhead_43 ?_
      refine z_lcmp_ge (tgt := 52) C dX3_isAhead_44 dX3_isAhead_45 (by decide) (fun h3 => ?_) (fun h3 => ?_)
      · refine z_iconst (v := 0) C dX3_isAhead_52 (by decide) ?_
        exact z_zret C (by decide) ⟨congrArg (fun v => some (Value.int v)) (by rw [f_X3_isAhead, if_neg h1, if_pos h2, if_pos h3] : (0 : Int32) = (f_X3_isAhead mD mT p1 p2)), rfl⟩ (by decide) (by decide) dX3_isAhead_53
      · refine z_iconst (v := 1) C dX3_isAhead_48 (by decide) ?_
        refine z_goto (tgt := 53) C dX3_isAhead_49 (by decide) ?_
        exact z_zret C (by decide) ⟨congrArg (fun v => some (Value.int v)) (by rw [f_X3_isAhead, if_neg h1, if_pos h2, if_neg h3] : (1 : Int32) = (f_X3_isAhead mD mT p1 p2)), rfl⟩ (by decide) (by decide) dX3_isAhead_53
theorem b_X3_isAhead (mD : Nat → Int64) (mT : Nat → Int64) (p1 : Int32) (p2 : Int32) : f_X3_isAhead mD mT p1 p2 = 0 ∨ f_X3_isAhead mD mT p1 p2 = 1 := by
  unfold f_X3_isAhead
  repeat (first | apply z01_ite | exact Or.inl rfl | exact Or.inr rfl | apply zbor)
