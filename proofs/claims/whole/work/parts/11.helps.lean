def k_X2_checkSlot (p1 : Int32) (p2 : Int32) : Int32 := (if p1 < 0 then 1 else (if p1 < p2 then 0 else 1))
theorem q_X2_checkSlot : ZY yX2_checkSlot wsX2_checkSlot cX2_checkSlot 2 none 2 := ⟨⟨_, rfl⟩, by decide +kernel, by decide +kernel, by decide +kernel⟩
set_option maxHeartbeats 4000000 in
set_option maxRecDepth 100000 in
theorem c_X2_checkSlot (l : Launch) (hfl : l.stackTraces = false) (D : va_G) (cI cJ : ClassId) (X : va_W) (p1 : Int32) (p2 : Int32)  : ZM l yX2_checkSlot wsX2_checkSlot { frames := 6, cells := 1, slots := 6, locals := 82 } [.int p1, .int p2] D (zTys cI cJ) X 1 6 (fun v w => k_X2_checkSlot p1 p2 = 0 ∧ v = none ∧ w = X) (fun E w => w = X ∧ zEx E (k_X2_checkSlot p1 p2)) := by
  refine z_open (own := RX2) hfl (cc := cX2_checkSlot) (maxL := 2) (ret := none) (lv := [(0, .int p1), (1, .int p2)]) rfl (by decide) rfl rfl (Nat.le_of_ble_eq_true rfl) ?_
  intro p e s m args below meth c A C hno hnm hargs
  have w1 := C.1.2.2.2.2 (.classLink RX2 289 "java/lang/IndexOutOfBoundsException") (by decide +kernel)
  have w2 := C.1.2.2.2.2 (.initialized "java/lang/IndexOutOfBoundsException") (by decide +kernel)
  refine z_iload_n C dX2_checkSlot_0 rfl 0 rfl ?_
  refine z_if_lt (tgt := 9) C dX2_checkSlot_1 (by decide) (fun h1 => ?_) (fun h1 => ?_)
  · obtain ⟨sa, hsa⟩ := C.2.2.2.2.2.1.1 (291, _) (List.mem_of_getElem? (i := 11) rfl)
    exact z_throwSW C hno (cls := "java/lang/IndexOutOfBoundsException") (names := ["java/lang/RuntimeException", "java/lang/Exception"]) (by decide +kernel) (by decide +kernel) w1 w2 hsa (z_hat RX2 293 "java/lang/IndexOutOfBoundsException" ["java/lang/RuntimeException", "java/lang/Exception"] zg_293 (fun w hw => C.1.2.2.2.2 w ((by decide +kernel : ∀ w ∈ (vx_atS RX2 293 "java/lang/IndexOutOfBoundsException" ["java/lang/RuntimeException", "java/lang/Exception"]).filter goodWord, w ∈ wsX2_checkSlot) w hw)) C.2.2.2.2.2.1 (by decide : "java/lang/IndexOutOfBoundsException" ∈ zCs)) zo_293 dX2_checkSlot_9 dX2_checkSlot_12 dX2_checkSlot_13 dX2_checkSlot_16 dX2_checkSlot_19 (by decide) (Nat.le_of_ble_eq_true rfl) (Nat.le_of_ble_eq_true rfl) (Nat.le_of_ble_eq_true rfl) (Nat.le_of_ble_eq_true rfl) (Nat.le_of_ble_eq_true rfl) ⟨rfl, by rw [k_X2_checkSlot, if_pos h1]; exact zEx1⟩
  · refine z_iload_n C dX2_checkSlot_4 rfl 0 rfl ?_
    refine z_iload_n C dX2_checkSlot_5 rfl 1 rfl ?_
    refine z_icmp_lt (tgt := 20) C dX2_checkSlot_6 (by decide) (fun h2 => ?_) (fun h2 => ?_)
    · exact z_vret C ⟨by rw [k_X2_checkSlot, if_neg h1, if_pos h2], rfl, rfl⟩ (by decide) (by decide) dX2_checkSlot_20
    · obtain ⟨sa, hsa⟩ := C.2.2.2.2.2.1.1 (291, _) (List.mem_of_getElem? (i := 11) rfl)
      exact z_throwSW C hno (cls := "java/lang/IndexOutOfBoundsException") (names := ["java/lang/RuntimeException", "java/lang/Exception"]) (by decide +kernel) (by decide +kernel) w1 w2 hsa (z_hat RX2 293 "java/lang/IndexOutOfBoundsException" ["java/lang/RuntimeException", "java/lang/Exception"] zg_293 (fun w hw => C.1.2.2.2.2 w ((by decide +kernel : ∀ w ∈ (vx_atS RX2 293 "java/lang/IndexOutOfBoundsException" ["java/lang/RuntimeException", "java/lang/Exception"]).filter goodWord, w ∈ wsX2_checkSlot) w hw)) C.2.2.2.2.2.1 (by decide : "java/lang/IndexOutOfBoundsException" ∈ zCs)) zo_293 dX2_checkSlot_9 dX2_checkSlot_12 dX2_checkSlot_13 dX2_checkSlot_16 dX2_checkSlot_19 (by decide) (Nat.le_of_ble_eq_true rfl) (Nat.le_of_ble_eq_true rfl) (Nat.le_of_ble_eq_true rfl) (Nat.le_of_ble_eq_true rfl) (Nat.le_of_ble_eq_true rfl) ⟨rfl, by rw [k_X2_checkSlot, if_neg h1, if_neg h2]; exact zEx1⟩
def k_X2_checkArgument (p1 : Int32) : Int32 := (if p1 = 0 then 2 else 0)
theorem q_X2_checkArgument : ZY yX2_checkArgument wsX2_checkArgument cX2_checkArgument 1 none 1 := ⟨⟨_, rfl⟩, by decide +kernel, by decide +kernel, by decide +kernel⟩
set_option maxHeartbeats 4000000 in
set_option maxRecDepth 100000 in
theorem c_X2_checkArgument (l : Launch) (hfl : l.stackTraces = false) (D : va_G) (cI cJ : ClassId) (X : va_W) (p1 : Int32)  : ZM l yX2_checkArgument wsX2_checkArgument { frames := 6, cells := 1, slots := 6, locals := 82 } [.int p1] D (zTys cI cJ) X 1 6 (fun v w => k_X2_checkArgument p1 = 0 ∧ v = none ∧ w = X) (fun E w => w = X ∧ zEx E (k_X2_checkArgument p1)) := by
  refine z_open (own := RX2) hfl (cc := cX2_checkArgument) (maxL := 1) (ret := none) (lv := [(0, .int p1)]) rfl (by decide) rfl rfl (Nat.le_of_ble_eq_true rfl) ?_
  intro p e s m args below meth c A C hno hnm hargs
  have w1 := C.1.2.2.2.2 (.classLink RX2 101 "java/lang/IllegalArgumentException") (by decide +kernel)
  have w2 := C.1.2.2.2.2 (.initialized "java/lang/IllegalArgumentException") (by decide +kernel)
  refine z_iload_n C dX2_checkArgument_0 rfl 0 rfl ?_
  refine z_if_ne (tgt := 15) C dX2_checkArgument_1 (by decide) (fun h1 => ?_) (fun h1 => ?_)
  · exact z_vret C ⟨by rw [k_X2_checkArgument, if_neg h1], rfl, rfl⟩ (by decide) (by decide) dX2_checkArgument_15
  · obtain ⟨sa, hsa⟩ := C.2.2.2.2.2.1.1 (294, _) (List.mem_of_getElem? (i := 12) rfl)
    exact z_throwSW C hno (cls := "java/lang/IllegalArgumentException") (names := ["java/lang/RuntimeException", "java/lang/Exception"]) (by decide +kernel) (by decide +kernel) w1 w2 hsa (z_hat RX2 105 "java/lang/IllegalArgumentException" ["java/lang/RuntimeException", "java/lang/Exception"] zg_105 (fun w hw => C.1.2.2.2.2 w ((by decide +kernel : ∀ w ∈ (vx_atS RX2 105 "java/lang/IllegalArgumentException" ["java/lang/RuntimeException", "java/lang/Exception"]).filter goodWord, w ∈ wsX2_checkArgument) w hw)) C.2.2.2.2.2.1 (by decide : "java/lang/IllegalArgumentException" ∈ zCs)) zo_105 dX2_checkArgument_4 dX2_checkArgument_7 dX2_checkArgument_8 dX2_checkArgument_11 dX2_checkArgument_14 (by decide) (Nat.le_of_ble_eq_true rfl) (Nat.le_of_ble_eq_true rfl) (Nat.le_of_ble_eq_true rfl) (Nat.le_of_ble_eq_true rfl) (Nat.le_of_ble_eq_true rfl) ⟨rfl, by rw [k_X2_checkArgument, if_pos h1]; exact zEx2⟩
def k_X2_checkOutcome (p1 : Int32) : Int32 := (if p1 = 0 then 3 else 0)
theorem q_X2_checkOutcome : ZY yX2_checkOutcome wsX2_checkOutcome cX2_checkOutcome 1 none 1 := ⟨⟨_, rfl⟩, by decide +kernel, by decide +kernel, by decide +kernel⟩
set_option maxHeartbeats 4000000 in
set_option maxRecDepth 100000 in
theorem c_X2_checkOutcome (l : Launch) (hfl : l.stackTraces = false) (D : va_G) (cI cJ : ClassId) (X : va_W) (p1 : Int32)  : ZM l yX2_checkOutcome wsX2_checkOutcome { frames := 6, cells := 1, slots := 6, locals := 82 } [.int p1] D (zTys cI cJ) X 1 6 (fun v w => k_X2_checkOutcome p1 = 0 ∧ v = none ∧ w = X) (fun E w => w = X ∧ zEx E (k_X2_checkOutcome p1)) := by
  refine z_open (own := RX2) hfl (cc := cX2_checkOutcome) (maxL := 1) (ret := none) (lv := [(0, .int p1)]) rfl (by decide) rfl rfl (Nat.le_of_ble_eq_true rfl) ?_
  intro p e s m args below meth c A C hno hnm hargs
  have w1 := C.1.2.2.2.2 (.classLink RX2 296 "java/lang/UnsupportedOperationException") (by decide +kernel)
  have w2 := C.1.2.2.2.2 (.initialized "java/lang/UnsupportedOperationException") (by decide +kernel)
  refine z_iload_n C dX2_checkOutcome_0 rfl 0 rfl ?_
  refine z_if_ne (tgt := 15) C dX2_checkOutcome_1 (by decide) (fun h1 => ?_) (fun h1 => ?_)
  · exact z_vret C ⟨by rw [k_X2_checkOutcome, if_neg h1], rfl, rfl⟩ (by decide) (by decide) dX2_checkOutcome_15
  · obtain ⟨sa, hsa⟩ := C.2.2.2.2.2.1.1 (298, _) (List.mem_of_getElem? (i := 13) rfl)
    exact z_throwSW C hno (cls := "java/lang/UnsupportedOperationException") (names := ["java/lang/RuntimeException", "java/lang/Exception"]) (by decide +kernel) (by decide +kernel) w1 w2 hsa (z_hat RX2 300 "java/lang/UnsupportedOperationException" ["java/lang/RuntimeException", "java/lang/Exception"] zg_300 (fun w hw => C.1.2.2.2.2 w ((by decide +kernel : ∀ w ∈ (vx_atS RX2 300 "java/lang/UnsupportedOperationException" ["java/lang/RuntimeException", "java/lang/Exception"]).filter goodWord, w ∈ wsX2_checkOutcome) w hw)) C.2.2.2.2.2.1 (by decide : "java/lang/UnsupportedOperationException" ∈ zCs)) zo_300 dX2_checkOutcome_4 dX2_checkOutcome_7 dX2_checkOutcome_8 dX2_checkOutcome_11 dX2_checkOutcome_14 (by decide) (Nat.le_of_ble_eq_true rfl) (Nat.le_of_ble_eq_true rfl) (Nat.le_of_ble_eq_true rfl) (Nat.le_of_ble_eq_true rfl) (Nat.le_of_ble_eq_true rfl) ⟨rfl, by rw [k_X2_checkOutcome, if_pos h1]; exact zEx3⟩
def f_X2_isIn (p1 : Int64) (p2 : Int64) (p3 : Int64) : Int32 := (if p1 < p2 then 0 else (if p3 < p1 then 0 else 1))
theorem q_X2_isIn : ZY yX2_isIn wsX2_isIn cX2_isIn 6 (some .boolean) 3 := ⟨⟨_, rfl⟩, by decide +kernel, by decide +kernel, by decide +kernel⟩
set_option maxHeartbeats 4000000 in
set_option maxRecDepth 100000 in
theorem c_X2_isIn (l : Launch) (hfl : l.stackTraces = false) (D : va_G) (cI cJ : ClassId) (X : va_W) (p1 : Int64) (p2 : Int64) (p3 : Int64)  : ZM l yX2_isIn wsX2_isIn { frames := 0, cells := 0, slots := 0, locals := 0 } [.long p1, .long p2, .long p3] D (zTys cI cJ) X 0 0 (fun v w => v = some (.int (f_X2_isIn p1 p2 p3)) ∧ w = X) (fun _ _ => False) := by
  refine z_open (own := RX2) hfl (cc := cX2_isIn) (maxL := 6) (ret := (some .boolean)) (lv := [(0, .long p1), (2, .long p2), (4, .long p3)]) rfl (by decide) rfl rfl (Nat.le_of_ble_eq_true rfl) ?_
  intro p e s m args below meth c A C hno hnm hargs
  refine z_lload_n C dX2_isIn_0 rfl 1 rfl ?_
  refine z_lload_n C dX2_isIn_1 rfl 0 rfl ?_
  refine z_lcmp_gt (tgt := 17) C dX2_isIn_2 dX2_isIn_3 (by decide) (fun h1 => ?_) (fun h1 => ?_)
  · refine z_iconst (v := 0) C dX2_isIn_17 (by decide) ?_
    exact z_zret C (by decide) ⟨congrArg (fun v => some (Value.int v)) (by rw [f_X2_isIn, if_pos h1] : (0 : Int32) = (f_X2_isIn p1 p2 p3)), rfl⟩ (by decide) (by decide) dX2_isIn_18
  · refine z_lload_n C dX2_isIn_6 rfl 0 rfl ?_
    refine z_lload C dX2_isIn_7 2 rfl ?_
    refine z_lcmp_gt (tgt := 17) C dX2_isIn_9 dX2_isIn_10 (by decide) (fun h2 => ?_) (fun h2 => ?_)
    · refine z_iconst (v := 0) C dX2_isIn_17 (by decide) ?_
      exact z_zret C (by decide) ⟨congrArg (fun v => some (Value.int v)) (by rw [f_X2_isIn, if_neg h1, if_pos h2] : (0 : Int32) = (f_X2_isIn p1 p2 p3)), rfl⟩ (by decide) (by decide) dX2_isIn_18
    · refine z_iconst (v := 1) C dX2_isIn_13 (by decide) ?_
      refine z_goto (tgt := 18) C dX2_isIn_14 (by decide) ?_
      exact z_zret C (by decide) ⟨congrArg (fun v => some (Value.int v)) (by rw [f_X2_isIn, if_neg h1, if_neg h2] : (1 : Int32) = (f_X2_isIn p1 p2 p3)), rfl⟩ (by decide) (by decide) dX2_isIn_18
theorem b_X2_isIn (p1 : Int64) (p2 : Int64) (p3 : Int64) : f_X2_isIn p1 p2 p3 = 0 ∨ f_X2_isIn p1 p2 p3 = 1 := by
  unfold f_X2_isIn
  repeat (first | exact Or.inl rfl | exact Or.inr rfl | apply zbor | split)
def f_X2_isYear (p1 : Int64) : Int32 := (f_X2_isIn p1 (-9999) 9999)
theorem q_X2_isYear : ZY yX2_isYear wsX2_isYear cX2_isYear 2 (some .boolean) 1 := ⟨⟨_, rfl⟩, by decide +kernel, by decide +kernel, by decide +kernel⟩
set_option maxHeartbeats 4000000 in
set_option maxRecDepth 100000 in
theorem c_X2_isYear (l : Launch) (hfl : l.stackTraces = false) (D : va_G) (cI cJ : ClassId) (X : va_W) (p1 : Int64)  : ZM l yX2_isYear wsX2_isYear { frames := 1, cells := 0, slots := 0, locals := 25 } [.long p1] D (zTys cI cJ) X 0 0 (fun v w => v = some (.int (f_X2_isYear p1)) ∧ w = X) (fun _ _ => False) := by
  refine z_open (own := RX2) hfl (cc := cX2_isYear) (maxL := 2) (ret := (some .boolean)) (lv := [(0, .long p1)]) rfl (by decide) rfl rfl (Nat.le_of_ble_eq_true rfl) ?_
  intro p e s m args below meth c A C hno hnm hargs
  have w1 := C.1.2.2.2.2 (.constantLong RX2 301 (-9999)) (by decide +kernel)
  have w2 := C.1.2.2.2.2 (.constantLong RX2 303 (9999)) (by decide +kernel)
  refine z_lload_n C dX2_isYear_0 rfl 0 rfl ?_
  refine z_ldc2 (v := (-9999)) C w1 dX2_isYear_1 ?_
  refine z_ldc2 (v := 9999) C w2 dX2_isYear_4 ?_
  refine z_si (rest := []) C (c_X2_isIn l hfl D cI cJ _ p1 ((-9999) : Int64) (9999 : Int64) ) q_X2_isIn gX2_isYear_X2_isIn ⟨rfl, rfl⟩ rfl rfl (Nat.le_of_ble_eq_true rfl) ⟨Nat.le_of_ble_eq_true rfl, Nat.le_of_ble_eq_true rfl⟩ ⟨Nat.le_of_ble_eq_true rfl, Nat.le_of_ble_eq_true rfl⟩ dX2_isYear_7 ?_
  exact z_zret C (zb01 (b_X2_isIn p1 (-9999) 9999)) ⟨congrArg (fun v => some (Value.int v)) (rfl : (f_X2_isIn p1 (-9999) 9999) = (f_X2_isYear p1)), rfl⟩ (by decide) (by decide) dX2_isYear_10
theorem b_X2_isYear (p1 : Int64) : f_X2_isYear p1 = 0 ∨ f_X2_isYear p1 = 1 := by
  unfold f_X2_isYear
  repeat (first | exact Or.inl rfl | exact Or.inr rfl | apply b_X2_isIn | apply zbor | split)
def f_X2_isSpan (p1 : Int64) (p2 : Int64) (p3 : Int64) : Int32 := (if (f_X2_isIn p1 (-1000000) 1000000) = 0 then 0 else (if (f_X2_isIn p2 (-1000000) 1000000) = 0 then 0 else (if (f_X2_isIn p3 (-1000000) 1000000) = 0 then 0 else 1)))
theorem q_X2_isSpan : ZY yX2_isSpan wsX2_isSpan cX2_isSpan 6 (some .boolean) 3 := ⟨⟨_, rfl⟩, by decide +kernel, by decide +kernel, by decide +kernel⟩
set_option maxHeartbeats 4000000 in
set_option maxRecDepth 100000 in
theorem c_X2_isSpan (l : Launch) (hfl : l.stackTraces = false) (D : va_G) (cI cJ : ClassId) (X : va_W) (p1 : Int64) (p2 : Int64) (p3 : Int64)  : ZM l yX2_isSpan wsX2_isSpan { frames := 1, cells := 0, slots := 0, locals := 25 } [.long p1, .long p2, .long p3] D (zTys cI cJ) X 0 0 (fun v w => v = some (.int (f_X2_isSpan p1 p2 p3)) ∧ w = X) (fun _ _ => False) := by
  refine z_open (own := RX2) hfl (cc := cX2_isSpan) (maxL := 6) (ret := (some .boolean)) (lv := [(0, .long p1), (2, .long p2), (4, .long p3)]) rfl (by decide) rfl rfl (Nat.le_of_ble_eq_true rfl) ?_
  intro p e s m args below meth c A C hno hnm hargs
  have w1 := C.1.2.2.2.2 (.constantLong RX2 112 (-1000000)) (by decide +kernel)
  have w2 := C.1.2.2.2.2 (.constantLong RX2 114 (1000000)) (by decide +kernel)
  refine z_lload_n C dX2_isSpan_0 rfl 0 rfl ?_
  refine z_ldc2 (v := (-1000000)) C w1 dX2_isSpan_1 ?_
  refine z_ldc2 (v := 1000000) C w2 dX2_isSpan_4 ?_
  refine z_si (rest := []) C (c_X2_isIn l hfl D cI cJ _ p1 ((-1000000) : Int64) (1000000 : Int64) ) q_X2_isIn gX2_isSpan_X2_isIn ⟨rfl, rfl⟩ rfl rfl (Nat.le_of_ble_eq_true rfl) ⟨Nat.le_of_ble_eq_true rfl, Nat.le_of_ble_eq_true rfl⟩ ⟨Nat.le_of_ble_eq_true rfl, Nat.le_of_ble_eq_true rfl⟩ dX2_isSpan_7 ?_
  refine z_if_eq (tgt := 44) C dX2_isSpan_10 (by decide) (fun h1 => ?_) (fun h1 => ?_)
  · refine z_iconst (v := 0) C dX2_isSpan_44 (by decide) ?_
    exact z_zret C (by decide) ⟨congrArg (fun v => some (Value.int v)) (by rw [f_X2_isSpan, if_pos h1] : (0 : Int32) = (f_X2_isSpan p1 p2 p3)), rfl⟩ (by decide) (by decide) dX2_isSpan_45
  · refine z_lload_n C dX2_isSpan_13 rfl 1 rfl ?_
    refine z_ldc2 (v := (-1000000)) C w1 dX2_isSpan_14 ?_
    refine z_ldc2 (v := 1000000) C w2 dX2_isSpan_17 ?_
    refine z_si (rest := []) C (c_X2_isIn l hfl D cI cJ _ p2 ((-1000000) : Int64) (1000000 : Int64) ) q_X2_isIn gX2_isSpan_X2_isIn ⟨rfl, rfl⟩ rfl rfl (Nat.le_of_ble_eq_true rfl) ⟨Nat.le_of_ble_eq_true rfl, Nat.le_of_ble_eq_true rfl⟩ ⟨Nat.le_of_ble_eq_true rfl, Nat.le_of_ble_eq_true rfl⟩ dX2_isSpan_20 ?_
    refine z_if_eq (tgt := 44) C dX2_isSpan_23 (by decide) (fun h2 => ?_) (fun h2 => ?_)
    · refine z_iconst (v := 0) C dX2_isSpan_44 (by decide) ?_
      exact z_zret C (by decide) ⟨congrArg (fun v => some (Value.int v)) (by rw [f_X2_isSpan, if_neg h1, if_pos h2] : (0 : Int32) = (f_X2_isSpan p1 p2 p3)), rfl⟩ (by decide) (by decide) dX2_isSpan_45
    · refine z_lload C dX2_isSpan_26 2 rfl ?_
      refine z_ldc2 (v := (-1000000)) C w1 dX2_isSpan_28 ?_
      refine z_ldc2 (v := 1000000) C w2 dX2_isSpan_31 ?_
      refine z_si (rest := []) C (c_X2_isIn l hfl D cI cJ _ p3 ((-1000000) : Int64) (1000000 : Int64) ) q_X2_isIn gX2_isSpan_X2_isIn ⟨rfl, rfl⟩ rfl rfl (Nat.le_of_ble_eq_true rfl) ⟨Nat.le_of_ble_eq_true rfl, Nat.le_of_ble_eq_true rfl⟩ ⟨Nat.le_of_ble_eq_true rfl, Nat.le_of_ble_eq_true rfl⟩ dX2_isSpan_34 ?_
      refine z_if_eq (tgt := 44) C dX2_isSpan_37 (by decide) (fun h3 => ?_) (fun h3 => ?_)
      · refine z_iconst (v := 0) C dX2_isSpan_44 (by decide) ?_
        exact z_zret C (by decide) ⟨congrArg (fun v => some (Value.int v)) (by rw [f_X2_isSpan, if_neg h1, if_neg h2, if_pos h3] : (0 : Int32) = (f_X2_isSpan p1 p2 p3)), rfl⟩ (by decide) (by decide) dX2_isSpan_45
      · refine z_iconst (v := 1) C dX2_isSpan_40 (by decide) ?_
        refine z_goto (tgt := 45) C dX2_isSpan_41 (by decide) ?_
        exact z_zret C (by decide) ⟨congrArg (fun v => some (Value.int v)) (by rw [f_X2_isSpan, if_neg h1, if_neg h2, if_neg h3] : (1 : Int32) = (f_X2_isSpan p1 p2 p3)), rfl⟩ (by decide) (by decide) dX2_isSpan_45
theorem b_X2_isSpan (p1 : Int64) (p2 : Int64) (p3 : Int64) : f_X2_isSpan p1 p2 p3 = 0 ∨ f_X2_isSpan p1 p2 p3 = 1 := by
  unfold f_X2_isSpan
  repeat (first | exact Or.inl rfl | exact Or.inr rfl | apply b_X2_isIn | apply zbor | split)
def f_X2_sign (p1 : Int64) (p2 : Int64) : Int32 := (if p2 ≤ p1 then (if p1 = p2 then 0 else 1) else (-1))
theorem q_X2_sign : ZY yX2_sign wsX2_sign cX2_sign 4 (some .int) 2 := ⟨⟨_, rfl⟩, by decide +kernel, by decide +kernel, by decide +kernel⟩
set_option maxHeartbeats 4000000 in
set_option maxRecDepth 100000 in
theorem c_X2_sign (l : Launch) (hfl : l.stackTraces = false) (D : va_G) (cI cJ : ClassId) (X : va_W) (p1 : Int64) (p2 : Int64)  : ZM l yX2_sign wsX2_sign { frames := 0, cells := 0, slots := 0, locals := 0 } [.long p1, .long p2] D (zTys cI cJ) X 0 0 (fun v w => v = some (.int (f_X2_sign p1 p2)) ∧ w = X) (fun _ _ => False) := by
  refine z_open (own := RX2) hfl (cc := cX2_sign) (maxL := 4) (ret := (some .int)) (lv := [(0, .long p1), (2, .long p2)]) rfl (by decide) rfl rfl (Nat.le_of_ble_eq_true rfl) ?_
  intro p e s m args below meth c A C hno hnm hargs
  refine z_lload_n C dX2_sign_0 rfl 0 rfl ?_
  refine z_lload_n C dX2_sign_1 rfl 1 rfl ?_
  refine z_lcmp_ge (tgt := 10) C dX2_sign_2 dX2_sign_3 (by decide) (fun h1 => ?_) (fun h1 => ?_)
  · refine z_lload_n C dX2_sign_10 rfl 0 rfl ?_
    refine z_lload_n C dX2_sign_11 rfl 1 rfl ?_
    refine z_lcmp_ne (tgt := 20) C dX2_sign_12 dX2_sign_13 (by decide) (fun h2 => ?_) (fun h2 => ?_)
    · refine z_iconst (v := 1) C dX2_sign_20 (by decide) ?_
      exact z_iret C ⟨congrArg (fun v => some (Value.int v)) (by rw [f_X2_sign, if_pos h1, if_neg h2] : (1 : Int32) = (f_X2_sign p1 p2)), rfl⟩ (by decide) (by decide) dX2_sign_21
    · refine z_iconst (v := 0) C dX2_sign_16 (by decide) ?_
      refine z_goto (tgt := 21) C dX2_sign_17 (by decide) ?_
      exact z_iret C ⟨congrArg (fun v => some (Value.int v)) (by rw [f_X2_sign, if_pos h1, if_pos h2] : (0 : Int32) = (f_X2_sign p1 p2)), rfl⟩ (by decide) (by decide) dX2_sign_21
  · refine z_iconst (v := (-1)) C dX2_sign_6 (by decide) ?_
    refine z_goto (tgt := 21) C dX2_sign_7 (by decide) ?_
    exact z_iret C ⟨congrArg (fun v => some (Value.int v)) (by rw [f_X2_sign, if_neg h1] : ((-1) : Int32) = (f_X2_sign p1 p2)), rfl⟩ (by decide) (by decide) dX2_sign_21
theorem vpS6 {a : Int32} (h : k_X2_checkSlot a 6 = 0) : vp_in a 6 := by
  unfold k_X2_checkSlot at h
  by_cases h1 : a < 0
  · rw [if_pos h1] at h; exact absurd h (by decide)
  · rw [if_neg h1] at h
    by_cases h2 : a < 6
    · rw [Int32.lt_iff_toInt_lt] at h1 h2
      have e0 : (0 : Int32).toInt = 0 := rfl
      have e6 : (6 : Int32).toInt = 6 := rfl
      rw [e0] at h1; rw [e6] at h2
      exact vp_of (by omega) (by omega)
    · rw [if_neg h2] at h; exact absurd h (by decide)
theorem vpS4 {a : Int32} (h : k_X2_checkSlot a 4 = 0) : vp_in a 4 := by
  unfold k_X2_checkSlot at h
  by_cases h1 : a < 0
  · rw [if_pos h1] at h; exact absurd h (by decide)
  · rw [if_neg h1] at h
    by_cases h2 : a < 4
    · rw [Int32.lt_iff_toInt_lt] at h1 h2
      have e0 : (0 : Int32).toInt = 0 := rfl
      have e6 : (4 : Int32).toInt = 4 := rfl
      rw [e0] at h1; rw [e6] at h2
      exact vp_of (by omega) (by omega)
    · rw [if_neg h2] at h; exact absurd h (by decide)
def f_X2_allMonths (sy : Nat → Int32) (sm : Nat → Int32) (p1 : Int32) : Int64 := ((12 * ((sy p1.toNatClampNeg)).toInt64) + ((sm p1.toNatClampNeg)).toInt64)
theorem q_X2_allMonths : ZY yX2_allMonths wsX2_allMonths cX2_allMonths 2 (some .long) 1 := ⟨⟨_, rfl⟩, by decide +kernel, by decide +kernel, by decide +kernel⟩
set_option maxHeartbeats 4000000 in
set_option maxRecDepth 100000 in
theorem c_X2_allMonths (l : Launch) (hfl : l.stackTraces = false) (D : va_G) (cI cJ : ClassId) (X : va_W) (y : Nat → Nat) (d : Nat → Int64) (sy : Nat → Int32) (sm : Nat → Int32) (sd : Nat → Int32) (mi : Nat → Int32) (ti : Nat → Int64) (sL : Nat → Int64) (bL : Nat → Int64) (mD : Nat → Int64) (mT : Nat → Int64) (p1 : Int32) (h_0 : vp_in p1 4) : ZM l yX2_allMonths wsX2_allMonths { frames := 0, cells := 0, slots := 0, locals := 0 } [.ref (y 0), .int p1] D (zTys cI cJ) (wY cI cJ y d sy sm sd mi ti sL bL mD mT X) 0 0 (fun v w => v = some (.long (f_X2_allMonths sy sm p1)) ∧ w = (wY cI cJ y d sy sm sd mi ti sL bL mD mT X)) (fun _ _ => False) := by
  refine z_open (own := RX2) hfl (cc := cX2_allMonths) (maxL := 2) (ret := (some .long)) (lv := [(0, .ref (y 0)), (1, .int p1)]) rfl (by decide) rfl rfl (Nat.le_of_ble_eq_true rfl) ?_
  intro p e s m args below meth c A C hno hnm hargs
  have hin : ∀ w ∈ wsX20, w ∈ wsX2_allMonths := by decide +kernel
  have w1 := C.1.2.2.2.2 (.constantLong RX2 53 (12)) (by decide +kernel)
  have w2 := C.1.2.2.2.2 (.fieldLink RX2 13 "Yearwheel" "spanYears" "[I") (by decide +kernel)
  have w3 := C.1.2.2.2.2 (.fieldLink RX2 17 "Yearwheel" "spanMonths" "[I") (by decide +kernel)
  refine z_ldc2 (v := 12) C w1 dX2_allMonths_0 ?_
  refine z_aload_n C dX2_allMonths_3 rfl 0 rfl ?_
  refine z_get (CC := RX2) (T := TX2) (N := 10) (ci := 2) C hin 0 rfl rfl 1 (by decide) w2 rfl rfl dX2_allMonths_4 ?_
  refine z_iload_n C dX2_allMonths_7 rfl 1 rfl ?_
  refine z_iald C 2 0 rfl rfl h_0 dX2_allMonths_8 ?_
  refine z_i2l (v := ((sy p1.toNatClampNeg)).toInt64) C dX2_allMonths_9 rfl ?_
  refine z_lmul C dX2_allMonths_10 ?_
  refine z_aload_n C dX2_allMonths_11 rfl 0 rfl ?_
  refine z_get (CC := RX2) (T := TX2) (N := 10) (ci := 2) C hin 0 rfl rfl 2 (by decide) w3 rfl rfl dX2_allMonths_12 ?_
  refine z_iload_n C dX2_allMonths_15 rfl 1 rfl ?_
  refine z_iald C 3 0 rfl rfl h_0 dX2_allMonths_16 ?_
  refine z_i2l (v := ((sm p1.toNatClampNeg)).toInt64) C dX2_allMonths_17 rfl ?_
  refine z_ladd C dX2_allMonths_18 ?_
  exact z_lret C ⟨congrArg (fun v => some (Value.long v)) (rfl : ((12 * ((sy p1.toNatClampNeg)).toInt64) + ((sm p1.toNatClampNeg)).toInt64) = (f_X2_allMonths sy sm p1)), rfl⟩ (by decide) (by decide) dX2_allMonths_19
def f_X2_keepDate (p2 : Int64) : Int64 := (if k_X2_checkOutcome (f_X1_isDay p2) = 0 then p2 else 0)
def s_X2_keepDate_d (d : Nat → Int64) (p1 : Int32) (p2 : Int64) : Nat → Int64 := (if k_X2_checkOutcome (f_X1_isDay p2) = 0 then (vp_updL d p1.toNatClampNeg p2) else d)
def k_X2_keepDate (p2 : Int64) : Int32 := (if k_X2_checkOutcome (f_X1_isDay p2) = 0 then 0 else k_X2_checkOutcome (f_X1_isDay p2))
theorem q_X2_keepDate : ZY yX2_keepDate wsX2_keepDate cX2_keepDate 4 (some .long) 2 := ⟨⟨_, rfl⟩, by decide +kernel, by decide +kernel, by decide +kernel⟩
set_option maxHeartbeats 4000000 in
set_option maxRecDepth 100000 in
theorem c_X2_keepDate (l : Launch) (hfl : l.stackTraces = false) (D : va_G) (cI cJ : ClassId) (X : va_W) (y : Nat → Nat) (d : Nat → Int64) (sy : Nat → Int32) (sm : Nat → Int32) (sd : Nat → Int32) (mi : Nat → Int32) (ti : Nat → Int64) (sL : Nat → Int64) (bL : Nat → Int64) (mD : Nat → Int64) (mT : Nat → Int64) (p1 : Int32) (p2 : Int64) (h_0 : vp_in p1 6) : ZM l yX2_keepDate wsX2_keepDate { frames := 7, cells := 1, slots := 6, locals := 102 } [.ref (y 0), .int p1, .long p2] D (zTys cI cJ) (wY cI cJ y d sy sm sd mi ti sL bL mD mT X) 1 6 (fun v w => k_X2_keepDate p2 = 0 ∧ v = some (.long (f_X2_keepDate p2)) ∧ w = (wY cI cJ y (s_X2_keepDate_d d p1 p2) sy sm sd mi ti sL bL mD mT X)) (fun E w => w = (wY cI cJ y d sy sm sd mi ti sL bL mD mT X) ∧ zEx E (k_X2_keepDate p2)) := by
  refine z_open (own := RX2) hfl (cc := cX2_keepDate) (maxL := 4) (ret := (some .long)) (lv := [(0, .ref (y 0)), (1, .int p1), (2, .long p2)]) rfl (by decide) rfl rfl (Nat.le_of_ble_eq_true rfl) ?_
  intro p e s m args below meth c A C hno hnm hargs
  have hin : ∀ w ∈ wsX20, w ∈ wsX2_keepDate := by decide +kernel
  have w1 := C.1.2.2.2.2 (.fieldLink RX2 9 "Yearwheel" "dates" "[J") (by decide +kernel)
  refine z_lload_n C dX2_keepDate_0 rfl 2 rfl ?_
  refine z_si (rest := []) C (c_X1_isDay l hfl D cI cJ _ p2 ) q_X1_isDay gX2_keepDate_X1_isDay ⟨rfl, rfl⟩ rfl rfl (Nat.le_of_ble_eq_true rfl) ⟨Nat.le_of_ble_eq_true rfl, Nat.le_of_ble_eq_true rfl⟩ ⟨Nat.le_of_ble_eq_true rfl, Nat.le_of_ble_eq_true rfl⟩ dX2_keepDate_1 ?_
  refine z_xsv (rest := []) C (c_X2_checkOutcome l hfl D cI cJ _ (f_X1_isDay p2) ) q_X2_checkOutcome gX2_keepDate_X2_checkOutcome ⟨rfl, rfl⟩ rfl rfl (Nat.le_of_ble_eq_true rfl) ⟨Nat.le_of_ble_eq_true rfl, Nat.le_of_ble_eq_true rfl⟩ ⟨Nat.le_of_ble_eq_true rfl, Nat.le_of_ble_eq_true rfl⟩ dX2_keepDate_4 (fun h1 => ?_) (fun E h1 h1_E => ?_)
  · refine z_aload_n C dX2_keepDate_7 rfl 0 rfl ?_
    refine z_get (CC := RX2) (T := TX2) (N := 10) (ci := 2) C hin 0 rfl rfl 0 (by decide) w1 rfl rfl dX2_keepDate_8 ?_
    refine z_iload_n C dX2_keepDate_11 rfl 1 rfl ?_
    refine z_lload_n C dX2_keepDate_12 rfl 2 rfl ?_
    refine z_last C 1 1 rfl rfl h_0 (ws' := (wY cI cJ y (vp_updL d p1.toNatClampNeg p2) sy sm sd mi ti sL bL mD mT X)) rfl dX2_keepDate_13 ?_
    refine z_lload_n C dX2_keepDate_14 rfl 2 rfl ?_
    exact z_lret C ⟨by rw [k_X2_keepDate, if_pos h1], congrArg (fun v => some (Value.long v)) (by rw [f_X2_keepDate, if_pos h1] : p2 = (f_X2_keepDate p2)), by rw [s_X2_keepDate_d, if_pos h1]⟩ (by decide) (by decide) dX2_keepDate_15
  · exact z_tout C hno ⟨rfl, by rw [k_X2_keepDate, if_neg h1]; exact h1_E⟩ (by decide) (by decide)
def f_X2_keepSpan (sy : Nat → Int32) (sm : Nat → Int32) (p1 : Int32) (p2 : Int64) (p3 : Int64) (p4 : Int64) : Int64 := (if k_X2_checkOutcome (f_X2_isSpan p2 p3 p4) = 0 then (f_X2_allMonths (upd sy p1.toNatClampNeg ((p2).toInt32)) (upd sm p1.toNatClampNeg ((p3).toInt32)) p1) else 0)
def s_X2_keepSpan_sy (sy : Nat → Int32) (p1 : Int32) (p2 : Int64) (p3 : Int64) (p4 : Int64) : Nat → Int32 := (if k_X2_checkOutcome (f_X2_isSpan p2 p3 p4) = 0 then (upd sy p1.toNatClampNeg ((p2).toInt32)) else sy)
def s_X2_keepSpan_sm (sm : Nat → Int32) (p1 : Int32) (p2 : Int64) (p3 : Int64) (p4 : Int64) : Nat → Int32 := (if k_X2_checkOutcome (f_X2_isSpan p2 p3 p4) = 0 then (upd sm p1.toNatClampNeg ((p3).toInt32)) else sm)
def s_X2_keepSpan_sd (sd : Nat → Int32) (p1 : Int32) (p2 : Int64) (p3 : Int64) (p4 : Int64) : Nat → Int32 := (if k_X2_checkOutcome (f_X2_isSpan p2 p3 p4) = 0 then (upd sd p1.toNatClampNeg ((p4).toInt32)) else sd)
def k_X2_keepSpan (p2 : Int64) (p3 : Int64) (p4 : Int64) : Int32 := (if k_X2_checkOutcome (f_X2_isSpan p2 p3 p4) = 0 then 0 else k_X2_checkOutcome (f_X2_isSpan p2 p3 p4))
theorem q_X2_keepSpan : ZY yX2_keepSpan wsX2_keepSpan cX2_keepSpan 8 (some .long) 4 := ⟨⟨_, rfl⟩, by decide +kernel, by decide +kernel, by decide +kernel⟩
set_option maxHeartbeats 4000000 in
set_option maxRecDepth 100000 in
theorem c_X2_keepSpan (l : Launch) (hfl : l.stackTraces = false) (D : va_G) (cI cJ : ClassId) (X : va_W) (y : Nat → Nat) (d : Nat → Int64) (sy : Nat → Int32) (sm : Nat → Int32) (sd : Nat → Int32) (mi : Nat → Int32) (ti : Nat → Int64) (sL : Nat → Int64) (bL : Nat → Int64) (mD : Nat → Int64) (mT : Nat → Int64) (p1 : Int32) (p2 : Int64) (p3 : Int64) (p4 : Int64) (h_0 : vp_in p1 4) : ZM l yX2_keepSpan wsX2_keepSpan { frames := 7, cells := 1, slots := 6, locals := 102 } [.ref (y 0), .int p1, .long p2, .long p3, .long p4] D (zTys cI cJ) (wY cI cJ y d sy sm sd mi ti sL bL mD mT X) 1 6 (fun v w => k_X2_keepSpan p2 p3 p4 = 0 ∧ v = some (.long (f_X2_keepSpan sy sm p1 p2 p3 p4)) ∧ w = (wY cI cJ y d (s_X2_keepSpan_sy sy p1 p2 p3 p4) (s_X2_keepSpan_sm sm p1 p2 p3 p4) (s_X2_keepSpan_sd sd p1 p2 p3 p4) mi ti sL bL mD mT X)) (fun E w => w = (wY cI cJ y d sy sm sd mi ti sL bL mD mT X) ∧ zEx E (k_X2_keepSpan p2 p3 p4)) := by
  refine z_open (own := RX2) hfl (cc := cX2_keepSpan) (maxL := 8) (ret := (some .long)) (lv := [(0, .ref (y 0)), (1, .int p1), (2, .long p2), (4, .long p3), (6, .long p4)]) rfl (by decide) rfl rfl (Nat.le_of_ble_eq_true rfl) ?_
  intro p e s m args below meth c A C hno hnm hargs
  have hin : ∀ w ∈ wsX20, w ∈ wsX2_keepSpan := by decide +kernel
  have w1 := C.1.2.2.2.2 (.fieldLink RX2 13 "Yearwheel" "spanYears" "[I") (by decide +kernel)
  have w2 := C.1.2.2.2.2 (.fieldLink RX2 17 "Yearwheel" "spanMonths" "[I") (by decide +kernel)
  have w3 := C.1.2.2.2.2 (.fieldLink RX2 20 "Yearwheel" "spanDays" "[I") (by decide +kernel)
  refine z_lload_n C dX2_keepSpan_0 rfl 2 rfl ?_
  refine z_lload C dX2_keepSpan_1 3 rfl ?_
  refine z_lload C dX2_keepSpan_3 4 rfl ?_
  refine z_si (rest := []) C (c_X2_isSpan l hfl D cI cJ _ p2 p3 p4 ) q_X2_isSpan gX2_keepSpan_X2_isSpan ⟨rfl, rfl⟩ rfl rfl (Nat.le_of_ble_eq_true rfl) ⟨Nat.le_of_ble_eq_true rfl, Nat.le_of_ble_eq_true rfl⟩ ⟨Nat.le_of_ble_eq_true rfl, Nat.le_of_ble_eq_true rfl⟩ dX2_keepSpan_5 ?_
  refine z_xsv (rest := []) C (c_X2_checkOutcome l hfl D cI cJ _ (f_X2_isSpan p2 p3 p4) ) q_X2_checkOutcome gX2_keepSpan_X2_checkOutcome ⟨rfl, rfl⟩ rfl rfl (Nat.le_of_ble_eq_true rfl) ⟨Nat.le_of_ble_eq_true rfl, Nat.le_of_ble_eq_true rfl⟩ ⟨Nat.le_of_ble_eq_true rfl, Nat.le_of_ble_eq_true rfl⟩ dX2_keepSpan_8 (fun h1 => ?_) (fun E h1 h1_E => ?_)
  · refine z_aload_n C dX2_keepSpan_11 rfl 0 rfl ?_
    refine z_get (CC := RX2) (T := TX2) (N := 10) (ci := 2) C hin 0 rfl rfl 1 (by decide) w1 rfl rfl dX2_keepSpan_12 ?_
    refine z_iload_n C dX2_keepSpan_15 rfl 1 rfl ?_
    refine z_lload_n C dX2_keepSpan_16 rfl 2 rfl ?_
    refine z_l2i (v := (p2).toInt32) C dX2_keepSpan_17 rfl ?_
    refine z_iast C 2 0 rfl rfl h_0 (ws' := (wY cI cJ y d (upd sy p1.toNatClampNeg ((p2).toInt32)) sm sd mi ti sL bL mD mT X)) rfl dX2_keepSpan_18 ?_
    refine z_aload_n C dX2_keepSpan_19 rfl 0 rfl ?_
    refine z_get (CC := RX2) (T := TX2) (N := 10) (ci := 2) C hin 0 rfl rfl 2 (by decide) w2 rfl rfl dX2_keepSpan_20 ?_
    refine z_iload_n C dX2_keepSpan_23 rfl 1 rfl ?_
    refine z_lload C dX2_keepSpan_24 3 rfl ?_
    refine z_l2i (v := (p3).toInt32) C dX2_keepSpan_26 rfl ?_
    refine z_iast C 3 0 rfl rfl h_0 (ws' := (wY cI cJ y d (upd sy p1.toNatClampNeg ((p2).toInt32)) (upd sm p1.toNatClampNeg ((p3).toInt32)) sd mi ti sL bL mD mT X)) rfl dX2_keepSpan_27 ?_
    refine z_aload_n C dX2_keepSpan_28 rfl 0 rfl ?_
    refine z_get (CC := RX2) (T := TX2) (N := 10) (ci := 2) C hin 0 rfl rfl 3 (by decide) w3 rfl rfl dX2_keepSpan_29 ?_
    refine z_iload_n C dX2_keepSpan_32 rfl 1 rfl ?_
    refine z_lload C dX2_keepSpan_33 4 rfl ?_
    refine z_l2i (v := (p4).toInt32) C dX2_keepSpan_35 rfl ?_
    refine z_iast C 4 0 rfl rfl h_0 (ws' := (wY cI cJ y d (upd sy p1.toNatClampNeg ((p2).toInt32)) (upd sm p1.toNatClampNeg ((p3).toInt32)) (upd sd p1.toNatClampNeg ((p4).toInt32)) mi ti sL bL mD mT X)) rfl dX2_keepSpan_36 ?_
    refine z_aload_n C dX2_keepSpan_37 rfl 0 rfl ?_
    refine z_iload_n C dX2_keepSpan_38 rfl 1 rfl ?_
    refine z_wl (ws' := (wY cI cJ y d (upd sy p1.toNatClampNeg ((p2).toInt32)) (upd sm p1.toNatClampNeg ((p3).toInt32)) (upd sd p1.toNatClampNeg ((p4).toInt32)) mi ti sL bL mD mT X)) (rest := []) (ci := 2) (q0 := 0) C (c_X2_allMonths l hfl D cI cJ X y d (upd sy p1.toNatClampNeg ((p2).toInt32)) (upd sm p1.toNatClampNeg ((p3).toInt32)) (upd sd p1.toNatClampNeg ((p4).toInt32)) mi ti sL bL mD mT p1 h_0) q_X2_allMonths rfl rfl rfl gX2_keepSpan_X2_allMonths ⟨rfl, rfl⟩ rfl rfl (Nat.le_of_ble_eq_true rfl) ⟨Nat.le_of_ble_eq_true rfl, Nat.le_of_ble_eq_true rfl⟩ ⟨Nat.le_of_ble_eq_true rfl, Nat.le_of_ble_eq_true rfl⟩ dX2_keepSpan_39 ?_
    exact z_lret C ⟨by rw [k_X2_keepSpan, if_pos h1], congrArg (fun v => some (Value.long v)) (by rw [f_X2_keepSpan, if_pos h1] : (f_X2_allMonths (upd sy p1.toNatClampNeg ((p2).toInt32)) (upd sm p1.toNatClampNeg ((p3).toInt32)) p1) = (f_X2_keepSpan sy sm p1 p2 p3 p4)), by rw [s_X2_keepSpan_sy, if_pos h1, s_X2_keepSpan_sm, if_pos h1, s_X2_keepSpan_sd, if_pos h1]⟩ (by decide) (by decide) dX2_keepSpan_42
  · exact z_tout C hno ⟨rfl, by rw [k_X2_keepSpan, if_neg h1]; exact h1_E⟩ (by decide) (by decide)
def f_X2_keepMonth (p2 : Int64) : Int32 := (if k_X2_checkOutcome (f_X2_isYear (f_X1_yearOfMonth p2)) = 0 then (f_X1_lengthOfMonth p2) else 0)
def s_X2_keepMonth_mi (mi : Nat → Int32) (p1 : Int32) (p2 : Int64) : Nat → Int32 := (if k_X2_checkOutcome (f_X2_isYear (f_X1_yearOfMonth p2)) = 0 then (upd mi p1.toNatClampNeg ((p2).toInt32)) else mi)
def k_X2_keepMonth (p2 : Int64) : Int32 := (if k_X2_checkOutcome (f_X2_isYear (f_X1_yearOfMonth p2)) = 0 then 0 else k_X2_checkOutcome (f_X2_isYear (f_X1_yearOfMonth p2)))
theorem q_X2_keepMonth : ZY yX2_keepMonth wsX2_keepMonth cX2_keepMonth 4 (some .int) 2 := ⟨⟨_, rfl⟩, by decide +kernel, by decide +kernel, by decide +kernel⟩
set_option maxHeartbeats 4000000 in
set_option maxRecDepth 100000 in
theorem c_X2_keepMonth (l : Launch) (hfl : l.stackTraces = false) (D : va_G) (cI cJ : ClassId) (X : va_W) (y : Nat → Nat) (d : Nat → Int64) (sy : Nat → Int32) (sm : Nat → Int32) (sd : Nat → Int32) (mi : Nat → Int32) (ti : Nat → Int64) (sL : Nat → Int64) (bL : Nat → Int64) (mD : Nat → Int64) (mT : Nat → Int64) (p1 : Int32) (p2 : Int64) (h_0 : vp_in p1 4) : ZM l yX2_keepMonth wsX2_keepMonth { frames := 7, cells := 1, slots := 6, locals := 102 } [.ref (y 0), .int p1, .long p2] D (zTys cI cJ) (wY cI cJ y d sy sm sd mi ti sL bL mD mT X) 1 6 (fun v w => k_X2_keepMonth p2 = 0 ∧ v = some (.int (f_X2_keepMonth p2)) ∧ w = (wY cI cJ y d sy sm sd (s_X2_keepMonth_mi mi p1 p2) ti sL bL mD mT X)) (fun E w => w = (wY cI cJ y d sy sm sd mi ti sL bL mD mT X) ∧ zEx E (k_X2_keepMonth p2)) := by
  refine z_open (own := RX2) hfl (cc := cX2_keepMonth) (maxL := 4) (ret := (some .int)) (lv := [(0, .ref (y 0)), (1, .int p1), (2, .long p2)]) rfl (by decide) rfl rfl (Nat.le_of_ble_eq_true rfl) ?_
  intro p e s m args below meth c A C hno hnm hargs
  have hin : ∀ w ∈ wsX20, w ∈ wsX2_keepMonth := by decide +kernel
  have w1 := C.1.2.2.2.2 (.fieldLink RX2 23 "Yearwheel" "monthIndices" "[I") (by decide +kernel)
  refine z_lload_n C dX2_keepMonth_0 rfl 2 rfl ?_
  refine z_sl (rest := []) C (c_X1_yearOfMonth l hfl D cI cJ _ p2 ) q_X1_yearOfMonth gX2_keepMonth_X1_yearOfMonth ⟨rfl, rfl⟩ rfl rfl (Nat.le_of_ble_eq_true rfl) ⟨Nat.le_of_ble_eq_true rfl, Nat.le_of_ble_eq_true rfl⟩ ⟨Nat.le_of_ble_eq_true rfl, Nat.le_of_ble_eq_true rfl⟩ dX2_keepMonth_1 ?_
  refine z_si (rest := []) C (c_X2_isYear l hfl D cI cJ _ (f_X1_yearOfMonth p2) ) q_X2_isYear gX2_keepMonth_X2_isYear ⟨rfl, rfl⟩ rfl rfl (Nat.le_of_ble_eq_true rfl) ⟨Nat.le_of_ble_eq_true rfl, Nat.le_of_ble_eq_true rfl⟩ ⟨Nat.le_of_ble_eq_true rfl, Nat.le_of_ble_eq_true rfl⟩ dX2_keepMonth_4 ?_
  refine z_xsv (rest := []) C (c_X2_checkOutcome l hfl D cI cJ _ (f_X2_isYear (f_X1_yearOfMonth p2)) ) q_X2_checkOutcome gX2_keepMonth_X2_checkOutcome ⟨rfl, rfl⟩ rfl rfl (Nat.le_of_ble_eq_true rfl) ⟨Nat.le_of_ble_eq_true rfl, Nat.le_of_ble_eq_true rfl⟩ ⟨Nat.le_of_ble_eq_true rfl, Nat.le_of_ble_eq_true rfl⟩ dX2_keepMonth_7 (fun h1 => ?_) (fun E h1 h1_E => ?_)
  · refine z_aload_n C dX2_keepMonth_10 rfl 0 rfl ?_
    refine z_get (CC := RX2) (T := TX2) (N := 10) (ci := 2) C hin 0 rfl rfl 4 (by decide) w1 rfl rfl dX2_keepMonth_11 ?_
    refine z_iload_n C dX2_keepMonth_14 rfl 1 rfl ?_
    refine z_lload_n C dX2_keepMonth_15 rfl 2 rfl ?_
    refine z_l2i (v := (p2).toInt32) C dX2_keepMonth_16 rfl ?_
    refine z_iast C 5 0 rfl rfl h_0 (ws' := (wY cI cJ y d sy sm sd (upd mi p1.toNatClampNeg ((p2).toInt32)) ti sL bL mD mT X)) rfl dX2_keepMonth_17 ?_
    refine z_lload_n C dX2_keepMonth_18 rfl 2 rfl ?_
    refine z_si (rest := []) C (c_X1_lengthOfMonth l hfl D cI cJ _ p2 ) q_X1_lengthOfMonth gX2_keepMonth_X1_lengthOfMonth ⟨rfl, rfl⟩ rfl rfl (Nat.le_of_ble_eq_true rfl) ⟨Nat.le_of_ble_eq_true rfl, Nat.le_of_ble_eq_true rfl⟩ ⟨Nat.le_of_ble_eq_true rfl, Nat.le_of_ble_eq_true rfl⟩ dX2_keepMonth_19 ?_
    exact z_iret C ⟨by rw [k_X2_keepMonth, if_pos h1], congrArg (fun v => some (Value.int v)) (by rw [f_X2_keepMonth, if_pos h1] : (f_X1_lengthOfMonth p2) = (f_X2_keepMonth p2)), by rw [s_X2_keepMonth_mi, if_pos h1]⟩ (by decide) (by decide) dX2_keepMonth_22
  · exact z_tout C hno ⟨rfl, by rw [k_X2_keepMonth, if_neg h1]; exact h1_E⟩ (by decide) (by decide)
def f_X2_keepLength_j1 (p2 : Int64) (p3 : Int64) : Int32 := (if (f_X2_isIn (p2 + (f_J9_floorDiv_f86c9 p3 1000000000)) (-1000000000000) 1000000000000) = 0 then 0 else (if (p2 + (f_J9_floorDiv_f86c9 p3 1000000000)) < 1000000000000 then 1 else (if (f_J9_floorMod_f86c9 p3 1000000000) = 0 then 1 else 0)))
def f_X2_keepLength (p2 : Int64) (p3 : Int64) : Int64 := (if f_X2_keepLength_j1 p2 p3 = 0 then 0 else (p2 + (f_J9_floorDiv_f86c9 p3 1000000000)))
def s_X2_keepLength_sL (sL : Nat → Int64) (p1 : Int32) (p2 : Int64) (p3 : Int64) : Nat → Int64 := (if f_X2_keepLength_j1 p2 p3 = 0 then sL else (vp_updL sL p1.toNatClampNeg (p2 + (f_J9_floorDiv_f86c9 p3 1000000000))))
def s_X2_keepLength_bL (bL : Nat → Int64) (p1 : Int32) (p2 : Int64) (p3 : Int64) : Nat → Int64 := (if f_X2_keepLength_j1 p2 p3 = 0 then bL else (vp_updL bL p1.toNatClampNeg (f_J9_floorMod_f86c9 p3 1000000000)))
def k_X2_keepLength (p2 : Int64) (p3 : Int64) : Int32 := (if f_X2_keepLength_j1 p2 p3 = 0 then k_X2_checkOutcome 0 else 0)
theorem q_X2_keepLength : ZY yX2_keepLength wsX2_keepLength cX2_keepLength 10 (some .long) 3 := ⟨⟨_, rfl⟩, by decide +kernel, by decide +kernel, by decide +kernel⟩
set_option maxHeartbeats 4000000 in
set_option maxRecDepth 100000 in
theorem c_X2_keepLength (l : Launch) (hfl : l.stackTraces = false) (D : va_G) (cI cJ : ClassId) (X : va_W) (y : Nat → Nat) (d : Nat → Int64) (sy : Nat → Int32) (sm : Nat → Int32) (sd : Nat → Int32) (mi : Nat → Int32) (ti : Nat → Int64) (sL : Nat → Int64) (bL : Nat → Int64) (mD : Nat → Int64) (mT : Nat → Int64) (p1 : Int32) (p2 : Int64) (p3 : Int64) (h_0 : vp_in p1 4) : ZM l yX2_keepLength wsX2_keepLength { frames := 7, cells := 1, slots := 6, locals := 102 } [.ref (y 0), .int p1, .long p2, .long p3] D (zTys cI cJ) (wY cI cJ y d sy sm sd mi ti sL bL mD mT X) 1 6 (fun v w => k_X2_keepLength p2 p3 = 0 ∧ v = some (.long (f_X2_keepLength p2 p3)) ∧ w = (wY cI cJ y d sy sm sd mi ti (s_X2_keepLength_sL sL p1 p2 p3) (s_X2_keepLength_bL bL p1 p2 p3) mD mT X)) (fun E w => w = (wY cI cJ y d sy sm sd mi ti sL bL mD mT X) ∧ zEx E (k_X2_keepLength p2 p3)) := by
  refine z_open (own := RX2) hfl (cc := cX2_keepLength) (maxL := 10) (ret := (some .long)) (lv := [(0, .ref (y 0)), (1, .int p1), (2, .long p2), (4, .long p3)]) rfl (by decide) rfl rfl (Nat.le_of_ble_eq_true rfl) ?_
  intro p e s m args below meth c A C hno hnm hargs
  have hin : ∀ w ∈ wsX20, w ∈ wsX2_keepLength := by decide +kernel
  have w1 := C.1.2.2.2.2 (.constantLong RX2 197 (1000000000)) (by decide +kernel)
  have w2 := C.1.2.2.2.2 (.constantLong RX2 223 (-1000000000000)) (by decide +kernel)
  have w3 := C.1.2.2.2.2 (.constantLong RX2 225 (1000000000000)) (by decide +kernel)
  have w4 := C.1.2.2.2.2 (.fieldLink RX2 29 "Yearwheel" "lengthSeconds" "[J") (by decide +kernel)
  have w5 := C.1.2.2.2.2 (.fieldLink RX2 32 "Yearwheel" "lengthBillionths" "[J") (by decide +kernel)
  refine z_lload_n C dX2_keepLength_0 rfl 2 rfl ?_
  refine z_lload C dX2_keepLength_1 3 rfl ?_
  refine z_ldc2 (v := 1000000000) C w1 dX2_keepLength_3 ?_
  refine z_sl (rest := [.long p2]) C (c_J9_floorDiv_f86c9 l hfl D cI cJ _ p3 (1000000000 : Int64) (by decide)) q_J9_floorDiv_f86c9 gX2_keepLength_J9_floorDiv_f86c9 ⟨rfl, rfl⟩ rfl rfl (Nat.le_of_ble_eq_true rfl) ⟨Nat.le_of_ble_eq_true rfl, Nat.le_of_ble_eq_true rfl⟩ ⟨Nat.le_of_ble_eq_true rfl, Nat.le_of_ble_eq_true rfl⟩ dX2_keepLength_6 ?_
  refine z_ladd C dX2_keepLength_9 ?_
  refine z_lstore (lv' := [(6, .long (p2 + (f_J9_floorDiv_f86c9 p3 1000000000))), (0, .ref (y 0)), (1, .int p1), (2, .long p2), (4, .long p3)]) C dX2_keepLength_10 (by decide) rfl ?_
  refine z_lload C dX2_keepLength_12 4 rfl ?_
  refine z_ldc2 (v := 1000000000) C w1 dX2_keepLength_14 ?_
  refine z_sl (rest := []) C (c_J9_floorMod_f86c9 l hfl D cI cJ _ p3 (1000000000 : Int64) (by decide)) q_J9_floorMod_f86c9 gX2_keepLength_J9_floorMod_f86c9 ⟨rfl, rfl⟩ rfl rfl (Nat.le_of_ble_eq_true rfl) ⟨Nat.le_of_ble_eq_true rfl, Nat.le_of_ble_eq_true rfl⟩ ⟨Nat.le_of_ble_eq_true rfl, Nat.le_of_ble_eq_true rfl⟩ dX2_keepLength_17 ?_
  refine z_lstore (lv' := [(8, .long (f_J9_floorMod_f86c9 p3 1000000000)), (6, .long (p2 + (f_J9_floorDiv_f86c9 p3 1000000000))), (0, .ref (y 0)), (1, .int p1), (2, .long p2), (4, .long p3)]) C dX2_keepLength_20 (by decide) rfl ?_
  refine z_lload C dX2_keepLength_22 1 rfl ?_
  refine z_ldc2 (v := (-1000000000000)) C w2 dX2_keepLength_24 ?_
  refine z_ldc2 (v := 1000000000000) C w3 dX2_keepLength_27 ?_
  refine z_si (rest := []) C (c_X2_isIn l hfl D cI cJ _ (p2 + (f_J9_floorDiv_f86c9 p3 1000000000)) ((-1000000000000) : Int64) (1000000000000 : Int64) ) q_X2_isIn gX2_keepLength_X2_isIn ⟨rfl, rfl⟩ rfl rfl (Nat.le_of_ble_eq_true rfl) ⟨Nat.le_of_ble_eq_true rfl, Nat.le_of_ble_eq_true rfl⟩ ⟨Nat.le_of_ble_eq_true rfl, Nat.le_of_ble_eq_true rfl⟩ dX2_keepLength_30 ?_
  have K1_0 : f_X2_keepLength_j1 p2 p3 = 0 → ZW p l e { frames := 7, cells := 1, slots := 6, locals := 102 } s m args below meth c 10 D (zTys cI cJ) A (zE D (zTys cI cJ) A below args s (fun v w => k_X2_keepLength p2 p3 = 0 ∧ v = some (.long (f_X2_keepLength p2 p3)) ∧ w = (wY cI cJ y d sy sm sd mi ti (s_X2_keepLength_sL sL p1 p2 p3) (s_X2_keepLength_bL bL p1 p2 p3) mD mT X)) (fun E w => w = (wY cI cJ y d sy sm sd mi ti sL bL mD mT X) ∧ zEx E (k_X2_keepLength p2 p3)) 1 6) 0 0 (wY cI cJ y d sy sm sd mi ti sL bL mD mT X) 57 [(8, .long (f_J9_floorMod_f86c9 p3 1000000000)), (6, .long (p2 + (f_J9_floorDiv_f86c9 p3 1000000000))), (0, .ref (y 0)), (1, .int p1), (2, .long p2), (4, .long p3)] [.int 0] := by
    intro h4
    refine z_xsv (rest := []) C (c_X2_checkOutcome l hfl D cI cJ _ (0 : Int32) ) q_X2_checkOutcome gX2_keepLength_X2_checkOutcome ⟨rfl, rfl⟩ rfl rfl (Nat.le_of_ble_eq_true rfl) ⟨Nat.le_of_ble_eq_true rfl, Nat.le_of_ble_eq_true rfl⟩ ⟨Nat.le_of_ble_eq_true rfl, Nat.le_of_ble_eq_true rfl⟩ dX2_keepLength_57 (fun h => absurd h (by decide)) (fun E h5 h5_E => ?_)
    exact z_tout C hno ⟨rfl, by rw [k_X2_keepLength, if_pos h4]; exact h5_E⟩ (by decide) (by decide)
  have K1_1 : f_X2_keepLength_j1 p2 p3 = 1 → (¬ (f_X2_isIn (p2 + (f_J9_floorDiv_f86c9 p3 1000000000)) (-1000000000000) 1000000000000) = 0) → ZW p l e { frames := 7, cells := 1, slots := 6, locals := 102 } s m args below meth c 10 D (zTys cI cJ) A (zE D (zTys cI cJ) A below args s (fun v w => k_X2_keepLength p2 p3 = 0 ∧ v = some (.long (f_X2_keepLength p2 p3)) ∧ w = (wY cI cJ y d sy sm sd mi ti (s_X2_keepLength_sL sL p1 p2 p3) (s_X2_keepLength_bL bL p1 p2 p3) mD mT X)) (fun E w => w = (wY cI cJ y d sy sm sd mi ti sL bL mD mT X) ∧ zEx E (k_X2_keepLength p2 p3)) 1 6) 0 0 (wY cI cJ y d sy sm sd mi ti sL bL mD mT X) 57 [(8, .long (f_J9_floorMod_f86c9 p3 1000000000)), (6, .long (p2 + (f_J9_floorDiv_f86c9 p3 1000000000))), (0, .ref (y 0)), (1, .int p1), (2, .long p2), (4, .long p3)] [.int 1] := by
    intro h6 h7
    refine z_xsv (rest := []) C (c_X2_checkOutcome l hfl D cI cJ _ (1 : Int32) ) q_X2_checkOutcome gX2_keepLength_X2_checkOutcome ⟨rfl, rfl⟩ rfl rfl (Nat.le_of_ble_eq_true rfl) ⟨Nat.le_of_ble_eq_true rfl, Nat.le_of_ble_eq_true rfl⟩ ⟨Nat.le_of_ble_eq_true rfl, Nat.le_of_ble_eq_true rfl⟩ dX2_keepLength_57 (fun _ => ?_) (fun _ h _ => absurd (by decide) h)
    refine z_aload_n C dX2_keepLength_60 rfl 2 rfl ?_
    refine z_get (CC := RX2) (T := TX2) (N := 10) (ci := 2) C hin 0 rfl rfl 6 (by decide) w4 rfl rfl dX2_keepLength_61 ?_
    refine z_iload_n C dX2_keepLength_64 rfl 3 rfl ?_
    refine z_lload C dX2_keepLength_65 1 rfl ?_
    refine z_last C 7 1 rfl rfl h_0 (ws' := (wY cI cJ y d sy sm sd mi ti (vp_updL sL p1.toNatClampNeg (p2 + (f_J9_floorDiv_f86c9 p3 1000000000))) bL mD mT X)) rfl dX2_keepLength_67 ?_
    refine z_aload_n C dX2_keepLength_68 rfl 2 rfl ?_
    refine z_get (CC := RX2) (T := TX2) (N := 10) (ci := 2) C hin 0 rfl rfl 7 (by decide) w5 rfl rfl dX2_keepLength_69 ?_
    refine z_iload_n C dX2_keepLength_72 rfl 3 rfl ?_
    refine z_lload C dX2_keepLength_73 0 rfl ?_
    refine z_last C 8 1 rfl rfl h_0 (ws' := (wY cI cJ y d sy sm sd mi ti (vp_updL sL p1.toNatClampNeg (p2 + (f_J9_floorDiv_f86c9 p3 1000000000))) (vp_updL bL p1.toNatClampNeg (f_J9_floorMod_f86c9 p3 1000000000)) mD mT X)) rfl dX2_keepLength_75 ?_
    refine z_lload C dX2_keepLength_76 1 rfl ?_
    exact z_lret C ⟨by rw [k_X2_keepLength, if_neg (by rw [h6]; decide : ¬ f_X2_keepLength_j1 p2 p3 = 0)], congrArg (fun v => some (Value.long v)) (by rw [f_X2_keepLength, if_neg (by rw [h6]; decide : ¬ f_X2_keepLength_j1 p2 p3 = 0)] : (p2 + (f_J9_floorDiv_f86c9 p3 1000000000)) = (f_X2_keepLength p2 p3)), by rw [s_X2_keepLength_sL, if_neg (by rw [h6]; decide : ¬ f_X2_keepLength_j1 p2 p3 = 0), s_X2_keepLength_bL, if_neg (by rw [h6]; decide : ¬ f_X2_keepLength_j1 p2 p3 = 0)]⟩ (by decide) (by decide) dX2_keepLength_78
  refine z_if_eq (tgt := 56) C dX2_keepLength_33 (by decide) (fun h1 => ?_) (fun h1 => ?_)
  · refine z_iconst (v := 0) C dX2_keepLength_56 (by decide) ?_
    exact K1_0 (by rw [f_X2_keepLength_j1, if_pos h1]) 
  · refine z_lload C dX2_keepLength_36 1 rfl ?_
    refine z_ldc2 (v := 1000000000000) C w3 dX2_keepLength_38 ?_
    refine z_lcmp_lt (tgt := 52) C dX2_keepLength_41 dX2_keepLength_42 (by decide) (fun h2 => ?_) (fun h2 => ?_)
    · refine z_iconst (v := 1) C dX2_keepLength_52 (by decide) ?_
      refine z_goto (tgt := 57) C dX2_keepLength_53 (by decide) ?_
      exact K1_1 (by rw [f_X2_keepLength_j1, if_neg h1, if_pos h2]) h1
    · refine z_lload C dX2_keepLength_45 0 rfl ?_
      refine z_lconst (v := 0) C dX2_keepLength_47 (by decide) ?_
      refine z_lcmp_ne (tgt := 56) C dX2_keepLength_48 dX2_keepLength_49 (by decide) (fun h3 => ?_) (fun h3 => ?_)
      · refine z_iconst (v := 0) C dX2_keepLength_56 (by decide) ?_
        exact K1_0 (by rw [f_X2_keepLength_j1, if_neg h1, if_neg h2, if_neg h3]) 
      · refine z_iconst (v := 1) C dX2_keepLength_52 (by decide) ?_
        refine z_goto (tgt := 57) C dX2_keepLength_53 (by decide) ?_
        exact K1_1 (by rw [f_X2_keepLength_j1, if_neg h1, if_neg h2, if_pos h3]) h1
def f_X2_keepMoment (p2 : Int64) (p3 : Int64) : Int64 := (if k_X2_checkOutcome (f_X1_isDay (p2 + (f_J9_floorDiv_f86c9 p3 86400000000000))) = 0 then (p2 + (f_J9_floorDiv_f86c9 p3 86400000000000)) else 0)
def s_X2_keepMoment_mD (mD : Nat → Int64) (p1 : Int32) (p2 : Int64) (p3 : Int64) : Nat → Int64 := (if k_X2_checkOutcome (f_X1_isDay (p2 + (f_J9_floorDiv_f86c9 p3 86400000000000))) = 0 then (vp_updL mD p1.toNatClampNeg (p2 + (f_J9_floorDiv_f86c9 p3 86400000000000))) else mD)
def s_X2_keepMoment_mT (mT : Nat → Int64) (p1 : Int32) (p2 : Int64) (p3 : Int64) : Nat → Int64 := (if k_X2_checkOutcome (f_X1_isDay (p2 + (f_J9_floorDiv_f86c9 p3 86400000000000))) = 0 then (vp_updL mT p1.toNatClampNeg (f_X0_roundDay p3)) else mT)
def k_X2_keepMoment (p2 : Int64) (p3 : Int64) : Int32 := (if k_X2_checkOutcome (f_X1_isDay (p2 + (f_J9_floorDiv_f86c9 p3 86400000000000))) = 0 then 0 else k_X2_checkOutcome (f_X1_isDay (p2 + (f_J9_floorDiv_f86c9 p3 86400000000000))))
theorem q_X2_keepMoment : ZY yX2_keepMoment wsX2_keepMoment cX2_keepMoment 8 (some .long) 3 := ⟨⟨_, rfl⟩, by decide +kernel, by decide +kernel, by decide +kernel⟩
set_option maxHeartbeats 4000000 in
set_option maxRecDepth 100000 in
theorem c_X2_keepMoment (l : Launch) (hfl : l.stackTraces = false) (D : va_G) (cI cJ : ClassId) (X : va_W) (y : Nat → Nat) (d : Nat → Int64) (sy : Nat → Int32) (sm : Nat → Int32) (sd : Nat → Int32) (mi : Nat → Int32) (ti : Nat → Int64) (sL : Nat → Int64) (bL : Nat → Int64) (mD : Nat → Int64) (mT : Nat → Int64) (p1 : Int32) (p2 : Int64) (p3 : Int64) (h_0 : vp_in p1 4) : ZM l yX2_keepMoment wsX2_keepMoment { frames := 7, cells := 1, slots := 6, locals := 102 } [.ref (y 0), .int p1, .long p2, .long p3] D (zTys cI cJ) (wY cI cJ y d sy sm sd mi ti sL bL mD mT X) 1 6 (fun v w => k_X2_keepMoment p2 p3 = 0 ∧ v = some (.long (f_X2_keepMoment p2 p3)) ∧ w = (wY cI cJ y d sy sm sd mi ti sL bL (s_X2_keepMoment_mD mD p1 p2 p3) (s_X2_keepMoment_mT mT p1 p2 p3) X)) (fun E w => w = (wY cI cJ y d sy sm sd mi ti sL bL mD mT X) ∧ zEx E (k_X2_keepMoment p2 p3)) := by
  refine z_open (own := RX2) hfl (cc := cX2_keepMoment) (maxL := 8) (ret := (some .long)) (lv := [(0, .ref (y 0)), (1, .int p1), (2, .long p2), (4, .long p3)]) rfl (by decide) rfl rfl (Nat.le_of_ble_eq_true rfl) ?_
  intro p e s m args below meth c A C hno hnm hargs
  have hin : ∀ w ∈ wsX20, w ∈ wsX2_keepMoment := by decide +kernel
  have w1 := C.1.2.2.2.2 (.constantLong RX2 287 (86400000000000)) (by decide +kernel)
  have w2 := C.1.2.2.2.2 (.fieldLink RX2 35 "Yearwheel" "momentDays" "[J") (by decide +kernel)
  have w3 := C.1.2.2.2.2 (.fieldLink RX2 38 "Yearwheel" "momentTimes" "[J") (by decide +kernel)
  refine z_lload_n C dX2_keepMoment_0 rfl 2 rfl ?_
  refine z_lload C dX2_keepMoment_1 3 rfl ?_
  refine z_ldc2 (v := 86400000000000) C w1 dX2_keepMoment_3 ?_
  refine z_sl (rest := [.long p2]) C (c_J9_floorDiv_f86c9 l hfl D cI cJ _ p3 (86400000000000 : Int64) (by decide)) q_J9_floorDiv_f86c9 gX2_keepMoment_J9_floorDiv_f86c9 ⟨rfl, rfl⟩ rfl rfl (Nat.le_of_ble_eq_true rfl) ⟨Nat.le_of_ble_eq_true rfl, Nat.le_of_ble_eq_true rfl⟩ ⟨Nat.le_of_ble_eq_true rfl, Nat.le_of_ble_eq_true rfl⟩ dX2_keepMoment_6 ?_
  refine z_ladd C dX2_keepMoment_9 ?_
  refine z_lstore (lv' := [(6, .long (p2 + (f_J9_floorDiv_f86c9 p3 86400000000000))), (0, .ref (y 0)), (1, .int p1), (2, .long p2), (4, .long p3)]) C dX2_keepMoment_10 (by decide) rfl ?_
  refine z_lload C dX2_keepMoment_12 0 rfl ?_
  refine z_si (rest := []) C (c_X1_isDay l hfl D cI cJ _ (p2 + (f_J9_floorDiv_f86c9 p3 86400000000000)) ) q_X1_isDay gX2_keepMoment_X1_isDay ⟨rfl, rfl⟩ rfl rfl (Nat.le_of_ble_eq_true rfl) ⟨Nat.le_of_ble_eq_true rfl, Nat.le_of_ble_eq_true rfl⟩ ⟨Nat.le_of_ble_eq_true rfl, Nat.le_of_ble_eq_true rfl⟩ dX2_keepMoment_14 ?_
  refine z_xsv (rest := []) C (c_X2_checkOutcome l hfl D cI cJ _ (f_X1_isDay (p2 + (f_J9_floorDiv_f86c9 p3 86400000000000))) ) q_X2_checkOutcome gX2_keepMoment_X2_checkOutcome ⟨rfl, rfl⟩ rfl rfl (Nat.le_of_ble_eq_true rfl) ⟨Nat.le_of_ble_eq_true rfl, Nat.le_of_ble_eq_true rfl⟩ ⟨Nat.le_of_ble_eq_true rfl, Nat.le_of_ble_eq_true rfl⟩ dX2_keepMoment_17 (fun h1 => ?_) (fun E h1 h1_E => ?_)
  · refine z_aload_n C dX2_keepMoment_20 rfl 1 rfl ?_
    refine z_get (CC := RX2) (T := TX2) (N := 10) (ci := 2) C hin 0 rfl rfl 8 (by decide) w2 rfl rfl dX2_keepMoment_21 ?_
    refine z_iload_n C dX2_keepMoment_24 rfl 2 rfl ?_
    refine z_lload C dX2_keepMoment_25 0 rfl ?_
    refine z_last C 9 1 rfl rfl h_0 (ws' := (wY cI cJ y d sy sm sd mi ti sL bL (vp_updL mD p1.toNatClampNeg (p2 + (f_J9_floorDiv_f86c9 p3 86400000000000))) mT X)) rfl dX2_keepMoment_27 ?_
    refine z_aload_n C dX2_keepMoment_28 rfl 1 rfl ?_
    refine z_get (CC := RX2) (T := TX2) (N := 10) (ci := 2) C hin 0 rfl rfl 9 (by decide) w3 rfl rfl dX2_keepMoment_29 ?_
    refine z_iload_n C dX2_keepMoment_32 rfl 2 rfl ?_
    refine z_lload C dX2_keepMoment_33 4 rfl ?_
    refine z_sl (rest := [.int p1, .ref (y 10)]) C (c_X0_roundDay l hfl D cI cJ _ p3 ) q_X0_roundDay gX2_keepMoment_X0_roundDay ⟨rfl, rfl⟩ rfl rfl (Nat.le_of_ble_eq_true rfl) ⟨Nat.le_of_ble_eq_true rfl, Nat.le_of_ble_eq_true rfl⟩ ⟨Nat.le_of_ble_eq_true rfl, Nat.le_of_ble_eq_true rfl⟩ dX2_keepMoment_35 ?_
    refine z_last C 10 1 rfl rfl h_0 (ws' := (wY cI cJ y d sy sm sd mi ti sL bL (vp_updL mD p1.toNatClampNeg (p2 + (f_J9_floorDiv_f86c9 p3 86400000000000))) (vp_updL mT p1.toNatClampNeg (f_X0_roundDay p3)) X)) rfl dX2_keepMoment_38 ?_
    refine z_lload C dX2_keepMoment_39 0 rfl ?_
    exact z_lret C ⟨by rw [k_X2_keepMoment, if_pos h1], congrArg (fun v => some (Value.long v)) (by rw [f_X2_keepMoment, if_pos h1] : (p2 + (f_J9_floorDiv_f86c9 p3 86400000000000)) = (f_X2_keepMoment p2 p3)), by rw [s_X2_keepMoment_mD, if_pos h1, s_X2_keepMoment_mT, if_pos h1]⟩ (by decide) (by decide) dX2_keepMoment_41
  · exact z_tout C hno ⟨rfl, by rw [k_X2_keepMoment, if_neg h1]; exact h1_E⟩ (by decide) (by decide)
