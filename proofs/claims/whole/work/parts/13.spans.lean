def f_X2_span (sy : Nat → Int32) (sm : Nat → Int32) (p1 : Int32) (p2 : Int32) (p3 : Int32) (p4 : Int32) : Int64 := (if k_X2_checkSlot p1 4 = 0 then (if k_X2_checkArgument (f_X2_isSpan ((p2).toInt64) ((p3).toInt64) ((p4).toInt64)) = 0 then (if k_X2_keepSpan ((p2).toInt64) ((p3).toInt64) ((p4).toInt64) = 0 then (f_X2_keepSpan sy sm p1 ((p2).toInt64) ((p3).toInt64) ((p4).toInt64)) else 0) else 0) else 0)
def s_X2_span_sy (sy : Nat → Int32) (p1 : Int32) (p2 : Int32) (p3 : Int32) (p4 : Int32) : Nat → Int32 := (if k_X2_checkSlot p1 4 = 0 then (if k_X2_checkArgument (f_X2_isSpan ((p2).toInt64) ((p3).toInt64) ((p4).toInt64)) = 0 then (if k_X2_keepSpan ((p2).toInt64) ((p3).toInt64) ((p4).toInt64) = 0 then (s_X2_keepSpan_sy sy p1 ((p2).toInt64) ((p3).toInt64) ((p4).toInt64)) else sy) else sy) else sy)
def s_X2_span_sm (sm : Nat → Int32) (p1 : Int32) (p2 : Int32) (p3 : Int32) (p4 : Int32) : Nat → Int32 := (if k_X2_checkSlot p1 4 = 0 then (if k_X2_checkArgument (f_X2_isSpan ((p2).toInt64) ((p3).toInt64) ((p4).toInt64)) = 0 then (if k_X2_keepSpan ((p2).toInt64) ((p3).toInt64) ((p4).toInt64) = 0 then (s_X2_keepSpan_sm sm p1 ((p2).toInt64) ((p3).toInt64) ((p4).toInt64)) else sm) else sm) else sm)
def s_X2_span_sd (sd : Nat → Int32) (p1 : Int32) (p2 : Int32) (p3 : Int32) (p4 : Int32) : Nat → Int32 := (if k_X2_checkSlot p1 4 = 0 then (if k_X2_checkArgument (f_X2_isSpan ((p2).toInt64) ((p3).toInt64) ((p4).toInt64)) = 0 then (if k_X2_keepSpan ((p2).toInt64) ((p3).toInt64) ((p4).toInt64) = 0 then (s_X2_keepSpan_sd sd p1 ((p2).toInt64) ((p3).toInt64) ((p4).toInt64)) else sd) else sd) else sd)
def k_X2_span (p1 : Int32) (p2 : Int32) (p3 : Int32) (p4 : Int32) : Int32 := (if k_X2_checkSlot p1 4 = 0 then (if k_X2_checkArgument (f_X2_isSpan ((p2).toInt64) ((p3).toInt64) ((p4).toInt64)) = 0 then (if k_X2_keepSpan ((p2).toInt64) ((p3).toInt64) ((p4).toInt64) = 0 then 0 else k_X2_keepSpan ((p2).toInt64) ((p3).toInt64) ((p4).toInt64)) else k_X2_checkArgument (f_X2_isSpan ((p2).toInt64) ((p3).toInt64) ((p4).toInt64))) else k_X2_checkSlot p1 4)
theorem q_X2_span : ZY yX2_span wsX2_span cX2_span 5 (some .long) 4 := ⟨⟨_, rfl⟩, by decide +kernel, by decide +kernel, by decide +kernel⟩
set_option maxHeartbeats 4000000 in
set_option maxRecDepth 100000 in
theorem c_X2_span (l : Launch) (hfl : l.stackTraces = false) (D : va_G) (cI cJ : ClassId) (X : va_W) (y : Nat → Nat) (d : Nat → Int64) (sy : Nat → Int32) (sm : Nat → Int32) (sd : Nat → Int32) (mi : Nat → Int32) (ti : Nat → Int64) (sL : Nat → Int64) (bL : Nat → Int64) (mD : Nat → Int64) (mT : Nat → Int64) (p1 : Int32) (p2 : Int32) (p3 : Int32) (p4 : Int32)  : ZM l yX2_span wsX2_span { frames := 8, cells := 3, slots := 18, locals := 129 } [.ref (y 0), .int p1, .int p2, .int p3, .int p4] D (zTys cI cJ) (wY cI cJ y d sy sm sd mi ti sL bL mD mT X) 3 18 (fun v w => k_X2_span p1 p2 p3 p4 = 0 ∧ v = some (.long (f_X2_span sy sm p1 p2 p3 p4)) ∧ w = (wY cI cJ y d (s_X2_span_sy sy p1 p2 p3 p4) (s_X2_span_sm sm p1 p2 p3 p4) (s_X2_span_sd sd p1 p2 p3 p4) mi ti sL bL mD mT X)) (fun E w => w = (wY cI cJ y d sy sm sd mi ti sL bL mD mT X) ∧ zEx E (k_X2_span p1 p2 p3 p4)) := by
  refine z_open (own := RX2) hfl (cc := cX2_span) (maxL := 5) (ret := (some .long)) (lv := [(0, .ref (y 0)), (1, .int p1), (2, .int p2), (3, .int p3), (4, .int p4)]) rfl (by decide) rfl rfl (Nat.le_of_ble_eq_true rfl) ?_
  intro p e s m args below meth c A C hno hnm hargs
  have hin : ∀ w ∈ wsX20, w ∈ wsX2_span := by decide +kernel
  refine z_iload_n C dX2_span_0 rfl 1 rfl ?_
  refine z_iconst (v := 4) C dX2_span_1 (by decide) ?_
  refine z_xsv (rest := []) C (c_X2_checkSlot l hfl D cI cJ _ p1 (4 : Int32) ) q_X2_checkSlot gX2_span_X2_checkSlot ⟨rfl, rfl⟩ rfl rfl (Nat.le_of_ble_eq_true rfl) ⟨Nat.le_of_ble_eq_true rfl, Nat.le_of_ble_eq_true rfl⟩ ⟨Nat.le_of_ble_eq_true rfl, Nat.le_of_ble_eq_true rfl⟩ dX2_span_2 (fun h1 => ?_) (fun E h1 h1_E => ?_)
  · refine z_iload_n C dX2_span_5 rfl 2 rfl ?_
    refine z_i2l (v := (p2).toInt64) C dX2_span_6 rfl ?_
    refine z_iload_n C dX2_span_7 rfl 3 rfl ?_
    refine z_i2l (v := (p3).toInt64) C dX2_span_8 rfl ?_
    refine z_iload C dX2_span_9 4 rfl ?_
    refine z_i2l (v := (p4).toInt64) C dX2_span_11 rfl ?_
    refine z_si (rest := []) C (c_X2_isSpan l hfl D cI cJ _ ((p2).toInt64) ((p3).toInt64) ((p4).toInt64) ) q_X2_isSpan gX2_span_X2_isSpan ⟨rfl, rfl⟩ rfl rfl (Nat.le_of_ble_eq_true rfl) ⟨Nat.le_of_ble_eq_true rfl, Nat.le_of_ble_eq_true rfl⟩ ⟨Nat.le_of_ble_eq_true rfl, Nat.le_of_ble_eq_true rfl⟩ dX2_span_12 ?_
    refine z_xsv (rest := []) C (c_X2_checkArgument l hfl D cI cJ _ (f_X2_isSpan ((p2).toInt64) ((p3).toInt64) ((p4).toInt64)) ) q_X2_checkArgument gX2_span_X2_checkArgument ⟨rfl, rfl⟩ rfl rfl (Nat.le_of_ble_eq_true rfl) ⟨Nat.le_of_ble_eq_true rfl, Nat.le_of_ble_eq_true rfl⟩ ⟨Nat.le_of_ble_eq_true rfl, Nat.le_of_ble_eq_true rfl⟩ dX2_span_15 (fun h2 => ?_) (fun E h2 h2_E => ?_)
    · refine z_aload_n C dX2_span_18 rfl 0 rfl ?_
      refine z_iload_n C dX2_span_19 rfl 1 rfl ?_
      refine z_iload_n C dX2_span_20 rfl 2 rfl ?_
      refine z_i2l (v := (p2).toInt64) C dX2_span_21 rfl ?_
      refine z_iload_n C dX2_span_22 rfl 3 rfl ?_
      refine z_i2l (v := (p3).toInt64) C dX2_span_23 rfl ?_
      refine z_iload C dX2_span_24 4 rfl ?_
      refine z_i2l (v := (p4).toInt64) C dX2_span_26 rfl ?_
      refine z_xwl (ws' := (wY cI cJ y d (s_X2_keepSpan_sy sy p1 ((p2).toInt64) ((p3).toInt64) ((p4).toInt64)) (s_X2_keepSpan_sm sm p1 ((p2).toInt64) ((p3).toInt64) ((p4).toInt64)) (s_X2_keepSpan_sd sd p1 ((p2).toInt64) ((p3).toInt64) ((p4).toInt64)) mi ti sL bL mD mT X)) (rest := []) (ci := 2) (q0 := 0) C (c_X2_keepSpan l hfl D cI cJ X y d sy sm sd mi ti sL bL mD mT p1 ((p2).toInt64) ((p3).toInt64) ((p4).toInt64) (vpS4 h1)) q_X2_keepSpan rfl rfl rfl gX2_span_X2_keepSpan ⟨rfl, rfl⟩ rfl rfl (Nat.le_of_ble_eq_true rfl) ⟨Nat.le_of_ble_eq_true rfl, Nat.le_of_ble_eq_true rfl⟩ ⟨Nat.le_of_ble_eq_true rfl, Nat.le_of_ble_eq_true rfl⟩ dX2_span_27 (fun h3 => ?_) (fun E h3 h3_E => ?_)
      · exact z_lret C ⟨by rw [k_X2_span, if_pos h1, if_pos h2, if_pos h3], congrArg (fun v => some (Value.long v)) (by rw [f_X2_span, if_pos h1, if_pos h2, if_pos h3] : (f_X2_keepSpan sy sm p1 ((p2).toInt64) ((p3).toInt64) ((p4).toInt64)) = (f_X2_span sy sm p1 p2 p3 p4)), by rw [s_X2_span_sy, if_pos h1, if_pos h2, if_pos h3, s_X2_span_sm, if_pos h1, if_pos h2, if_pos h3, s_X2_span_sd, if_pos h1, if_pos h2, if_pos h3]⟩ (by decide) (by decide) dX2_span_30
      · exact z_tout C hno ⟨rfl, by rw [k_X2_span, if_pos h1, if_pos h2, if_neg h3]; exact h3_E⟩ (by decide) (by decide)
    · exact z_tout C hno ⟨rfl, by rw [k_X2_span, if_pos h1, if_neg h2]; exact h2_E⟩ (by decide) (by decide)
  · exact z_tout C hno ⟨rfl, by rw [k_X2_span, if_neg h1]; exact h1_E⟩ (by decide) (by decide)
def f_X2_until_j1 (d : Nat → Int64) (p1 : Int32) (p2 : Int32) : Int32 := (if (d p2.toNatClampNeg) < (d p1.toNatClampNeg) then 0 else 1)
def f_X2_until (d : Nat → Int64) (sy : Nat → Int32) (sm : Nat → Int32) (p1 : Int32) (p2 : Int32) (p3 : Int32) : Int64 := (if k_X2_checkSlot p1 6 = 0 then (if k_X2_checkSlot p2 6 = 0 then (if k_X2_checkSlot p3 4 = 0 then (if f_X2_until_j1 d p1 p2 = 0 then 0 else (if k_X2_keepSpan ((f_X1_wholeMonths (d p1.toNatClampNeg) (d p2.toNatClampNeg)) / 12) ((f_X1_wholeMonths (d p1.toNatClampNeg) (d p2.toNatClampNeg)) - (f_X1_wholeMonths (d p1.toNatClampNeg) (d p2.toNatClampNeg)) / 12 * 12) ((d p2.toNatClampNeg) - (f_X1_plusMonths (d p1.toNatClampNeg) (f_X1_wholeMonths (d p1.toNatClampNeg) (d p2.toNatClampNeg)))) = 0 then (f_X2_keepSpan sy sm p3 ((f_X1_wholeMonths (d p1.toNatClampNeg) (d p2.toNatClampNeg)) / 12) ((f_X1_wholeMonths (d p1.toNatClampNeg) (d p2.toNatClampNeg)) - (f_X1_wholeMonths (d p1.toNatClampNeg) (d p2.toNatClampNeg)) / 12 * 12) ((d p2.toNatClampNeg) - (f_X1_plusMonths (d p1.toNatClampNeg) (f_X1_wholeMonths (d p1.toNatClampNeg) (d p2.toNatClampNeg))))) else 0)) else 0) else 0) else 0)
def s_X2_until_sy (d : Nat → Int64) (sy : Nat → Int32) (p1 : Int32) (p2 : Int32) (p3 : Int32) : Nat → Int32 := (if k_X2_checkSlot p1 6 = 0 then (if k_X2_checkSlot p2 6 = 0 then (if k_X2_checkSlot p3 4 = 0 then (if f_X2_until_j1 d p1 p2 = 0 then sy else (if k_X2_keepSpan ((f_X1_wholeMonths (d p1.toNatClampNeg) (d p2.toNatClampNeg)) / 12) ((f_X1_wholeMonths (d p1.toNatClampNeg) (d p2.toNatClampNeg)) - (f_X1_wholeMonths (d p1.toNatClampNeg) (d p2.toNatClampNeg)) / 12 * 12) ((d p2.toNatClampNeg) - (f_X1_plusMonths (d p1.toNatClampNeg) (f_X1_wholeMonths (d p1.toNatClampNeg) (d p2.toNatClampNeg)))) = 0 then (s_X2_keepSpan_sy sy p3 ((f_X1_wholeMonths (d p1.toNatClampNeg) (d p2.toNatClampNeg)) / 12) ((f_X1_wholeMonths (d p1.toNatClampNeg) (d p2.toNatClampNeg)) - (f_X1_wholeMonths (d p1.toNatClampNeg) (d p2.toNatClampNeg)) / 12 * 12) ((d p2.toNatClampNeg) - (f_X1_plusMonths (d p1.toNatClampNeg) (f_X1_wholeMonths (d p1.toNatClampNeg) (d p2.toNatClampNeg))))) else sy)) else sy) else sy) else sy)
def s_X2_until_sm (d : Nat → Int64) (sm : Nat → Int32) (p1 : Int32) (p2 : Int32) (p3 : Int32) : Nat → Int32 := (if k_X2_checkSlot p1 6 = 0 then (if k_X2_checkSlot p2 6 = 0 then (if k_X2_checkSlot p3 4 = 0 then (if f_X2_until_j1 d p1 p2 = 0 then sm else (if k_X2_keepSpan ((f_X1_wholeMonths (d p1.toNatClampNeg) (d p2.toNatClampNeg)) / 12) ((f_X1_wholeMonths (d p1.toNatClampNeg) (d p2.toNatClampNeg)) - (f_X1_wholeMonths (d p1.toNatClampNeg) (d p2.toNatClampNeg)) / 12 * 12) ((d p2.toNatClampNeg) - (f_X1_plusMonths (d p1.toNatClampNeg) (f_X1_wholeMonths (d p1.toNatClampNeg) (d p2.toNatClampNeg)))) = 0 then (s_X2_keepSpan_sm sm p3 ((f_X1_wholeMonths (d p1.toNatClampNeg) (d p2.toNatClampNeg)) / 12) ((f_X1_wholeMonths (d p1.toNatClampNeg) (d p2.toNatClampNeg)) - (f_X1_wholeMonths (d p1.toNatClampNeg) (d p2.toNatClampNeg)) / 12 * 12) ((d p2.toNatClampNeg) - (f_X1_plusMonths (d p1.toNatClampNeg) (f_X1_wholeMonths (d p1.toNatClampNeg) (d p2.toNatClampNeg))))) else sm)) else sm) else sm) else sm)
def s_X2_until_sd (d : Nat → Int64) (sd : Nat → Int32) (p1 : Int32) (p2 : Int32) (p3 : Int32) : Nat → Int32 := (if k_X2_checkSlot p1 6 = 0 then (if k_X2_checkSlot p2 6 = 0 then (if k_X2_checkSlot p3 4 = 0 then (if f_X2_until_j1 d p1 p2 = 0 then sd else (if k_X2_keepSpan ((f_X1_wholeMonths (d p1.toNatClampNeg) (d p2.toNatClampNeg)) / 12) ((f_X1_wholeMonths (d p1.toNatClampNeg) (d p2.toNatClampNeg)) - (f_X1_wholeMonths (d p1.toNatClampNeg) (d p2.toNatClampNeg)) / 12 * 12) ((d p2.toNatClampNeg) - (f_X1_plusMonths (d p1.toNatClampNeg) (f_X1_wholeMonths (d p1.toNatClampNeg) (d p2.toNatClampNeg)))) = 0 then (s_X2_keepSpan_sd sd p3 ((f_X1_wholeMonths (d p1.toNatClampNeg) (d p2.toNatClampNeg)) / 12) ((f_X1_wholeMonths (d p1.toNatClampNeg) (d p2.toNatClampNeg)) - (f_X1_wholeMonths (d p1.toNatClampNeg) (d p2.toNatClampNeg)) / 12 * 12) ((d p2.toNatClampNeg) - (f_X1_plusMonths (d p1.toNatClampNeg) (f_X1_wholeMonths (d p1.toNatClampNeg) (d p2.toNatClampNeg))))) else sd)) else sd) else sd) else sd)
def k_X2_until (d : Nat → Int64) (p1 : Int32) (p2 : Int32) (p3 : Int32) : Int32 := (if k_X2_checkSlot p1 6 = 0 then (if k_X2_checkSlot p2 6 = 0 then (if k_X2_checkSlot p3 4 = 0 then (if f_X2_until_j1 d p1 p2 = 0 then k_X2_checkOutcome 0 else (if k_X2_keepSpan ((f_X1_wholeMonths (d p1.toNatClampNeg) (d p2.toNatClampNeg)) / 12) ((f_X1_wholeMonths (d p1.toNatClampNeg) (d p2.toNatClampNeg)) - (f_X1_wholeMonths (d p1.toNatClampNeg) (d p2.toNatClampNeg)) / 12 * 12) ((d p2.toNatClampNeg) - (f_X1_plusMonths (d p1.toNatClampNeg) (f_X1_wholeMonths (d p1.toNatClampNeg) (d p2.toNatClampNeg)))) = 0 then 0 else k_X2_keepSpan ((f_X1_wholeMonths (d p1.toNatClampNeg) (d p2.toNatClampNeg)) / 12) ((f_X1_wholeMonths (d p1.toNatClampNeg) (d p2.toNatClampNeg)) - (f_X1_wholeMonths (d p1.toNatClampNeg) (d p2.toNatClampNeg)) / 12 * 12) ((d p2.toNatClampNeg) - (f_X1_plusMonths (d p1.toNatClampNeg) (f_X1_wholeMonths (d p1.toNatClampNeg) (d p2.toNatClampNeg)))))) else k_X2_checkSlot p3 4) else k_X2_checkSlot p2 6) else k_X2_checkSlot p1 6)
theorem q_X2_until : ZY yX2_until wsX2_until cX2_until 10 (some .long) 3 := ⟨⟨_, rfl⟩, by decide +kernel, by decide +kernel, by decide +kernel⟩
set_option maxHeartbeats 4000000 in
set_option maxRecDepth 100000 in
theorem c_X2_until (l : Launch) (hfl : l.stackTraces = false) (D : va_G) (cI cJ : ClassId) (X : va_W) (y : Nat → Nat) (d : Nat → Int64) (sy : Nat → Int32) (sm : Nat → Int32) (sd : Nat → Int32) (mi : Nat → Int32) (ti : Nat → Int64) (sL : Nat → Int64) (bL : Nat → Int64) (mD : Nat → Int64) (mT : Nat → Int64) (p1 : Int32) (p2 : Int32) (p3 : Int32)  : ZM l yX2_until wsX2_until { frames := 8, cells := 5, slots := 30, locals := 130 } [.ref (y 0), .int p1, .int p2, .int p3] D (zTys cI cJ) (wY cI cJ y d sy sm sd mi ti sL bL mD mT X) 5 30 (fun v w => k_X2_until d p1 p2 p3 = 0 ∧ v = some (.long (f_X2_until d sy sm p1 p2 p3)) ∧ w = (wY cI cJ y d (s_X2_until_sy d sy p1 p2 p3) (s_X2_until_sm d sm p1 p2 p3) (s_X2_until_sd d sd p1 p2 p3) mi ti sL bL mD mT X)) (fun E w => w = (wY cI cJ y d sy sm sd mi ti sL bL mD mT X) ∧ zEx E (k_X2_until d p1 p2 p3)) := by
  refine z_open (own := RX2) hfl (cc := cX2_until) (maxL := 10) (ret := (some .long)) (lv := [(0, .ref (y 0)), (1, .int p1), (2, .int p2), (3, .int p3)]) rfl (by decide) rfl rfl (Nat.le_of_ble_eq_true rfl) ?_
  intro p e s m args below meth c A C hno hnm hargs
  have hin : ∀ w ∈ wsX20, w ∈ wsX2_until := by decide +kernel
  have w1 := C.1.2.2.2.2 (.fieldLink RX2 9 "Yearwheel" "dates" "[J") (by decide +kernel)
  have w2 := C.1.2.2.2.2 (.constantLong RX2 53 (12)) (by decide +kernel)
  refine z_iload_n C dX2_until_0 rfl 1 rfl ?_
  refine z_bipush (v := 6) C dX2_until_1 (by decide) ?_
  refine z_xsv (rest := []) C (c_X2_checkSlot l hfl D cI cJ _ p1 (6 : Int32) ) q_X2_checkSlot gX2_until_X2_checkSlot ⟨rfl, rfl⟩ rfl rfl (Nat.le_of_ble_eq_true rfl) ⟨Nat.le_of_ble_eq_true rfl, Nat.le_of_ble_eq_true rfl⟩ ⟨Nat.le_of_ble_eq_true rfl, Nat.le_of_ble_eq_true rfl⟩ dX2_until_3 (fun h1 => ?_) (fun E h1 h1_E => ?_)
  · refine z_iload_n C dX2_until_6 rfl 2 rfl ?_
    refine z_bipush (v := 6) C dX2_until_7 (by decide) ?_
    refine z_xsv (rest := []) C (c_X2_checkSlot l hfl D cI cJ _ p2 (6 : Int32) ) q_X2_checkSlot gX2_until_X2_checkSlot ⟨rfl, rfl⟩ rfl rfl (Nat.le_of_ble_eq_true rfl) ⟨Nat.le_of_ble_eq_true rfl, Nat.le_of_ble_eq_true rfl⟩ ⟨Nat.le_of_ble_eq_true rfl, Nat.le_of_ble_eq_true rfl⟩ dX2_until_9 (fun h2 => ?_) (fun E h2 h2_E => ?_)
    · refine z_iload_n C dX2_until_12 rfl 3 rfl ?_
      refine z_iconst (v := 4) C dX2_until_13 (by decide) ?_
      refine z_xsv (rest := []) C (c_X2_checkSlot l hfl D cI cJ _ p3 (4 : Int32) ) q_X2_checkSlot gX2_until_X2_checkSlot ⟨rfl, rfl⟩ rfl rfl (Nat.le_of_ble_eq_true rfl) ⟨Nat.le_of_ble_eq_true rfl, Nat.le_of_ble_eq_true rfl⟩ ⟨Nat.le_of_ble_eq_true rfl, Nat.le_of_ble_eq_true rfl⟩ dX2_until_14 (fun h3 => ?_) (fun E h3 h3_E => ?_)
      · refine z_aload_n C dX2_until_17 rfl 0 rfl ?_
        refine z_get (CC := RX2) (T := TX2) (N := 10) (ci := 2) C hin 0 rfl rfl 0 (by decide) w1 rfl rfl dX2_until_18 ?_
        refine z_iload_n C dX2_until_21 rfl 1 rfl ?_
        refine z_lald C 1 1 rfl rfl (vpS6 h1) dX2_until_22 ?_
        refine z_lstore (lv' := [(4, .long (d p1.toNatClampNeg)), (0, .ref (y 0)), (1, .int p1), (2, .int p2), (3, .int p3)]) C dX2_until_23 (by decide) rfl ?_
        refine z_aload_n C dX2_until_25 rfl 1 rfl ?_
        refine z_get (CC := RX2) (T := TX2) (N := 10) (ci := 2) C hin 0 rfl rfl 0 (by decide) w1 rfl rfl dX2_until_26 ?_
        refine z_iload_n C dX2_until_29 rfl 3 rfl ?_
        refine z_lald C 1 1 rfl rfl (vpS6 h2) dX2_until_30 ?_
        refine z_lstore (lv' := [(6, .long (d p2.toNatClampNeg)), (4, .long (d p1.toNatClampNeg)), (0, .ref (y 0)), (1, .int p1), (2, .int p2), (3, .int p3)]) C dX2_until_31 (by decide) rfl ?_
        refine z_lload C dX2_until_33 1 rfl ?_
        refine z_lload C dX2_until_35 0 rfl ?_
        have K1_0 : f_X2_until_j1 d p1 p2 = 0 → ((d p2.toNatClampNeg) < (d p1.toNatClampNeg)) → ZW p l e { frames := 8, cells := 5, slots := 30, locals := 130 } s m args below meth c 10 D (zTys cI cJ) A (zE D (zTys cI cJ) A below args s (fun v w => k_X2_until d p1 p2 p3 = 0 ∧ v = some (.long (f_X2_until d sy sm p1 p2 p3)) ∧ w = (wY cI cJ y d (s_X2_until_sy d sy p1 p2 p3) (s_X2_until_sm d sm p1 p2 p3) (s_X2_until_sd d sd p1 p2 p3) mi ti sL bL mD mT X)) (fun E w => w = (wY cI cJ y d sy sm sd mi ti sL bL mD mT X) ∧ zEx E (k_X2_until d p1 p2 p3)) 5 30) 3 18 (wY cI cJ y d sy sm sd mi ti sL bL mD mT X) 46 [(6, .long (d p2.toNatClampNeg)), (4, .long (d p1.toNatClampNeg)), (0, .ref (y 0)), (1, .int p1), (2, .int p2), (3, .int p3)] [.int 0] := by
          intro h5 h6
          refine z_xsv (rest := []) C (c_X2_checkOutcome l hfl D cI cJ _ (0 : Int32) ) q_X2_checkOutcome gX2_until_X2_checkOutcome ⟨rfl, rfl⟩ rfl rfl (Nat.le_of_ble_eq_true rfl) ⟨Nat.le_of_ble_eq_true rfl, Nat.le_of_ble_eq_true rfl⟩ ⟨Nat.le_of_ble_eq_true rfl, Nat.le_of_ble_eq_true rfl⟩ dX2_until_46 (fun h => absurd h (by decide)) (fun E h7 h7_E => ?_)
          exact z_tout C hno ⟨rfl, by rw [k_X2_until, if_pos h1, if_pos h2, if_pos h3, if_pos h5]; exact h7_E⟩ (by decide) (by decide)
        have K1_1 : f_X2_until_j1 d p1 p2 = 1 → (¬ (d p2.toNatClampNeg) < (d p1.toNatClampNeg)) → ZW p l e { frames := 8, cells := 5, slots := 30, locals := 130 } s m args below meth c 10 D (zTys cI cJ) A (zE D (zTys cI cJ) A below args s (fun v w => k_X2_until d p1 p2 p3 = 0 ∧ v = some (.long (f_X2_until d sy sm p1 p2 p3)) ∧ w = (wY cI cJ y d (s_X2_until_sy d sy p1 p2 p3) (s_X2_until_sm d sm p1 p2 p3) (s_X2_until_sd d sd p1 p2 p3) mi ti sL bL mD mT X)) (fun E w => w = (wY cI cJ y d sy sm sd mi ti sL bL mD mT X) ∧ zEx E (k_X2_until d p1 p2 p3)) 5 30) 3 18 (wY cI cJ y d sy sm sd mi ti sL bL mD mT X) 46 [(6, .long (d p2.toNatClampNeg)), (4, .long (d p1.toNatClampNeg)), (0, .ref (y 0)), (1, .int p1), (2, .int p2), (3, .int p3)] [.int 1] := by
          intro h8 h9
          refine z_xsv (rest := []) C (c_X2_checkOutcome l hfl D cI cJ _ (1 : Int32) ) q_X2_checkOutcome gX2_until_X2_checkOutcome ⟨rfl, rfl⟩ rfl rfl (Nat.le_of_ble_eq_true rfl) ⟨Nat.le_of_ble_eq_true rfl, Nat.le_of_ble_eq_true rfl⟩ ⟨Nat.le_of_ble_eq_true rfl, Nat.le_of_ble_eq_true rfl⟩ dX2_until_46 (fun _ => ?_) (fun _ h _ => absurd (by decide) h)
          refine z_lload C dX2_until_49 1 rfl ?_
          refine z_lload C dX2_until_51 0 rfl ?_
          refine z_sl (rest := []) C (c_X1_wholeMonths l hfl D cI cJ _ (d p1.toNatClampNeg) (d p2.toNatClampNeg) ) q_X1_wholeMonths gX2_until_X1_wholeMonths ⟨rfl, rfl⟩ rfl rfl (Nat.le_of_ble_eq_true rfl) ⟨Nat.le_of_ble_eq_true rfl, Nat.le_of_ble_eq_true rfl⟩ ⟨Nat.le_of_ble_eq_true rfl, Nat.le_of_ble_eq_true rfl⟩ dX2_until_53 ?_
          refine z_lstore (lv' := [(8, .long (f_X1_wholeMonths (d p1.toNatClampNeg) (d p2.toNatClampNeg))), (6, .long (d p2.toNatClampNeg)), (4, .long (d p1.toNatClampNeg)), (0, .ref (y 0)), (1, .int p1), (2, .int p2), (3, .int p3)]) C dX2_until_56 (by decide) rfl ?_
          refine z_aload_n C dX2_until_58 rfl 3 rfl ?_
          refine z_iload_n C dX2_until_59 rfl 6 rfl ?_
          refine z_lload C dX2_until_60 0 rfl ?_
          refine z_ldc2 (v := 12) C w2 dX2_until_62 ?_
          refine z_ldiv C dX2_until_65 (by decide) ?_
          refine z_lload C dX2_until_66 0 rfl ?_
          refine z_ldc2 (v := 12) C w2 dX2_until_68 ?_
          refine z_lrem C dX2_until_71 (by decide) ?_
          refine z_lload C dX2_until_72 1 rfl ?_
          refine z_lload C dX2_until_74 2 rfl ?_
          refine z_lload C dX2_until_76 0 rfl ?_
          refine z_sl (rest := [.long (d p2.toNatClampNeg), .long ((f_X1_wholeMonths (d p1.toNatClampNeg) (d p2.toNatClampNeg)) - (f_X1_wholeMonths (d p1.toNatClampNeg) (d p2.toNatClampNeg)) / 12 * 12), .long ((f_X1_wholeMonths (d p1.toNatClampNeg) (d p2.toNatClampNeg)) / 12), .int p3, .ref (y 0)]) C (c_X1_plusMonths l hfl D cI cJ _ (d p1.toNatClampNeg) (f_X1_wholeMonths (d p1.toNatClampNeg) (d p2.toNatClampNeg)) ) q_X1_plusMonths gX2_until_X1_plusMonths ⟨rfl, rfl⟩ rfl rfl (Nat.le_of_ble_eq_true rfl) ⟨Nat.le_of_ble_eq_true rfl, Nat.le_of_ble_eq_true rfl⟩ ⟨Nat.le_of_ble_eq_true rfl, Nat.le_of_ble_eq_true rfl⟩ dX2_until_78 ?_
          refine z_lsub C dX2_until_81 ?_
          refine z_xwl (ws' := (wY cI cJ y d (s_X2_keepSpan_sy sy p3 ((f_X1_wholeMonths (d p1.toNatClampNeg) (d p2.toNatClampNeg)) / 12) ((f_X1_wholeMonths (d p1.toNatClampNeg) (d p2.toNatClampNeg)) - (f_X1_wholeMonths (d p1.toNatClampNeg) (d p2.toNatClampNeg)) / 12 * 12) ((d p2.toNatClampNeg) - (f_X1_plusMonths (d p1.toNatClampNeg) (f_X1_wholeMonths (d p1.toNatClampNeg) (d p2.toNatClampNeg))))) (s_X2_keepSpan_sm sm p3 ((f_X1_wholeMonths (d p1.toNatClampNeg) (d p2.toNatClampNeg)) / 12) ((f_X1_wholeMonths (d p1.toNatClampNeg) (d p2.toNatClampNeg)) - (f_X1_wholeMonths (d p1.toNatClampNeg) (d p2.toNatClampNeg)) / 12 * 12) ((d p2.toNatClampNeg) - (f_X1_plusMonths (d p1.toNatClampNeg) (f_X1_wholeMonths (d p1.toNatClampNeg) (d p2.toNatClampNeg))))) (s_X2_keepSpan_sd sd p3 ((f_X1_wholeMonths (d p1.toNatClampNeg) (d p2.toNatClampNeg)) / 12) ((f_X1_wholeMonths (d p1.toNatClampNeg) (d p2.toNatClampNeg)) - (f_X1_wholeMonths (d p1.toNatClampNeg) (d p2.toNatClampNeg)) / 12 * 12) ((d p2.toNatClampNeg) - (f_X1_plusMonths (d p1.toNatClampNeg) (f_X1_wholeMonths (d p1.toNatClampNeg) (d p2.toNatClampNeg))))) mi ti sL bL mD mT X)) (rest := []) (ci := 2) (q0 := 0) C (c_X2_keepSpan l hfl D cI cJ X y d sy sm sd mi ti sL bL mD mT p3 ((f_X1_wholeMonths (d p1.toNatClampNeg) (d p2.toNatClampNeg)) / 12) ((f_X1_wholeMonths (d p1.toNatClampNeg) (d p2.toNatClampNeg)) - (f_X1_wholeMonths (d p1.toNatClampNeg) (d p2.toNatClampNeg)) / 12 * 12) ((d p2.toNatClampNeg) - (f_X1_plusMonths (d p1.toNatClampNeg) (f_X1_wholeMonths (d p1.toNatClampNeg) (d p2.toNatClampNeg)))) (vpS4 h3)) q_X2_keepSpan rfl rfl rfl gX2_until_X2_keepSpan ⟨rfl, rfl⟩ rfl rfl (Nat.le_of_ble_eq_true rfl) ⟨Nat.le_of_ble_eq_true rfl, Nat.le_of_ble_eq_true rfl⟩ ⟨Nat.le_of_ble_eq_true rfl, Nat.le_of_ble_eq_true rfl⟩ dX2_until_82 (fun h11 => ?_) (fun E h11 h11_E => ?_)
          · exact z_lret C ⟨by rw [k_X2_until, if_pos h1, if_pos h2, if_pos h3, if_neg (by rw [h8]; decide : ¬ f_X2_until_j1 d p1 p2 = 0), if_pos h11], congrArg (fun v => some (Value.long v)) (by rw [f_X2_until, if_pos h1, if_pos h2, if_pos h3, if_neg (by rw [h8]; decide : ¬ f_X2_until_j1 d p1 p2 = 0), if_pos h11] : (f_X2_keepSpan sy sm p3 ((f_X1_wholeMonths (d p1.toNatClampNeg) (d p2.toNatClampNeg)) / 12) ((f_X1_wholeMonths (d p1.toNatClampNeg) (d p2.toNatClampNeg)) - (f_X1_wholeMonths (d p1.toNatClampNeg) (d p2.toNatClampNeg)) / 12 * 12) ((d p2.toNatClampNeg) - (f_X1_plusMonths (d p1.toNatClampNeg) (f_X1_wholeMonths (d p1.toNatClampNeg) (d p2.toNatClampNeg))))) = (f_X2_until d sy sm p1 p2 p3)), by rw [s_X2_until_sy, if_pos h1, if_pos h2, if_pos h3, if_neg (by rw [h8]; decide : ¬ f_X2_until_j1 d p1 p2 = 0), if_pos h11, s_X2_until_sm, if_pos h1, if_pos h2, if_pos h3, if_neg (by rw [h8]; decide : ¬ f_X2_until_j1 d p1 p2 = 0), if_pos h11, s_X2_until_sd, if_pos h1, if_pos h2, if_pos h3, if_neg (by rw [h8]; decide : ¬ f_X2_until_j1 d p1 p2 = 0), if_pos h11]⟩ (by decide) (by decide) dX2_until_85
          · exact z_tout C hno ⟨rfl, by rw [k_X2_until, if_pos h1, if_pos h2, if_pos h3, if_neg (by rw [h8]; decide : ¬ f_X2_until_j1 d p1 p2 = 0), if_neg h11]; exact h11_E⟩ (by decide) (by decide)
        refine z_lcmp_gt (tgt := 45) C dX2_until_37 dX2_until_38 (by decide) (fun h4 => ?_) (fun h4 => ?_)
        · refine z_iconst (v := 0) C dX2_until_45 (by decide) ?_
          exact K1_0 (by rw [f_X2_until_j1, if_pos h4]) h4
        · refine z_iconst (v := 1) C dX2_until_41 (by decide) ?_
          refine z_goto (tgt := 46) C dX2_until_42 (by decide) ?_
          exact K1_1 (by rw [f_X2_until_j1, if_neg h4]) h4
      · exact z_tout C hno ⟨rfl, by rw [k_X2_until, if_pos h1, if_pos h2, if_neg h3]; exact h3_E⟩ (by decide) (by decide)
    · exact z_tout C hno ⟨rfl, by rw [k_X2_until, if_pos h1, if_neg h2]; exact h2_E⟩ (by decide) (by decide)
  · exact z_tout C hno ⟨rfl, by rw [k_X2_until, if_neg h1]; exact h1_E⟩ (by decide) (by decide)
def f_X2_go_j1 (p3 : Int32) : Int32 := (if p3 = 0 then 1 else (-1))
def f_X2_go (d : Nat → Int64) (sy : Nat → Int32) (sm : Nat → Int32) (sd : Nat → Int32) (p1 : Int32) (p2 : Int32) (p3 : Int32) (p4 : Int32) : Int64 := (if k_X2_checkSlot p1 6 = 0 then (if k_X2_checkSlot p2 4 = 0 then (if k_X2_checkSlot p4 6 = 0 then (if f_X2_go_j1 p3 = (-1) then (if k_X2_keepDate ((f_X1_plusMonths (d p1.toNatClampNeg) ((-1) * (f_X2_allMonths sy sm p2))) + (((-1) * (sd p2.toNatClampNeg))).toInt64) = 0 then (f_X2_keepDate ((f_X1_plusMonths (d p1.toNatClampNeg) ((-1) * (f_X2_allMonths sy sm p2))) + (((-1) * (sd p2.toNatClampNeg))).toInt64)) else 0) else (if k_X2_keepDate ((f_X1_plusMonths (d p1.toNatClampNeg) (1 * (f_X2_allMonths sy sm p2))) + ((1 * (sd p2.toNatClampNeg))).toInt64) = 0 then (f_X2_keepDate ((f_X1_plusMonths (d p1.toNatClampNeg) (1 * (f_X2_allMonths sy sm p2))) + ((1 * (sd p2.toNatClampNeg))).toInt64)) else 0)) else 0) else 0) else 0)
def s_X2_go_d (d : Nat → Int64) (sy : Nat → Int32) (sm : Nat → Int32) (sd : Nat → Int32) (p1 : Int32) (p2 : Int32) (p3 : Int32) (p4 : Int32) : Nat → Int64 := (if k_X2_checkSlot p1 6 = 0 then (if k_X2_checkSlot p2 4 = 0 then (if k_X2_checkSlot p4 6 = 0 then (if f_X2_go_j1 p3 = (-1) then (if k_X2_keepDate ((f_X1_plusMonths (d p1.toNatClampNeg) ((-1) * (f_X2_allMonths sy sm p2))) + (((-1) * (sd p2.toNatClampNeg))).toInt64) = 0 then (s_X2_keepDate_d d p4 ((f_X1_plusMonths (d p1.toNatClampNeg) ((-1) * (f_X2_allMonths sy sm p2))) + (((-1) * (sd p2.toNatClampNeg))).toInt64)) else d) else (if k_X2_keepDate ((f_X1_plusMonths (d p1.toNatClampNeg) (1 * (f_X2_allMonths sy sm p2))) + ((1 * (sd p2.toNatClampNeg))).toInt64) = 0 then (s_X2_keepDate_d d p4 ((f_X1_plusMonths (d p1.toNatClampNeg) (1 * (f_X2_allMonths sy sm p2))) + ((1 * (sd p2.toNatClampNeg))).toInt64)) else d)) else d) else d) else d)
def k_X2_go (d : Nat → Int64) (sy : Nat → Int32) (sm : Nat → Int32) (sd : Nat → Int32) (p1 : Int32) (p2 : Int32) (p3 : Int32) (p4 : Int32) : Int32 := (if k_X2_checkSlot p1 6 = 0 then (if k_X2_checkSlot p2 4 = 0 then (if k_X2_checkSlot p4 6 = 0 then (if f_X2_go_j1 p3 = (-1) then (if k_X2_keepDate ((f_X1_plusMonths (d p1.toNatClampNeg) ((-1) * (f_X2_allMonths sy sm p2))) + (((-1) * (sd p2.toNatClampNeg))).toInt64) = 0 then 0 else k_X2_keepDate ((f_X1_plusMonths (d p1.toNatClampNeg) ((-1) * (f_X2_allMonths sy sm p2))) + (((-1) * (sd p2.toNatClampNeg))).toInt64)) else (if k_X2_keepDate ((f_X1_plusMonths (d p1.toNatClampNeg) (1 * (f_X2_allMonths sy sm p2))) + ((1 * (sd p2.toNatClampNeg))).toInt64) = 0 then 0 else k_X2_keepDate ((f_X1_plusMonths (d p1.toNatClampNeg) (1 * (f_X2_allMonths sy sm p2))) + ((1 * (sd p2.toNatClampNeg))).toInt64))) else k_X2_checkSlot p4 6) else k_X2_checkSlot p2 4) else k_X2_checkSlot p1 6)
theorem q_X2_go : ZY yX2_go wsX2_go cX2_go 8 (some .long) 4 := ⟨⟨_, rfl⟩, by decide +kernel, by decide +kernel, by decide +kernel⟩
set_option maxHeartbeats 4000000 in
set_option maxRecDepth 100000 in
theorem c_X2_go (l : Launch) (hfl : l.stackTraces = false) (D : va_G) (cI cJ : ClassId) (X : va_W) (y : Nat → Nat) (d : Nat → Int64) (sy : Nat → Int32) (sm : Nat → Int32) (sd : Nat → Int32) (mi : Nat → Int32) (ti : Nat → Int64) (sL : Nat → Int64) (bL : Nat → Int64) (mD : Nat → Int64) (mT : Nat → Int64) (p1 : Int32) (p2 : Int32) (p3 : Int32) (p4 : Int32)  : ZM l yX2_go wsX2_go { frames := 8, cells := 4, slots := 24, locals := 125 } [.ref (y 0), .int p1, .int p2, .int p3, .int p4] D (zTys cI cJ) (wY cI cJ y d sy sm sd mi ti sL bL mD mT X) 4 24 (fun v w => k_X2_go d sy sm sd p1 p2 p3 p4 = 0 ∧ v = some (.long (f_X2_go d sy sm sd p1 p2 p3 p4)) ∧ w = (wY cI cJ y (s_X2_go_d d sy sm sd p1 p2 p3 p4) sy sm sd mi ti sL bL mD mT X)) (fun E w => w = (wY cI cJ y d sy sm sd mi ti sL bL mD mT X) ∧ zEx E (k_X2_go d sy sm sd p1 p2 p3 p4)) := by
  refine z_open (own := RX2) hfl (cc := cX2_go) (maxL := 8) (ret := (some .long)) (lv := [(0, .ref (y 0)), (1, .int p1), (2, .int p2), (3, .int p3), (4, .int p4)]) rfl (by decide) rfl rfl (Nat.le_of_ble_eq_true rfl) ?_
  intro p e s m args below meth c A C hno hnm hargs
  have hin : ∀ w ∈ wsX20, w ∈ wsX2_go := by decide +kernel
  have w1 := C.1.2.2.2.2 (.fieldLink RX2 9 "Yearwheel" "dates" "[J") (by decide +kernel)
  have w2 := C.1.2.2.2.2 (.fieldLink RX2 20 "Yearwheel" "spanDays" "[I") (by decide +kernel)
  refine z_iload_n C dX2_go_0 rfl 1 rfl ?_
  refine z_bipush (v := 6) C dX2_go_1 (by decide) ?_
  refine z_xsv (rest := []) C (c_X2_checkSlot l hfl D cI cJ _ p1 (6 : Int32) ) q_X2_checkSlot gX2_go_X2_checkSlot ⟨rfl, rfl⟩ rfl rfl (Nat.le_of_ble_eq_true rfl) ⟨Nat.le_of_ble_eq_true rfl, Nat.le_of_ble_eq_true rfl⟩ ⟨Nat.le_of_ble_eq_true rfl, Nat.le_of_ble_eq_true rfl⟩ dX2_go_3 (fun h1 => ?_) (fun E h1 h1_E => ?_)
  · refine z_iload_n C dX2_go_6 rfl 2 rfl ?_
    refine z_iconst (v := 4) C dX2_go_7 (by decide) ?_
    refine z_xsv (rest := []) C (c_X2_checkSlot l hfl D cI cJ _ p2 (4 : Int32) ) q_X2_checkSlot gX2_go_X2_checkSlot ⟨rfl, rfl⟩ rfl rfl (Nat.le_of_ble_eq_true rfl) ⟨Nat.le_of_ble_eq_true rfl, Nat.le_of_ble_eq_true rfl⟩ ⟨Nat.le_of_ble_eq_true rfl, Nat.le_of_ble_eq_true rfl⟩ dX2_go_8 (fun h2 => ?_) (fun E h2 h2_E => ?_)
    · refine z_iload C dX2_go_11 4 rfl ?_
      refine z_bipush (v := 6) C dX2_go_13 (by decide) ?_
      refine z_xsv (rest := []) C (c_X2_checkSlot l hfl D cI cJ _ p4 (6 : Int32) ) q_X2_checkSlot gX2_go_X2_checkSlot ⟨rfl, rfl⟩ rfl rfl (Nat.le_of_ble_eq_true rfl) ⟨Nat.le_of_ble_eq_true rfl, Nat.le_of_ble_eq_true rfl⟩ ⟨Nat.le_of_ble_eq_true rfl, Nat.le_of_ble_eq_true rfl⟩ dX2_go_15 (fun h3 => ?_) (fun E h3 h3_E => ?_)
      · refine z_iload_n C dX2_go_18 rfl 3 rfl ?_
        have K1_m1 : f_X2_go_j1 p3 = (-1) → (¬ p3 = 0) → ZW p l e { frames := 8, cells := 4, slots := 24, locals := 125 } s m args below meth c 8 D (zTys cI cJ) A (zE D (zTys cI cJ) A below args s (fun v w => k_X2_go d sy sm sd p1 p2 p3 p4 = 0 ∧ v = some (.long (f_X2_go d sy sm sd p1 p2 p3 p4)) ∧ w = (wY cI cJ y (s_X2_go_d d sy sm sd p1 p2 p3 p4) sy sm sd mi ti sL bL mD mT X)) (fun E w => w = (wY cI cJ y d sy sm sd mi ti sL bL mD mT X) ∧ zEx E (k_X2_go d sy sm sd p1 p2 p3 p4)) 4 24) 3 18 (wY cI cJ y d sy sm sd mi ti sL bL mD mT X) 27 [(0, .ref (y 0)), (1, .int p1), (2, .int p2), (3, .int p3), (4, .int p4)] [.int (-1)] := by
          intro h5 h6
          refine z_istore (lv' := [(5, .int (-1)), (0, .ref (y 0)), (1, .int p1), (2, .int p2), (3, .int p3), (4, .int p4)]) C dX2_go_27 (by decide) rfl ?_
          refine z_aload_n C dX2_go_29 rfl 1 rfl ?_
          refine z_get (CC := RX2) (T := TX2) (N := 10) (ci := 2) C hin 0 rfl rfl 0 (by decide) w1 rfl rfl dX2_go_30 ?_
          refine z_iload_n C dX2_go_33 rfl 2 rfl ?_
          refine z_lald C 1 1 rfl rfl (vpS6 h1) dX2_go_34 ?_
          refine z_iload C dX2_go_35 0 rfl ?_
          refine z_i2l (v := (-1)) C dX2_go_37 (by decide) ?_
          refine z_aload_n C dX2_go_38 rfl 1 rfl ?_
          refine z_iload_n C dX2_go_39 rfl 3 rfl ?_
          refine z_wl (ws' := (wY cI cJ y d sy sm sd mi ti sL bL mD mT X)) (rest := [.long (-1), .long (d p1.toNatClampNeg)]) (ci := 2) (q0 := 0) C (c_X2_allMonths l hfl D cI cJ X y d sy sm sd mi ti sL bL mD mT p2 (vpS4 h2)) q_X2_allMonths rfl rfl rfl gX2_go_X2_allMonths ⟨rfl, rfl⟩ rfl rfl (Nat.le_of_ble_eq_true rfl) ⟨Nat.le_of_ble_eq_true rfl, Nat.le_of_ble_eq_true rfl⟩ ⟨Nat.le_of_ble_eq_true rfl, Nat.le_of_ble_eq_true rfl⟩ dX2_go_40 ?_
          refine z_lmul C dX2_go_43 ?_
          refine z_sl (rest := []) C (c_X1_plusMonths l hfl D cI cJ _ (d p1.toNatClampNeg) ((-1) * (f_X2_allMonths sy sm p2)) ) q_X1_plusMonths gX2_go_X1_plusMonths ⟨rfl, rfl⟩ rfl rfl (Nat.le_of_ble_eq_true rfl) ⟨Nat.le_of_ble_eq_true rfl, Nat.le_of_ble_eq_true rfl⟩ ⟨Nat.le_of_ble_eq_true rfl, Nat.le_of_ble_eq_true rfl⟩ dX2_go_44 ?_
          refine z_lstore (lv' := [(6, .long (f_X1_plusMonths (d p1.toNatClampNeg) ((-1) * (f_X2_allMonths sy sm p2)))), (5, .int (-1)), (0, .ref (y 0)), (1, .int p1), (2, .int p2), (3, .int p3), (4, .int p4)]) C dX2_go_47 (by decide) rfl ?_
          refine z_aload_n C dX2_go_49 rfl 2 rfl ?_
          refine z_iload C dX2_go_50 6 rfl ?_
          refine z_lload C dX2_go_52 0 rfl ?_
          refine z_iload C dX2_go_54 1 rfl ?_
          refine z_aload_n C dX2_go_56 rfl 2 rfl ?_
          refine z_get (CC := RX2) (T := TX2) (N := 10) (ci := 2) C hin 0 rfl rfl 3 (by decide) w2 rfl rfl dX2_go_57 ?_
          refine z_iload_n C dX2_go_60 rfl 4 rfl ?_
          refine z_iald C 4 0 rfl rfl (vpS4 h2) dX2_go_61 ?_
          refine z_imul C dX2_go_62 ?_
          refine z_i2l (v := (((-1) * (sd p2.toNatClampNeg))).toInt64) C dX2_go_63 rfl ?_
          refine z_ladd C dX2_go_64 ?_
          refine z_xwl (ws' := (wY cI cJ y (s_X2_keepDate_d d p4 ((f_X1_plusMonths (d p1.toNatClampNeg) ((-1) * (f_X2_allMonths sy sm p2))) + (((-1) * (sd p2.toNatClampNeg))).toInt64)) sy sm sd mi ti sL bL mD mT X)) (rest := []) (ci := 2) (q0 := 0) C (c_X2_keepDate l hfl D cI cJ X y d sy sm sd mi ti sL bL mD mT p4 ((f_X1_plusMonths (d p1.toNatClampNeg) ((-1) * (f_X2_allMonths sy sm p2))) + (((-1) * (sd p2.toNatClampNeg))).toInt64) (vpS6 h3)) q_X2_keepDate rfl rfl rfl gX2_go_X2_keepDate ⟨rfl, rfl⟩ rfl rfl (Nat.le_of_ble_eq_true rfl) ⟨Nat.le_of_ble_eq_true rfl, Nat.le_of_ble_eq_true rfl⟩ ⟨Nat.le_of_ble_eq_true rfl, Nat.le_of_ble_eq_true rfl⟩ dX2_go_65 (fun h7 => ?_) (fun E h7 h7_E => ?_)
          · exact z_lret C ⟨by rw [k_X2_go, if_pos h1, if_pos h2, if_pos h3, if_pos h5, if_pos h7], congrArg (fun v => some (Value.long v)) (by rw [f_X2_go, if_pos h1, if_pos h2, if_pos h3, if_pos h5, if_pos h7] : (f_X2_keepDate ((f_X1_plusMonths (d p1.toNatClampNeg) ((-1) * (f_X2_allMonths sy sm p2))) + (((-1) * (sd p2.toNatClampNeg))).toInt64)) = (f_X2_go d sy sm sd p1 p2 p3 p4)), by rw [s_X2_go_d, if_pos h1, if_pos h2, if_pos h3, if_pos h5, if_pos h7]⟩ (by decide) (by decide) dX2_go_68
          · exact z_tout C hno ⟨rfl, by rw [k_X2_go, if_pos h1, if_pos h2, if_pos h3, if_pos h5, if_neg h7]; exact h7_E⟩ (by decide) (by decide)
        have K1_1 : f_X2_go_j1 p3 = 1 → (p3 = 0) → ZW p l e { frames := 8, cells := 4, slots := 24, locals := 125 } s m args below meth c 8 D (zTys cI cJ) A (zE D (zTys cI cJ) A below args s (fun v w => k_X2_go d sy sm sd p1 p2 p3 p4 = 0 ∧ v = some (.long (f_X2_go d sy sm sd p1 p2 p3 p4)) ∧ w = (wY cI cJ y (s_X2_go_d d sy sm sd p1 p2 p3 p4) sy sm sd mi ti sL bL mD mT X)) (fun E w => w = (wY cI cJ y d sy sm sd mi ti sL bL mD mT X) ∧ zEx E (k_X2_go d sy sm sd p1 p2 p3 p4)) 4 24) 3 18 (wY cI cJ y d sy sm sd mi ti sL bL mD mT X) 27 [(0, .ref (y 0)), (1, .int p1), (2, .int p2), (3, .int p3), (4, .int p4)] [.int 1] := by
          intro h8 h9
          refine z_istore (lv' := [(5, .int 1), (0, .ref (y 0)), (1, .int p1), (2, .int p2), (3, .int p3), (4, .int p4)]) C dX2_go_27 (by decide) rfl ?_
          refine z_aload_n C dX2_go_29 rfl 1 rfl ?_
          refine z_get (CC := RX2) (T := TX2) (N := 10) (ci := 2) C hin 0 rfl rfl 0 (by decide) w1 rfl rfl dX2_go_30 ?_
          refine z_iload_n C dX2_go_33 rfl 2 rfl ?_
          refine z_lald C 1 1 rfl rfl (vpS6 h1) dX2_go_34 ?_
          refine z_iload C dX2_go_35 0 rfl ?_
          refine z_i2l (v := 1) C dX2_go_37 (by decide) ?_
          refine z_aload_n C dX2_go_38 rfl 1 rfl ?_
          refine z_iload_n C dX2_go_39 rfl 3 rfl ?_
          refine z_wl (ws' := (wY cI cJ y d sy sm sd mi ti sL bL mD mT X)) (rest := [.long 1, .long (d p1.toNatClampNeg)]) (ci := 2) (q0 := 0) C (c_X2_allMonths l hfl D cI cJ X y d sy sm sd mi ti sL bL mD mT p2 (vpS4 h2)) q_X2_allMonths rfl rfl rfl gX2_go_X2_allMonths ⟨rfl, rfl⟩ rfl rfl (Nat.le_of_ble_eq_true rfl) ⟨Nat.le_of_ble_eq_true rfl, Nat.le_of_ble_eq_true rfl⟩ ⟨Nat.le_of_ble_eq_true rfl, Nat.le_of_ble_eq_true rfl⟩ dX2_go_40 ?_
          refine z_lmul C dX2_go_43 ?_
          refine z_sl (rest := []) C (c_X1_plusMonths l hfl D cI cJ _ (d p1.toNatClampNeg) (1 * (f_X2_allMonths sy sm p2)) ) q_X1_plusMonths gX2_go_X1_plusMonths ⟨rfl, rfl⟩ rfl rfl (Nat.le_of_ble_eq_true rfl) ⟨Nat.le_of_ble_eq_true rfl, Nat.le_of_ble_eq_true rfl⟩ ⟨Nat.le_of_ble_eq_true rfl, Nat.le_of_ble_eq_true rfl⟩ dX2_go_44 ?_
          refine z_lstore (lv' := [(6, .long (f_X1_plusMonths (d p1.toNatClampNeg) (1 * (f_X2_allMonths sy sm p2)))), (5, .int 1), (0, .ref (y 0)), (1, .int p1), (2, .int p2), (3, .int p3), (4, .int p4)]) C dX2_go_47 (by decide) rfl ?_
          refine z_aload_n C dX2_go_49 rfl 2 rfl ?_
          refine z_iload C dX2_go_50 6 rfl ?_
          refine z_lload C dX2_go_52 0 rfl ?_
          refine z_iload C dX2_go_54 1 rfl ?_
          refine z_aload_n C dX2_go_56 rfl 2 rfl ?_
          refine z_get (CC := RX2) (T := TX2) (N := 10) (ci := 2) C hin 0 rfl rfl 3 (by decide) w2 rfl rfl dX2_go_57 ?_
          refine z_iload_n C dX2_go_60 rfl 4 rfl ?_
          refine z_iald C 4 0 rfl rfl (vpS4 h2) dX2_go_61 ?_
          refine z_imul C dX2_go_62 ?_
          refine z_i2l (v := ((1 * (sd p2.toNatClampNeg))).toInt64) C dX2_go_63 rfl ?_
          refine z_ladd C dX2_go_64 ?_
          refine z_xwl (ws' := (wY cI cJ y (s_X2_keepDate_d d p4 ((f_X1_plusMonths (d p1.toNatClampNeg) (1 * (f_X2_allMonths sy sm p2))) + ((1 * (sd p2.toNatClampNeg))).toInt64)) sy sm sd mi ti sL bL mD mT X)) (rest := []) (ci := 2) (q0 := 0) C (c_X2_keepDate l hfl D cI cJ X y d sy sm sd mi ti sL bL mD mT p4 ((f_X1_plusMonths (d p1.toNatClampNeg) (1 * (f_X2_allMonths sy sm p2))) + ((1 * (sd p2.toNatClampNeg))).toInt64) (vpS6 h3)) q_X2_keepDate rfl rfl rfl gX2_go_X2_keepDate ⟨rfl, rfl⟩ rfl rfl (Nat.le_of_ble_eq_true rfl) ⟨Nat.le_of_ble_eq_true rfl, Nat.le_of_ble_eq_true rfl⟩ ⟨Nat.le_of_ble_eq_true rfl, Nat.le_of_ble_eq_true rfl⟩ dX2_go_65 (fun h10 => ?_) (fun E h10 h10_E => ?_)
          · exact z_lret C ⟨by rw [k_X2_go, if_pos h1, if_pos h2, if_pos h3, if_neg (by rw [h8]; decide : ¬ f_X2_go_j1 p3 = (-1)), if_pos h10], congrArg (fun v => some (Value.long v)) (by rw [f_X2_go, if_pos h1, if_pos h2, if_pos h3, if_neg (by rw [h8]; decide : ¬ f_X2_go_j1 p3 = (-1)), if_pos h10] : (f_X2_keepDate ((f_X1_plusMonths (d p1.toNatClampNeg) (1 * (f_X2_allMonths sy sm p2))) + ((1 * (sd p2.toNatClampNeg))).toInt64)) = (f_X2_go d sy sm sd p1 p2 p3 p4)), by rw [s_X2_go_d, if_pos h1, if_pos h2, if_pos h3, if_neg (by rw [h8]; decide : ¬ f_X2_go_j1 p3 = (-1)), if_pos h10]⟩ (by decide) (by decide) dX2_go_68
          · exact z_tout C hno ⟨rfl, by rw [k_X2_go, if_pos h1, if_pos h2, if_pos h3, if_neg (by rw [h8]; decide : ¬ f_X2_go_j1 p3 = (-1)), if_neg h10]; exact h10_E⟩ (by decide) (by decide)
        refine z_if_eq (tgt := 26) C dX2_go_19 (by decide) (fun h4 => ?_) (fun h4 => ?_)
        · refine z_iconst (v := 1) C dX2_go_26 (by decide) ?_
          exact K1_1 (by rw [f_X2_go_j1, if_pos h4]) h4
        · refine z_iconst (v := (-1)) C dX2_go_22 (by decide) ?_
          refine z_goto (tgt := 27) C dX2_go_23 (by decide) ?_
          exact K1_m1 (by rw [f_X2_go_j1, if_neg h4]) h4
      · exact z_tout C hno ⟨rfl, by rw [k_X2_go, if_pos h1, if_pos h2, if_neg h3]; exact h3_E⟩ (by decide) (by decide)
    · exact z_tout C hno ⟨rfl, by rw [k_X2_go, if_pos h1, if_neg h2]; exact h2_E⟩ (by decide) (by decide)
  · exact z_tout C hno ⟨rfl, by rw [k_X2_go, if_neg h1]; exact h1_E⟩ (by decide) (by decide)
def f_X2_spanPart (sy : Nat → Int32) (sm : Nat → Int32) (sd : Nat → Int32) (p1 : Int32) (p2 : Int32) : Int32 := (if k_X2_checkSlot p1 4 = 0 then (if p2 = 100 then (sd p1.toNatClampNeg) else (if p2 = 109 then (sm p1.toNatClampNeg) else (if p2 = 121 then (sy p1.toNatClampNeg) else 0))) else 0)
def k_X2_spanPart (p1 : Int32) (p2 : Int32) : Int32 := (if k_X2_checkSlot p1 4 = 0 then (if p2 = 100 then 0 else (if p2 = 109 then 0 else (if p2 = 121 then 0 else 2))) else k_X2_checkSlot p1 4)
theorem q_X2_spanPart : ZY yX2_spanPart wsX2_spanPart cX2_spanPart 3 (some .int) 2 := ⟨⟨_, rfl⟩, by decide +kernel, by decide +kernel, by decide +kernel⟩
set_option maxHeartbeats 4000000 in
set_option maxRecDepth 100000 in
theorem c_X2_spanPart (l : Launch) (hfl : l.stackTraces = false) (D : va_G) (cI cJ : ClassId) (X : va_W) (y : Nat → Nat) (d : Nat → Int64) (sy : Nat → Int32) (sm : Nat → Int32) (sd : Nat → Int32) (mi : Nat → Int32) (ti : Nat → Int64) (sL : Nat → Int64) (bL : Nat → Int64) (mD : Nat → Int64) (mT : Nat → Int64) (p1 : Int32) (p2 : Int32)  : ZM l yX2_spanPart wsX2_spanPart { frames := 7, cells := 2, slots := 12, locals := 103 } [.ref (y 0), .int p1, .int p2] D (zTys cI cJ) (wY cI cJ y d sy sm sd mi ti sL bL mD mT X) 2 12 (fun v w => k_X2_spanPart p1 p2 = 0 ∧ v = some (.int (f_X2_spanPart sy sm sd p1 p2)) ∧ w = (wY cI cJ y d sy sm sd mi ti sL bL mD mT X)) (fun E w => w = (wY cI cJ y d sy sm sd mi ti sL bL mD mT X) ∧ zEx E (k_X2_spanPart p1 p2)) := by
  refine z_open (own := RX2) hfl (cc := cX2_spanPart) (maxL := 3) (ret := (some .int)) (lv := [(0, .ref (y 0)), (1, .int p1), (2, .int p2)]) rfl (by decide) rfl rfl (Nat.le_of_ble_eq_true rfl) ?_
  intro p e s m args below meth c A C hno hnm hargs
  have hin : ∀ w ∈ wsX20, w ∈ wsX2_spanPart := by decide +kernel
  have w1 := C.1.2.2.2.2 (.fieldLink RX2 20 "Yearwheel" "spanDays" "[I") (by decide +kernel)
  have w2 := C.1.2.2.2.2 (.fieldLink RX2 17 "Yearwheel" "spanMonths" "[I") (by decide +kernel)
  have w3 := C.1.2.2.2.2 (.fieldLink RX2 13 "Yearwheel" "spanYears" "[I") (by decide +kernel)
  have w4 := C.1.2.2.2.2 (.classLink RX2 101 "java/lang/IllegalArgumentException") (by decide +kernel)
  have w5 := C.1.2.2.2.2 (.initialized "java/lang/IllegalArgumentException") (by decide +kernel)
  refine z_iload_n C dX2_spanPart_0 rfl 1 rfl ?_
  refine z_iconst (v := 4) C dX2_spanPart_1 (by decide) ?_
  refine z_xsv (rest := []) C (c_X2_checkSlot l hfl D cI cJ _ p1 (4 : Int32) ) q_X2_checkSlot gX2_spanPart_X2_checkSlot ⟨rfl, rfl⟩ rfl rfl (Nat.le_of_ble_eq_true rfl) ⟨Nat.le_of_ble_eq_true rfl, Nat.le_of_ble_eq_true rfl⟩ ⟨Nat.le_of_ble_eq_true rfl, Nat.le_of_ble_eq_true rfl⟩ dX2_spanPart_2 (fun h1 => ?_) (fun E h1 h1_E => ?_)
  · refine z_iload_n C dX2_spanPart_5 rfl 2 rfl ?_
    refine zcases (p2 = 100) (fun h2 => ?_) (fun h2 => ?_)
    · refine z_lookup (off := 48) (tgt := 54) C dX2_spanPart_6 (by decide) (by rw [h2]; decide) (by decide) ?_
      refine z_aload_n C dX2_spanPart_54 rfl 0 rfl ?_
      refine z_get (CC := RX2) (T := TX2) (N := 10) (ci := 2) C hin 0 rfl rfl 3 (by decide) w1 rfl rfl dX2_spanPart_55 ?_
      refine z_iload_n C dX2_spanPart_58 rfl 1 rfl ?_
      refine z_iald C 4 0 rfl rfl (vpS4 h1) dX2_spanPart_59 ?_
      exact z_iret C ⟨by rw [k_X2_spanPart, if_pos h1, if_pos h2], congrArg (fun v => some (Value.int v)) (by rw [f_X2_spanPart, if_pos h1, if_pos h2] : (sd p1.toNatClampNeg) = (f_X2_spanPart sy sm sd p1 p2)), rfl⟩ (by decide) (by decide) dX2_spanPart_60
    · refine zcases (p2 = 109) (fun h3 => ?_) (fun h3 => ?_)
      · refine z_lookup (off := 41) (tgt := 47) C dX2_spanPart_6 (by decide) (by rw [h3]; decide) (by decide) ?_
        refine z_aload_n C dX2_spanPart_47 rfl 0 rfl ?_
        refine z_get (CC := RX2) (T := TX2) (N := 10) (ci := 2) C hin 0 rfl rfl 2 (by decide) w2 rfl rfl dX2_spanPart_48 ?_
        refine z_iload_n C dX2_spanPart_51 rfl 1 rfl ?_
        refine z_iald C 3 0 rfl rfl (vpS4 h1) dX2_spanPart_52 ?_
        exact z_iret C ⟨by rw [k_X2_spanPart, if_pos h1, if_neg h2, if_pos h3], congrArg (fun v => some (Value.int v)) (by rw [f_X2_spanPart, if_pos h1, if_neg h2, if_pos h3] : (sm p1.toNatClampNeg) = (f_X2_spanPart sy sm sd p1 p2)), rfl⟩ (by decide) (by decide) dX2_spanPart_53
      · refine zcases (p2 = 121) (fun h4 => ?_) (fun h4 => ?_)
        · refine z_lookup (off := 34) (tgt := 40) C dX2_spanPart_6 (by decide) (by rw [h4]; decide) (by decide) ?_
          refine z_aload_n C dX2_spanPart_40 rfl 0 rfl ?_
          refine z_get (CC := RX2) (T := TX2) (N := 10) (ci := 2) C hin 0 rfl rfl 1 (by decide) w3 rfl rfl dX2_spanPart_41 ?_
          refine z_iload_n C dX2_spanPart_44 rfl 1 rfl ?_
          refine z_iald C 2 0 rfl rfl (vpS4 h1) dX2_spanPart_45 ?_
          exact z_iret C ⟨by rw [k_X2_spanPart, if_pos h1, if_neg h2, if_neg h3, if_pos h4], congrArg (fun v => some (Value.int v)) (by rw [f_X2_spanPart, if_pos h1, if_neg h2, if_neg h3, if_pos h4] : (sy p1.toNatClampNeg) = (f_X2_spanPart sy sm sd p1 p2)), rfl⟩ (by decide) (by decide) dX2_spanPart_46
        · refine z_lookup (off := 55) (tgt := 61) C dX2_spanPart_6 (by decide) (zlk3 h2 h3 h4) (by decide) ?_
          obtain ⟨sa, hsa⟩ := C.2.2.2.2.2.1.1 (171, _) (List.mem_of_getElem? (i := 5) rfl)
          exact z_throwS C hno (cls := "java/lang/IllegalArgumentException") (names := ["java/lang/RuntimeException", "java/lang/Exception"]) (by decide +kernel) (by decide +kernel) w4 w5 hsa (z_hat RX2 105 "java/lang/IllegalArgumentException" ["java/lang/RuntimeException", "java/lang/Exception"] zg_105 (fun w hw => C.1.2.2.2.2 w ((by decide +kernel : ∀ w ∈ (vx_atS RX2 105 "java/lang/IllegalArgumentException" ["java/lang/RuntimeException", "java/lang/Exception"]).filter goodWord, w ∈ wsX2_spanPart) w hw)) C.2.2.2.2.2.1 (by decide : "java/lang/IllegalArgumentException" ∈ zCs)) zo_105 dX2_spanPart_61 dX2_spanPart_64 dX2_spanPart_65 dX2_spanPart_67 dX2_spanPart_70 (by decide) (Nat.le_of_ble_eq_true rfl) (Nat.le_of_ble_eq_true rfl) (Nat.le_of_ble_eq_true rfl) (Nat.le_of_ble_eq_true rfl) (Nat.le_of_ble_eq_true rfl) ⟨rfl, by rw [k_X2_spanPart, if_pos h1, if_neg h2, if_neg h3, if_neg h4]; exact zEx2⟩
  · exact z_tout C hno ⟨rfl, by rw [k_X2_spanPart, if_neg h1]; exact h1_E⟩ (by decide) (by decide)
def f_X2_addSpan_j1 (p3 : Int32) : Int64 := (if p3 = 0 then 1 else (-1))
def f_X2_addSpan (sy : Nat → Int32) (sm : Nat → Int32) (sd : Nat → Int32) (p1 : Int32) (p2 : Int32) (p3 : Int32) (p4 : Int32) : Int64 := (if k_X2_checkSlot p1 4 = 0 then (if k_X2_checkSlot p2 4 = 0 then (if k_X2_checkSlot p4 4 = 0 then (if f_X2_addSpan_j1 p3 = (-1) then (if k_X2_keepSpan (((sy p1.toNatClampNeg)).toInt64 + ((-1) * ((sy p2.toNatClampNeg)).toInt64)) (((sm p1.toNatClampNeg)).toInt64 + ((-1) * ((sm p2.toNatClampNeg)).toInt64)) (((sd p1.toNatClampNeg)).toInt64 + ((-1) * ((sd p2.toNatClampNeg)).toInt64)) = 0 then (f_X2_keepSpan sy sm p4 (((sy p1.toNatClampNeg)).toInt64 + ((-1) * ((sy p2.toNatClampNeg)).toInt64)) (((sm p1.toNatClampNeg)).toInt64 + ((-1) * ((sm p2.toNatClampNeg)).toInt64)) (((sd p1.toNatClampNeg)).toInt64 + ((-1) * ((sd p2.toNatClampNeg)).toInt64))) else 0) else (if k_X2_keepSpan (((sy p1.toNatClampNeg)).toInt64 + (1 * ((sy p2.toNatClampNeg)).toInt64)) (((sm p1.toNatClampNeg)).toInt64 + (1 * ((sm p2.toNatClampNeg)).toInt64)) (((sd p1.toNatClampNeg)).toInt64 + (1 * ((sd p2.toNatClampNeg)).toInt64)) = 0 then (f_X2_keepSpan sy sm p4 (((sy p1.toNatClampNeg)).toInt64 + (1 * ((sy p2.toNatClampNeg)).toInt64)) (((sm p1.toNatClampNeg)).toInt64 + (1 * ((sm p2.toNatClampNeg)).toInt64)) (((sd p1.toNatClampNeg)).toInt64 + (1 * ((sd p2.toNatClampNeg)).toInt64))) else 0)) else 0) else 0) else 0)
def s_X2_addSpan_sy (sy : Nat → Int32) (sm : Nat → Int32) (sd : Nat → Int32) (p1 : Int32) (p2 : Int32) (p3 : Int32) (p4 : Int32) : Nat → Int32 := (if k_X2_checkSlot p1 4 = 0 then (if k_X2_checkSlot p2 4 = 0 then (if k_X2_checkSlot p4 4 = 0 then (if f_X2_addSpan_j1 p3 = (-1) then (if k_X2_keepSpan (((sy p1.toNatClampNeg)).toInt64 + ((-1) * ((sy p2.toNatClampNeg)).toInt64)) (((sm p1.toNatClampNeg)).toInt64 + ((-1) * ((sm p2.toNatClampNeg)).toInt64)) (((sd p1.toNatClampNeg)).toInt64 + ((-1) * ((sd p2.toNatClampNeg)).toInt64)) = 0 then (s_X2_keepSpan_sy sy p4 (((sy p1.toNatClampNeg)).toInt64 + ((-1) * ((sy p2.toNatClampNeg)).toInt64)) (((sm p1.toNatClampNeg)).toInt64 + ((-1) * ((sm p2.toNatClampNeg)).toInt64)) (((sd p1.toNatClampNeg)).toInt64 + ((-1) * ((sd p2.toNatClampNeg)).toInt64))) else sy) else (if k_X2_keepSpan (((sy p1.toNatClampNeg)).toInt64 + (1 * ((sy p2.toNatClampNeg)).toInt64)) (((sm p1.toNatClampNeg)).toInt64 + (1 * ((sm p2.toNatClampNeg)).toInt64)) (((sd p1.toNatClampNeg)).toInt64 + (1 * ((sd p2.toNatClampNeg)).toInt64)) = 0 then (s_X2_keepSpan_sy sy p4 (((sy p1.toNatClampNeg)).toInt64 + (1 * ((sy p2.toNatClampNeg)).toInt64)) (((sm p1.toNatClampNeg)).toInt64 + (1 * ((sm p2.toNatClampNeg)).toInt64)) (((sd p1.toNatClampNeg)).toInt64 + (1 * ((sd p2.toNatClampNeg)).toInt64))) else sy)) else sy) else sy) else sy)
def s_X2_addSpan_sm (sy : Nat → Int32) (sm : Nat → Int32) (sd : Nat → Int32) (p1 : Int32) (p2 : Int32) (p3 : Int32) (p4 : Int32) : Nat → Int32 := (if k_X2_checkSlot p1 4 = 0 then (if k_X2_checkSlot p2 4 = 0 then (if k_X2_checkSlot p4 4 = 0 then (if f_X2_addSpan_j1 p3 = (-1) then (if k_X2_keepSpan (((sy p1.toNatClampNeg)).toInt64 + ((-1) * ((sy p2.toNatClampNeg)).toInt64)) (((sm p1.toNatClampNeg)).toInt64 + ((-1) * ((sm p2.toNatClampNeg)).toInt64)) (((sd p1.toNatClampNeg)).toInt64 + ((-1) * ((sd p2.toNatClampNeg)).toInt64)) = 0 then (s_X2_keepSpan_sm sm p4 (((sy p1.toNatClampNeg)).toInt64 + ((-1) * ((sy p2.toNatClampNeg)).toInt64)) (((sm p1.toNatClampNeg)).toInt64 + ((-1) * ((sm p2.toNatClampNeg)).toInt64)) (((sd p1.toNatClampNeg)).toInt64 + ((-1) * ((sd p2.toNatClampNeg)).toInt64))) else sm) else (if k_X2_keepSpan (((sy p1.toNatClampNeg)).toInt64 + (1 * ((sy p2.toNatClampNeg)).toInt64)) (((sm p1.toNatClampNeg)).toInt64 + (1 * ((sm p2.toNatClampNeg)).toInt64)) (((sd p1.toNatClampNeg)).toInt64 + (1 * ((sd p2.toNatClampNeg)).toInt64)) = 0 then (s_X2_keepSpan_sm sm p4 (((sy p1.toNatClampNeg)).toInt64 + (1 * ((sy p2.toNatClampNeg)).toInt64)) (((sm p1.toNatClampNeg)).toInt64 + (1 * ((sm p2.toNatClampNeg)).toInt64)) (((sd p1.toNatClampNeg)).toInt64 + (1 * ((sd p2.toNatClampNeg)).toInt64))) else sm)) else sm) else sm) else sm)
def s_X2_addSpan_sd (sy : Nat → Int32) (sm : Nat → Int32) (sd : Nat → Int32) (p1 : Int32) (p2 : Int32) (p3 : Int32) (p4 : Int32) : Nat → Int32 := (if k_X2_checkSlot p1 4 = 0 then (if k_X2_checkSlot p2 4 = 0 then (if k_X2_checkSlot p4 4 = 0 then (if f_X2_addSpan_j1 p3 = (-1) then (if k_X2_keepSpan (((sy p1.toNatClampNeg)).toInt64 + ((-1) * ((sy p2.toNatClampNeg)).toInt64)) (((sm p1.toNatClampNeg)).toInt64 + ((-1) * ((sm p2.toNatClampNeg)).toInt64)) (((sd p1.toNatClampNeg)).toInt64 + ((-1) * ((sd p2.toNatClampNeg)).toInt64)) = 0 then (s_X2_keepSpan_sd sd p4 (((sy p1.toNatClampNeg)).toInt64 + ((-1) * ((sy p2.toNatClampNeg)).toInt64)) (((sm p1.toNatClampNeg)).toInt64 + ((-1) * ((sm p2.toNatClampNeg)).toInt64)) (((sd p1.toNatClampNeg)).toInt64 + ((-1) * ((sd p2.toNatClampNeg)).toInt64))) else sd) else (if k_X2_keepSpan (((sy p1.toNatClampNeg)).toInt64 + (1 * ((sy p2.toNatClampNeg)).toInt64)) (((sm p1.toNatClampNeg)).toInt64 + (1 * ((sm p2.toNatClampNeg)).toInt64)) (((sd p1.toNatClampNeg)).toInt64 + (1 * ((sd p2.toNatClampNeg)).toInt64)) = 0 then (s_X2_keepSpan_sd sd p4 (((sy p1.toNatClampNeg)).toInt64 + (1 * ((sy p2.toNatClampNeg)).toInt64)) (((sm p1.toNatClampNeg)).toInt64 + (1 * ((sm p2.toNatClampNeg)).toInt64)) (((sd p1.toNatClampNeg)).toInt64 + (1 * ((sd p2.toNatClampNeg)).toInt64))) else sd)) else sd) else sd) else sd)
def k_X2_addSpan (sy : Nat → Int32) (sm : Nat → Int32) (sd : Nat → Int32) (p1 : Int32) (p2 : Int32) (p3 : Int32) (p4 : Int32) : Int32 := (if k_X2_checkSlot p1 4 = 0 then (if k_X2_checkSlot p2 4 = 0 then (if k_X2_checkSlot p4 4 = 0 then (if f_X2_addSpan_j1 p3 = (-1) then (if k_X2_keepSpan (((sy p1.toNatClampNeg)).toInt64 + ((-1) * ((sy p2.toNatClampNeg)).toInt64)) (((sm p1.toNatClampNeg)).toInt64 + ((-1) * ((sm p2.toNatClampNeg)).toInt64)) (((sd p1.toNatClampNeg)).toInt64 + ((-1) * ((sd p2.toNatClampNeg)).toInt64)) = 0 then 0 else k_X2_keepSpan (((sy p1.toNatClampNeg)).toInt64 + ((-1) * ((sy p2.toNatClampNeg)).toInt64)) (((sm p1.toNatClampNeg)).toInt64 + ((-1) * ((sm p2.toNatClampNeg)).toInt64)) (((sd p1.toNatClampNeg)).toInt64 + ((-1) * ((sd p2.toNatClampNeg)).toInt64))) else (if k_X2_keepSpan (((sy p1.toNatClampNeg)).toInt64 + (1 * ((sy p2.toNatClampNeg)).toInt64)) (((sm p1.toNatClampNeg)).toInt64 + (1 * ((sm p2.toNatClampNeg)).toInt64)) (((sd p1.toNatClampNeg)).toInt64 + (1 * ((sd p2.toNatClampNeg)).toInt64)) = 0 then 0 else k_X2_keepSpan (((sy p1.toNatClampNeg)).toInt64 + (1 * ((sy p2.toNatClampNeg)).toInt64)) (((sm p1.toNatClampNeg)).toInt64 + (1 * ((sm p2.toNatClampNeg)).toInt64)) (((sd p1.toNatClampNeg)).toInt64 + (1 * ((sd p2.toNatClampNeg)).toInt64)))) else k_X2_checkSlot p4 4) else k_X2_checkSlot p2 4) else k_X2_checkSlot p1 4)
theorem q_X2_addSpan : ZY yX2_addSpan wsX2_addSpan cX2_addSpan 13 (some .long) 4 := ⟨⟨_, rfl⟩, by decide +kernel, by decide +kernel, by decide +kernel⟩
set_option maxHeartbeats 4000000 in
set_option maxRecDepth 100000 in
theorem c_X2_addSpan (l : Launch) (hfl : l.stackTraces = false) (D : va_G) (cI cJ : ClassId) (X : va_W) (y : Nat → Nat) (d : Nat → Int64) (sy : Nat → Int32) (sm : Nat → Int32) (sd : Nat → Int32) (mi : Nat → Int32) (ti : Nat → Int64) (sL : Nat → Int64) (bL : Nat → Int64) (mD : Nat → Int64) (mT : Nat → Int64) (p1 : Int32) (p2 : Int32) (p3 : Int32) (p4 : Int32)  : ZM l yX2_addSpan wsX2_addSpan { frames := 8, cells := 4, slots := 24, locals := 129 } [.ref (y 0), .int p1, .int p2, .int p3, .int p4] D (zTys cI cJ) (wY cI cJ y d sy sm sd mi ti sL bL mD mT X) 4 24 (fun v w => k_X2_addSpan sy sm sd p1 p2 p3 p4 = 0 ∧ v = some (.long (f_X2_addSpan sy sm sd p1 p2 p3 p4)) ∧ w = (wY cI cJ y d (s_X2_addSpan_sy sy sm sd p1 p2 p3 p4) (s_X2_addSpan_sm sy sm sd p1 p2 p3 p4) (s_X2_addSpan_sd sy sm sd p1 p2 p3 p4) mi ti sL bL mD mT X)) (fun E w => w = (wY cI cJ y d sy sm sd mi ti sL bL mD mT X) ∧ zEx E (k_X2_addSpan sy sm sd p1 p2 p3 p4)) := by
  refine z_open (own := RX2) hfl (cc := cX2_addSpan) (maxL := 13) (ret := (some .long)) (lv := [(0, .ref (y 0)), (1, .int p1), (2, .int p2), (3, .int p3), (4, .int p4)]) rfl (by decide) rfl rfl (Nat.le_of_ble_eq_true rfl) ?_
  intro p e s m args below meth c A C hno hnm hargs
  have hin : ∀ w ∈ wsX20, w ∈ wsX2_addSpan := by decide +kernel
  have w1 := C.1.2.2.2.2 (.constantLong RX2 173 (-1)) (by decide +kernel)
  have w2 := C.1.2.2.2.2 (.fieldLink RX2 13 "Yearwheel" "spanYears" "[I") (by decide +kernel)
  have w3 := C.1.2.2.2.2 (.fieldLink RX2 17 "Yearwheel" "spanMonths" "[I") (by decide +kernel)
  have w4 := C.1.2.2.2.2 (.fieldLink RX2 20 "Yearwheel" "spanDays" "[I") (by decide +kernel)
  refine z_iload_n C dX2_addSpan_0 rfl 1 rfl ?_
  refine z_iconst (v := 4) C dX2_addSpan_1 (by decide) ?_
  refine z_xsv (rest := []) C (c_X2_checkSlot l hfl D cI cJ _ p1 (4 : Int32) ) q_X2_checkSlot gX2_addSpan_X2_checkSlot ⟨rfl, rfl⟩ rfl rfl (Nat.le_of_ble_eq_true rfl) ⟨Nat.le_of_ble_eq_true rfl, Nat.le_of_ble_eq_true rfl⟩ ⟨Nat.le_of_ble_eq_true rfl, Nat.le_of_ble_eq_true rfl⟩ dX2_addSpan_2 (fun h1 => ?_) (fun E h1 h1_E => ?_)
  · refine z_iload_n C dX2_addSpan_5 rfl 2 rfl ?_
    refine z_iconst (v := 4) C dX2_addSpan_6 (by decide) ?_
    refine z_xsv (rest := []) C (c_X2_checkSlot l hfl D cI cJ _ p2 (4 : Int32) ) q_X2_checkSlot gX2_addSpan_X2_checkSlot ⟨rfl, rfl⟩ rfl rfl (Nat.le_of_ble_eq_true rfl) ⟨Nat.le_of_ble_eq_true rfl, Nat.le_of_ble_eq_true rfl⟩ ⟨Nat.le_of_ble_eq_true rfl, Nat.le_of_ble_eq_true rfl⟩ dX2_addSpan_7 (fun h2 => ?_) (fun E h2 h2_E => ?_)
    · refine z_iload C dX2_addSpan_10 4 rfl ?_
      refine z_iconst (v := 4) C dX2_addSpan_12 (by decide) ?_
      refine z_xsv (rest := []) C (c_X2_checkSlot l hfl D cI cJ _ p4 (4 : Int32) ) q_X2_checkSlot gX2_addSpan_X2_checkSlot ⟨rfl, rfl⟩ rfl rfl (Nat.le_of_ble_eq_true rfl) ⟨Nat.le_of_ble_eq_true rfl, Nat.le_of_ble_eq_true rfl⟩ ⟨Nat.le_of_ble_eq_true rfl, Nat.le_of_ble_eq_true rfl⟩ dX2_addSpan_13 (fun h3 => ?_) (fun E h3 h3_E => ?_)
      · refine z_iload_n C dX2_addSpan_16 rfl 3 rfl ?_
        have K1_m1 : f_X2_addSpan_j1 p3 = (-1) → (¬ p3 = 0) → ZW p l e { frames := 8, cells := 4, slots := 24, locals := 129 } s m args below meth c 13 D (zTys cI cJ) A (zE D (zTys cI cJ) A below args s (fun v w => k_X2_addSpan sy sm sd p1 p2 p3 p4 = 0 ∧ v = some (.long (f_X2_addSpan sy sm sd p1 p2 p3 p4)) ∧ w = (wY cI cJ y d (s_X2_addSpan_sy sy sm sd p1 p2 p3 p4) (s_X2_addSpan_sm sy sm sd p1 p2 p3 p4) (s_X2_addSpan_sd sy sm sd p1 p2 p3 p4) mi ti sL bL mD mT X)) (fun E w => w = (wY cI cJ y d sy sm sd mi ti sL bL mD mT X) ∧ zEx E (k_X2_addSpan sy sm sd p1 p2 p3 p4)) 4 24) 3 18 (wY cI cJ y d sy sm sd mi ti sL bL mD mT X) 27 [(0, .ref (y 0)), (1, .int p1), (2, .int p2), (3, .int p3), (4, .int p4)] [.long (-1)] := by
          intro h5 h6
          refine z_lstore (lv' := [(5, .long (-1)), (0, .ref (y 0)), (1, .int p1), (2, .int p2), (3, .int p3), (4, .int p4)]) C dX2_addSpan_27 (by decide) rfl ?_
          refine z_aload_n C dX2_addSpan_29 rfl 1 rfl ?_
          refine z_get (CC := RX2) (T := TX2) (N := 10) (ci := 2) C hin 0 rfl rfl 1 (by decide) w2 rfl rfl dX2_addSpan_30 ?_
          refine z_iload_n C dX2_addSpan_33 rfl 2 rfl ?_
          refine z_iald C 2 0 rfl rfl (vpS4 h1) dX2_addSpan_34 ?_
          refine z_i2l (v := ((sy p1.toNatClampNeg)).toInt64) C dX2_addSpan_35 rfl ?_
          refine z_lload C dX2_addSpan_36 0 rfl ?_
          refine z_aload_n C dX2_addSpan_38 rfl 1 rfl ?_
          refine z_get (CC := RX2) (T := TX2) (N := 10) (ci := 2) C hin 0 rfl rfl 1 (by decide) w2 rfl rfl dX2_addSpan_39 ?_
          refine z_iload_n C dX2_addSpan_42 rfl 3 rfl ?_
          refine z_iald C 2 0 rfl rfl (vpS4 h2) dX2_addSpan_43 ?_
          refine z_i2l (v := ((sy p2.toNatClampNeg)).toInt64) C dX2_addSpan_44 rfl ?_
          refine z_lmul C dX2_addSpan_45 ?_
          refine z_ladd C dX2_addSpan_46 ?_
          refine z_lstore (lv' := [(7, .long (((sy p1.toNatClampNeg)).toInt64 + ((-1) * ((sy p2.toNatClampNeg)).toInt64))), (5, .long (-1)), (0, .ref (y 0)), (1, .int p1), (2, .int p2), (3, .int p3), (4, .int p4)]) C dX2_addSpan_47 (by decide) rfl ?_
          refine z_aload_n C dX2_addSpan_49 rfl 2 rfl ?_
          refine z_get (CC := RX2) (T := TX2) (N := 10) (ci := 2) C hin 0 rfl rfl 2 (by decide) w3 rfl rfl dX2_addSpan_50 ?_
          refine z_iload_n C dX2_addSpan_53 rfl 3 rfl ?_
          refine z_iald C 3 0 rfl rfl (vpS4 h1) dX2_addSpan_54 ?_
          refine z_i2l (v := ((sm p1.toNatClampNeg)).toInt64) C dX2_addSpan_55 rfl ?_
          refine z_lload C dX2_addSpan_56 1 rfl ?_
          refine z_aload_n C dX2_addSpan_58 rfl 2 rfl ?_
          refine z_get (CC := RX2) (T := TX2) (N := 10) (ci := 2) C hin 0 rfl rfl 2 (by decide) w3 rfl rfl dX2_addSpan_59 ?_
          refine z_iload_n C dX2_addSpan_62 rfl 4 rfl ?_
          refine z_iald C 3 0 rfl rfl (vpS4 h2) dX2_addSpan_63 ?_
          refine z_i2l (v := ((sm p2.toNatClampNeg)).toInt64) C dX2_addSpan_64 rfl ?_
          refine z_lmul C dX2_addSpan_65 ?_
          refine z_ladd C dX2_addSpan_66 ?_
          refine z_lstore (lv' := [(9, .long (((sm p1.toNatClampNeg)).toInt64 + ((-1) * ((sm p2.toNatClampNeg)).toInt64))), (7, .long (((sy p1.toNatClampNeg)).toInt64 + ((-1) * ((sy p2.toNatClampNeg)).toInt64))), (5, .long (-1)), (0, .ref (y 0)), (1, .int p1), (2, .int p2), (3, .int p3), (4, .int p4)]) C dX2_addSpan_67 (by decide) rfl ?_
          refine z_aload_n C dX2_addSpan_69 rfl 3 rfl ?_
          refine z_get (CC := RX2) (T := TX2) (N := 10) (ci := 2) C hin 0 rfl rfl 3 (by decide) w4 rfl rfl dX2_addSpan_70 ?_
          refine z_iload_n C dX2_addSpan_73 rfl 4 rfl ?_
          refine z_iald C 4 0 rfl rfl (vpS4 h1) dX2_addSpan_74 ?_
          refine z_i2l (v := ((sd p1.toNatClampNeg)).toInt64) C dX2_addSpan_75 rfl ?_
          refine z_lload C dX2_addSpan_76 2 rfl ?_
          refine z_aload_n C dX2_addSpan_78 rfl 3 rfl ?_
          refine z_get (CC := RX2) (T := TX2) (N := 10) (ci := 2) C hin 0 rfl rfl 3 (by decide) w4 rfl rfl dX2_addSpan_79 ?_
          refine z_iload_n C dX2_addSpan_82 rfl 5 rfl ?_
          refine z_iald C 4 0 rfl rfl (vpS4 h2) dX2_addSpan_83 ?_
          refine z_i2l (v := ((sd p2.toNatClampNeg)).toInt64) C dX2_addSpan_84 rfl ?_
          refine z_lmul C dX2_addSpan_85 ?_
          refine z_ladd C dX2_addSpan_86 ?_
          refine z_lstore (lv' := [(11, .long (((sd p1.toNatClampNeg)).toInt64 + ((-1) * ((sd p2.toNatClampNeg)).toInt64))), (9, .long (((sm p1.toNatClampNeg)).toInt64 + ((-1) * ((sm p2.toNatClampNeg)).toInt64))), (7, .long (((sy p1.toNatClampNeg)).toInt64 + ((-1) * ((sy p2.toNatClampNeg)).toInt64))), (5, .long (-1)), (0, .ref (y 0)), (1, .int p1), (2, .int p2), (3, .int p3), (4, .int p4)]) C dX2_addSpan_87 (by decide) rfl ?_
          refine z_aload_n C dX2_addSpan_89 rfl 4 rfl ?_
          refine z_iload C dX2_addSpan_90 8 rfl ?_
          refine z_lload C dX2_addSpan_92 2 rfl ?_
          refine z_lload C dX2_addSpan_94 1 rfl ?_
          refine z_lload C dX2_addSpan_96 0 rfl ?_
          refine z_xwl (ws' := (wY cI cJ y d (s_X2_keepSpan_sy sy p4 (((sy p1.toNatClampNeg)).toInt64 + ((-1) * ((sy p2.toNatClampNeg)).toInt64)) (((sm p1.toNatClampNeg)).toInt64 + ((-1) * ((sm p2.toNatClampNeg)).toInt64)) (((sd p1.toNatClampNeg)).toInt64 + ((-1) * ((sd p2.toNatClampNeg)).toInt64))) (s_X2_keepSpan_sm sm p4 (((sy p1.toNatClampNeg)).toInt64 + ((-1) * ((sy p2.toNatClampNeg)).toInt64)) (((sm p1.toNatClampNeg)).toInt64 + ((-1) * ((sm p2.toNatClampNeg)).toInt64)) (((sd p1.toNatClampNeg)).toInt64 + ((-1) * ((sd p2.toNatClampNeg)).toInt64))) (s_X2_keepSpan_sd sd p4 (((sy p1.toNatClampNeg)).toInt64 + ((-1) * ((sy p2.toNatClampNeg)).toInt64)) (((sm p1.toNatClampNeg)).toInt64 + ((-1) * ((sm p2.toNatClampNeg)).toInt64)) (((sd p1.toNatClampNeg)).toInt64 + ((-1) * ((sd p2.toNatClampNeg)).toInt64))) mi ti sL bL mD mT X)) (rest := []) (ci := 2) (q0 := 0) C (c_X2_keepSpan l hfl D cI cJ X y d sy sm sd mi ti sL bL mD mT p4 (((sy p1.toNatClampNeg)).toInt64 + ((-1) * ((sy p2.toNatClampNeg)).toInt64)) (((sm p1.toNatClampNeg)).toInt64 + ((-1) * ((sm p2.toNatClampNeg)).toInt64)) (((sd p1.toNatClampNeg)).toInt64 + ((-1) * ((sd p2.toNatClampNeg)).toInt64)) (vpS4 h3)) q_X2_keepSpan rfl rfl rfl gX2_addSpan_X2_keepSpan ⟨rfl, rfl⟩ rfl rfl (Nat.le_of_ble_eq_true rfl) ⟨Nat.le_of_ble_eq_true rfl, Nat.le_of_ble_eq_true rfl⟩ ⟨Nat.le_of_ble_eq_true rfl, Nat.le_of_ble_eq_true rfl⟩ dX2_addSpan_98 (fun h7 => ?_) (fun E h7 h7_E => ?_)
          · exact z_lret C ⟨by rw [k_X2_addSpan, if_pos h1, if_pos h2, if_pos h3, if_pos h5, if_pos h7], congrArg (fun v => some (Value.long v)) (by rw [f_X2_addSpan, if_pos h1, if_pos h2, if_pos h3, if_pos h5, if_pos h7] : (f_X2_keepSpan sy sm p4 (((sy p1.toNatClampNeg)).toInt64 + ((-1) * ((sy p2.toNatClampNeg)).toInt64)) (((sm p1.toNatClampNeg)).toInt64 + ((-1) * ((sm p2.toNatClampNeg)).toInt64)) (((sd p1.toNatClampNeg)).toInt64 + ((-1) * ((sd p2.toNatClampNeg)).toInt64))) = (f_X2_addSpan sy sm sd p1 p2 p3 p4)), by rw [s_X2_addSpan_sy, if_pos h1, if_pos h2, if_pos h3, if_pos h5, if_pos h7, s_X2_addSpan_sm, if_pos h1, if_pos h2, if_pos h3, if_pos h5, if_pos h7, s_X2_addSpan_sd, if_pos h1, if_pos h2, if_pos h3, if_pos h5, if_pos h7]⟩ (by decide) (by decide) dX2_addSpan_101
          · exact z_tout C hno ⟨rfl, by rw [k_X2_addSpan, if_pos h1, if_pos h2, if_pos h3, if_pos h5, if_neg h7]; exact h7_E⟩ (by decide) (by decide)
        have K1_1 : f_X2_addSpan_j1 p3 = 1 → (p3 = 0) → ZW p l e { frames := 8, cells := 4, slots := 24, locals := 129 } s m args below meth c 13 D (zTys cI cJ) A (zE D (zTys cI cJ) A below args s (fun v w => k_X2_addSpan sy sm sd p1 p2 p3 p4 = 0 ∧ v = some (.long (f_X2_addSpan sy sm sd p1 p2 p3 p4)) ∧ w = (wY cI cJ y d (s_X2_addSpan_sy sy sm sd p1 p2 p3 p4) (s_X2_addSpan_sm sy sm sd p1 p2 p3 p4) (s_X2_addSpan_sd sy sm sd p1 p2 p3 p4) mi ti sL bL mD mT X)) (fun E w => w = (wY cI cJ y d sy sm sd mi ti sL bL mD mT X) ∧ zEx E (k_X2_addSpan sy sm sd p1 p2 p3 p4)) 4 24) 3 18 (wY cI cJ y d sy sm sd mi ti sL bL mD mT X) 27 [(0, .ref (y 0)), (1, .int p1), (2, .int p2), (3, .int p3), (4, .int p4)] [.long 1] := by
          intro h8 h9
          refine z_lstore (lv' := [(5, .long 1), (0, .ref (y 0)), (1, .int p1), (2, .int p2), (3, .int p3), (4, .int p4)]) C dX2_addSpan_27 (by decide) rfl ?_
          refine z_aload_n C dX2_addSpan_29 rfl 1 rfl ?_
          refine z_get (CC := RX2) (T := TX2) (N := 10) (ci := 2) C hin 0 rfl rfl 1 (by decide) w2 rfl rfl dX2_addSpan_30 ?_
          refine z_iload_n C dX2_addSpan_33 rfl 2 rfl ?_
          refine z_iald C 2 0 rfl rfl (vpS4 h1) dX2_addSpan_34 ?_
          refine z_i2l (v := ((sy p1.toNatClampNeg)).toInt64) C dX2_addSpan_35 rfl ?_
          refine z_lload C dX2_addSpan_36 0 rfl ?_
          refine z_aload_n C dX2_addSpan_38 rfl 1 rfl ?_
          refine z_get (CC := RX2) (T := TX2) (N := 10) (ci := 2) C hin 0 rfl rfl 1 (by decide) w2 rfl rfl dX2_addSpan_39 ?_
          refine z_iload_n C dX2_addSpan_42 rfl 3 rfl ?_
          refine z_iald C 2 0 rfl rfl (vpS4 h2) dX2_addSpan_43 ?_
          refine z_i2l (v := ((sy p2.toNatClampNeg)).toInt64) C dX2_addSpan_44 rfl ?_
          refine z_lmul C dX2_addSpan_45 ?_
          refine z_ladd C dX2_addSpan_46 ?_
          refine z_lstore (lv' := [(7, .long (((sy p1.toNatClampNeg)).toInt64 + (1 * ((sy p2.toNatClampNeg)).toInt64))), (5, .long 1), (0, .ref (y 0)), (1, .int p1), (2, .int p2), (3, .int p3), (4, .int p4)]) C dX2_addSpan_47 (by decide) rfl ?_
          refine z_aload_n C dX2_addSpan_49 rfl 2 rfl ?_
          refine z_get (CC := RX2) (T := TX2) (N := 10) (ci := 2) C hin 0 rfl rfl 2 (by decide) w3 rfl rfl dX2_addSpan_50 ?_
          refine z_iload_n C dX2_addSpan_53 rfl 3 rfl ?_
          refine z_iald C 3 0 rfl rfl (vpS4 h1) dX2_addSpan_54 ?_
          refine z_i2l (v := ((sm p1.toNatClampNeg)).toInt64) C dX2_addSpan_55 rfl ?_
          refine z_lload C dX2_addSpan_56 1 rfl ?_
          refine z_aload_n C dX2_addSpan_58 rfl 2 rfl ?_
          refine z_get (CC := RX2) (T := TX2) (N := 10) (ci := 2) C hin 0 rfl rfl 2 (by decide) w3 rfl rfl dX2_addSpan_59 ?_
          refine z_iload_n C dX2_addSpan_62 rfl 4 rfl ?_
          refine z_iald C 3 0 rfl rfl (vpS4 h2) dX2_addSpan_63 ?_
          refine z_i2l (v := ((sm p2.toNatClampNeg)).toInt64) C dX2_addSpan_64 rfl ?_
          refine z_lmul C dX2_addSpan_65 ?_
          refine z_ladd C dX2_addSpan_66 ?_
          refine z_lstore (lv' := [(9, .long (((sm p1.toNatClampNeg)).toInt64 + (1 * ((sm p2.toNatClampNeg)).toInt64))), (7, .long (((sy p1.toNatClampNeg)).toInt64 + (1 * ((sy p2.toNatClampNeg)).toInt64))), (5, .long 1), (0, .ref (y 0)), (1, .int p1), (2, .int p2), (3, .int p3), (4, .int p4)]) C dX2_addSpan_67 (by decide) rfl ?_
          refine z_aload_n C dX2_addSpan_69 rfl 3 rfl ?_
          refine z_get (CC := RX2) (T := TX2) (N := 10) (ci := 2) C hin 0 rfl rfl 3 (by decide) w4 rfl rfl dX2_addSpan_70 ?_
          refine z_iload_n C dX2_addSpan_73 rfl 4 rfl ?_
          refine z_iald C 4 0 rfl rfl (vpS4 h1) dX2_addSpan_74 ?_
          refine z_i2l (v := ((sd p1.toNatClampNeg)).toInt64) C dX2_addSpan_75 rfl ?_
          refine z_lload C dX2_addSpan_76 2 rfl ?_
          refine z_aload_n C dX2_addSpan_78 rfl 3 rfl ?_
          refine z_get (CC := RX2) (T := TX2) (N := 10) (ci := 2) C hin 0 rfl rfl 3 (by decide) w4 rfl rfl dX2_addSpan_79 ?_
          refine z_iload_n C dX2_addSpan_82 rfl 5 rfl ?_
          refine z_iald C 4 0 rfl rfl (vpS4 h2) dX2_addSpan_83 ?_
          refine z_i2l (v := ((sd p2.toNatClampNeg)).toInt64) C dX2_addSpan_84 rfl ?_
          refine z_lmul C dX2_addSpan_85 ?_
          refine z_ladd C dX2_addSpan_86 ?_
          refine z_lstore (lv' := [(11, .long (((sd p1.toNatClampNeg)).toInt64 + (1 * ((sd p2.toNatClampNeg)).toInt64))), (9, .long (((sm p1.toNatClampNeg)).toInt64 + (1 * ((sm p2.toNatClampNeg)).toInt64))), (7, .long (((sy p1.toNatClampNeg)).toInt64 + (1 * ((sy p2.toNatClampNeg)).toInt64))), (5, .long 1), (0, .ref (y 0)), (1, .int p1), (2, .int p2), (3, .int p3), (4, .int p4)]) C dX2_addSpan_87 (by decide) rfl ?_
          refine z_aload_n C dX2_addSpan_89 rfl 4 rfl ?_
          refine z_iload C dX2_addSpan_90 8 rfl ?_
          refine z_lload C dX2_addSpan_92 2 rfl ?_
          refine z_lload C dX2_addSpan_94 1 rfl ?_
          refine z_lload C dX2_addSpan_96 0 rfl ?_
          refine z_xwl (ws' := (wY cI cJ y d (s_X2_keepSpan_sy sy p4 (((sy p1.toNatClampNeg)).toInt64 + (1 * ((sy p2.toNatClampNeg)).toInt64)) (((sm p1.toNatClampNeg)).toInt64 + (1 * ((sm p2.toNatClampNeg)).toInt64)) (((sd p1.toNatClampNeg)).toInt64 + (1 * ((sd p2.toNatClampNeg)).toInt64))) (s_X2_keepSpan_sm sm p4 (((sy p1.toNatClampNeg)).toInt64 + (1 * ((sy p2.toNatClampNeg)).toInt64)) (((sm p1.toNatClampNeg)).toInt64 + (1 * ((sm p2.toNatClampNeg)).toInt64)) (((sd p1.toNatClampNeg)).toInt64 + (1 * ((sd p2.toNatClampNeg)).toInt64))) (s_X2_keepSpan_sd sd p4 (((sy p1.toNatClampNeg)).toInt64 + (1 * ((sy p2.toNatClampNeg)).toInt64)) (((sm p1.toNatClampNeg)).toInt64 + (1 * ((sm p2.toNatClampNeg)).toInt64)) (((sd p1.toNatClampNeg)).toInt64 + (1 * ((sd p2.toNatClampNeg)).toInt64))) mi ti sL bL mD mT X)) (rest := []) (ci := 2) (q0 := 0) C (c_X2_keepSpan l hfl D cI cJ X y d sy sm sd mi ti sL bL mD mT p4 (((sy p1.toNatClampNeg)).toInt64 + (1 * ((sy p2.toNatClampNeg)).toInt64)) (((sm p1.toNatClampNeg)).toInt64 + (1 * ((sm p2.toNatClampNeg)).toInt64)) (((sd p1.toNatClampNeg)).toInt64 + (1 * ((sd p2.toNatClampNeg)).toInt64)) (vpS4 h3)) q_X2_keepSpan rfl rfl rfl gX2_addSpan_X2_keepSpan ⟨rfl, rfl⟩ rfl rfl (Nat.le_of_ble_eq_true rfl) ⟨Nat.le_of_ble_eq_true rfl, Nat.le_of_ble_eq_true rfl⟩ ⟨Nat.le_of_ble_eq_true rfl, Nat.le_of_ble_eq_true rfl⟩ dX2_addSpan_98 (fun h10 => ?_) (fun E h10 h10_E => ?_)
          · exact z_lret C ⟨by rw [k_X2_addSpan, if_pos h1, if_pos h2, if_pos h3, if_neg (by rw [h8]; decide : ¬ f_X2_addSpan_j1 p3 = (-1)), if_pos h10], congrArg (fun v => some (Value.long v)) (by rw [f_X2_addSpan, if_pos h1, if_pos h2, if_pos h3, if_neg (by rw [h8]; decide : ¬ f_X2_addSpan_j1 p3 = (-1)), if_pos h10] : (f_X2_keepSpan sy sm p4 (((sy p1.toNatClampNeg)).toInt64 + (1 * ((sy p2.toNatClampNeg)).toInt64)) (((sm p1.toNatClampNeg)).toInt64 + (1 * ((sm p2.toNatClampNeg)).toInt64)) (((sd p1.toNatClampNeg)).toInt64 + (1 * ((sd p2.toNatClampNeg)).toInt64))) = (f_X2_addSpan sy sm sd p1 p2 p3 p4)), by rw [s_X2_addSpan_sy, if_pos h1, if_pos h2, if_pos h3, if_neg (by rw [h8]; decide : ¬ f_X2_addSpan_j1 p3 = (-1)), if_pos h10, s_X2_addSpan_sm, if_pos h1, if_pos h2, if_pos h3, if_neg (by rw [h8]; decide : ¬ f_X2_addSpan_j1 p3 = (-1)), if_pos h10, s_X2_addSpan_sd, if_pos h1, if_pos h2, if_pos h3, if_neg (by rw [h8]; decide : ¬ f_X2_addSpan_j1 p3 = (-1)), if_pos h10]⟩ (by decide) (by decide) dX2_addSpan_101
          · exact z_tout C hno ⟨rfl, by rw [k_X2_addSpan, if_pos h1, if_pos h2, if_pos h3, if_neg (by rw [h8]; decide : ¬ f_X2_addSpan_j1 p3 = (-1)), if_neg h10]; exact h10_E⟩ (by decide) (by decide)
        refine z_if_eq (tgt := 26) C dX2_addSpan_17 (by decide) (fun h4 => ?_) (fun h4 => ?_)
        · refine z_lconst (v := 1) C dX2_addSpan_26 (by decide) ?_
          exact K1_1 (by rw [f_X2_addSpan_j1, if_pos h4]) h4
        · refine z_ldc2 (v := (-1)) C w1 dX2_addSpan_20 ?_
          refine z_goto (tgt := 27) C dX2_addSpan_23 (by decide) ?_
          exact K1_m1 (by rw [f_X2_addSpan_j1, if_neg h4]) h4
      · exact z_tout C hno ⟨rfl, by rw [k_X2_addSpan, if_pos h1, if_pos h2, if_neg h3]; exact h3_E⟩ (by decide) (by decide)
    · exact z_tout C hno ⟨rfl, by rw [k_X2_addSpan, if_pos h1, if_neg h2]; exact h2_E⟩ (by decide) (by decide)
  · exact z_tout C hno ⟨rfl, by rw [k_X2_addSpan, if_neg h1]; exact h1_E⟩ (by decide) (by decide)
def f_X2_timesSpan (sy : Nat → Int32) (sm : Nat → Int32) (sd : Nat → Int32) (p1 : Int32) (p2 : Int32) (p3 : Int32) : Int64 := (if k_X2_checkSlot p1 4 = 0 then (if k_X2_checkSlot p3 4 = 0 then (if k_X2_checkArgument (f_X2_isIn ((p2).toInt64) (-100) 100) = 0 then (if k_X2_keepSpan (((p2 * (sy p1.toNatClampNeg))).toInt64) (((p2 * (sm p1.toNatClampNeg))).toInt64) (((p2 * (sd p1.toNatClampNeg))).toInt64) = 0 then (f_X2_keepSpan sy sm p3 (((p2 * (sy p1.toNatClampNeg))).toInt64) (((p2 * (sm p1.toNatClampNeg))).toInt64) (((p2 * (sd p1.toNatClampNeg))).toInt64)) else 0) else 0) else 0) else 0)
def s_X2_timesSpan_sy (sy : Nat → Int32) (sm : Nat → Int32) (sd : Nat → Int32) (p1 : Int32) (p2 : Int32) (p3 : Int32) : Nat → Int32 := (if k_X2_checkSlot p1 4 = 0 then (if k_X2_checkSlot p3 4 = 0 then (if k_X2_checkArgument (f_X2_isIn ((p2).toInt64) (-100) 100) = 0 then (if k_X2_keepSpan (((p2 * (sy p1.toNatClampNeg))).toInt64) (((p2 * (sm p1.toNatClampNeg))).toInt64) (((p2 * (sd p1.toNatClampNeg))).toInt64) = 0 then (s_X2_keepSpan_sy sy p3 (((p2 * (sy p1.toNatClampNeg))).toInt64) (((p2 * (sm p1.toNatClampNeg))).toInt64) (((p2 * (sd p1.toNatClampNeg))).toInt64)) else sy) else sy) else sy) else sy)
def s_X2_timesSpan_sm (sy : Nat → Int32) (sm : Nat → Int32) (sd : Nat → Int32) (p1 : Int32) (p2 : Int32) (p3 : Int32) : Nat → Int32 := (if k_X2_checkSlot p1 4 = 0 then (if k_X2_checkSlot p3 4 = 0 then (if k_X2_checkArgument (f_X2_isIn ((p2).toInt64) (-100) 100) = 0 then (if k_X2_keepSpan (((p2 * (sy p1.toNatClampNeg))).toInt64) (((p2 * (sm p1.toNatClampNeg))).toInt64) (((p2 * (sd p1.toNatClampNeg))).toInt64) = 0 then (s_X2_keepSpan_sm sm p3 (((p2 * (sy p1.toNatClampNeg))).toInt64) (((p2 * (sm p1.toNatClampNeg))).toInt64) (((p2 * (sd p1.toNatClampNeg))).toInt64)) else sm) else sm) else sm) else sm)
def s_X2_timesSpan_sd (sy : Nat → Int32) (sm : Nat → Int32) (sd : Nat → Int32) (p1 : Int32) (p2 : Int32) (p3 : Int32) : Nat → Int32 := (if k_X2_checkSlot p1 4 = 0 then (if k_X2_checkSlot p3 4 = 0 then (if k_X2_checkArgument (f_X2_isIn ((p2).toInt64) (-100) 100) = 0 then (if k_X2_keepSpan (((p2 * (sy p1.toNatClampNeg))).toInt64) (((p2 * (sm p1.toNatClampNeg))).toInt64) (((p2 * (sd p1.toNatClampNeg))).toInt64) = 0 then (s_X2_keepSpan_sd sd p3 (((p2 * (sy p1.toNatClampNeg))).toInt64) (((p2 * (sm p1.toNatClampNeg))).toInt64) (((p2 * (sd p1.toNatClampNeg))).toInt64)) else sd) else sd) else sd) else sd)
def k_X2_timesSpan (sy : Nat → Int32) (sm : Nat → Int32) (sd : Nat → Int32) (p1 : Int32) (p2 : Int32) (p3 : Int32) : Int32 := (if k_X2_checkSlot p1 4 = 0 then (if k_X2_checkSlot p3 4 = 0 then (if k_X2_checkArgument (f_X2_isIn ((p2).toInt64) (-100) 100) = 0 then (if k_X2_keepSpan (((p2 * (sy p1.toNatClampNeg))).toInt64) (((p2 * (sm p1.toNatClampNeg))).toInt64) (((p2 * (sd p1.toNatClampNeg))).toInt64) = 0 then 0 else k_X2_keepSpan (((p2 * (sy p1.toNatClampNeg))).toInt64) (((p2 * (sm p1.toNatClampNeg))).toInt64) (((p2 * (sd p1.toNatClampNeg))).toInt64)) else k_X2_checkArgument (f_X2_isIn ((p2).toInt64) (-100) 100)) else k_X2_checkSlot p3 4) else k_X2_checkSlot p1 4)
theorem q_X2_timesSpan : ZY yX2_timesSpan wsX2_timesSpan cX2_timesSpan 4 (some .long) 3 := ⟨⟨_, rfl⟩, by decide +kernel, by decide +kernel, by decide +kernel⟩
set_option maxHeartbeats 4000000 in
set_option maxRecDepth 100000 in
theorem c_X2_timesSpan (l : Launch) (hfl : l.stackTraces = false) (D : va_G) (cI cJ : ClassId) (X : va_W) (y : Nat → Nat) (d : Nat → Int64) (sy : Nat → Int32) (sm : Nat → Int32) (sd : Nat → Int32) (mi : Nat → Int32) (ti : Nat → Int64) (sL : Nat → Int64) (bL : Nat → Int64) (mD : Nat → Int64) (mT : Nat → Int64) (p1 : Int32) (p2 : Int32) (p3 : Int32)  : ZM l yX2_timesSpan wsX2_timesSpan { frames := 8, cells := 4, slots := 24, locals := 129 } [.ref (y 0), .int p1, .int p2, .int p3] D (zTys cI cJ) (wY cI cJ y d sy sm sd mi ti sL bL mD mT X) 4 24 (fun v w => k_X2_timesSpan sy sm sd p1 p2 p3 = 0 ∧ v = some (.long (f_X2_timesSpan sy sm sd p1 p2 p3)) ∧ w = (wY cI cJ y d (s_X2_timesSpan_sy sy sm sd p1 p2 p3) (s_X2_timesSpan_sm sy sm sd p1 p2 p3) (s_X2_timesSpan_sd sy sm sd p1 p2 p3) mi ti sL bL mD mT X)) (fun E w => w = (wY cI cJ y d sy sm sd mi ti sL bL mD mT X) ∧ zEx E (k_X2_timesSpan sy sm sd p1 p2 p3)) := by
  refine z_open (own := RX2) hfl (cc := cX2_timesSpan) (maxL := 4) (ret := (some .long)) (lv := [(0, .ref (y 0)), (1, .int p1), (2, .int p2), (3, .int p3)]) rfl (by decide) rfl rfl (Nat.le_of_ble_eq_true rfl) ?_
  intro p e s m args below meth c A C hno hnm hargs
  have hin : ∀ w ∈ wsX20, w ∈ wsX2_timesSpan := by decide +kernel
  have w1 := C.1.2.2.2.2 (.constantLong RX2 175 (-100)) (by decide +kernel)
  have w2 := C.1.2.2.2.2 (.constantLong RX2 177 (100)) (by decide +kernel)
  have w3 := C.1.2.2.2.2 (.fieldLink RX2 13 "Yearwheel" "spanYears" "[I") (by decide +kernel)
  have w4 := C.1.2.2.2.2 (.fieldLink RX2 17 "Yearwheel" "spanMonths" "[I") (by decide +kernel)
  have w5 := C.1.2.2.2.2 (.fieldLink RX2 20 "Yearwheel" "spanDays" "[I") (by decide +kernel)
  refine z_iload_n C dX2_timesSpan_0 rfl 1 rfl ?_
  refine z_iconst (v := 4) C dX2_timesSpan_1 (by decide) ?_
  refine z_xsv (rest := []) C (c_X2_checkSlot l hfl D cI cJ _ p1 (4 : Int32) ) q_X2_checkSlot gX2_timesSpan_X2_checkSlot ⟨rfl, rfl⟩ rfl rfl (Nat.le_of_ble_eq_true rfl) ⟨Nat.le_of_ble_eq_true rfl, Nat.le_of_ble_eq_true rfl⟩ ⟨Nat.le_of_ble_eq_true rfl, Nat.le_of_ble_eq_true rfl⟩ dX2_timesSpan_2 (fun h1 => ?_) (fun E h1 h1_E => ?_)
  · refine z_iload_n C dX2_timesSpan_5 rfl 3 rfl ?_
    refine z_iconst (v := 4) C dX2_timesSpan_6 (by decide) ?_
    refine z_xsv (rest := []) C (c_X2_checkSlot l hfl D cI cJ _ p3 (4 : Int32) ) q_X2_checkSlot gX2_timesSpan_X2_checkSlot ⟨rfl, rfl⟩ rfl rfl (Nat.le_of_ble_eq_true rfl) ⟨Nat.le_of_ble_eq_true rfl, Nat.le_of_ble_eq_true rfl⟩ ⟨Nat.le_of_ble_eq_true rfl, Nat.le_of_ble_eq_true rfl⟩ dX2_timesSpan_7 (fun h2 => ?_) (fun E h2 h2_E => ?_)
    · refine z_iload_n C dX2_timesSpan_10 rfl 2 rfl ?_
      refine z_i2l (v := (p2).toInt64) C dX2_timesSpan_11 rfl ?_
      refine z_ldc2 (v := (-100)) C w1 dX2_timesSpan_12 ?_
      refine z_ldc2 (v := 100) C w2 dX2_timesSpan_15 ?_
      refine z_si (rest := []) C (c_X2_isIn l hfl D cI cJ _ ((p2).toInt64) ((-100) : Int64) (100 : Int64) ) q_X2_isIn gX2_timesSpan_X2_isIn ⟨rfl, rfl⟩ rfl rfl (Nat.le_of_ble_eq_true rfl) ⟨Nat.le_of_ble_eq_true rfl, Nat.le_of_ble_eq_true rfl⟩ ⟨Nat.le_of_ble_eq_true rfl, Nat.le_of_ble_eq_true rfl⟩ dX2_timesSpan_18 ?_
      refine z_xsv (rest := []) C (c_X2_checkArgument l hfl D cI cJ _ (f_X2_isIn ((p2).toInt64) (-100) 100) ) q_X2_checkArgument gX2_timesSpan_X2_checkArgument ⟨rfl, rfl⟩ rfl rfl (Nat.le_of_ble_eq_true rfl) ⟨Nat.le_of_ble_eq_true rfl, Nat.le_of_ble_eq_true rfl⟩ ⟨Nat.le_of_ble_eq_true rfl, Nat.le_of_ble_eq_true rfl⟩ dX2_timesSpan_21 (fun h3 => ?_) (fun E h3 h3_E => ?_)
      · refine z_aload_n C dX2_timesSpan_24 rfl 0 rfl ?_
        refine z_iload_n C dX2_timesSpan_25 rfl 3 rfl ?_
        refine z_iload_n C dX2_timesSpan_26 rfl 2 rfl ?_
        refine z_aload_n C dX2_timesSpan_27 rfl 0 rfl ?_
        refine z_get (CC := RX2) (T := TX2) (N := 10) (ci := 2) C hin 0 rfl rfl 1 (by decide) w3 rfl rfl dX2_timesSpan_28 ?_
        refine z_iload_n C dX2_timesSpan_31 rfl 1 rfl ?_
        refine z_iald C 2 0 rfl rfl (vpS4 h1) dX2_timesSpan_32 ?_
        refine z_imul C dX2_timesSpan_33 ?_
        refine z_i2l (v := ((p2 * (sy p1.toNatClampNeg))).toInt64) C dX2_timesSpan_34 rfl ?_
        refine z_iload_n C dX2_timesSpan_35 rfl 2 rfl ?_
        refine z_aload_n C dX2_timesSpan_36 rfl 0 rfl ?_
        refine z_get (CC := RX2) (T := TX2) (N := 10) (ci := 2) C hin 0 rfl rfl 2 (by decide) w4 rfl rfl dX2_timesSpan_37 ?_
        refine z_iload_n C dX2_timesSpan_40 rfl 1 rfl ?_
        refine z_iald C 3 0 rfl rfl (vpS4 h1) dX2_timesSpan_41 ?_
        refine z_imul C dX2_timesSpan_42 ?_
        refine z_i2l (v := ((p2 * (sm p1.toNatClampNeg))).toInt64) C dX2_timesSpan_43 rfl ?_
        refine z_iload_n C dX2_timesSpan_44 rfl 2 rfl ?_
        refine z_aload_n C dX2_timesSpan_45 rfl 0 rfl ?_
        refine z_get (CC := RX2) (T := TX2) (N := 10) (ci := 2) C hin 0 rfl rfl 3 (by decide) w5 rfl rfl dX2_timesSpan_46 ?_
        refine z_iload_n C dX2_timesSpan_49 rfl 1 rfl ?_
        refine z_iald C 4 0 rfl rfl (vpS4 h1) dX2_timesSpan_50 ?_
        refine z_imul C dX2_timesSpan_51 ?_
        refine z_i2l (v := ((p2 * (sd p1.toNatClampNeg))).toInt64) C dX2_timesSpan_52 rfl ?_
        refine z_xwl (ws' := (wY cI cJ y d (s_X2_keepSpan_sy sy p3 (((p2 * (sy p1.toNatClampNeg))).toInt64) (((p2 * (sm p1.toNatClampNeg))).toInt64) (((p2 * (sd p1.toNatClampNeg))).toInt64)) (s_X2_keepSpan_sm sm p3 (((p2 * (sy p1.toNatClampNeg))).toInt64) (((p2 * (sm p1.toNatClampNeg))).toInt64) (((p2 * (sd p1.toNatClampNeg))).toInt64)) (s_X2_keepSpan_sd sd p3 (((p2 * (sy p1.toNatClampNeg))).toInt64) (((p2 * (sm p1.toNatClampNeg))).toInt64) (((p2 * (sd p1.toNatClampNeg))).toInt64)) mi ti sL bL mD mT X)) (rest := []) (ci := 2) (q0 := 0) C (c_X2_keepSpan l hfl D cI cJ X y d sy sm sd mi ti sL bL mD mT p3 (((p2 * (sy p1.toNatClampNeg))).toInt64) (((p2 * (sm p1.toNatClampNeg))).toInt64) (((p2 * (sd p1.toNatClampNeg))).toInt64) (vpS4 h2)) q_X2_keepSpan rfl rfl rfl gX2_timesSpan_X2_keepSpan ⟨rfl, rfl⟩ rfl rfl (Nat.le_of_ble_eq_true rfl) ⟨Nat.le_of_ble_eq_true rfl, Nat.le_of_ble_eq_true rfl⟩ ⟨Nat.le_of_ble_eq_true rfl, Nat.le_of_ble_eq_true rfl⟩ dX2_timesSpan_53 (fun h4 => ?_) (fun E h4 h4_E => ?_)
        · exact z_lret C ⟨by rw [k_X2_timesSpan, if_pos h1, if_pos h2, if_pos h3, if_pos h4], congrArg (fun v => some (Value.long v)) (by rw [f_X2_timesSpan, if_pos h1, if_pos h2, if_pos h3, if_pos h4] : (f_X2_keepSpan sy sm p3 (((p2 * (sy p1.toNatClampNeg))).toInt64) (((p2 * (sm p1.toNatClampNeg))).toInt64) (((p2 * (sd p1.toNatClampNeg))).toInt64)) = (f_X2_timesSpan sy sm sd p1 p2 p3)), by rw [s_X2_timesSpan_sy, if_pos h1, if_pos h2, if_pos h3, if_pos h4, s_X2_timesSpan_sm, if_pos h1, if_pos h2, if_pos h3, if_pos h4, s_X2_timesSpan_sd, if_pos h1, if_pos h2, if_pos h3, if_pos h4]⟩ (by decide) (by decide) dX2_timesSpan_56
        · exact z_tout C hno ⟨rfl, by rw [k_X2_timesSpan, if_pos h1, if_pos h2, if_pos h3, if_neg h4]; exact h4_E⟩ (by decide) (by decide)
      · exact z_tout C hno ⟨rfl, by rw [k_X2_timesSpan, if_pos h1, if_pos h2, if_neg h3]; exact h3_E⟩ (by decide) (by decide)
    · exact z_tout C hno ⟨rfl, by rw [k_X2_timesSpan, if_pos h1, if_neg h2]; exact h2_E⟩ (by decide) (by decide)
  · exact z_tout C hno ⟨rfl, by rw [k_X2_timesSpan, if_neg h1]; exact h1_E⟩ (by decide) (by decide)
def f_X2_plainSpan (sy : Nat → Int32) (sm : Nat → Int32) (sd : Nat → Int32) (p1 : Int32) (p2 : Int32) : Int64 := (if k_X2_checkSlot p1 4 = 0 then (if k_X2_checkSlot p2 4 = 0 then (if k_X2_keepSpan ((f_X2_allMonths sy sm p1) / 12) ((f_X2_allMonths sy sm p1) - (f_X2_allMonths sy sm p1) / 12 * 12) (((sd p1.toNatClampNeg)).toInt64) = 0 then (f_X2_keepSpan sy sm p2 ((f_X2_allMonths sy sm p1) / 12) ((f_X2_allMonths sy sm p1) - (f_X2_allMonths sy sm p1) / 12 * 12) (((sd p1.toNatClampNeg)).toInt64)) else 0) else 0) else 0)
def s_X2_plainSpan_sy (sy : Nat → Int32) (sm : Nat → Int32) (sd : Nat → Int32) (p1 : Int32) (p2 : Int32) : Nat → Int32 := (if k_X2_checkSlot p1 4 = 0 then (if k_X2_checkSlot p2 4 = 0 then (if k_X2_keepSpan ((f_X2_allMonths sy sm p1) / 12) ((f_X2_allMonths sy sm p1) - (f_X2_allMonths sy sm p1) / 12 * 12) (((sd p1.toNatClampNeg)).toInt64) = 0 then (s_X2_keepSpan_sy sy p2 ((f_X2_allMonths sy sm p1) / 12) ((f_X2_allMonths sy sm p1) - (f_X2_allMonths sy sm p1) / 12 * 12) (((sd p1.toNatClampNeg)).toInt64)) else sy) else sy) else sy)
def s_X2_plainSpan_sm (sy : Nat → Int32) (sm : Nat → Int32) (sd : Nat → Int32) (p1 : Int32) (p2 : Int32) : Nat → Int32 := (if k_X2_checkSlot p1 4 = 0 then (if k_X2_checkSlot p2 4 = 0 then (if k_X2_keepSpan ((f_X2_allMonths sy sm p1) / 12) ((f_X2_allMonths sy sm p1) - (f_X2_allMonths sy sm p1) / 12 * 12) (((sd p1.toNatClampNeg)).toInt64) = 0 then (s_X2_keepSpan_sm sm p2 ((f_X2_allMonths sy sm p1) / 12) ((f_X2_allMonths sy sm p1) - (f_X2_allMonths sy sm p1) / 12 * 12) (((sd p1.toNatClampNeg)).toInt64)) else sm) else sm) else sm)
def s_X2_plainSpan_sd (sy : Nat → Int32) (sm : Nat → Int32) (sd : Nat → Int32) (p1 : Int32) (p2 : Int32) : Nat → Int32 := (if k_X2_checkSlot p1 4 = 0 then (if k_X2_checkSlot p2 4 = 0 then (if k_X2_keepSpan ((f_X2_allMonths sy sm p1) / 12) ((f_X2_allMonths sy sm p1) - (f_X2_allMonths sy sm p1) / 12 * 12) (((sd p1.toNatClampNeg)).toInt64) = 0 then (s_X2_keepSpan_sd sd p2 ((f_X2_allMonths sy sm p1) / 12) ((f_X2_allMonths sy sm p1) - (f_X2_allMonths sy sm p1) / 12 * 12) (((sd p1.toNatClampNeg)).toInt64)) else sd) else sd) else sd)
def k_X2_plainSpan (sy : Nat → Int32) (sm : Nat → Int32) (sd : Nat → Int32) (p1 : Int32) (p2 : Int32) : Int32 := (if k_X2_checkSlot p1 4 = 0 then (if k_X2_checkSlot p2 4 = 0 then (if k_X2_keepSpan ((f_X2_allMonths sy sm p1) / 12) ((f_X2_allMonths sy sm p1) - (f_X2_allMonths sy sm p1) / 12 * 12) (((sd p1.toNatClampNeg)).toInt64) = 0 then 0 else k_X2_keepSpan ((f_X2_allMonths sy sm p1) / 12) ((f_X2_allMonths sy sm p1) - (f_X2_allMonths sy sm p1) / 12 * 12) (((sd p1.toNatClampNeg)).toInt64)) else k_X2_checkSlot p2 4) else k_X2_checkSlot p1 4)
theorem q_X2_plainSpan : ZY yX2_plainSpan wsX2_plainSpan cX2_plainSpan 5 (some .long) 2 := ⟨⟨_, rfl⟩, by decide +kernel, by decide +kernel, by decide +kernel⟩
set_option maxHeartbeats 4000000 in
set_option maxRecDepth 100000 in
theorem c_X2_plainSpan (l : Launch) (hfl : l.stackTraces = false) (D : va_G) (cI cJ : ClassId) (X : va_W) (y : Nat → Nat) (d : Nat → Int64) (sy : Nat → Int32) (sm : Nat → Int32) (sd : Nat → Int32) (mi : Nat → Int32) (ti : Nat → Int64) (sL : Nat → Int64) (bL : Nat → Int64) (mD : Nat → Int64) (mT : Nat → Int64) (p1 : Int32) (p2 : Int32)  : ZM l yX2_plainSpan wsX2_plainSpan { frames := 8, cells := 3, slots := 18, locals := 129 } [.ref (y 0), .int p1, .int p2] D (zTys cI cJ) (wY cI cJ y d sy sm sd mi ti sL bL mD mT X) 3 18 (fun v w => k_X2_plainSpan sy sm sd p1 p2 = 0 ∧ v = some (.long (f_X2_plainSpan sy sm sd p1 p2)) ∧ w = (wY cI cJ y d (s_X2_plainSpan_sy sy sm sd p1 p2) (s_X2_plainSpan_sm sy sm sd p1 p2) (s_X2_plainSpan_sd sy sm sd p1 p2) mi ti sL bL mD mT X)) (fun E w => w = (wY cI cJ y d sy sm sd mi ti sL bL mD mT X) ∧ zEx E (k_X2_plainSpan sy sm sd p1 p2)) := by
  refine z_open (own := RX2) hfl (cc := cX2_plainSpan) (maxL := 5) (ret := (some .long)) (lv := [(0, .ref (y 0)), (1, .int p1), (2, .int p2)]) rfl (by decide) rfl rfl (Nat.le_of_ble_eq_true rfl) ?_
  intro p e s m args below meth c A C hno hnm hargs
  have hin : ∀ w ∈ wsX20, w ∈ wsX2_plainSpan := by decide +kernel
  have w1 := C.1.2.2.2.2 (.constantLong RX2 53 (12)) (by decide +kernel)
  have w2 := C.1.2.2.2.2 (.fieldLink RX2 20 "Yearwheel" "spanDays" "[I") (by decide +kernel)
  refine z_iload_n C dX2_plainSpan_0 rfl 1 rfl ?_
  refine z_iconst (v := 4) C dX2_plainSpan_1 (by decide) ?_
  refine z_xsv (rest := []) C (c_X2_checkSlot l hfl D cI cJ _ p1 (4 : Int32) ) q_X2_checkSlot gX2_plainSpan_X2_checkSlot ⟨rfl, rfl⟩ rfl rfl (Nat.le_of_ble_eq_true rfl) ⟨Nat.le_of_ble_eq_true rfl, Nat.le_of_ble_eq_true rfl⟩ ⟨Nat.le_of_ble_eq_true rfl, Nat.le_of_ble_eq_true rfl⟩ dX2_plainSpan_2 (fun h1 => ?_) (fun E h1 h1_E => ?_)
  · refine z_iload_n C dX2_plainSpan_5 rfl 2 rfl ?_
    refine z_iconst (v := 4) C dX2_plainSpan_6 (by decide) ?_
    refine z_xsv (rest := []) C (c_X2_checkSlot l hfl D cI cJ _ p2 (4 : Int32) ) q_X2_checkSlot gX2_plainSpan_X2_checkSlot ⟨rfl, rfl⟩ rfl rfl (Nat.le_of_ble_eq_true rfl) ⟨Nat.le_of_ble_eq_true rfl, Nat.le_of_ble_eq_true rfl⟩ ⟨Nat.le_of_ble_eq_true rfl, Nat.le_of_ble_eq_true rfl⟩ dX2_plainSpan_7 (fun h2 => ?_) (fun E h2 h2_E => ?_)
    · refine z_aload_n C dX2_plainSpan_10 rfl 0 rfl ?_
      refine z_iload_n C dX2_plainSpan_11 rfl 1 rfl ?_
      refine z_wl (ws' := (wY cI cJ y d sy sm sd mi ti sL bL mD mT X)) (rest := []) (ci := 2) (q0 := 0) C (c_X2_allMonths l hfl D cI cJ X y d sy sm sd mi ti sL bL mD mT p1 (vpS4 h1)) q_X2_allMonths rfl rfl rfl gX2_plainSpan_X2_allMonths ⟨rfl, rfl⟩ rfl rfl (Nat.le_of_ble_eq_true rfl) ⟨Nat.le_of_ble_eq_true rfl, Nat.le_of_ble_eq_true rfl⟩ ⟨Nat.le_of_ble_eq_true rfl, Nat.le_of_ble_eq_true rfl⟩ dX2_plainSpan_12 ?_
      refine z_lstore_n (lv' := [(3, .long (f_X2_allMonths sy sm p1)), (0, .ref (y 0)), (1, .int p1), (2, .int p2)]) C dX2_plainSpan_15 rfl (by decide) rfl ?_
      refine z_aload_n C dX2_plainSpan_16 rfl 1 rfl ?_
      refine z_iload_n C dX2_plainSpan_17 rfl 3 rfl ?_
      refine z_lload_n C dX2_plainSpan_18 rfl 0 rfl ?_
      refine z_ldc2 (v := 12) C w1 dX2_plainSpan_19 ?_
      refine z_ldiv C dX2_plainSpan_22 (by decide) ?_
      refine z_lload_n C dX2_plainSpan_23 rfl 0 rfl ?_
      refine z_ldc2 (v := 12) C w1 dX2_plainSpan_24 ?_
      refine z_lrem C dX2_plainSpan_27 (by decide) ?_
      refine z_aload_n C dX2_plainSpan_28 rfl 1 rfl ?_
      refine z_get (CC := RX2) (T := TX2) (N := 10) (ci := 2) C hin 0 rfl rfl 3 (by decide) w2 rfl rfl dX2_plainSpan_29 ?_
      refine z_iload_n C dX2_plainSpan_32 rfl 2 rfl ?_
      refine z_iald C 4 0 rfl rfl (vpS4 h1) dX2_plainSpan_33 ?_
      refine z_i2l (v := ((sd p1.toNatClampNeg)).toInt64) C dX2_plainSpan_34 rfl ?_
      refine z_xwl (ws' := (wY cI cJ y d (s_X2_keepSpan_sy sy p2 ((f_X2_allMonths sy sm p1) / 12) ((f_X2_allMonths sy sm p1) - (f_X2_allMonths sy sm p1) / 12 * 12) (((sd p1.toNatClampNeg)).toInt64)) (s_X2_keepSpan_sm sm p2 ((f_X2_allMonths sy sm p1) / 12) ((f_X2_allMonths sy sm p1) - (f_X2_allMonths sy sm p1) / 12 * 12) (((sd p1.toNatClampNeg)).toInt64)) (s_X2_keepSpan_sd sd p2 ((f_X2_allMonths sy sm p1) / 12) ((f_X2_allMonths sy sm p1) - (f_X2_allMonths sy sm p1) / 12 * 12) (((sd p1.toNatClampNeg)).toInt64)) mi ti sL bL mD mT X)) (rest := []) (ci := 2) (q0 := 0) C (c_X2_keepSpan l hfl D cI cJ X y d sy sm sd mi ti sL bL mD mT p2 ((f_X2_allMonths sy sm p1) / 12) ((f_X2_allMonths sy sm p1) - (f_X2_allMonths sy sm p1) / 12 * 12) (((sd p1.toNatClampNeg)).toInt64) (vpS4 h2)) q_X2_keepSpan rfl rfl rfl gX2_plainSpan_X2_keepSpan ⟨rfl, rfl⟩ rfl rfl (Nat.le_of_ble_eq_true rfl) ⟨Nat.le_of_ble_eq_true rfl, Nat.le_of_ble_eq_true rfl⟩ ⟨Nat.le_of_ble_eq_true rfl, Nat.le_of_ble_eq_true rfl⟩ dX2_plainSpan_35 (fun h3 => ?_) (fun E h3 h3_E => ?_)
      · exact z_lret C ⟨by rw [k_X2_plainSpan, if_pos h1, if_pos h2, if_pos h3], congrArg (fun v => some (Value.long v)) (by rw [f_X2_plainSpan, if_pos h1, if_pos h2, if_pos h3] : (f_X2_keepSpan sy sm p2 ((f_X2_allMonths sy sm p1) / 12) ((f_X2_allMonths sy sm p1) - (f_X2_allMonths sy sm p1) / 12 * 12) (((sd p1.toNatClampNeg)).toInt64)) = (f_X2_plainSpan sy sm sd p1 p2)), by rw [s_X2_plainSpan_sy, if_pos h1, if_pos h2, if_pos h3, s_X2_plainSpan_sm, if_pos h1, if_pos h2, if_pos h3, s_X2_plainSpan_sd, if_pos h1, if_pos h2, if_pos h3]⟩ (by decide) (by decide) dX2_plainSpan_38
      · exact z_tout C hno ⟨rfl, by rw [k_X2_plainSpan, if_pos h1, if_pos h2, if_neg h3]; exact h3_E⟩ (by decide) (by decide)
    · exact z_tout C hno ⟨rfl, by rw [k_X2_plainSpan, if_pos h1, if_neg h2]; exact h2_E⟩ (by decide) (by decide)
  · exact z_tout C hno ⟨rfl, by rw [k_X2_plainSpan, if_neg h1]; exact h1_E⟩ (by decide) (by decide)
def f_X2_month (p1 : Int32) (p2 : Int32) (p3 : Int32) : Int32 := (if k_X2_checkSlot p1 4 = 0 then (if k_X2_checkArgument (f_X2_isIn ((p3).toInt64) 1 12) = 0 then (if k_X2_checkArgument (f_X2_isYear ((p2).toInt64)) = 0 then (if k_X2_keepMonth (f_X1_monthIndex ((p2).toInt64) ((p3).toInt64)) = 0 then (f_X2_keepMonth (f_X1_monthIndex ((p2).toInt64) ((p3).toInt64))) else 0) else 0) else 0) else 0)
def s_X2_month_mi (mi : Nat → Int32) (p1 : Int32) (p2 : Int32) (p3 : Int32) : Nat → Int32 := (if k_X2_checkSlot p1 4 = 0 then (if k_X2_checkArgument (f_X2_isIn ((p3).toInt64) 1 12) = 0 then (if k_X2_checkArgument (f_X2_isYear ((p2).toInt64)) = 0 then (if k_X2_keepMonth (f_X1_monthIndex ((p2).toInt64) ((p3).toInt64)) = 0 then (s_X2_keepMonth_mi mi p1 (f_X1_monthIndex ((p2).toInt64) ((p3).toInt64))) else mi) else mi) else mi) else mi)
def k_X2_month (p1 : Int32) (p2 : Int32) (p3 : Int32) : Int32 := (if k_X2_checkSlot p1 4 = 0 then (if k_X2_checkArgument (f_X2_isIn ((p3).toInt64) 1 12) = 0 then (if k_X2_checkArgument (f_X2_isYear ((p2).toInt64)) = 0 then (if k_X2_keepMonth (f_X1_monthIndex ((p2).toInt64) ((p3).toInt64)) = 0 then 0 else k_X2_keepMonth (f_X1_monthIndex ((p2).toInt64) ((p3).toInt64))) else k_X2_checkArgument (f_X2_isYear ((p2).toInt64))) else k_X2_checkArgument (f_X2_isIn ((p3).toInt64) 1 12)) else k_X2_checkSlot p1 4)
theorem q_X2_month : ZY yX2_month wsX2_month cX2_month 4 (some .int) 3 := ⟨⟨_, rfl⟩, by decide +kernel, by decide +kernel, by decide +kernel⟩
set_option maxHeartbeats 4000000 in
set_option maxRecDepth 100000 in
theorem c_X2_month (l : Launch) (hfl : l.stackTraces = false) (D : va_G) (cI cJ : ClassId) (X : va_W) (y : Nat → Nat) (d : Nat → Int64) (sy : Nat → Int32) (sm : Nat → Int32) (sd : Nat → Int32) (mi : Nat → Int32) (ti : Nat → Int64) (sL : Nat → Int64) (bL : Nat → Int64) (mD : Nat → Int64) (mT : Nat → Int64) (p1 : Int32) (p2 : Int32) (p3 : Int32)  : ZM l yX2_month wsX2_month { frames := 8, cells := 4, slots := 24, locals := 125 } [.ref (y 0), .int p1, .int p2, .int p3] D (zTys cI cJ) (wY cI cJ y d sy sm sd mi ti sL bL mD mT X) 4 24 (fun v w => k_X2_month p1 p2 p3 = 0 ∧ v = some (.int (f_X2_month p1 p2 p3)) ∧ w = (wY cI cJ y d sy sm sd (s_X2_month_mi mi p1 p2 p3) ti sL bL mD mT X)) (fun E w => w = (wY cI cJ y d sy sm sd mi ti sL bL mD mT X) ∧ zEx E (k_X2_month p1 p2 p3)) := by
  refine z_open (own := RX2) hfl (cc := cX2_month) (maxL := 4) (ret := (some .int)) (lv := [(0, .ref (y 0)), (1, .int p1), (2, .int p2), (3, .int p3)]) rfl (by decide) rfl rfl (Nat.le_of_ble_eq_true rfl) ?_
  intro p e s m args below meth c A C hno hnm hargs
  have hin : ∀ w ∈ wsX20, w ∈ wsX2_month := by decide +kernel
  have w1 := C.1.2.2.2.2 (.constantLong RX2 53 (12)) (by decide +kernel)
  refine z_iload_n C dX2_month_0 rfl 1 rfl ?_
  refine z_iconst (v := 4) C dX2_month_1 (by decide) ?_
  refine z_xsv (rest := []) C (c_X2_checkSlot l hfl D cI cJ _ p1 (4 : Int32) ) q_X2_checkSlot gX2_month_X2_checkSlot ⟨rfl, rfl⟩ rfl rfl (Nat.le_of_ble_eq_true rfl) ⟨Nat.le_of_ble_eq_true rfl, Nat.le_of_ble_eq_true rfl⟩ ⟨Nat.le_of_ble_eq_true rfl, Nat.le_of_ble_eq_true rfl⟩ dX2_month_2 (fun h1 => ?_) (fun E h1 h1_E => ?_)
  · refine z_iload_n C dX2_month_5 rfl 3 rfl ?_
    refine z_i2l (v := (p3).toInt64) C dX2_month_6 rfl ?_
    refine z_lconst (v := 1) C dX2_month_7 (by decide) ?_
    refine z_ldc2 (v := 12) C w1 dX2_month_8 ?_
    refine z_si (rest := []) C (c_X2_isIn l hfl D cI cJ _ ((p3).toInt64) (1 : Int64) (12 : Int64) ) q_X2_isIn gX2_month_X2_isIn ⟨rfl, rfl⟩ rfl rfl (Nat.le_of_ble_eq_true rfl) ⟨Nat.le_of_ble_eq_true rfl, Nat.le_of_ble_eq_true rfl⟩ ⟨Nat.le_of_ble_eq_true rfl, Nat.le_of_ble_eq_true rfl⟩ dX2_month_11 ?_
    refine z_xsv (rest := []) C (c_X2_checkArgument l hfl D cI cJ _ (f_X2_isIn ((p3).toInt64) 1 12) ) q_X2_checkArgument gX2_month_X2_checkArgument ⟨rfl, rfl⟩ rfl rfl (Nat.le_of_ble_eq_true rfl) ⟨Nat.le_of_ble_eq_true rfl, Nat.le_of_ble_eq_true rfl⟩ ⟨Nat.le_of_ble_eq_true rfl, Nat.le_of_ble_eq_true rfl⟩ dX2_month_14 (fun h2 => ?_) (fun E h2 h2_E => ?_)
    · refine z_iload_n C dX2_month_17 rfl 2 rfl ?_
      refine z_i2l (v := (p2).toInt64) C dX2_month_18 rfl ?_
      refine z_si (rest := []) C (c_X2_isYear l hfl D cI cJ _ ((p2).toInt64) ) q_X2_isYear gX2_month_X2_isYear ⟨rfl, rfl⟩ rfl rfl (Nat.le_of_ble_eq_true rfl) ⟨Nat.le_of_ble_eq_true rfl, Nat.le_of_ble_eq_true rfl⟩ ⟨Nat.le_of_ble_eq_true rfl, Nat.le_of_ble_eq_true rfl⟩ dX2_month_19 ?_
      refine z_xsv (rest := []) C (c_X2_checkArgument l hfl D cI cJ _ (f_X2_isYear ((p2).toInt64)) ) q_X2_checkArgument gX2_month_X2_checkArgument ⟨rfl, rfl⟩ rfl rfl (Nat.le_of_ble_eq_true rfl) ⟨Nat.le_of_ble_eq_true rfl, Nat.le_of_ble_eq_true rfl⟩ ⟨Nat.le_of_ble_eq_true rfl, Nat.le_of_ble_eq_true rfl⟩ dX2_month_22 (fun h3 => ?_) (fun E h3 h3_E => ?_)
      · refine z_aload_n C dX2_month_25 rfl 0 rfl ?_
        refine z_iload_n C dX2_month_26 rfl 1 rfl ?_
        refine z_iload_n C dX2_month_27 rfl 2 rfl ?_
        refine z_i2l (v := (p2).toInt64) C dX2_month_28 rfl ?_
        refine z_iload_n C dX2_month_29 rfl 3 rfl ?_
        refine z_i2l (v := (p3).toInt64) C dX2_month_30 rfl ?_
        refine z_sl (rest := [.int p1, .ref (y 0)]) C (c_X1_monthIndex l hfl D cI cJ _ ((p2).toInt64) ((p3).toInt64) ) q_X1_monthIndex gX2_month_X1_monthIndex ⟨rfl, rfl⟩ rfl rfl (Nat.le_of_ble_eq_true rfl) ⟨Nat.le_of_ble_eq_true rfl, Nat.le_of_ble_eq_true rfl⟩ ⟨Nat.le_of_ble_eq_true rfl, Nat.le_of_ble_eq_true rfl⟩ dX2_month_31 ?_
        refine z_xwi (ws' := (wY cI cJ y d sy sm sd (s_X2_keepMonth_mi mi p1 (f_X1_monthIndex ((p2).toInt64) ((p3).toInt64))) ti sL bL mD mT X)) (rest := []) (ci := 2) (q0 := 0) C (c_X2_keepMonth l hfl D cI cJ X y d sy sm sd mi ti sL bL mD mT p1 (f_X1_monthIndex ((p2).toInt64) ((p3).toInt64)) (vpS4 h1)) q_X2_keepMonth rfl rfl rfl gX2_month_X2_keepMonth ⟨rfl, rfl⟩ rfl rfl (Nat.le_of_ble_eq_true rfl) ⟨Nat.le_of_ble_eq_true rfl, Nat.le_of_ble_eq_true rfl⟩ ⟨Nat.le_of_ble_eq_true rfl, Nat.le_of_ble_eq_true rfl⟩ dX2_month_34 (fun h4 => ?_) (fun E h4 h4_E => ?_)
        · exact z_iret C ⟨by rw [k_X2_month, if_pos h1, if_pos h2, if_pos h3, if_pos h4], congrArg (fun v => some (Value.int v)) (by rw [f_X2_month, if_pos h1, if_pos h2, if_pos h3, if_pos h4] : (f_X2_keepMonth (f_X1_monthIndex ((p2).toInt64) ((p3).toInt64))) = (f_X2_month p1 p2 p3)), by rw [s_X2_month_mi, if_pos h1, if_pos h2, if_pos h3, if_pos h4]⟩ (by decide) (by decide) dX2_month_37
        · exact z_tout C hno ⟨rfl, by rw [k_X2_month, if_pos h1, if_pos h2, if_pos h3, if_neg h4]; exact h4_E⟩ (by decide) (by decide)
      · exact z_tout C hno ⟨rfl, by rw [k_X2_month, if_pos h1, if_pos h2, if_neg h3]; exact h3_E⟩ (by decide) (by decide)
    · exact z_tout C hno ⟨rfl, by rw [k_X2_month, if_pos h1, if_neg h2]; exact h2_E⟩ (by decide) (by decide)
  · exact z_tout C hno ⟨rfl, by rw [k_X2_month, if_neg h1]; exact h1_E⟩ (by decide) (by decide)
def f_X2_moveMonth_j1 (p2 : Int32) : Int32 := (if p2 = 109 then 1 else (if p2 = 121 then 1 else 0))
def f_X2_moveMonth_j2 (p2 : Int32) (p3 : Int32) : Int64 := (if p2 = 121 then (12 * (p3).toInt64) else (p3).toInt64)
def f_X2_moveMonth (mi : Nat → Int32) (p1 : Int32) (p2 : Int32) (p3 : Int32) (p4 : Int32) : Int32 := (if k_X2_checkSlot p1 4 = 0 then (if k_X2_checkSlot p4 4 = 0 then (if f_X2_moveMonth_j1 p2 = 0 then 0 else (if k_X2_checkArgument (f_X2_isIn ((p3).toInt64) (-1000000) 1000000) = 0 then (if k_X2_keepMonth (((mi p1.toNatClampNeg)).toInt64 + (f_X2_moveMonth_j2 p2 p3)) = 0 then (f_X2_keepMonth (((mi p1.toNatClampNeg)).toInt64 + (f_X2_moveMonth_j2 p2 p3))) else 0) else 0)) else 0) else 0)
def s_X2_moveMonth_mi (mi : Nat → Int32) (p1 : Int32) (p2 : Int32) (p3 : Int32) (p4 : Int32) : Nat → Int32 := (if k_X2_checkSlot p1 4 = 0 then (if k_X2_checkSlot p4 4 = 0 then (if f_X2_moveMonth_j1 p2 = 0 then mi else (if k_X2_checkArgument (f_X2_isIn ((p3).toInt64) (-1000000) 1000000) = 0 then (if k_X2_keepMonth (((mi p1.toNatClampNeg)).toInt64 + (f_X2_moveMonth_j2 p2 p3)) = 0 then (s_X2_keepMonth_mi mi p4 (((mi p1.toNatClampNeg)).toInt64 + (f_X2_moveMonth_j2 p2 p3))) else mi) else mi)) else mi) else mi)
def k_X2_moveMonth (mi : Nat → Int32) (p1 : Int32) (p2 : Int32) (p3 : Int32) (p4 : Int32) : Int32 := (if k_X2_checkSlot p1 4 = 0 then (if k_X2_checkSlot p4 4 = 0 then (if f_X2_moveMonth_j1 p2 = 0 then k_X2_checkArgument 0 else (if k_X2_checkArgument (f_X2_isIn ((p3).toInt64) (-1000000) 1000000) = 0 then (if k_X2_keepMonth (((mi p1.toNatClampNeg)).toInt64 + (f_X2_moveMonth_j2 p2 p3)) = 0 then 0 else k_X2_keepMonth (((mi p1.toNatClampNeg)).toInt64 + (f_X2_moveMonth_j2 p2 p3))) else k_X2_checkArgument (f_X2_isIn ((p3).toInt64) (-1000000) 1000000))) else k_X2_checkSlot p4 4) else k_X2_checkSlot p1 4)
theorem q_X2_moveMonth : ZY yX2_moveMonth wsX2_moveMonth cX2_moveMonth 5 (some .int) 4 := ⟨⟨_, rfl⟩, by decide +kernel, by decide +kernel, by decide +kernel⟩
set_option maxHeartbeats 4000000 in
set_option maxRecDepth 100000 in
theorem c_X2_moveMonth (l : Launch) (hfl : l.stackTraces = false) (D : va_G) (cI cJ : ClassId) (X : va_W) (y : Nat → Nat) (d : Nat → Int64) (sy : Nat → Int32) (sm : Nat → Int32) (sd : Nat → Int32) (mi : Nat → Int32) (ti : Nat → Int64) (sL : Nat → Int64) (bL : Nat → Int64) (mD : Nat → Int64) (mT : Nat → Int64) (p1 : Int32) (p2 : Int32) (p3 : Int32) (p4 : Int32)  : ZM l yX2_moveMonth wsX2_moveMonth { frames := 8, cells := 5, slots := 30, locals := 125 } [.ref (y 0), .int p1, .int p2, .int p3, .int p4] D (zTys cI cJ) (wY cI cJ y d sy sm sd mi ti sL bL mD mT X) 5 30 (fun v w => k_X2_moveMonth mi p1 p2 p3 p4 = 0 ∧ v = some (.int (f_X2_moveMonth mi p1 p2 p3 p4)) ∧ w = (wY cI cJ y d sy sm sd (s_X2_moveMonth_mi mi p1 p2 p3 p4) ti sL bL mD mT X)) (fun E w => w = (wY cI cJ y d sy sm sd mi ti sL bL mD mT X) ∧ zEx E (k_X2_moveMonth mi p1 p2 p3 p4)) := by
  refine z_open (own := RX2) hfl (cc := cX2_moveMonth) (maxL := 5) (ret := (some .int)) (lv := [(0, .ref (y 0)), (1, .int p1), (2, .int p2), (3, .int p3), (4, .int p4)]) rfl (by decide) rfl rfl (Nat.le_of_ble_eq_true rfl) ?_
  intro p e s m args below meth c A C hno hnm hargs
  have hin : ∀ w ∈ wsX20, w ∈ wsX2_moveMonth := by decide +kernel
  have w1 := C.1.2.2.2.2 (.constantLong RX2 112 (-1000000)) (by decide +kernel)
  have w2 := C.1.2.2.2.2 (.constantLong RX2 114 (1000000)) (by decide +kernel)
  have w3 := C.1.2.2.2.2 (.fieldLink RX2 23 "Yearwheel" "monthIndices" "[I") (by decide +kernel)
  have w4 := C.1.2.2.2.2 (.constantLong RX2 53 (12)) (by decide +kernel)
  refine z_iload_n C dX2_moveMonth_0 rfl 1 rfl ?_
  refine z_iconst (v := 4) C dX2_moveMonth_1 (by decide) ?_
  refine z_xsv (rest := []) C (c_X2_checkSlot l hfl D cI cJ _ p1 (4 : Int32) ) q_X2_checkSlot gX2_moveMonth_X2_checkSlot ⟨rfl, rfl⟩ rfl rfl (Nat.le_of_ble_eq_true rfl) ⟨Nat.le_of_ble_eq_true rfl, Nat.le_of_ble_eq_true rfl⟩ ⟨Nat.le_of_ble_eq_true rfl, Nat.le_of_ble_eq_true rfl⟩ dX2_moveMonth_2 (fun h1 => ?_) (fun E h1 h1_E => ?_)
  · refine z_iload C dX2_moveMonth_5 4 rfl ?_
    refine z_iconst (v := 4) C dX2_moveMonth_7 (by decide) ?_
    refine z_xsv (rest := []) C (c_X2_checkSlot l hfl D cI cJ _ p4 (4 : Int32) ) q_X2_checkSlot gX2_moveMonth_X2_checkSlot ⟨rfl, rfl⟩ rfl rfl (Nat.le_of_ble_eq_true rfl) ⟨Nat.le_of_ble_eq_true rfl, Nat.le_of_ble_eq_true rfl⟩ ⟨Nat.le_of_ble_eq_true rfl, Nat.le_of_ble_eq_true rfl⟩ dX2_moveMonth_8 (fun h2 => ?_) (fun E h2 h2_E => ?_)
    · refine z_iload_n C dX2_moveMonth_11 rfl 2 rfl ?_
      refine z_bipush (v := 109) C dX2_moveMonth_12 (by decide) ?_
      have K1_0 : f_X2_moveMonth_j1 p2 = 0 → (¬ p2 = 109) → (¬ p2 = 121) → ZW p l e { frames := 8, cells := 5, slots := 30, locals := 125 } s m args below meth c 5 D (zTys cI cJ) A (zE D (zTys cI cJ) A below args s (fun v w => k_X2_moveMonth mi p1 p2 p3 p4 = 0 ∧ v = some (.int (f_X2_moveMonth mi p1 p2 p3 p4)) ∧ w = (wY cI cJ y d sy sm sd (s_X2_moveMonth_mi mi p1 p2 p3 p4) ti sL bL mD mT X)) (fun E w => w = (wY cI cJ y d sy sm sd mi ti sL bL mD mT X) ∧ zEx E (k_X2_moveMonth mi p1 p2 p3 p4)) 5 30) 2 12 (wY cI cJ y d sy sm sd mi ti sL bL mD mT X) 28 [(0, .ref (y 0)), (1, .int p1), (2, .int p2), (3, .int p3), (4, .int p4)] [.int 0] := by
        intro h5 h6 h7
        refine z_xsv (rest := []) C (c_X2_checkArgument l hfl D cI cJ _ (0 : Int32) ) q_X2_checkArgument gX2_moveMonth_X2_checkArgument ⟨rfl, rfl⟩ rfl rfl (Nat.le_of_ble_eq_true rfl) ⟨Nat.le_of_ble_eq_true rfl, Nat.le_of_ble_eq_true rfl⟩ ⟨Nat.le_of_ble_eq_true rfl, Nat.le_of_ble_eq_true rfl⟩ dX2_moveMonth_28 (fun h => absurd h (by decide)) (fun E h8 h8_E => ?_)
        exact z_tout C hno ⟨rfl, by rw [k_X2_moveMonth, if_pos h1, if_pos h2, if_pos h5]; exact h8_E⟩ (by decide) (by decide)
      have K1_1 : f_X2_moveMonth_j1 p2 = 1 → ZW p l e { frames := 8, cells := 5, slots := 30, locals := 125 } s m args below meth c 5 D (zTys cI cJ) A (zE D (zTys cI cJ) A below args s (fun v w => k_X2_moveMonth mi p1 p2 p3 p4 = 0 ∧ v = some (.int (f_X2_moveMonth mi p1 p2 p3 p4)) ∧ w = (wY cI cJ y d sy sm sd (s_X2_moveMonth_mi mi p1 p2 p3 p4) ti sL bL mD mT X)) (fun E w => w = (wY cI cJ y d sy sm sd mi ti sL bL mD mT X) ∧ zEx E (k_X2_moveMonth mi p1 p2 p3 p4)) 5 30) 2 12 (wY cI cJ y d sy sm sd mi ti sL bL mD mT X) 28 [(0, .ref (y 0)), (1, .int p1), (2, .int p2), (3, .int p3), (4, .int p4)] [.int 1] := by
        intro h9
        refine z_xsv (rest := []) C (c_X2_checkArgument l hfl D cI cJ _ (1 : Int32) ) q_X2_checkArgument gX2_moveMonth_X2_checkArgument ⟨rfl, rfl⟩ rfl rfl (Nat.le_of_ble_eq_true rfl) ⟨Nat.le_of_ble_eq_true rfl, Nat.le_of_ble_eq_true rfl⟩ ⟨Nat.le_of_ble_eq_true rfl, Nat.le_of_ble_eq_true rfl⟩ dX2_moveMonth_28 (fun _ => ?_) (fun _ h _ => absurd (by decide) h)
        refine z_iload_n C dX2_moveMonth_31 rfl 3 rfl ?_
        refine z_i2l (v := (p3).toInt64) C dX2_moveMonth_32 rfl ?_
        refine z_ldc2 (v := (-1000000)) C w1 dX2_moveMonth_33 ?_
        refine z_ldc2 (v := 1000000) C w2 dX2_moveMonth_36 ?_
        refine z_si (rest := []) C (c_X2_isIn l hfl D cI cJ _ ((p3).toInt64) ((-1000000) : Int64) (1000000 : Int64) ) q_X2_isIn gX2_moveMonth_X2_isIn ⟨rfl, rfl⟩ rfl rfl (Nat.le_of_ble_eq_true rfl) ⟨Nat.le_of_ble_eq_true rfl, Nat.le_of_ble_eq_true rfl⟩ ⟨Nat.le_of_ble_eq_true rfl, Nat.le_of_ble_eq_true rfl⟩ dX2_moveMonth_39 ?_
        refine z_xsv (rest := []) C (c_X2_checkArgument l hfl D cI cJ _ (f_X2_isIn ((p3).toInt64) (-1000000) 1000000) ) q_X2_checkArgument gX2_moveMonth_X2_checkArgument ⟨rfl, rfl⟩ rfl rfl (Nat.le_of_ble_eq_true rfl) ⟨Nat.le_of_ble_eq_true rfl, Nat.le_of_ble_eq_true rfl⟩ ⟨Nat.le_of_ble_eq_true rfl, Nat.le_of_ble_eq_true rfl⟩ dX2_moveMonth_42 (fun h11 => ?_) (fun E h11 h11_E => ?_)
        · refine z_aload_n C dX2_moveMonth_45 rfl 0 rfl ?_
          refine z_iload C dX2_moveMonth_46 4 rfl ?_
          refine z_aload_n C dX2_moveMonth_48 rfl 0 rfl ?_
          refine z_get (CC := RX2) (T := TX2) (N := 10) (ci := 2) C hin 0 rfl rfl 4 (by decide) w3 rfl rfl dX2_moveMonth_49 ?_
          refine z_iload_n C dX2_moveMonth_52 rfl 1 rfl ?_
          refine z_iald C 5 0 rfl rfl (vpS4 h1) dX2_moveMonth_53 ?_
          refine z_i2l (v := ((mi p1.toNatClampNeg)).toInt64) C dX2_moveMonth_54 rfl ?_
          refine z_iload_n C dX2_moveMonth_55 rfl 2 rfl ?_
          refine z_bipush (v := 121) C dX2_moveMonth_56 (by decide) ?_
          have K2 : ∀ (v2_0 : Int64), v2_0 = (f_X2_moveMonth_j2 p2 p3) → ZW p l e { frames := 8, cells := 5, slots := 30, locals := 125 } s m args below meth c 5 D (zTys cI cJ) A (zE D (zTys cI cJ) A below args s (fun v w => k_X2_moveMonth mi p1 p2 p3 p4 = 0 ∧ v = some (.int (f_X2_moveMonth mi p1 p2 p3 p4)) ∧ w = (wY cI cJ y d sy sm sd (s_X2_moveMonth_mi mi p1 p2 p3 p4) ti sL bL mD mT X)) (fun E w => w = (wY cI cJ y d sy sm sd mi ti sL bL mD mT X) ∧ zEx E (k_X2_moveMonth mi p1 p2 p3 p4)) 5 30) 4 24 (wY cI cJ y d sy sm sd mi ti sL bL mD mT X) 72 [(0, .ref (y 0)), (1, .int p1), (2, .int p2), (3, .int p3), (4, .int p4)] [.long v2_0, .long ((mi p1.toNatClampNeg)).toInt64, .int p4, .ref (y 0)] := by
            rintro _ rfl
            refine z_ladd C dX2_moveMonth_72 ?_
            refine z_xwi (ws' := (wY cI cJ y d sy sm sd (s_X2_keepMonth_mi mi p4 (((mi p1.toNatClampNeg)).toInt64 + (f_X2_moveMonth_j2 p2 p3))) ti sL bL mD mT X)) (rest := []) (ci := 2) (q0 := 0) C (c_X2_keepMonth l hfl D cI cJ X y d sy sm sd mi ti sL bL mD mT p4 (((mi p1.toNatClampNeg)).toInt64 + (f_X2_moveMonth_j2 p2 p3)) (vpS4 h2)) q_X2_keepMonth rfl rfl rfl gX2_moveMonth_X2_keepMonth ⟨rfl, rfl⟩ rfl rfl (Nat.le_of_ble_eq_true rfl) ⟨Nat.le_of_ble_eq_true rfl, Nat.le_of_ble_eq_true rfl⟩ ⟨Nat.le_of_ble_eq_true rfl, Nat.le_of_ble_eq_true rfl⟩ dX2_moveMonth_73 (fun h13 => ?_) (fun E h13 h13_E => ?_)
            · exact z_iret C ⟨by rw [k_X2_moveMonth, if_pos h1, if_pos h2, if_neg (by rw [h9]; decide : ¬ f_X2_moveMonth_j1 p2 = 0), if_pos h11, if_pos h13], congrArg (fun v => some (Value.int v)) (by rw [f_X2_moveMonth, if_pos h1, if_pos h2, if_neg (by rw [h9]; decide : ¬ f_X2_moveMonth_j1 p2 = 0), if_pos h11, if_pos h13] : (f_X2_keepMonth (((mi p1.toNatClampNeg)).toInt64 + (f_X2_moveMonth_j2 p2 p3))) = (f_X2_moveMonth mi p1 p2 p3 p4)), by rw [s_X2_moveMonth_mi, if_pos h1, if_pos h2, if_neg (by rw [h9]; decide : ¬ f_X2_moveMonth_j1 p2 = 0), if_pos h11, if_pos h13]⟩ (by decide) (by decide) dX2_moveMonth_76
            · exact z_tout C hno ⟨rfl, by rw [k_X2_moveMonth, if_pos h1, if_pos h2, if_neg (by rw [h9]; decide : ¬ f_X2_moveMonth_j1 p2 = 0), if_pos h11, if_neg h13]; exact h13_E⟩ (by decide) (by decide)
          refine z_icmp_ne (tgt := 70) C dX2_moveMonth_58 (by decide) (fun h12 => ?_) (fun h12 => ?_)
          · refine z_iload_n C dX2_moveMonth_70 rfl 3 rfl ?_
            refine z_i2l (v := (p3).toInt64) C dX2_moveMonth_71 rfl ?_
            exact K2 _ (by rw [f_X2_moveMonth_j2, if_neg h12])
          · refine z_ldc2 (v := 12) C w4 dX2_moveMonth_61 ?_
            refine z_iload_n C dX2_moveMonth_64 rfl 3 rfl ?_
            refine z_i2l (v := (p3).toInt64) C dX2_moveMonth_65 rfl ?_
            refine z_lmul C dX2_moveMonth_66 ?_
            refine z_goto (tgt := 72) C dX2_moveMonth_67 (by decide) ?_
            exact K2 _ (by rw [f_X2_moveMonth_j2, if_pos h12])
        · exact z_tout C hno ⟨rfl, by rw [k_X2_moveMonth, if_pos h1, if_pos h2, if_neg (by rw [h9]; decide : ¬ f_X2_moveMonth_j1 p2 = 0), if_neg h11]; exact h11_E⟩ (by decide) (by decide)
      refine z_icmp_eq (tgt := 23) C dX2_moveMonth_14 (by decide) (fun h3 => ?_) (fun h3 => ?_)
      · refine z_iconst (v := 1) C dX2_moveMonth_23 (by decide) ?_
        refine z_goto (tgt := 28) C dX2_moveMonth_24 (by decide) ?_
        exact K1_1 (by rw [f_X2_moveMonth_j1, if_pos h3]) 
      · refine z_iload_n C dX2_moveMonth_17 rfl 2 rfl ?_
        refine z_bipush (v := 121) C dX2_moveMonth_18 (by decide) ?_
        refine z_icmp_ne (tgt := 27) C dX2_moveMonth_20 (by decide) (fun h4 => ?_) (fun h4 => ?_)
        · refine z_iconst (v := 0) C dX2_moveMonth_27 (by decide) ?_
          exact K1_0 (by rw [f_X2_moveMonth_j1, if_neg h3, if_neg h4]) h3 h4
        · refine z_iconst (v := 1) C dX2_moveMonth_23 (by decide) ?_
          refine z_goto (tgt := 28) C dX2_moveMonth_24 (by decide) ?_
          exact K1_1 (by rw [f_X2_moveMonth_j1, if_neg h3, if_pos h4]) 
    · exact z_tout C hno ⟨rfl, by rw [k_X2_moveMonth, if_pos h1, if_neg h2]; exact h2_E⟩ (by decide) (by decide)
  · exact z_tout C hno ⟨rfl, by rw [k_X2_moveMonth, if_neg h1]; exact h1_E⟩ (by decide) (by decide)
def f_X2_monthPart (mi : Nat → Int32) (p1 : Int32) (p2 : Int32) : Int32 := (if k_X2_checkSlot p1 4 = 0 then (if p2 = 76 then (f_X1_lengthOfYear (f_X1_yearOfMonth (((mi p1.toNatClampNeg)).toInt64))) else (if p2 = 108 then (f_X1_lengthOfMonth (((mi p1.toNatClampNeg)).toInt64)) else (if p2 = 109 then (f_X1_monthInYear (((mi p1.toNatClampNeg)).toInt64)) else (if p2 = 121 then ((f_X1_yearOfMonth (((mi p1.toNatClampNeg)).toInt64))).toInt32 else 0)))) else 0)
def k_X2_monthPart (p1 : Int32) (p2 : Int32) : Int32 := (if k_X2_checkSlot p1 4 = 0 then (if p2 = 76 then 0 else (if p2 = 108 then 0 else (if p2 = 109 then 0 else (if p2 = 121 then 0 else 2)))) else k_X2_checkSlot p1 4)
theorem q_X2_monthPart : ZY yX2_monthPart wsX2_monthPart cX2_monthPart 5 (some .int) 2 := ⟨⟨_, rfl⟩, by decide +kernel, by decide +kernel, by decide +kernel⟩
set_option maxHeartbeats 4000000 in
set_option maxRecDepth 100000 in
theorem c_X2_monthPart (l : Launch) (hfl : l.stackTraces = false) (D : va_G) (cI cJ : ClassId) (X : va_W) (y : Nat → Nat) (d : Nat → Int64) (sy : Nat → Int32) (sm : Nat → Int32) (sd : Nat → Int32) (mi : Nat → Int32) (ti : Nat → Int64) (sL : Nat → Int64) (bL : Nat → Int64) (mD : Nat → Int64) (mT : Nat → Int64) (p1 : Int32) (p2 : Int32)  : ZM l yX2_monthPart wsX2_monthPart { frames := 7, cells := 2, slots := 12, locals := 103 } [.ref (y 0), .int p1, .int p2] D (zTys cI cJ) (wY cI cJ y d sy sm sd mi ti sL bL mD mT X) 2 12 (fun v w => k_X2_monthPart p1 p2 = 0 ∧ v = some (.int (f_X2_monthPart mi p1 p2)) ∧ w = (wY cI cJ y d sy sm sd mi ti sL bL mD mT X)) (fun E w => w = (wY cI cJ y d sy sm sd mi ti sL bL mD mT X) ∧ zEx E (k_X2_monthPart p1 p2)) := by
  refine z_open (own := RX2) hfl (cc := cX2_monthPart) (maxL := 5) (ret := (some .int)) (lv := [(0, .ref (y 0)), (1, .int p1), (2, .int p2)]) rfl (by decide) rfl rfl (Nat.le_of_ble_eq_true rfl) ?_
  intro p e s m args below meth c A C hno hnm hargs
  have hin : ∀ w ∈ wsX20, w ∈ wsX2_monthPart := by decide +kernel
  have w1 := C.1.2.2.2.2 (.fieldLink RX2 23 "Yearwheel" "monthIndices" "[I") (by decide +kernel)
  have w2 := C.1.2.2.2.2 (.classLink RX2 101 "java/lang/IllegalArgumentException") (by decide +kernel)
  have w3 := C.1.2.2.2.2 (.initialized "java/lang/IllegalArgumentException") (by decide +kernel)
  refine z_iload_n C dX2_monthPart_0 rfl 1 rfl ?_
  refine z_iconst (v := 4) C dX2_monthPart_1 (by decide) ?_
  refine z_xsv (rest := []) C (c_X2_checkSlot l hfl D cI cJ _ p1 (4 : Int32) ) q_X2_checkSlot gX2_monthPart_X2_checkSlot ⟨rfl, rfl⟩ rfl rfl (Nat.le_of_ble_eq_true rfl) ⟨Nat.le_of_ble_eq_true rfl, Nat.le_of_ble_eq_true rfl⟩ ⟨Nat.le_of_ble_eq_true rfl, Nat.le_of_ble_eq_true rfl⟩ dX2_monthPart_2 (fun h1 => ?_) (fun E h1 h1_E => ?_)
  · refine z_aload_n C dX2_monthPart_5 rfl 0 rfl ?_
    refine z_get (CC := RX2) (T := TX2) (N := 10) (ci := 2) C hin 0 rfl rfl 4 (by decide) w1 rfl rfl dX2_monthPart_6 ?_
    refine z_iload_n C dX2_monthPart_9 rfl 1 rfl ?_
    refine z_iald C 5 0 rfl rfl (vpS4 h1) dX2_monthPart_10 ?_
    refine z_i2l (v := ((mi p1.toNatClampNeg)).toInt64) C dX2_monthPart_11 rfl ?_
    refine z_lstore_n (lv' := [(3, .long ((mi p1.toNatClampNeg)).toInt64), (0, .ref (y 0)), (1, .int p1), (2, .int p2)]) C dX2_monthPart_12 rfl (by decide) rfl ?_
    refine z_iload_n C dX2_monthPart_13 rfl 3 rfl ?_
    refine zcases (p2 = 76) (fun h2 => ?_) (fun h2 => ?_)
    · refine z_lookup (off := 58) (tgt := 72) C dX2_monthPart_14 (by decide) (by rw [h2]; decide) (by decide) ?_
      refine z_lload_n C dX2_monthPart_72 rfl 0 rfl ?_
      refine z_sl (rest := []) C (c_X1_yearOfMonth l hfl D cI cJ _ (((mi p1.toNatClampNeg)).toInt64) ) q_X1_yearOfMonth gX2_monthPart_X1_yearOfMonth ⟨rfl, rfl⟩ rfl rfl (Nat.le_of_ble_eq_true rfl) ⟨Nat.le_of_ble_eq_true rfl, Nat.le_of_ble_eq_true rfl⟩ ⟨Nat.le_of_ble_eq_true rfl, Nat.le_of_ble_eq_true rfl⟩ dX2_monthPart_73 ?_
      refine z_si (rest := []) C (c_X1_lengthOfYear l hfl D cI cJ _ (f_X1_yearOfMonth (((mi p1.toNatClampNeg)).toInt64)) ) q_X1_lengthOfYear gX2_monthPart_X1_lengthOfYear ⟨rfl, rfl⟩ rfl rfl (Nat.le_of_ble_eq_true rfl) ⟨Nat.le_of_ble_eq_true rfl, Nat.le_of_ble_eq_true rfl⟩ ⟨Nat.le_of_ble_eq_true rfl, Nat.le_of_ble_eq_true rfl⟩ dX2_monthPart_76 ?_
      exact z_iret C ⟨by rw [k_X2_monthPart, if_pos h1, if_pos h2], congrArg (fun v => some (Value.int v)) (by rw [f_X2_monthPart, if_pos h1, if_pos h2] : (f_X1_lengthOfYear (f_X1_yearOfMonth (((mi p1.toNatClampNeg)).toInt64))) = (f_X2_monthPart mi p1 p2)), rfl⟩ (by decide) (by decide) dX2_monthPart_79
    · refine zcases (p2 = 108) (fun h3 => ?_) (fun h3 => ?_)
      · refine z_lookup (off := 53) (tgt := 67) C dX2_monthPart_14 (by decide) (by rw [h3]; decide) (by decide) ?_
        refine z_lload_n C dX2_monthPart_67 rfl 0 rfl ?_
        refine z_si (rest := []) C (c_X1_lengthOfMonth l hfl D cI cJ _ (((mi p1.toNatClampNeg)).toInt64) ) q_X1_lengthOfMonth gX2_monthPart_X1_lengthOfMonth ⟨rfl, rfl⟩ rfl rfl (Nat.le_of_ble_eq_true rfl) ⟨Nat.le_of_ble_eq_true rfl, Nat.le_of_ble_eq_true rfl⟩ ⟨Nat.le_of_ble_eq_true rfl, Nat.le_of_ble_eq_true rfl⟩ dX2_monthPart_68 ?_
        exact z_iret C ⟨by rw [k_X2_monthPart, if_pos h1, if_neg h2, if_pos h3], congrArg (fun v => some (Value.int v)) (by rw [f_X2_monthPart, if_pos h1, if_neg h2, if_pos h3] : (f_X1_lengthOfMonth (((mi p1.toNatClampNeg)).toInt64)) = (f_X2_monthPart mi p1 p2)), rfl⟩ (by decide) (by decide) dX2_monthPart_71
      · refine zcases (p2 = 109) (fun h4 => ?_) (fun h4 => ?_)
        · refine z_lookup (off := 48) (tgt := 62) C dX2_monthPart_14 (by decide) (by rw [h4]; decide) (by decide) ?_
          refine z_lload_n C dX2_monthPart_62 rfl 0 rfl ?_
          refine z_si (rest := []) C (c_X1_monthInYear l hfl D cI cJ _ (((mi p1.toNatClampNeg)).toInt64) ) q_X1_monthInYear gX2_monthPart_X1_monthInYear ⟨rfl, rfl⟩ rfl rfl (Nat.le_of_ble_eq_true rfl) ⟨Nat.le_of_ble_eq_true rfl, Nat.le_of_ble_eq_true rfl⟩ ⟨Nat.le_of_ble_eq_true rfl, Nat.le_of_ble_eq_true rfl⟩ dX2_monthPart_63 ?_
          exact z_iret C ⟨by rw [k_X2_monthPart, if_pos h1, if_neg h2, if_neg h3, if_pos h4], congrArg (fun v => some (Value.int v)) (by rw [f_X2_monthPart, if_pos h1, if_neg h2, if_neg h3, if_pos h4] : (f_X1_monthInYear (((mi p1.toNatClampNeg)).toInt64)) = (f_X2_monthPart mi p1 p2)), rfl⟩ (by decide) (by decide) dX2_monthPart_66
        · refine zcases (p2 = 121) (fun h5 => ?_) (fun h5 => ?_)
          · refine z_lookup (off := 42) (tgt := 56) C dX2_monthPart_14 (by decide) (by rw [h5]; decide) (by decide) ?_
            refine z_lload_n C dX2_monthPart_56 rfl 0 rfl ?_
            refine z_sl (rest := []) C (c_X1_yearOfMonth l hfl D cI cJ _ (((mi p1.toNatClampNeg)).toInt64) ) q_X1_yearOfMonth gX2_monthPart_X1_yearOfMonth ⟨rfl, rfl⟩ rfl rfl (Nat.le_of_ble_eq_true rfl) ⟨Nat.le_of_ble_eq_true rfl, Nat.le_of_ble_eq_true rfl⟩ ⟨Nat.le_of_ble_eq_true rfl, Nat.le_of_ble_eq_true rfl⟩ dX2_monthPart_57 ?_
            refine z_l2i (v := ((f_X1_yearOfMonth (((mi p1.toNatClampNeg)).toInt64))).toInt32) C dX2_monthPart_60 rfl ?_
            exact z_iret C ⟨by rw [k_X2_monthPart, if_pos h1, if_neg h2, if_neg h3, if_neg h4, if_pos h5], congrArg (fun v => some (Value.int v)) (by rw [f_X2_monthPart, if_pos h1, if_neg h2, if_neg h3, if_neg h4, if_pos h5] : ((f_X1_yearOfMonth (((mi p1.toNatClampNeg)).toInt64))).toInt32 = (f_X2_monthPart mi p1 p2)), rfl⟩ (by decide) (by decide) dX2_monthPart_61
          · refine z_lookup (off := 66) (tgt := 80) C dX2_monthPart_14 (by decide) (zlk4 h2 h3 h4 h5) (by decide) ?_
            obtain ⟨sa, hsa⟩ := C.2.2.2.2.2.1.1 (183, _) (List.mem_of_getElem? (i := 6) rfl)
            exact z_throwS C hno (cls := "java/lang/IllegalArgumentException") (names := ["java/lang/RuntimeException", "java/lang/Exception"]) (by decide +kernel) (by decide +kernel) w2 w3 hsa (z_hat RX2 105 "java/lang/IllegalArgumentException" ["java/lang/RuntimeException", "java/lang/Exception"] zg_105 (fun w hw => C.1.2.2.2.2 w ((by decide +kernel : ∀ w ∈ (vx_atS RX2 105 "java/lang/IllegalArgumentException" ["java/lang/RuntimeException", "java/lang/Exception"]).filter goodWord, w ∈ wsX2_monthPart) w hw)) C.2.2.2.2.2.1 (by decide : "java/lang/IllegalArgumentException" ∈ zCs)) zo_105 dX2_monthPart_80 dX2_monthPart_83 dX2_monthPart_84 dX2_monthPart_86 dX2_monthPart_89 (by decide) (Nat.le_of_ble_eq_true rfl) (Nat.le_of_ble_eq_true rfl) (Nat.le_of_ble_eq_true rfl) (Nat.le_of_ble_eq_true rfl) (Nat.le_of_ble_eq_true rfl) ⟨rfl, by rw [k_X2_monthPart, if_pos h1, if_neg h2, if_neg h3, if_neg h4, if_neg h5]; exact zEx2⟩
  · exact z_tout C hno ⟨rfl, by rw [k_X2_monthPart, if_neg h1]; exact h1_E⟩ (by decide) (by decide)
def f_X2_atDay_j1 (mi : Nat → Int32) (p1 : Int32) (p2 : Int32) : Int32 := (if p2 = 0 then (f_X1_lengthOfMonth (((mi p1.toNatClampNeg)).toInt64)) else p2)
def f_X2_atDay (mi : Nat → Int32) (p1 : Int32) (p2 : Int32) (p3 : Int32) : Int64 := (if k_X2_checkSlot p1 4 = 0 then (if k_X2_checkSlot p3 6 = 0 then (if k_X2_checkArgument (f_X2_isIn ((p2).toInt64) 0 (((f_X1_lengthOfMonth (((mi p1.toNatClampNeg)).toInt64))).toInt64)) = 0 then (if k_X2_keepDate (((f_X1_firstOfMonth (((mi p1.toNatClampNeg)).toInt64)) + ((f_X2_atDay_j1 mi p1 p2)).toInt64) - 1) = 0 then (f_X2_keepDate (((f_X1_firstOfMonth (((mi p1.toNatClampNeg)).toInt64)) + ((f_X2_atDay_j1 mi p1 p2)).toInt64) - 1)) else 0) else 0) else 0) else 0)
def s_X2_atDay_d (d : Nat → Int64) (mi : Nat → Int32) (p1 : Int32) (p2 : Int32) (p3 : Int32) : Nat → Int64 := (if k_X2_checkSlot p1 4 = 0 then (if k_X2_checkSlot p3 6 = 0 then (if k_X2_checkArgument (f_X2_isIn ((p2).toInt64) 0 (((f_X1_lengthOfMonth (((mi p1.toNatClampNeg)).toInt64))).toInt64)) = 0 then (if k_X2_keepDate (((f_X1_firstOfMonth (((mi p1.toNatClampNeg)).toInt64)) + ((f_X2_atDay_j1 mi p1 p2)).toInt64) - 1) = 0 then (s_X2_keepDate_d d p3 (((f_X1_firstOfMonth (((mi p1.toNatClampNeg)).toInt64)) + ((f_X2_atDay_j1 mi p1 p2)).toInt64) - 1)) else d) else d) else d) else d)
def k_X2_atDay (mi : Nat → Int32) (p1 : Int32) (p2 : Int32) (p3 : Int32) : Int32 := (if k_X2_checkSlot p1 4 = 0 then (if k_X2_checkSlot p3 6 = 0 then (if k_X2_checkArgument (f_X2_isIn ((p2).toInt64) 0 (((f_X1_lengthOfMonth (((mi p1.toNatClampNeg)).toInt64))).toInt64)) = 0 then (if k_X2_keepDate (((f_X1_firstOfMonth (((mi p1.toNatClampNeg)).toInt64)) + ((f_X2_atDay_j1 mi p1 p2)).toInt64) - 1) = 0 then 0 else k_X2_keepDate (((f_X1_firstOfMonth (((mi p1.toNatClampNeg)).toInt64)) + ((f_X2_atDay_j1 mi p1 p2)).toInt64) - 1)) else k_X2_checkArgument (f_X2_isIn ((p2).toInt64) 0 (((f_X1_lengthOfMonth (((mi p1.toNatClampNeg)).toInt64))).toInt64))) else k_X2_checkSlot p3 6) else k_X2_checkSlot p1 4)
theorem q_X2_atDay : ZY yX2_atDay wsX2_atDay cX2_atDay 5 (some .long) 3 := ⟨⟨_, rfl⟩, by decide +kernel, by decide +kernel, by decide +kernel⟩
set_option maxHeartbeats 4000000 in
set_option maxRecDepth 100000 in
theorem c_X2_atDay (l : Launch) (hfl : l.stackTraces = false) (D : va_G) (cI cJ : ClassId) (X : va_W) (y : Nat → Nat) (d : Nat → Int64) (sy : Nat → Int32) (sm : Nat → Int32) (sd : Nat → Int32) (mi : Nat → Int32) (ti : Nat → Int64) (sL : Nat → Int64) (bL : Nat → Int64) (mD : Nat → Int64) (mT : Nat → Int64) (p1 : Int32) (p2 : Int32) (p3 : Int32)  : ZM l yX2_atDay wsX2_atDay { frames := 8, cells := 4, slots := 24, locals := 125 } [.ref (y 0), .int p1, .int p2, .int p3] D (zTys cI cJ) (wY cI cJ y d sy sm sd mi ti sL bL mD mT X) 4 24 (fun v w => k_X2_atDay mi p1 p2 p3 = 0 ∧ v = some (.long (f_X2_atDay mi p1 p2 p3)) ∧ w = (wY cI cJ y (s_X2_atDay_d d mi p1 p2 p3) sy sm sd mi ti sL bL mD mT X)) (fun E w => w = (wY cI cJ y d sy sm sd mi ti sL bL mD mT X) ∧ zEx E (k_X2_atDay mi p1 p2 p3)) := by
  refine z_open (own := RX2) hfl (cc := cX2_atDay) (maxL := 5) (ret := (some .long)) (lv := [(0, .ref (y 0)), (1, .int p1), (2, .int p2), (3, .int p3)]) rfl (by decide) rfl rfl (Nat.le_of_ble_eq_true rfl) ?_
  intro p e s m args below meth c A C hno hnm hargs
  have hin : ∀ w ∈ wsX20, w ∈ wsX2_atDay := by decide +kernel
  have w1 := C.1.2.2.2.2 (.fieldLink RX2 23 "Yearwheel" "monthIndices" "[I") (by decide +kernel)
  refine z_iload_n C dX2_atDay_0 rfl 1 rfl ?_
  refine z_iconst (v := 4) C dX2_atDay_1 (by decide) ?_
  refine z_xsv (rest := []) C (c_X2_checkSlot l hfl D cI cJ _ p1 (4 : Int32) ) q_X2_checkSlot gX2_atDay_X2_checkSlot ⟨rfl, rfl⟩ rfl rfl (Nat.le_of_ble_eq_true rfl) ⟨Nat.le_of_ble_eq_true rfl, Nat.le_of_ble_eq_true rfl⟩ ⟨Nat.le_of_ble_eq_true rfl, Nat.le_of_ble_eq_true rfl⟩ dX2_atDay_2 (fun h1 => ?_) (fun E h1 h1_E => ?_)
  · refine z_iload_n C dX2_atDay_5 rfl 3 rfl ?_
    refine z_bipush (v := 6) C dX2_atDay_6 (by decide) ?_
    refine z_xsv (rest := []) C (c_X2_checkSlot l hfl D cI cJ _ p3 (6 : Int32) ) q_X2_checkSlot gX2_atDay_X2_checkSlot ⟨rfl, rfl⟩ rfl rfl (Nat.le_of_ble_eq_true rfl) ⟨Nat.le_of_ble_eq_true rfl, Nat.le_of_ble_eq_true rfl⟩ ⟨Nat.le_of_ble_eq_true rfl, Nat.le_of_ble_eq_true rfl⟩ dX2_atDay_8 (fun h2 => ?_) (fun E h2 h2_E => ?_)
    · refine z_aload_n C dX2_atDay_11 rfl 0 rfl ?_
      refine z_get (CC := RX2) (T := TX2) (N := 10) (ci := 2) C hin 0 rfl rfl 4 (by decide) w1 rfl rfl dX2_atDay_12 ?_
      refine z_iload_n C dX2_atDay_15 rfl 1 rfl ?_
      refine z_iald C 5 0 rfl rfl (vpS4 h1) dX2_atDay_16 ?_
      refine z_i2l (v := ((mi p1.toNatClampNeg)).toInt64) C dX2_atDay_17 rfl ?_
      refine z_si (rest := []) C (c_X1_lengthOfMonth l hfl D cI cJ _ (((mi p1.toNatClampNeg)).toInt64) ) q_X1_lengthOfMonth gX2_atDay_X1_lengthOfMonth ⟨rfl, rfl⟩ rfl rfl (Nat.le_of_ble_eq_true rfl) ⟨Nat.le_of_ble_eq_true rfl, Nat.le_of_ble_eq_true rfl⟩ ⟨Nat.le_of_ble_eq_true rfl, Nat.le_of_ble_eq_true rfl⟩ dX2_atDay_18 ?_
      refine z_istore (lv' := [(4, .int (f_X1_lengthOfMonth (((mi p1.toNatClampNeg)).toInt64))), (0, .ref (y 0)), (1, .int p1), (2, .int p2), (3, .int p3)]) C dX2_atDay_21 (by decide) rfl ?_
      refine z_iload_n C dX2_atDay_23 rfl 3 rfl ?_
      refine z_i2l (v := (p2).toInt64) C dX2_atDay_24 rfl ?_
      refine z_lconst (v := 0) C dX2_atDay_25 (by decide) ?_
      refine z_iload C dX2_atDay_26 0 rfl ?_
      refine z_i2l (v := ((f_X1_lengthOfMonth (((mi p1.toNatClampNeg)).toInt64))).toInt64) C dX2_atDay_28 rfl ?_
      refine z_si (rest := []) C (c_X2_isIn l hfl D cI cJ _ ((p2).toInt64) (0 : Int64) (((f_X1_lengthOfMonth (((mi p1.toNatClampNeg)).toInt64))).toInt64) ) q_X2_isIn gX2_atDay_X2_isIn ⟨rfl, rfl⟩ rfl rfl (Nat.le_of_ble_eq_true rfl) ⟨Nat.le_of_ble_eq_true rfl, Nat.le_of_ble_eq_true rfl⟩ ⟨Nat.le_of_ble_eq_true rfl, Nat.le_of_ble_eq_true rfl⟩ dX2_atDay_29 ?_
      refine z_xsv (rest := []) C (c_X2_checkArgument l hfl D cI cJ _ (f_X2_isIn ((p2).toInt64) 0 (((f_X1_lengthOfMonth (((mi p1.toNatClampNeg)).toInt64))).toInt64)) ) q_X2_checkArgument gX2_atDay_X2_checkArgument ⟨rfl, rfl⟩ rfl rfl (Nat.le_of_ble_eq_true rfl) ⟨Nat.le_of_ble_eq_true rfl, Nat.le_of_ble_eq_true rfl⟩ ⟨Nat.le_of_ble_eq_true rfl, Nat.le_of_ble_eq_true rfl⟩ dX2_atDay_32 (fun h3 => ?_) (fun E h3 h3_E => ?_)
      · refine z_aload_n C dX2_atDay_35 rfl 1 rfl ?_
        refine z_iload_n C dX2_atDay_36 rfl 4 rfl ?_
        refine z_aload_n C dX2_atDay_37 rfl 1 rfl ?_
        refine z_get (CC := RX2) (T := TX2) (N := 10) (ci := 2) C hin 0 rfl rfl 4 (by decide) w1 rfl rfl dX2_atDay_38 ?_
        refine z_iload_n C dX2_atDay_41 rfl 2 rfl ?_
        refine z_iald C 5 0 rfl rfl (vpS4 h1) dX2_atDay_42 ?_
        refine z_i2l (v := ((mi p1.toNatClampNeg)).toInt64) C dX2_atDay_43 rfl ?_
        refine z_sl (rest := [.int p3, .ref (y 0)]) C (c_X1_firstOfMonth l hfl D cI cJ _ (((mi p1.toNatClampNeg)).toInt64) ) q_X1_firstOfMonth gX2_atDay_X1_firstOfMonth ⟨rfl, rfl⟩ rfl rfl (Nat.le_of_ble_eq_true rfl) ⟨Nat.le_of_ble_eq_true rfl, Nat.le_of_ble_eq_true rfl⟩ ⟨Nat.le_of_ble_eq_true rfl, Nat.le_of_ble_eq_true rfl⟩ dX2_atDay_44 ?_
        refine z_iload_n C dX2_atDay_47 rfl 3 rfl ?_
        have K1 : ∀ (v1_0 : Int32), v1_0 = (f_X2_atDay_j1 mi p1 p2) → ZW p l e { frames := 8, cells := 4, slots := 24, locals := 125 } s m args below meth c 5 D (zTys cI cJ) A (zE D (zTys cI cJ) A below args s (fun v w => k_X2_atDay mi p1 p2 p3 = 0 ∧ v = some (.long (f_X2_atDay mi p1 p2 p3)) ∧ w = (wY cI cJ y (s_X2_atDay_d d mi p1 p2 p3) sy sm sd mi ti sL bL mD mT X)) (fun E w => w = (wY cI cJ y d sy sm sd mi ti sL bL mD mT X) ∧ zEx E (k_X2_atDay mi p1 p2 p3)) 4 24) 3 18 (wY cI cJ y d sy sm sd mi ti sL bL mD mT X) 57 [(4, .int (f_X1_lengthOfMonth (((mi p1.toNatClampNeg)).toInt64))), (0, .ref (y 0)), (1, .int p1), (2, .int p2), (3, .int p3)] [.int v1_0, .long (f_X1_firstOfMonth (((mi p1.toNatClampNeg)).toInt64)), .int p3, .ref (y 0)] := by
          rintro _ rfl
          refine z_i2l (v := ((f_X2_atDay_j1 mi p1 p2)).toInt64) C dX2_atDay_57 rfl ?_
          refine z_ladd C dX2_atDay_58 ?_
          refine z_lconst (v := 1) C dX2_atDay_59 (by decide) ?_
          refine z_lsub C dX2_atDay_60 ?_
          refine z_xwl (ws' := (wY cI cJ y (s_X2_keepDate_d d p3 (((f_X1_firstOfMonth (((mi p1.toNatClampNeg)).toInt64)) + ((f_X2_atDay_j1 mi p1 p2)).toInt64) - 1)) sy sm sd mi ti sL bL mD mT X)) (rest := []) (ci := 2) (q0 := 0) C (c_X2_keepDate l hfl D cI cJ X y d sy sm sd mi ti sL bL mD mT p3 (((f_X1_firstOfMonth (((mi p1.toNatClampNeg)).toInt64)) + ((f_X2_atDay_j1 mi p1 p2)).toInt64) - 1) (vpS6 h2)) q_X2_keepDate rfl rfl rfl gX2_atDay_X2_keepDate ⟨rfl, rfl⟩ rfl rfl (Nat.le_of_ble_eq_true rfl) ⟨Nat.le_of_ble_eq_true rfl, Nat.le_of_ble_eq_true rfl⟩ ⟨Nat.le_of_ble_eq_true rfl, Nat.le_of_ble_eq_true rfl⟩ dX2_atDay_61 (fun h5 => ?_) (fun E h5 h5_E => ?_)
          · exact z_lret C ⟨by rw [k_X2_atDay, if_pos h1, if_pos h2, if_pos h3, if_pos h5], congrArg (fun v => some (Value.long v)) (by rw [f_X2_atDay, if_pos h1, if_pos h2, if_pos h3, if_pos h5] : (f_X2_keepDate (((f_X1_firstOfMonth (((mi p1.toNatClampNeg)).toInt64)) + ((f_X2_atDay_j1 mi p1 p2)).toInt64) - 1)) = (f_X2_atDay mi p1 p2 p3)), by rw [s_X2_atDay_d, if_pos h1, if_pos h2, if_pos h3, if_pos h5]⟩ (by decide) (by decide) dX2_atDay_64
          · exact z_tout C hno ⟨rfl, by rw [k_X2_atDay, if_pos h1, if_pos h2, if_pos h3, if_neg h5]; exact h5_E⟩ (by decide) (by decide)
        refine z_if_ne (tgt := 56) C dX2_atDay_48 (by decide) (fun h4 => ?_) (fun h4 => ?_)
        · refine z_iload_n C dX2_atDay_56 rfl 3 rfl ?_
          exact K1 _ (by rw [f_X2_atDay_j1, if_neg h4])
        · refine z_iload C dX2_atDay_51 0 rfl ?_
          refine z_goto (tgt := 57) C dX2_atDay_53 (by decide) ?_
          exact K1 _ (by rw [f_X2_atDay_j1, if_pos h4])
      · exact z_tout C hno ⟨rfl, by rw [k_X2_atDay, if_pos h1, if_pos h2, if_neg h3]; exact h3_E⟩ (by decide) (by decide)
    · exact z_tout C hno ⟨rfl, by rw [k_X2_atDay, if_pos h1, if_neg h2]; exact h2_E⟩ (by decide) (by decide)
  · exact z_tout C hno ⟨rfl, by rw [k_X2_atDay, if_neg h1]; exact h1_E⟩ (by decide) (by decide)
def f_X2_orderMonths (mi : Nat → Int32) (p1 : Int32) (p2 : Int32) : Int32 := (if k_X2_checkSlot p1 4 = 0 then (if k_X2_checkSlot p2 4 = 0 then (f_X2_sign (((mi p1.toNatClampNeg)).toInt64) (((mi p2.toNatClampNeg)).toInt64)) else 0) else 0)
def k_X2_orderMonths (p1 : Int32) (p2 : Int32) : Int32 := (if k_X2_checkSlot p1 4 = 0 then (if k_X2_checkSlot p2 4 = 0 then 0 else k_X2_checkSlot p2 4) else k_X2_checkSlot p1 4)
theorem q_X2_orderMonths : ZY yX2_orderMonths wsX2_orderMonths cX2_orderMonths 3 (some .int) 2 := ⟨⟨_, rfl⟩, by decide +kernel, by decide +kernel, by decide +kernel⟩
set_option maxHeartbeats 4000000 in
set_option maxRecDepth 100000 in
theorem c_X2_orderMonths (l : Launch) (hfl : l.stackTraces = false) (D : va_G) (cI cJ : ClassId) (X : va_W) (y : Nat → Nat) (d : Nat → Int64) (sy : Nat → Int32) (sm : Nat → Int32) (sd : Nat → Int32) (mi : Nat → Int32) (ti : Nat → Int64) (sL : Nat → Int64) (bL : Nat → Int64) (mD : Nat → Int64) (mT : Nat → Int64) (p1 : Int32) (p2 : Int32)  : ZM l yX2_orderMonths wsX2_orderMonths { frames := 7, cells := 2, slots := 12, locals := 103 } [.ref (y 0), .int p1, .int p2] D (zTys cI cJ) (wY cI cJ y d sy sm sd mi ti sL bL mD mT X) 2 12 (fun v w => k_X2_orderMonths p1 p2 = 0 ∧ v = some (.int (f_X2_orderMonths mi p1 p2)) ∧ w = (wY cI cJ y d sy sm sd mi ti sL bL mD mT X)) (fun E w => w = (wY cI cJ y d sy sm sd mi ti sL bL mD mT X) ∧ zEx E (k_X2_orderMonths p1 p2)) := by
  refine z_open (own := RX2) hfl (cc := cX2_orderMonths) (maxL := 3) (ret := (some .int)) (lv := [(0, .ref (y 0)), (1, .int p1), (2, .int p2)]) rfl (by decide) rfl rfl (Nat.le_of_ble_eq_true rfl) ?_
  intro p e s m args below meth c A C hno hnm hargs
  have hin : ∀ w ∈ wsX20, w ∈ wsX2_orderMonths := by decide +kernel
  have w1 := C.1.2.2.2.2 (.fieldLink RX2 23 "Yearwheel" "monthIndices" "[I") (by decide +kernel)
  refine z_iload_n C dX2_orderMonths_0 rfl 1 rfl ?_
  refine z_iconst (v := 4) C dX2_orderMonths_1 (by decide) ?_
  refine z_xsv (rest := []) C (c_X2_checkSlot l hfl D cI cJ _ p1 (4 : Int32) ) q_X2_checkSlot gX2_orderMonths_X2_checkSlot ⟨rfl, rfl⟩ rfl rfl (Nat.le_of_ble_eq_true rfl) ⟨Nat.le_of_ble_eq_true rfl, Nat.le_of_ble_eq_true rfl⟩ ⟨Nat.le_of_ble_eq_true rfl, Nat.le_of_ble_eq_true rfl⟩ dX2_orderMonths_2 (fun h1 => ?_) (fun E h1 h1_E => ?_)
  · refine z_iload_n C dX2_orderMonths_5 rfl 2 rfl ?_
    refine z_iconst (v := 4) C dX2_orderMonths_6 (by decide) ?_
    refine z_xsv (rest := []) C (c_X2_checkSlot l hfl D cI cJ _ p2 (4 : Int32) ) q_X2_checkSlot gX2_orderMonths_X2_checkSlot ⟨rfl, rfl⟩ rfl rfl (Nat.le_of_ble_eq_true rfl) ⟨Nat.le_of_ble_eq_true rfl, Nat.le_of_ble_eq_true rfl⟩ ⟨Nat.le_of_ble_eq_true rfl, Nat.le_of_ble_eq_true rfl⟩ dX2_orderMonths_7 (fun h2 => ?_) (fun E h2 h2_E => ?_)
    · refine z_aload_n C dX2_orderMonths_10 rfl 0 rfl ?_
      refine z_get (CC := RX2) (T := TX2) (N := 10) (ci := 2) C hin 0 rfl rfl 4 (by decide) w1 rfl rfl dX2_orderMonths_11 ?_
      refine z_iload_n C dX2_orderMonths_14 rfl 1 rfl ?_
      refine z_iald C 5 0 rfl rfl (vpS4 h1) dX2_orderMonths_15 ?_
      refine z_i2l (v := ((mi p1.toNatClampNeg)).toInt64) C dX2_orderMonths_16 rfl ?_
      refine z_aload_n C dX2_orderMonths_17 rfl 0 rfl ?_
      refine z_get (CC := RX2) (T := TX2) (N := 10) (ci := 2) C hin 0 rfl rfl 4 (by decide) w1 rfl rfl dX2_orderMonths_18 ?_
      refine z_iload_n C dX2_orderMonths_21 rfl 2 rfl ?_
      refine z_iald C 5 0 rfl rfl (vpS4 h2) dX2_orderMonths_22 ?_
      refine z_i2l (v := ((mi p2.toNatClampNeg)).toInt64) C dX2_orderMonths_23 rfl ?_
      refine z_si (rest := []) C (c_X2_sign l hfl D cI cJ _ (((mi p1.toNatClampNeg)).toInt64) (((mi p2.toNatClampNeg)).toInt64) ) q_X2_sign gX2_orderMonths_X2_sign ⟨rfl, rfl⟩ rfl rfl (Nat.le_of_ble_eq_true rfl) ⟨Nat.le_of_ble_eq_true rfl, Nat.le_of_ble_eq_true rfl⟩ ⟨Nat.le_of_ble_eq_true rfl, Nat.le_of_ble_eq_true rfl⟩ dX2_orderMonths_24 ?_
      exact z_iret C ⟨by rw [k_X2_orderMonths, if_pos h1, if_pos h2], congrArg (fun v => some (Value.int v)) (by rw [f_X2_orderMonths, if_pos h1, if_pos h2] : (f_X2_sign (((mi p1.toNatClampNeg)).toInt64) (((mi p2.toNatClampNeg)).toInt64)) = (f_X2_orderMonths mi p1 p2)), rfl⟩ (by decide) (by decide) dX2_orderMonths_27
    · exact z_tout C hno ⟨rfl, by rw [k_X2_orderMonths, if_pos h1, if_neg h2]; exact h2_E⟩ (by decide) (by decide)
  · exact z_tout C hno ⟨rfl, by rw [k_X2_orderMonths, if_neg h1]; exact h1_E⟩ (by decide) (by decide)
