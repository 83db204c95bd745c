def f_X3_span_j1 (p1 : Int32) : Int32 := (if (f_X3_isSlot p1) = 0 then 1 else 0)
def f_X3_span (sy : Nat → Int64) (sm : Nat → Int64) (p1 : Int32) (p2 : Int32) (p3 : Int32) (p4 : Int32) : Int64 := (if f_X3_span_j1 p1 = 0 then (f_X3_spanned sy sm p1 ((p2).toInt64) ((p3).toInt64) ((p4).toInt64) 2) else 0)
def s_X3_span_co (p1 : Int32) (p2 : Int32) (p3 : Int32) (p4 : Int32) : Int32 := (if f_X3_span_j1 p1 = 0 then (s_X3_spanned_co ((p2).toInt64) ((p3).toInt64) ((p4).toInt64) 2) else (s_X3_fails_co 1))
def s_X3_span_sy (sy : Nat → Int64) (p1 : Int32) (p2 : Int32) (p3 : Int32) (p4 : Int32) : Nat → Int64 := (if f_X3_span_j1 p1 = 0 then (s_X3_spanned_sy sy p1 ((p2).toInt64) ((p3).toInt64) ((p4).toInt64) 2) else sy)
def s_X3_span_sm (sm : Nat → Int64) (p1 : Int32) (p2 : Int32) (p3 : Int32) (p4 : Int32) : Nat → Int64 := (if f_X3_span_j1 p1 = 0 then (s_X3_spanned_sm sm p1 ((p2).toInt64) ((p3).toInt64) ((p4).toInt64) 2) else sm)
def s_X3_span_sd (sd : Nat → Int64) (p1 : Int32) (p2 : Int32) (p3 : Int32) (p4 : Int32) : Nat → Int64 := (if f_X3_span_j1 p1 = 0 then (s_X3_spanned_sd sd p1 ((p2).toInt64) ((p3).toInt64) ((p4).toInt64) 2) else sd)
theorem q_X3_span : ZY yX3_span wsX3_span cX3_span 5 (some .long) 4 := ⟨⟨_, rfl⟩, by decide +kernel, by decide +kernel, by decide +kernel⟩
set_option maxHeartbeats 4000000 in
set_option maxRecDepth 100000 in
theorem c_X3_span (l : Launch) (hfl : l.stackTraces = false) (D : va_G) (cI cJ : ClassId) (X : va_W) (z : Nat → Nat) (co : Int32) (d : Nat → Int64) (ti : Nat → Int64) (sL : Nat → Int64) (bL : Nat → Int64) (mD : Nat → Int64) (mT : Nat → Int64) (sy : Nat → Int64) (sm : Nat → Int64) (sd : Nat → Int64) (mi : Nat → Int64) (yr : Int64) (mo : Int32) (dy : Int32) (p1 : Int32) (p2 : Int32) (p3 : Int32) (p4 : Int32)  : ZM l yX3_span wsX3_span { frames := 2, cells := 0, slots := 0, locals := 53 } [.ref (z 0), .int p1, .int p2, .int p3, .int p4] D (zTys cI cJ) (wM cI cJ z co d ti sL bL mD mT sy sm sd mi yr mo dy X) 0 0 (fun v w => v = some (.long (f_X3_span sy sm p1 p2 p3 p4)) ∧ w = (wM cI cJ z (s_X3_span_co p1 p2 p3 p4) d ti sL bL mD mT (s_X3_span_sy sy p1 p2 p3 p4) (s_X3_span_sm sm p1 p2 p3 p4) (s_X3_span_sd sd p1 p2 p3 p4) mi yr mo dy X)) (fun _ _ => False) := by
  refine z_open (own := RX3) hfl (cc := cX3_span) (maxL := 5) (ret := (some .long)) (lv := [(0, .ref (z 0)), (1, .int p1), (2, .int p2), (3, .int p3), (4, .int p4)]) rfl (by decide) rfl rfl (Nat.le_of_ble_eq_true rfl) ?_
  intro p e s m args below meth c A C hno hnm hargs
  have hin : ∀ w ∈ wsX30, w ∈ wsX3_span := by decide +kernel
  refine z_aload_n C dX3_span_0 rfl 0 rfl ?_
  refine z_iload_n C dX3_span_1 rfl 1 rfl ?_
  refine z_si (rest := [.ref (z 0)]) C (c_X3_isSlot l hfl D cI cJ _ p1 ) q_X3_isSlot gX3_span_X3_isSlot ⟨rfl, rfl⟩ rfl rfl (Nat.le_of_ble_eq_true rfl) ⟨Nat.le_of_ble_eq_true rfl, Nat.le_of_ble_eq_true rfl⟩ ⟨Nat.le_of_ble_eq_true rfl, Nat.le_of_ble_eq_true rfl⟩ dX3_span_2 ?_
  have K1_0 : f_X3_span_j1 p1 = 0 → (¬ (f_X3_isSlot p1) = 0) → ZW p l e { frames := 2, cells := 0, slots := 0, locals := 53 } s m args below meth c 5 D (zTys cI cJ) A (zE D (zTys cI cJ) A below args s (fun v w => v = some (.long (f_X3_span sy sm p1 p2 p3 p4)) ∧ w = (wM cI cJ z (s_X3_span_co p1 p2 p3 p4) d ti sL bL mD mT (s_X3_span_sy sy p1 p2 p3 p4) (s_X3_span_sm sm p1 p2 p3 p4) (s_X3_span_sd sd p1 p2 p3 p4) mi yr mo dy X)) (fun _ _ => False) 0 0) 0 0 (wM cI cJ z co d ti sL bL mD mT sy sm sd mi yr mo dy X) 13 [(0, .ref (z 0)), (1, .int p1), (2, .int p2), (3, .int p3), (4, .int p4)] [.int 0, .ref (z 0)] := by
    intro h2 h3
    refine z_wi (ws' := (wM cI cJ z (s_X3_fails_co 0) d ti sL bL mD mT sy sm sd mi yr mo dy X)) (rest := []) (ci := 3) (q0 := 0) C (c_X3_fails l hfl D cI cJ X z co d ti sL bL mD mT sy sm sd mi yr mo dy (0 : Int32) ) q_X3_fails rfl rfl rfl gX3_span_X3_fails ⟨rfl, rfl⟩ rfl rfl (Nat.le_of_ble_eq_true rfl) ⟨Nat.le_of_ble_eq_true rfl, Nat.le_of_ble_eq_true rfl⟩ ⟨Nat.le_of_ble_eq_true rfl, Nat.le_of_ble_eq_true rfl⟩ dX3_span_13 ?_
    refine z_eqst (st' := [.int 0]) (congrArg (fun v => Value.int v :: _) (by decide : (f_X3_fails 0) = (0 : Int32))) ?_
    refine z_if_eq (tgt := 23) C dX3_span_16 (by decide) (fun _ => ?_) (fun h => absurd (by decide) h)
    refine z_aload_n C dX3_span_23 rfl 0 rfl ?_
    refine z_iload_n C dX3_span_24 rfl 1 rfl ?_
    refine z_iload_n C dX3_span_25 rfl 2 rfl ?_
    refine z_i2l (v := (p2).toInt64) C dX3_span_26 rfl ?_
    refine z_iload_n C dX3_span_27 rfl 3 rfl ?_
    refine z_i2l (v := (p3).toInt64) C dX3_span_28 rfl ?_
    refine z_iload C dX3_span_29 4 rfl ?_
    refine z_i2l (v := (p4).toInt64) C dX3_span_31 rfl ?_
    refine z_iconst (v := 2) C dX3_span_32 (by decide) ?_
    refine z_wl (ws' := (wM cI cJ z (s_X3_spanned_co ((p2).toInt64) ((p3).toInt64) ((p4).toInt64) 2) d ti sL bL mD mT (s_X3_spanned_sy sy p1 ((p2).toInt64) ((p3).toInt64) ((p4).toInt64) 2) (s_X3_spanned_sm sm p1 ((p2).toInt64) ((p3).toInt64) ((p4).toInt64) 2) (s_X3_spanned_sd sd p1 ((p2).toInt64) ((p3).toInt64) ((p4).toInt64) 2) mi yr mo dy X)) (rest := []) (ci := 3) (q0 := 0) C (c_X3_spanned l hfl D cI cJ X z (s_X3_fails_co 0) d ti sL bL mD mT sy sm sd mi yr mo dy p1 ((p2).toInt64) ((p3).toInt64) ((p4).toInt64) (2 : Int32) (vpMSlot h3)) q_X3_spanned rfl rfl rfl gX3_span_X3_spanned ⟨rfl, rfl⟩ rfl rfl (Nat.le_of_ble_eq_true rfl) ⟨Nat.le_of_ble_eq_true rfl, Nat.le_of_ble_eq_true rfl⟩ ⟨Nat.le_of_ble_eq_true rfl, Nat.le_of_ble_eq_true rfl⟩ dX3_span_33 ?_
    exact z_lret C ⟨congrArg (fun v => some (Value.long v)) (by rw [f_X3_span, if_pos h2] : (f_X3_spanned sy sm p1 ((p2).toInt64) ((p3).toInt64) ((p4).toInt64) 2) = (f_X3_span sy sm p1 p2 p3 p4)), by rw [s_X3_span_co, if_pos h2, s_X3_span_sy, if_pos h2, s_X3_span_sm, if_pos h2, s_X3_span_sd, if_pos h2]⟩ (by decide) (by decide) dX3_span_36
  have K1_1 : f_X3_span_j1 p1 = 1 → ((f_X3_isSlot p1) = 0) → ZW p l e { frames := 2, cells := 0, slots := 0, locals := 53 } s m args below meth c 5 D (zTys cI cJ) A (zE D (zTys cI cJ) A below args s (fun v w => v = some (.long (f_X3_span sy sm p1 p2 p3 p4)) ∧ w = (wM cI cJ z (s_X3_span_co p1 p2 p3 p4) d ti sL bL mD mT (s_X3_span_sy sy p1 p2 p3 p4) (s_X3_span_sm sm p1 p2 p3 p4) (s_X3_span_sd sd p1 p2 p3 p4) mi yr mo dy X)) (fun _ _ => False) 0 0) 0 0 (wM cI cJ z co d ti sL bL mD mT sy sm sd mi yr mo dy X) 13 [(0, .ref (z 0)), (1, .int p1), (2, .int p2), (3, .int p3), (4, .int p4)] [.int 1, .ref (z 0)] := by
    intro h4 h5
    refine z_wi (ws' := (wM cI cJ z (s_X3_fails_co 1) d ti sL bL mD mT sy sm sd mi yr mo dy X)) (rest := []) (ci := 3) (q0 := 0) C (c_X3_fails l hfl D cI cJ X z co d ti sL bL mD mT sy sm sd mi yr mo dy (1 : Int32) ) q_X3_fails rfl rfl rfl gX3_span_X3_fails ⟨rfl, rfl⟩ rfl rfl (Nat.le_of_ble_eq_true rfl) ⟨Nat.le_of_ble_eq_true rfl, Nat.le_of_ble_eq_true rfl⟩ ⟨Nat.le_of_ble_eq_true rfl, Nat.le_of_ble_eq_true rfl⟩ dX3_span_13 ?_
    refine z_eqst (st' := [.int 1]) (congrArg (fun v => Value.int v :: _) (by decide : (f_X3_fails 1) = (1 : Int32))) ?_
    refine z_if_eq (tgt := 23) C dX3_span_16 (by decide) (fun h => absurd h (by decide)) (fun _ => ?_)
    refine z_lconst (v := 0) C dX3_span_19 (by decide) ?_
    refine z_goto (tgt := 36) C dX3_span_20 (by decide) ?_
    exact z_lret C ⟨congrArg (fun v => some (Value.long v)) (by rw [f_X3_span, if_neg (by rw [h4]; decide : ¬ f_X3_span_j1 p1 = 0)] : (0 : Int64) = (f_X3_span sy sm p1 p2 p3 p4)), by rw [s_X3_span_co, if_neg (by rw [h4]; decide : ¬ f_X3_span_j1 p1 = 0), s_X3_span_sy, if_neg (by rw [h4]; decide : ¬ f_X3_span_j1 p1 = 0), s_X3_span_sm, if_neg (by rw [h4]; decide : ¬ f_X3_span_j1 p1 = 0), s_X3_span_sd, if_neg (by rw [h4]; decide : ¬ f_X3_span_j1 p1 = 0)]⟩ (by decide) (by decide) dX3_span_36
  refine z_if_eq (tgt := 12) C dX3_span_5 (by decide) (fun h1 => ?_) (fun h1 => ?_)
  · refine z_iconst (v := 1) C dX3_span_12 (by decide) ?_
    exact K1_1 (by rw [f_X3_span_j1, if_pos h1]) h1
  · refine z_iconst (v := 0) C dX3_span_8 (by decide) ?_
    refine z_goto (tgt := 13) C dX3_span_9 (by decide) ?_
    exact K1_0 (by rw [f_X3_span_j1, if_neg h1]) h1
def f_X3_until_j1 (d : Nat → Int64) (p1 : Int32) (p2 : Int32) (p3 : Int32) : Int32 := (if (f_X3_isDate p1) = 0 then 1 else (if (f_X3_isDate p2) = 0 then 1 else (if (f_X3_isSlot p3) = 0 then 1 else (if (d p1.toNatClampNeg) ≤ (d p2.toNatClampNeg) then 0 else 2))))
def f_X3_until (d : Nat → Int64) (sy : Nat → Int64) (sm : Nat → Int64) (p1 : Int32) (p2 : Int32) (p3 : Int32) : Int64 := (if f_X3_until_j1 d p1 p2 p3 = 0 then (f_X3_spanned sy sm p3 ((f_X3_monthsFrom (d p1.toNatClampNeg) (d p2.toNatClampNeg)) / 12) ((f_X3_monthsFrom (d p1.toNatClampNeg) (d p2.toNatClampNeg)) - (f_X3_monthsFrom (d p1.toNatClampNeg) (d p2.toNatClampNeg)) / 12 * 12) ((d p2.toNatClampNeg) - (f_X3_byMonths (d p1.toNatClampNeg) (f_X3_monthsFrom (d p1.toNatClampNeg) (d p2.toNatClampNeg)))) 2) else (if f_X3_until_j1 d p1 p2 p3 = 1 then 0 else 0))
def s_X3_until_co (d : Nat → Int64) (p1 : Int32) (p2 : Int32) (p3 : Int32) : Int32 := (if f_X3_until_j1 d p1 p2 p3 = 0 then (s_X3_spanned_co ((f_X3_monthsFrom (d p1.toNatClampNeg) (d p2.toNatClampNeg)) / 12) ((f_X3_monthsFrom (d p1.toNatClampNeg) (d p2.toNatClampNeg)) - (f_X3_monthsFrom (d p1.toNatClampNeg) (d p2.toNatClampNeg)) / 12 * 12) ((d p2.toNatClampNeg) - (f_X3_byMonths (d p1.toNatClampNeg) (f_X3_monthsFrom (d p1.toNatClampNeg) (d p2.toNatClampNeg)))) 2) else (if f_X3_until_j1 d p1 p2 p3 = 1 then (s_X3_fails_co 1) else (s_X3_fails_co 2)))
def s_X3_until_sy (d : Nat → Int64) (sy : Nat → Int64) (p1 : Int32) (p2 : Int32) (p3 : Int32) : Nat → Int64 := (if f_X3_until_j1 d p1 p2 p3 = 0 then (s_X3_spanned_sy sy p3 ((f_X3_monthsFrom (d p1.toNatClampNeg) (d p2.toNatClampNeg)) / 12) ((f_X3_monthsFrom (d p1.toNatClampNeg) (d p2.toNatClampNeg)) - (f_X3_monthsFrom (d p1.toNatClampNeg) (d p2.toNatClampNeg)) / 12 * 12) ((d p2.toNatClampNeg) - (f_X3_byMonths (d p1.toNatClampNeg) (f_X3_monthsFrom (d p1.toNatClampNeg) (d p2.toNatClampNeg)))) 2) else (if f_X3_until_j1 d p1 p2 p3 = 1 then sy else sy))
def s_X3_until_sm (d : Nat → Int64) (sm : Nat → Int64) (p1 : Int32) (p2 : Int32) (p3 : Int32) : Nat → Int64 := (if f_X3_until_j1 d p1 p2 p3 = 0 then (s_X3_spanned_sm sm p3 ((f_X3_monthsFrom (d p1.toNatClampNeg) (d p2.toNatClampNeg)) / 12) ((f_X3_monthsFrom (d p1.toNatClampNeg) (d p2.toNatClampNeg)) - (f_X3_monthsFrom (d p1.toNatClampNeg) (d p2.toNatClampNeg)) / 12 * 12) ((d p2.toNatClampNeg) - (f_X3_byMonths (d p1.toNatClampNeg) (f_X3_monthsFrom (d p1.toNatClampNeg) (d p2.toNatClampNeg)))) 2) else (if f_X3_until_j1 d p1 p2 p3 = 1 then sm else sm))
def s_X3_until_sd (d : Nat → Int64) (sd : Nat → Int64) (p1 : Int32) (p2 : Int32) (p3 : Int32) : Nat → Int64 := (if f_X3_until_j1 d p1 p2 p3 = 0 then (s_X3_spanned_sd sd p3 ((f_X3_monthsFrom (d p1.toNatClampNeg) (d p2.toNatClampNeg)) / 12) ((f_X3_monthsFrom (d p1.toNatClampNeg) (d p2.toNatClampNeg)) - (f_X3_monthsFrom (d p1.toNatClampNeg) (d p2.toNatClampNeg)) / 12 * 12) ((d p2.toNatClampNeg) - (f_X3_byMonths (d p1.toNatClampNeg) (f_X3_monthsFrom (d p1.toNatClampNeg) (d p2.toNatClampNeg)))) 2) else (if f_X3_until_j1 d p1 p2 p3 = 1 then sd else sd))
def s_X3_until_yr (d : Nat → Int64) (yr : Int64) (p1 : Int32) (p2 : Int32) (p3 : Int32) : Int64 := (if f_X3_until_j1 d p1 p2 p3 = 0 then (s_X3_byMonths_yr (d p1.toNatClampNeg)) else (if f_X3_until_j1 d p1 p2 p3 = 1 then yr else yr))
def s_X3_until_mo (d : Nat → Int64) (mo : Int32) (p1 : Int32) (p2 : Int32) (p3 : Int32) : Int32 := (if f_X3_until_j1 d p1 p2 p3 = 0 then (s_X3_byMonths_mo (d p1.toNatClampNeg)) else (if f_X3_until_j1 d p1 p2 p3 = 1 then mo else mo))
def s_X3_until_dy (d : Nat → Int64) (dy : Int32) (p1 : Int32) (p2 : Int32) (p3 : Int32) : Int32 := (if f_X3_until_j1 d p1 p2 p3 = 0 then (s_X3_byMonths_dy (d p1.toNatClampNeg)) else (if f_X3_until_j1 d p1 p2 p3 = 1 then dy else dy))
def pre_X3_until (d : Nat → Int64) (p1 : Int32) (p2 : Int32) (p3 : Int32) : Prop := (((f_X3_until_j1 d p1 p2 p3) = 0) → ((d p1.toNatClampNeg) ≤ (d p2.toNatClampNeg)) → (¬ (f_X3_isDate p1) = 0) → (¬ (f_X3_isDate p2) = 0) → (¬ (f_X3_isSlot p3) = 0) → (pre_X3_monthsFrom (d p1.toNatClampNeg) (d p2.toNatClampNeg))) ∧ (((f_X3_until_j1 d p1 p2 p3) = 0) → ((d p1.toNatClampNeg) ≤ (d p2.toNatClampNeg)) → (¬ (f_X3_isDate p1) = 0) → (¬ (f_X3_isDate p2) = 0) → (¬ (f_X3_isSlot p3) = 0) → (pre_X3_byMonths (d p1.toNatClampNeg) (f_X3_monthsFrom (d p1.toNatClampNeg) (d p2.toNatClampNeg))))
theorem q_X3_until : ZY yX3_until wsX3_until cX3_until 6 (some .long) 3 := ⟨⟨_, rfl⟩, by decide +kernel, by decide +kernel, by decide +kernel⟩
set_option maxHeartbeats 4000000 in
set_option maxRecDepth 100000 in
theorem c_X3_until (l : Launch) (hfl : l.stackTraces = false) (D : va_G) (cI cJ : ClassId) (X : va_W) (z : Nat → Nat) (co : Int32) (d : Nat → Int64) (ti : Nat → Int64) (sL : Nat → Int64) (bL : Nat → Int64) (mD : Nat → Int64) (mT : Nat → Int64) (sy : Nat → Int64) (sm : Nat → Int64) (sd : Nat → Int64) (mi : Nat → Int64) (yr : Int64) (mo : Int32) (dy : Int32) (p1 : Int32) (p2 : Int32) (p3 : Int32)  (h_g : pre_X3_until d p1 p2 p3) : ZM l yX3_until wsX3_until { frames := 6, cells := 0, slots := 0, locals := 144 } [.ref (z 0), .int p1, .int p2, .int p3] D (zTys cI cJ) (wM cI cJ z co d ti sL bL mD mT sy sm sd mi yr mo dy X) 0 0 (fun v w => v = some (.long (f_X3_until d sy sm p1 p2 p3)) ∧ w = (wM cI cJ z (s_X3_until_co d p1 p2 p3) d ti sL bL mD mT (s_X3_until_sy d sy p1 p2 p3) (s_X3_until_sm d sm p1 p2 p3) (s_X3_until_sd d sd p1 p2 p3) mi (s_X3_until_yr d yr p1 p2 p3) (s_X3_until_mo d mo p1 p2 p3) (s_X3_until_dy d dy p1 p2 p3) X)) (fun _ _ => False) := by
  refine z_open (own := RX3) hfl (cc := cX3_until) (maxL := 6) (ret := (some .long)) (lv := [(0, .ref (z 0)), (1, .int p1), (2, .int p2), (3, .int p3)]) rfl (by decide) rfl rfl (Nat.le_of_ble_eq_true rfl) ?_
  intro p e s m args below meth c A C hno hnm hargs
  have hin : ∀ w ∈ wsX30, w ∈ wsX3_until := by decide +kernel
  have w1 := C.1.2.2.2.2 (.fieldLink RX3 13 "YearwheelModel" "dates" "[J") (by decide +kernel)
  have w2 := C.1.2.2.2.2 (.constantLong RX3 113 (12)) (by decide +kernel)
  obtain ⟨g_0, g_1⟩ := h_g
  refine z_aload_n C dX3_until_0 rfl 0 rfl ?_
  refine z_iload_n C dX3_until_1 rfl 1 rfl ?_
  refine z_si (rest := [.ref (z 0)]) C (c_X3_isDate l hfl D cI cJ _ p1 ) q_X3_isDate gX3_until_X3_isDate ⟨rfl, rfl⟩ rfl rfl (Nat.le_of_ble_eq_true rfl) ⟨Nat.le_of_ble_eq_true rfl, Nat.le_of_ble_eq_true rfl⟩ ⟨Nat.le_of_ble_eq_true rfl, Nat.le_of_ble_eq_true rfl⟩ dX3_until_2 ?_
  have K1_0 : f_X3_until_j1 d p1 p2 p3 = 0 → ((d p1.toNatClampNeg) ≤ (d p2.toNatClampNeg)) → (¬ (f_X3_isDate p1) = 0) → (¬ (f_X3_isDate p2) = 0) → (¬ (f_X3_isSlot p3) = 0) → ZW p l e { frames := 6, cells := 0, slots := 0, locals := 144 } s m args below meth c 6 D (zTys cI cJ) A (zE D (zTys cI cJ) A below args s (fun v w => v = some (.long (f_X3_until d sy sm p1 p2 p3)) ∧ w = (wM cI cJ z (s_X3_until_co d p1 p2 p3) d ti sL bL mD mT (s_X3_until_sy d sy p1 p2 p3) (s_X3_until_sm d sm p1 p2 p3) (s_X3_until_sd d sd p1 p2 p3) mi (s_X3_until_yr d yr p1 p2 p3) (s_X3_until_mo d mo p1 p2 p3) (s_X3_until_dy d dy p1 p2 p3) X)) (fun _ _ => False) 0 0) 0 0 (wM cI cJ z co d ti sL bL mD mT sy sm sd mi yr mo dy X) 47 [(0, .ref (z 0)), (1, .int p1), (2, .int p2), (3, .int p3)] [.int 0, .ref (z 0)] := by
    intro h5 h6 h7 h8 h9
    refine z_wi (ws' := (wM cI cJ z (s_X3_fails_co 0) d ti sL bL mD mT sy sm sd mi yr mo dy X)) (rest := []) (ci := 3) (q0 := 0) C (c_X3_fails l hfl D cI cJ X z co d ti sL bL mD mT sy sm sd mi yr mo dy (0 : Int32) ) q_X3_fails rfl rfl rfl gX3_until_X3_fails ⟨rfl, rfl⟩ rfl rfl (Nat.le_of_ble_eq_true rfl) ⟨Nat.le_of_ble_eq_true rfl, Nat.le_of_ble_eq_true rfl⟩ ⟨Nat.le_of_ble_eq_true rfl, Nat.le_of_ble_eq_true rfl⟩ dX3_until_47 ?_
    refine z_eqst (st' := [.int 0]) (congrArg (fun v => Value.int v :: _) (by decide : (f_X3_fails 0) = (0 : Int32))) ?_
    refine z_if_eq (tgt := 55) C dX3_until_50 (by decide) (fun _ => ?_) (fun h => absurd (by decide) h)
    refine z_aload_n C dX3_until_55 rfl 0 rfl ?_
    refine z_aload_n C dX3_until_56 rfl 0 rfl ?_
    refine z_get (CC := RX3) (T := TX3) (N := 14) (ci := 3) C hin 0 rfl rfl 1 (by decide) w1 rfl rfl dX3_until_57 ?_
    refine z_iload_n C dX3_until_60 rfl 1 rfl ?_
    refine z_lald C 1 1 rfl rfl (vpMDate h7) dX3_until_61 ?_
    refine z_aload_n C dX3_until_62 rfl 0 rfl ?_
    refine z_get (CC := RX3) (T := TX3) (N := 14) (ci := 3) C hin 0 rfl rfl 1 (by decide) w1 rfl rfl dX3_until_63 ?_
    refine z_iload_n C dX3_until_66 rfl 2 rfl ?_
    refine z_lald C 1 1 rfl rfl (vpMDate h8) dX3_until_67 ?_
    refine z_wl (ws' := (wM cI cJ z (s_X3_fails_co 0) d ti sL bL mD mT sy sm sd mi (s_X3_monthsFrom_yr (d p1.toNatClampNeg) (d p2.toNatClampNeg)) (s_X3_monthsFrom_mo (d p1.toNatClampNeg) (d p2.toNatClampNeg)) (s_X3_monthsFrom_dy (d p1.toNatClampNeg) (d p2.toNatClampNeg)) X)) (rest := []) (ci := 3) (q0 := 0) C (c_X3_monthsFrom l hfl D cI cJ X z (s_X3_fails_co 0) d ti sL bL mD mT sy sm sd mi yr mo dy (d p1.toNatClampNeg) (d p2.toNatClampNeg) (g_0 h5 h6 h7 h8 h9)) q_X3_monthsFrom rfl rfl rfl gX3_until_X3_monthsFrom ⟨rfl, rfl⟩ rfl rfl (Nat.le_of_ble_eq_true rfl) ⟨Nat.le_of_ble_eq_true rfl, Nat.le_of_ble_eq_true rfl⟩ ⟨Nat.le_of_ble_eq_true rfl, Nat.le_of_ble_eq_true rfl⟩ dX3_until_68 ?_
    refine z_lstore (lv' := [(4, .long (f_X3_monthsFrom (d p1.toNatClampNeg) (d p2.toNatClampNeg))), (0, .ref (z 0)), (1, .int p1), (2, .int p2), (3, .int p3)]) C dX3_until_71 (by decide) rfl ?_
    refine z_aload_n C dX3_until_73 rfl 1 rfl ?_
    refine z_iload_n C dX3_until_74 rfl 4 rfl ?_
    refine z_lload C dX3_until_75 0 rfl ?_
    refine z_ldc2 (v := 12) C w2 dX3_until_77 ?_
    refine z_ldiv C dX3_until_80 (by decide) ?_
    refine z_lload C dX3_until_81 0 rfl ?_
    refine z_ldc2 (v := 12) C w2 dX3_until_83 ?_
    refine z_lrem C dX3_until_86 (by decide) ?_
    refine z_aload_n C dX3_until_87 rfl 1 rfl ?_
    refine z_get (CC := RX3) (T := TX3) (N := 14) (ci := 3) C hin 0 rfl rfl 1 (by decide) w1 rfl rfl dX3_until_88 ?_
    refine z_iload_n C dX3_until_91 rfl 3 rfl ?_
    refine z_lald C 1 1 rfl rfl (vpMDate h8) dX3_until_92 ?_
    refine z_aload_n C dX3_until_93 rfl 1 rfl ?_
    refine z_aload_n C dX3_until_94 rfl 1 rfl ?_
    refine z_get (CC := RX3) (T := TX3) (N := 14) (ci := 3) C hin 0 rfl rfl 1 (by decide) w1 rfl rfl dX3_until_95 ?_
    refine z_iload_n C dX3_until_98 rfl 2 rfl ?_
    refine z_lald C 1 1 rfl rfl (vpMDate h7) dX3_until_99 ?_
    refine z_lload C dX3_until_100 0 rfl ?_
    refine z_wl (ws' := (wM cI cJ z (s_X3_fails_co 0) d ti sL bL mD mT sy sm sd mi (s_X3_byMonths_yr (d p1.toNatClampNeg)) (s_X3_byMonths_mo (d p1.toNatClampNeg)) (s_X3_byMonths_dy (d p1.toNatClampNeg)) X)) (rest := [.long (d p2.toNatClampNeg), .long ((f_X3_monthsFrom (d p1.toNatClampNeg) (d p2.toNatClampNeg)) - (f_X3_monthsFrom (d p1.toNatClampNeg) (d p2.toNatClampNeg)) / 12 * 12), .long ((f_X3_monthsFrom (d p1.toNatClampNeg) (d p2.toNatClampNeg)) / 12), .int p3, .ref (z 0)]) (ci := 3) (q0 := 0) C (c_X3_byMonths l hfl D cI cJ X z (s_X3_fails_co 0) d ti sL bL mD mT sy sm sd mi (s_X3_monthsFrom_yr (d p1.toNatClampNeg) (d p2.toNatClampNeg)) (s_X3_monthsFrom_mo (d p1.toNatClampNeg) (d p2.toNatClampNeg)) (s_X3_monthsFrom_dy (d p1.toNatClampNeg) (d p2.toNatClampNeg)) (d p1.toNatClampNeg) (f_X3_monthsFrom (d p1.toNatClampNeg) (d p2.toNatClampNeg)) (g_1 h5 h6 h7 h8 h9)) q_X3_byMonths rfl rfl rfl gX3_until_X3_byMonths ⟨rfl, rfl⟩ rfl rfl (Nat.le_of_ble_eq_true rfl) ⟨Nat.le_of_ble_eq_true rfl, Nat.le_of_ble_eq_true rfl⟩ ⟨Nat.le_of_ble_eq_true rfl, Nat.le_of_ble_eq_true rfl⟩ dX3_until_102 ?_
    refine z_lsub C dX3_until_105 ?_
    refine z_iconst (v := 2) C dX3_until_106 (by decide) ?_
    refine z_wl (ws' := (wM cI cJ z (s_X3_spanned_co ((f_X3_monthsFrom (d p1.toNatClampNeg) (d p2.toNatClampNeg)) / 12) ((f_X3_monthsFrom (d p1.toNatClampNeg) (d p2.toNatClampNeg)) - (f_X3_monthsFrom (d p1.toNatClampNeg) (d p2.toNatClampNeg)) / 12 * 12) ((d p2.toNatClampNeg) - (f_X3_byMonths (d p1.toNatClampNeg) (f_X3_monthsFrom (d p1.toNatClampNeg) (d p2.toNatClampNeg)))) 2) d ti sL bL mD mT (s_X3_spanned_sy sy p3 ((f_X3_monthsFrom (d p1.toNatClampNeg) (d p2.toNatClampNeg)) / 12) ((f_X3_monthsFrom (d p1.toNatClampNeg) (d p2.toNatClampNeg)) - (f_X3_monthsFrom (d p1.toNatClampNeg) (d p2.toNatClampNeg)) / 12 * 12) ((d p2.toNatClampNeg) - (f_X3_byMonths (d p1.toNatClampNeg) (f_X3_monthsFrom (d p1.toNatClampNeg) (d p2.toNatClampNeg)))) 2) (s_X3_spanned_sm sm p3 ((f_X3_monthsFrom (d p1.toNatClampNeg) (d p2.toNatClampNeg)) / 12) ((f_X3_monthsFrom (d p1.toNatClampNeg) (d p2.toNatClampNeg)) - (f_X3_monthsFrom (d p1.toNatClampNeg) (d p2.toNatClampNeg)) / 12 * 12) ((d p2.toNatClampNeg) - (f_X3_byMonths (d p1.toNatClampNeg) (f_X3_monthsFrom (d p1.toNatClampNeg) (d p2.toNatClampNeg)))) 2) (s_X3_spanned_sd sd p3 ((f_X3_monthsFrom (d p1.toNatClampNeg) (d p2.toNatClampNeg)) / 12) ((f_X3_monthsFrom (d p1.toNatClampNeg) (d p2.toNatClampNeg)) - (f_X3_monthsFrom (d p1.toNatClampNeg) (d p2.toNatClampNeg)) / 12 * 12) ((d p2.toNatClampNeg) - (f_X3_byMonths (d p1.toNatClampNeg) (f_X3_monthsFrom (d p1.toNatClampNeg) (d p2.toNatClampNeg)))) 2) mi (s_X3_byMonths_yr (d p1.toNatClampNeg)) (s_X3_byMonths_mo (d p1.toNatClampNeg)) (s_X3_byMonths_dy (d p1.toNatClampNeg)) X)) (rest := []) (ci := 3) (q0 := 0) C (c_X3_spanned l hfl D cI cJ X z (s_X3_fails_co 0) d ti sL bL mD mT sy sm sd mi (s_X3_byMonths_yr (d p1.toNatClampNeg)) (s_X3_byMonths_mo (d p1.toNatClampNeg)) (s_X3_byMonths_dy (d p1.toNatClampNeg)) p3 ((f_X3_monthsFrom (d p1.toNatClampNeg) (d p2.toNatClampNeg)) / 12) ((f_X3_monthsFrom (d p1.toNatClampNeg) (d p2.toNatClampNeg)) - (f_X3_monthsFrom (d p1.toNatClampNeg) (d p2.toNatClampNeg)) / 12 * 12) ((d p2.toNatClampNeg) - (f_X3_byMonths (d p1.toNatClampNeg) (f_X3_monthsFrom (d p1.toNatClampNeg) (d p2.toNatClampNeg)))) (2 : Int32) (vpMSlot h9)) q_X3_spanned rfl rfl rfl gX3_until_X3_spanned ⟨rfl, rfl⟩ rfl rfl (Nat.le_of_ble_eq_true rfl) ⟨Nat.le_of_ble_eq_true rfl, Nat.le_of_ble_eq_true rfl⟩ ⟨Nat.le_of_ble_eq_true rfl, Nat.le_of_ble_eq_true rfl⟩ dX3_until_107 ?_
    exact z_lret C ⟨congrArg (fun v => some (Value.long v)) (by rw [f_X3_until, if_pos h5] : (f_X3_spanned sy sm p3 ((f_X3_monthsFrom (d p1.toNatClampNeg) (d p2.toNatClampNeg)) / 12) ((f_X3_monthsFrom (d p1.toNatClampNeg) (d p2.toNatClampNeg)) - (f_X3_monthsFrom (d p1.toNatClampNeg) (d p2.toNatClampNeg)) / 12 * 12) ((d p2.toNatClampNeg) - (f_X3_byMonths (d p1.toNatClampNeg) (f_X3_monthsFrom (d p1.toNatClampNeg) (d p2.toNatClampNeg)))) 2) = (f_X3_until d sy sm p1 p2 p3)), by rw [s_X3_until_co, if_pos h5, s_X3_until_sy, if_pos h5, s_X3_until_sm, if_pos h5, s_X3_until_sd, if_pos h5, s_X3_until_yr, if_pos h5, s_X3_until_mo, if_pos h5, s_X3_until_dy, if_pos h5]⟩ (by decide) (by decide) dX3_until_110
  have K1_1 : f_X3_until_j1 d p1 p2 p3 = 1 → ZW p l e { frames := 6, cells := 0, slots := 0, locals := 144 } s m args below meth c 6 D (zTys cI cJ) A (zE D (zTys cI cJ) A below args s (fun v w => v = some (.long (f_X3_until d sy sm p1 p2 p3)) ∧ w = (wM cI cJ z (s_X3_until_co d p1 p2 p3) d ti sL bL mD mT (s_X3_until_sy d sy p1 p2 p3) (s_X3_until_sm d sm p1 p2 p3) (s_X3_until_sd d sd p1 p2 p3) mi (s_X3_until_yr d yr p1 p2 p3) (s_X3_until_mo d mo p1 p2 p3) (s_X3_until_dy d dy p1 p2 p3) X)) (fun _ _ => False) 0 0) 0 0 (wM cI cJ z co d ti sL bL mD mT sy sm sd mi yr mo dy X) 47 [(0, .ref (z 0)), (1, .int p1), (2, .int p2), (3, .int p3)] [.int 1, .ref (z 0)] := by
    intro h10
    refine z_wi (ws' := (wM cI cJ z (s_X3_fails_co 1) d ti sL bL mD mT sy sm sd mi yr mo dy X)) (rest := []) (ci := 3) (q0 := 0) C (c_X3_fails l hfl D cI cJ X z co d ti sL bL mD mT sy sm sd mi yr mo dy (1 : Int32) ) q_X3_fails rfl rfl rfl gX3_until_X3_fails ⟨rfl, rfl⟩ rfl rfl (Nat.le_of_ble_eq_true rfl) ⟨Nat.le_of_ble_eq_true rfl, Nat.le_of_ble_eq_true rfl⟩ ⟨Nat.le_of_ble_eq_true rfl, Nat.le_of_ble_eq_true rfl⟩ dX3_until_47 ?_
    refine z_eqst (st' := [.int 1]) (congrArg (fun v => Value.int v :: _) (by decide : (f_X3_fails 1) = (1 : Int32))) ?_
    refine z_if_eq (tgt := 55) C dX3_until_50 (by decide) (fun h => absurd h (by decide)) (fun _ => ?_)
    refine z_lconst (v := 0) C dX3_until_53 (by decide) ?_
    exact z_lret C ⟨congrArg (fun v => some (Value.long v)) (by rw [f_X3_until, if_neg (by rw [h10]; decide : ¬ f_X3_until_j1 d p1 p2 p3 = 0), if_pos h10] : (0 : Int64) = (f_X3_until d sy sm p1 p2 p3)), by rw [s_X3_until_co, if_neg (by rw [h10]; decide : ¬ f_X3_until_j1 d p1 p2 p3 = 0), if_pos h10, s_X3_until_sy, if_neg (by rw [h10]; decide : ¬ f_X3_until_j1 d p1 p2 p3 = 0), if_pos h10, s_X3_until_sm, if_neg (by rw [h10]; decide : ¬ f_X3_until_j1 d p1 p2 p3 = 0), if_pos h10, s_X3_until_sd, if_neg (by rw [h10]; decide : ¬ f_X3_until_j1 d p1 p2 p3 = 0), if_pos h10, s_X3_until_yr, if_neg (by rw [h10]; decide : ¬ f_X3_until_j1 d p1 p2 p3 = 0), if_pos h10, s_X3_until_mo, if_neg (by rw [h10]; decide : ¬ f_X3_until_j1 d p1 p2 p3 = 0), if_pos h10, s_X3_until_dy, if_neg (by rw [h10]; decide : ¬ f_X3_until_j1 d p1 p2 p3 = 0), if_pos h10]⟩ (by decide) (by decide) dX3_until_54
  have K1_2 : f_X3_until_j1 d p1 p2 p3 = 2 → (¬ (d p1.toNatClampNeg) ≤ (d p2.toNatClampNeg)) → (¬ (f_X3_isDate p1) = 0) → (¬ (f_X3_isDate p2) = 0) → (¬ (f_X3_isSlot p3) = 0) → ZW p l e { frames := 6, cells := 0, slots := 0, locals := 144 } s m args below meth c 6 D (zTys cI cJ) A (zE D (zTys cI cJ) A below args s (fun v w => v = some (.long (f_X3_until d sy sm p1 p2 p3)) ∧ w = (wM cI cJ z (s_X3_until_co d p1 p2 p3) d ti sL bL mD mT (s_X3_until_sy d sy p1 p2 p3) (s_X3_until_sm d sm p1 p2 p3) (s_X3_until_sd d sd p1 p2 p3) mi (s_X3_until_yr d yr p1 p2 p3) (s_X3_until_mo d mo p1 p2 p3) (s_X3_until_dy d dy p1 p2 p3) X)) (fun _ _ => False) 0 0) 0 0 (wM cI cJ z co d ti sL bL mD mT sy sm sd mi yr mo dy X) 47 [(0, .ref (z 0)), (1, .int p1), (2, .int p2), (3, .int p3)] [.int 2, .ref (z 0)] := by
    intro h11 h12 h13 h14 h15
    refine z_wi (ws' := (wM cI cJ z (s_X3_fails_co 2) d ti sL bL mD mT sy sm sd mi yr mo dy X)) (rest := []) (ci := 3) (q0 := 0) C (c_X3_fails l hfl D cI cJ X z co d ti sL bL mD mT sy sm sd mi yr mo dy (2 : Int32) ) q_X3_fails rfl rfl rfl gX3_until_X3_fails ⟨rfl, rfl⟩ rfl rfl (Nat.le_of_ble_eq_true rfl) ⟨Nat.le_of_ble_eq_true rfl, Nat.le_of_ble_eq_true rfl⟩ ⟨Nat.le_of_ble_eq_true rfl, Nat.le_of_ble_eq_true rfl⟩ dX3_until_47 ?_
    refine z_eqst (st' := [.int 1]) (congrArg (fun v => Value.int v :: _) (by decide : (f_X3_fails 2) = (1 : Int32))) ?_
    refine z_if_eq (tgt := 55) C dX3_until_50 (by decide) (fun h => absurd h (by decide)) (fun _ => ?_)
    refine z_lconst (v := 0) C dX3_until_53 (by decide) ?_
    exact z_lret C ⟨congrArg (fun v => some (Value.long v)) (by rw [f_X3_until, if_neg (by rw [h11]; decide : ¬ f_X3_until_j1 d p1 p2 p3 = 0), if_neg (by rw [h11]; decide : ¬ f_X3_until_j1 d p1 p2 p3 = 1)] : (0 : Int64) = (f_X3_until d sy sm p1 p2 p3)), by rw [s_X3_until_co, if_neg (by rw [h11]; decide : ¬ f_X3_until_j1 d p1 p2 p3 = 0), if_neg (by rw [h11]; decide : ¬ f_X3_until_j1 d p1 p2 p3 = 1), s_X3_until_sy, if_neg (by rw [h11]; decide : ¬ f_X3_until_j1 d p1 p2 p3 = 0), if_neg (by rw [h11]; decide : ¬ f_X3_until_j1 d p1 p2 p3 = 1), s_X3_until_sm, if_neg (by rw [h11]; decide : ¬ f_X3_until_j1 d p1 p2 p3 = 0), if_neg (by rw [h11]; decide : ¬ f_X3_until_j1 d p1 p2 p3 = 1), s_X3_until_sd, if_neg (by rw [h11]; decide : ¬ f_X3_until_j1 d p1 p2 p3 = 0), if_neg (by rw [h11]; decide : ¬ f_X3_until_j1 d p1 p2 p3 = 1), s_X3_until_yr, if_neg (by rw [h11]; decide : ¬ f_X3_until_j1 d p1 p2 p3 = 0), if_neg (by rw [h11]; decide : ¬ f_X3_until_j1 d p1 p2 p3 = 1), s_X3_until_mo, if_neg (by rw [h11]; decide : ¬ f_X3_until_j1 d p1 p2 p3 = 0), if_neg (by rw [h11]; decide : ¬ f_X3_until_j1 d p1 p2 p3 = 1), s_X3_until_dy, if_neg (by rw [h11]; decide : ¬ f_X3_until_j1 d p1 p2 p3 = 0), if_neg (by rw [h11]; decide : ¬ f_X3_until_j1 d p1 p2 p3 = 1)]⟩ (by decide) (by decide) dX3_until_54
  refine z_if_eq (tgt := 22) C dX3_until_5 (by decide) (fun h1 => ?_) (fun h1 => ?_)
  · refine z_iconst (v := 1) C dX3_until_22 (by decide) ?_
    refine z_goto (tgt := 47) C dX3_until_23 (by decide) ?_
    exact K1_1 (by rw [f_X3_until_j1, if_pos h1]) 
  · refine z_iload_n C dX3_until_8 rfl 2 rfl ?_
    refine z_si (rest := [.ref (z 0)]) C (c_X3_isDate l hfl D cI cJ _ p2 ) q_X3_isDate gX3_until_X3_isDate ⟨rfl, rfl⟩ rfl rfl (Nat.le_of_ble_eq_true rfl) ⟨Nat.le_of_ble_eq_true rfl, Nat.le_of_ble_eq_true rfl⟩ ⟨Nat.le_of_ble_eq_true rfl, Nat.le_of_ble_eq_true rfl⟩ dX3_until_9 ?_
    refine z_if_eq (tgt := 22) C dX3_until_12 (by decide) (fun h2 => ?_) (fun h2 => ?_)
    · refine z_iconst (v := 1) C dX3_until_22 (by decide) ?_
      refine z_goto (tgt := 47) C dX3_until_23 (by decide) ?_
      exact K1_1 (by rw [f_X3_until_j1, if_neg h1, if_pos h2]) 
    · refine z_iload_n C dX3_until_15 rfl 3 rfl ?_
      refine z_si (rest := [.ref (z 0)]) C (c_X3_isSlot l hfl D cI cJ _ p3 ) q_X3_isSlot gX3_until_X3_isSlot ⟨rfl, rfl⟩ rfl rfl (Nat.le_of_ble_eq_true rfl) ⟨Nat.le_of_ble_eq_true rfl, Nat.le_of_ble_eq_true rfl⟩ ⟨Nat.le_of_ble_eq_true rfl, Nat.le_of_ble_eq_true rfl⟩ dX3_until_16 ?_
      refine z_if_ne (tgt := 26) C dX3_until_19 (by decide) (fun h3 => ?_) (fun h3 => ?_)
      · refine z_aload_n C dX3_until_26 rfl 0 rfl ?_
        refine z_get (CC := RX3) (T := TX3) (N := 14) (ci := 3) C hin 0 rfl rfl 1 (by decide) w1 rfl rfl dX3_until_27 ?_
        refine z_iload_n C dX3_until_30 rfl 2 rfl ?_
        refine z_lald C 1 1 rfl rfl (vpMDate h2) dX3_until_31 ?_
        refine z_aload_n C dX3_until_32 rfl 0 rfl ?_
        refine z_get (CC := RX3) (T := TX3) (N := 14) (ci := 3) C hin 0 rfl rfl 1 (by decide) w1 rfl rfl dX3_until_33 ?_
        refine z_iload_n C dX3_until_36 rfl 1 rfl ?_
        refine z_lald C 1 1 rfl rfl (vpMDate h1) dX3_until_37 ?_
        refine z_lcmp_ge (tgt := 46) C dX3_until_38 dX3_until_39 (by decide) (fun h4 => ?_) (fun h4 => ?_)
        · refine z_iconst (v := 0) C dX3_until_46 (by decide) ?_
          exact K1_0 (by rw [f_X3_until_j1, if_neg h1, if_neg h2, if_neg h3, if_pos h4]) h4 h1 h2 h3
        · refine z_iconst (v := 2) C dX3_until_42 (by decide) ?_
          refine z_goto (tgt := 47) C dX3_until_43 (by decide) ?_
          exact K1_2 (by rw [f_X3_until_j1, if_neg h1, if_neg h2, if_neg h3, if_neg h4]) h4 h1 h2 h3
      · refine z_iconst (v := 1) C dX3_until_22 (by decide) ?_
        refine z_goto (tgt := 47) C dX3_until_23 (by decide) ?_
        exact K1_1 (by rw [f_X3_until_j1, if_neg h1, if_neg h2, if_pos h3]) 
def f_X3_go_j1 (p1 : Int32) (p2 : Int32) (p4 : Int32) : Int32 := (if (f_X3_isDate p1) = 0 then 1 else (if (f_X3_isSlot p2) = 0 then 1 else (if (f_X3_isDate p4) = 0 then 1 else 0)))
def f_X3_go_j2 (p3 : Int32) : Int64 := (if p3 = 0 then 1 else (-1))
def f_X3_go (d : Nat → Int64) (sy : Nat → Int64) (sm : Nat → Int64) (sd : Nat → Int64) (p1 : Int32) (p2 : Int32) (p3 : Int32) (p4 : Int32) : Int64 := (if f_X3_go_j1 p1 p2 p4 = 0 then (if f_X3_go_j2 p3 = (-1) then (f_X3_becomes ((f_X3_byMonths (d p1.toNatClampNeg) ((-1) * (f_X3_totalOf sy sm p2))) + ((-1) * (sd p2.toNatClampNeg))) 2) else (f_X3_becomes ((f_X3_byMonths (d p1.toNatClampNeg) (1 * (f_X3_totalOf sy sm p2))) + (1 * (sd p2.toNatClampNeg))) 2)) else 0)
def s_X3_go_co (d : Nat → Int64) (sy : Nat → Int64) (sm : Nat → Int64) (sd : Nat → Int64) (p1 : Int32) (p2 : Int32) (p3 : Int32) (p4 : Int32) : Int32 := (if f_X3_go_j1 p1 p2 p4 = 0 then (if f_X3_go_j2 p3 = (-1) then (s_X3_becomes_co ((f_X3_byMonths (d p1.toNatClampNeg) ((-1) * (f_X3_totalOf sy sm p2))) + ((-1) * (sd p2.toNatClampNeg))) 2) else (s_X3_becomes_co ((f_X3_byMonths (d p1.toNatClampNeg) (1 * (f_X3_totalOf sy sm p2))) + (1 * (sd p2.toNatClampNeg))) 2)) else (s_X3_fails_co 1))
def s_X3_go_d (d : Nat → Int64) (sy : Nat → Int64) (sm : Nat → Int64) (sd : Nat → Int64) (p1 : Int32) (p2 : Int32) (p3 : Int32) (p4 : Int32) : Nat → Int64 := (if f_X3_go_j1 p1 p2 p4 = 0 then (if f_X3_go_j2 p3 = (-1) then (s_X3_becomes_d d p4 ((f_X3_byMonths (d p1.toNatClampNeg) ((-1) * (f_X3_totalOf sy sm p2))) + ((-1) * (sd p2.toNatClampNeg))) 2) else (s_X3_becomes_d d p4 ((f_X3_byMonths (d p1.toNatClampNeg) (1 * (f_X3_totalOf sy sm p2))) + (1 * (sd p2.toNatClampNeg))) 2)) else d)
def s_X3_go_yr (d : Nat → Int64) (sy : Nat → Int64) (sm : Nat → Int64) (sd : Nat → Int64) (yr : Int64) (p1 : Int32) (p2 : Int32) (p3 : Int32) (p4 : Int32) : Int64 := (if f_X3_go_j1 p1 p2 p4 = 0 then (if f_X3_go_j2 p3 = (-1) then (s_X3_becomes_yr ((f_X3_byMonths (d p1.toNatClampNeg) ((-1) * (f_X3_totalOf sy sm p2))) + ((-1) * (sd p2.toNatClampNeg))) 2) else (s_X3_becomes_yr ((f_X3_byMonths (d p1.toNatClampNeg) (1 * (f_X3_totalOf sy sm p2))) + (1 * (sd p2.toNatClampNeg))) 2)) else yr)
def s_X3_go_mo (d : Nat → Int64) (sy : Nat → Int64) (sm : Nat → Int64) (sd : Nat → Int64) (mo : Int32) (p1 : Int32) (p2 : Int32) (p3 : Int32) (p4 : Int32) : Int32 := (if f_X3_go_j1 p1 p2 p4 = 0 then (if f_X3_go_j2 p3 = (-1) then (s_X3_becomes_mo ((f_X3_byMonths (d p1.toNatClampNeg) ((-1) * (f_X3_totalOf sy sm p2))) + ((-1) * (sd p2.toNatClampNeg))) 2) else (s_X3_becomes_mo ((f_X3_byMonths (d p1.toNatClampNeg) (1 * (f_X3_totalOf sy sm p2))) + (1 * (sd p2.toNatClampNeg))) 2)) else mo)
def s_X3_go_dy (d : Nat → Int64) (sy : Nat → Int64) (sm : Nat → Int64) (sd : Nat → Int64) (dy : Int32) (p1 : Int32) (p2 : Int32) (p3 : Int32) (p4 : Int32) : Int32 := (if f_X3_go_j1 p1 p2 p4 = 0 then (if f_X3_go_j2 p3 = (-1) then (s_X3_becomes_dy ((f_X3_byMonths (d p1.toNatClampNeg) ((-1) * (f_X3_totalOf sy sm p2))) + ((-1) * (sd p2.toNatClampNeg))) 2) else (s_X3_becomes_dy ((f_X3_byMonths (d p1.toNatClampNeg) (1 * (f_X3_totalOf sy sm p2))) + (1 * (sd p2.toNatClampNeg))) 2)) else dy)
def pre_X3_go (d : Nat → Int64) (sy : Nat → Int64) (sm : Nat → Int64) (sd : Nat → Int64) (p1 : Int32) (p2 : Int32) (p3 : Int32) (p4 : Int32) : Prop := (((f_X3_go_j1 p1 p2 p4) = 0) → (¬ (f_X3_isDate p1) = 0) → (¬ (f_X3_isDate p4) = 0) → (¬ (f_X3_isSlot p2) = 0) → ((f_X3_go_j2 p3) = (-1)) → (¬ p3 = 0) → (pre_X3_byMonths (d p1.toNatClampNeg) ((-1) * (f_X3_totalOf sy sm p2)))) ∧ (((f_X3_go_j1 p1 p2 p4) = 0) → (¬ (f_X3_isDate p1) = 0) → (¬ (f_X3_isDate p4) = 0) → (¬ (f_X3_isSlot p2) = 0) → ((f_X3_go_j2 p3) = (-1)) → (¬ p3 = 0) → (pre_X3_becomes p4 ((f_X3_byMonths (d p1.toNatClampNeg) ((-1) * (f_X3_totalOf sy sm p2))) + ((-1) * (sd p2.toNatClampNeg))) 2)) ∧ (((f_X3_go_j1 p1 p2 p4) = 0) → (¬ (f_X3_isDate p1) = 0) → (¬ (f_X3_isDate p4) = 0) → (¬ (f_X3_isSlot p2) = 0) → ((f_X3_go_j2 p3) = 1) → (p3 = 0) → (pre_X3_byMonths (d p1.toNatClampNeg) (1 * (f_X3_totalOf sy sm p2)))) ∧ (((f_X3_go_j1 p1 p2 p4) = 0) → (¬ (f_X3_isDate p1) = 0) → (¬ (f_X3_isDate p4) = 0) → (¬ (f_X3_isSlot p2) = 0) → ((f_X3_go_j2 p3) = 1) → (p3 = 0) → (pre_X3_becomes p4 ((f_X3_byMonths (d p1.toNatClampNeg) (1 * (f_X3_totalOf sy sm p2))) + (1 * (sd p2.toNatClampNeg))) 2))
theorem q_X3_go : ZY yX3_go wsX3_go cX3_go 7 (some .long) 4 := ⟨⟨_, rfl⟩, by decide +kernel, by decide +kernel, by decide +kernel⟩
set_option maxHeartbeats 4000000 in
set_option maxRecDepth 100000 in
theorem c_X3_go (l : Launch) (hfl : l.stackTraces = false) (D : va_G) (cI cJ : ClassId) (X : va_W) (z : Nat → Nat) (co : Int32) (d : Nat → Int64) (ti : Nat → Int64) (sL : Nat → Int64) (bL : Nat → Int64) (mD : Nat → Int64) (mT : Nat → Int64) (sy : Nat → Int64) (sm : Nat → Int64) (sd : Nat → Int64) (mi : Nat → Int64) (yr : Int64) (mo : Int32) (dy : Int32) (p1 : Int32) (p2 : Int32) (p3 : Int32) (p4 : Int32)  (h_g : pre_X3_go d sy sm sd p1 p2 p3 p4) : ZM l yX3_go wsX3_go { frames := 7, cells := 0, slots := 0, locals := 159 } [.ref (z 0), .int p1, .int p2, .int p3, .int p4] D (zTys cI cJ) (wM cI cJ z co d ti sL bL mD mT sy sm sd mi yr mo dy X) 0 0 (fun v w => v = some (.long (f_X3_go d sy sm sd p1 p2 p3 p4)) ∧ w = (wM cI cJ z (s_X3_go_co d sy sm sd p1 p2 p3 p4) (s_X3_go_d d sy sm sd p1 p2 p3 p4) ti sL bL mD mT sy sm sd mi (s_X3_go_yr d sy sm sd yr p1 p2 p3 p4) (s_X3_go_mo d sy sm sd mo p1 p2 p3 p4) (s_X3_go_dy d sy sm sd dy p1 p2 p3 p4) X)) (fun _ _ => False) := by
  refine z_open (own := RX3) hfl (cc := cX3_go) (maxL := 7) (ret := (some .long)) (lv := [(0, .ref (z 0)), (1, .int p1), (2, .int p2), (3, .int p3), (4, .int p4)]) rfl (by decide) rfl rfl (Nat.le_of_ble_eq_true rfl) ?_
  intro p e s m args below meth c A C hno hnm hargs
  have hin : ∀ w ∈ wsX30, w ∈ wsX3_go := by decide +kernel
  have w1 := C.1.2.2.2.2 (.constantLong RX3 181 (-1)) (by decide +kernel)
  have w2 := C.1.2.2.2.2 (.fieldLink RX3 13 "YearwheelModel" "dates" "[J") (by decide +kernel)
  have w3 := C.1.2.2.2.2 (.fieldLink RX3 38 "YearwheelModel" "spanDays" "[J") (by decide +kernel)
  obtain ⟨g_0, g_1, g_2, g_3⟩ := h_g
  refine z_aload_n C dX3_go_0 rfl 0 rfl ?_
  refine z_iload_n C dX3_go_1 rfl 1 rfl ?_
  refine z_si (rest := [.ref (z 0)]) C (c_X3_isDate l hfl D cI cJ _ p1 ) q_X3_isDate gX3_go_X3_isDate ⟨rfl, rfl⟩ rfl rfl (Nat.le_of_ble_eq_true rfl) ⟨Nat.le_of_ble_eq_true rfl, Nat.le_of_ble_eq_true rfl⟩ ⟨Nat.le_of_ble_eq_true rfl, Nat.le_of_ble_eq_true rfl⟩ dX3_go_2 ?_
  have K1_0 : f_X3_go_j1 p1 p2 p4 = 0 → (¬ (f_X3_isDate p1) = 0) → (¬ (f_X3_isDate p4) = 0) → (¬ (f_X3_isSlot p2) = 0) → ZW p l e { frames := 7, cells := 0, slots := 0, locals := 159 } s m args below meth c 7 D (zTys cI cJ) A (zE D (zTys cI cJ) A below args s (fun v w => v = some (.long (f_X3_go d sy sm sd p1 p2 p3 p4)) ∧ w = (wM cI cJ z (s_X3_go_co d sy sm sd p1 p2 p3 p4) (s_X3_go_d d sy sm sd p1 p2 p3 p4) ti sL bL mD mT sy sm sd mi (s_X3_go_yr d sy sm sd yr p1 p2 p3 p4) (s_X3_go_mo d sy sm sd mo p1 p2 p3 p4) (s_X3_go_dy d sy sm sd dy p1 p2 p3 p4) X)) (fun _ _ => False) 0 0) 0 0 (wM cI cJ z co d ti sL bL mD mT sy sm sd mi yr mo dy X) 28 [(0, .ref (z 0)), (1, .int p1), (2, .int p2), (3, .int p3), (4, .int p4)] [.int 0, .ref (z 0)] := by
    intro h4 h5 h6 h7
    refine z_wi (ws' := (wM cI cJ z (s_X3_fails_co 0) d ti sL bL mD mT sy sm sd mi yr mo dy X)) (rest := []) (ci := 3) (q0 := 0) C (c_X3_fails l hfl D cI cJ X z co d ti sL bL mD mT sy sm sd mi yr mo dy (0 : Int32) ) q_X3_fails rfl rfl rfl gX3_go_X3_fails ⟨rfl, rfl⟩ rfl rfl (Nat.le_of_ble_eq_true rfl) ⟨Nat.le_of_ble_eq_true rfl, Nat.le_of_ble_eq_true rfl⟩ ⟨Nat.le_of_ble_eq_true rfl, Nat.le_of_ble_eq_true rfl⟩ dX3_go_28 ?_
    refine z_eqst (st' := [.int 0]) (congrArg (fun v => Value.int v :: _) (by decide : (f_X3_fails 0) = (0 : Int32))) ?_
    refine z_if_eq (tgt := 36) C dX3_go_31 (by decide) (fun _ => ?_) (fun h => absurd (by decide) h)
    refine z_iload_n C dX3_go_36 rfl 3 rfl ?_
    have K2_m1 : f_X3_go_j2 p3 = (-1) → (¬ p3 = 0) → ZW p l e { frames := 7, cells := 0, slots := 0, locals := 159 } s m args below meth c 7 D (zTys cI cJ) A (zE D (zTys cI cJ) A below args s (fun v w => v = some (.long (f_X3_go d sy sm sd p1 p2 p3 p4)) ∧ w = (wM cI cJ z (s_X3_go_co d sy sm sd p1 p2 p3 p4) (s_X3_go_d d sy sm sd p1 p2 p3 p4) ti sL bL mD mT sy sm sd mi (s_X3_go_yr d sy sm sd yr p1 p2 p3 p4) (s_X3_go_mo d sy sm sd mo p1 p2 p3 p4) (s_X3_go_dy d sy sm sd dy p1 p2 p3 p4) X)) (fun _ _ => False) 0 0) 0 0 (wM cI cJ z (s_X3_fails_co 0) d ti sL bL mD mT sy sm sd mi yr mo dy X) 47 [(0, .ref (z 0)), (1, .int p1), (2, .int p2), (3, .int p3), (4, .int p4)] [.long (-1)] := by
      intro h9 h10
      refine z_lstore (lv' := [(5, .long (-1)), (0, .ref (z 0)), (1, .int p1), (2, .int p2), (3, .int p3), (4, .int p4)]) C dX3_go_47 (by decide) rfl ?_
      refine z_aload_n C dX3_go_49 rfl 1 rfl ?_
      refine z_iload C dX3_go_50 5 rfl ?_
      refine z_aload_n C dX3_go_52 rfl 1 rfl ?_
      refine z_aload_n C dX3_go_53 rfl 1 rfl ?_
      refine z_get (CC := RX3) (T := TX3) (N := 14) (ci := 3) C hin 0 rfl rfl 1 (by decide) w2 rfl rfl dX3_go_54 ?_
      refine z_iload_n C dX3_go_57 rfl 2 rfl ?_
      refine z_lald C 1 1 rfl rfl (vpMDate h5) dX3_go_58 ?_
      refine z_lload C dX3_go_59 0 rfl ?_
      refine z_aload_n C dX3_go_61 rfl 1 rfl ?_
      refine z_iload_n C dX3_go_62 rfl 3 rfl ?_
      refine z_wl (ws' := (wM cI cJ z (s_X3_fails_co 0) d ti sL bL mD mT sy sm sd mi yr mo dy X)) (rest := [.long (-1), .long (d p1.toNatClampNeg), .ref (z 0), .int p4, .ref (z 0)]) (ci := 3) (q0 := 0) C (c_X3_totalOf l hfl D cI cJ X z (s_X3_fails_co 0) d ti sL bL mD mT sy sm sd mi yr mo dy p2 (vpMSlot h7)) q_X3_totalOf rfl rfl rfl gX3_go_X3_totalOf ⟨rfl, rfl⟩ rfl rfl (Nat.le_of_ble_eq_true rfl) ⟨Nat.le_of_ble_eq_true rfl, Nat.le_of_ble_eq_true rfl⟩ ⟨Nat.le_of_ble_eq_true rfl, Nat.le_of_ble_eq_true rfl⟩ dX3_go_63 ?_
      refine z_lmul C dX3_go_66 ?_
      refine z_wl (ws' := (wM cI cJ z (s_X3_fails_co 0) d ti sL bL mD mT sy sm sd mi (s_X3_byMonths_yr (d p1.toNatClampNeg)) (s_X3_byMonths_mo (d p1.toNatClampNeg)) (s_X3_byMonths_dy (d p1.toNatClampNeg)) X)) (rest := [.int p4, .ref (z 0)]) (ci := 3) (q0 := 0) C (c_X3_byMonths l hfl D cI cJ X z (s_X3_fails_co 0) d ti sL bL mD mT sy sm sd mi yr mo dy (d p1.toNatClampNeg) ((-1) * (f_X3_totalOf sy sm p2)) (g_0 h4 h5 h6 h7 h9 h10)) q_X3_byMonths rfl rfl rfl gX3_go_X3_byMonths ⟨rfl, rfl⟩ rfl rfl (Nat.le_of_ble_eq_true rfl) ⟨Nat.le_of_ble_eq_true rfl, Nat.le_of_ble_eq_true rfl⟩ ⟨Nat.le_of_ble_eq_true rfl, Nat.le_of_ble_eq_true rfl⟩ dX3_go_67 ?_
      refine z_lload C dX3_go_70 0 rfl ?_
      refine z_aload_n C dX3_go_72 rfl 1 rfl ?_
      refine z_get (CC := RX3) (T := TX3) (N := 14) (ci := 3) C hin 0 rfl rfl 9 (by decide) w3 rfl rfl dX3_go_73 ?_
      refine z_iload_n C dX3_go_76 rfl 3 rfl ?_
      refine z_lald C 9 1 rfl rfl (vpMSlot h7) dX3_go_77 ?_
      refine z_lmul C dX3_go_78 ?_
      refine z_ladd C dX3_go_79 ?_
      refine z_iconst (v := 2) C dX3_go_80 (by decide) ?_
      refine z_wl (ws' := (wM cI cJ z (s_X3_becomes_co ((f_X3_byMonths (d p1.toNatClampNeg) ((-1) * (f_X3_totalOf sy sm p2))) + ((-1) * (sd p2.toNatClampNeg))) 2) (s_X3_becomes_d d p4 ((f_X3_byMonths (d p1.toNatClampNeg) ((-1) * (f_X3_totalOf sy sm p2))) + ((-1) * (sd p2.toNatClampNeg))) 2) ti sL bL mD mT sy sm sd mi (s_X3_becomes_yr ((f_X3_byMonths (d p1.toNatClampNeg) ((-1) * (f_X3_totalOf sy sm p2))) + ((-1) * (sd p2.toNatClampNeg))) 2) (s_X3_becomes_mo ((f_X3_byMonths (d p1.toNatClampNeg) ((-1) * (f_X3_totalOf sy sm p2))) + ((-1) * (sd p2.toNatClampNeg))) 2) (s_X3_becomes_dy ((f_X3_byMonths (d p1.toNatClampNeg) ((-1) * (f_X3_totalOf sy sm p2))) + ((-1) * (sd p2.toNatClampNeg))) 2) X)) (rest := []) (ci := 3) (q0 := 0) C (c_X3_becomes l hfl D cI cJ X z (s_X3_fails_co 0) d ti sL bL mD mT sy sm sd mi (s_X3_byMonths_yr (d p1.toNatClampNeg)) (s_X3_byMonths_mo (d p1.toNatClampNeg)) (s_X3_byMonths_dy (d p1.toNatClampNeg)) p4 ((f_X3_byMonths (d p1.toNatClampNeg) ((-1) * (f_X3_totalOf sy sm p2))) + ((-1) * (sd p2.toNatClampNeg))) (2 : Int32) (g_1 h4 h5 h6 h7 h9 h10)) q_X3_becomes rfl rfl rfl gX3_go_X3_becomes ⟨rfl, rfl⟩ rfl rfl (Nat.le_of_ble_eq_true rfl) ⟨Nat.le_of_ble_eq_true rfl, Nat.le_of_ble_eq_true rfl⟩ ⟨Nat.le_of_ble_eq_true rfl, Nat.le_of_ble_eq_true rfl⟩ dX3_go_81 ?_
      exact z_lret C ⟨congrArg (fun v => some (Value.long v)) (by rw [f_X3_go, if_pos h4, if_pos h9] : (f_X3_becomes ((f_X3_byMonths (d p1.toNatClampNeg) ((-1) * (f_X3_totalOf sy sm p2))) + ((-1) * (sd p2.toNatClampNeg))) 2) = (f_X3_go d sy sm sd p1 p2 p3 p4)), by rw [s_X3_go_co, if_pos h4, if_pos h9, s_X3_go_d, if_pos h4, if_pos h9, s_X3_go_yr, if_pos h4, if_pos h9, s_X3_go_mo, if_pos h4, if_pos h9, s_X3_go_dy, if_pos h4, if_pos h9]⟩ (by decide) (by decide) dX3_go_84
    have K2_1 : f_X3_go_j2 p3 = 1 → (p3 = 0) → ZW p l e { frames := 7, cells := 0, slots := 0, locals := 159 } s m args below meth c 7 D (zTys cI cJ) A (zE D (zTys cI cJ) A below args s (fun v w => v = some (.long (f_X3_go d sy sm sd p1 p2 p3 p4)) ∧ w = (wM cI cJ z (s_X3_go_co d sy sm sd p1 p2 p3 p4) (s_X3_go_d d sy sm sd p1 p2 p3 p4) ti sL bL mD mT sy sm sd mi (s_X3_go_yr d sy sm sd yr p1 p2 p3 p4) (s_X3_go_mo d sy sm sd mo p1 p2 p3 p4) (s_X3_go_dy d sy sm sd dy p1 p2 p3 p4) X)) (fun _ _ => False) 0 0) 0 0 (wM cI cJ z (s_X3_fails_co 0) d ti sL bL mD mT sy sm sd mi yr mo dy X) 47 [(0, .ref (z 0)), (1, .int p1), (2, .int p2), (3, .int p3), (4, .int p4)] [.long 1] := by
      intro h11 h12
      refine z_lstore (lv' := [(5, .long 1), (0, .ref (z 0)), (1, .int p1), (2, .int p2), (3, .int p3), (4, .int p4)]) C dX3_go_47 (by decide) rfl ?_
      refine z_aload_n C dX3_go_49 rfl 1 rfl ?_
      refine z_iload C dX3_go_50 5 rfl ?_
      refine z_aload_n C dX3_go_52 rfl 1 rfl ?_
      refine z_aload_n C dX3_go_53 rfl 1 rfl ?_
      refine z_get (CC := RX3) (T := TX3) (N := 14) (ci := 3) C hin 0 rfl rfl 1 (by decide) w2 rfl rfl dX3_go_54 ?_
      refine z_iload_n C dX3_go_57 rfl 2 rfl ?_
      refine z_lald C 1 1 rfl rfl (vpMDate h5) dX3_go_58 ?_
      refine z_lload C dX3_go_59 0 rfl ?_
      refine z_aload_n C dX3_go_61 rfl 1 rfl ?_
      refine z_iload_n C dX3_go_62 rfl 3 rfl ?_
      refine z_wl (ws' := (wM cI cJ z (s_X3_fails_co 0) d ti sL bL mD mT sy sm sd mi yr mo dy X)) (rest := [.long 1, .long (d p1.toNatClampNeg), .ref (z 0), .int p4, .ref (z 0)]) (ci := 3) (q0 := 0) C (c_X3_totalOf l hfl D cI cJ X z (s_X3_fails_co 0) d ti sL bL mD mT sy sm sd mi yr mo dy p2 (vpMSlot h7)) q_X3_totalOf rfl rfl rfl gX3_go_X3_totalOf ⟨rfl, rfl⟩ rfl rfl (Nat.le_of_ble_eq_true rfl) ⟨Nat.le_of_ble_eq_true rfl, Nat.le_of_ble_eq_true rfl⟩ ⟨Nat.le_of_ble_eq_true rfl, Nat.le_of_ble_eq_true rfl⟩ dX3_go_63 ?_
      refine z_lmul C dX3_go_66 ?_
      refine z_wl (ws' := (wM cI cJ z (s_X3_fails_co 0) d ti sL bL mD mT sy sm sd mi (s_X3_byMonths_yr (d p1.toNatClampNeg)) (s_X3_byMonths_mo (d p1.toNatClampNeg)) (s_X3_byMonths_dy (d p1.toNatClampNeg)) X)) (rest := [.int p4, .ref (z 0)]) (ci := 3) (q0 := 0) C (c_X3_byMonths l hfl D cI cJ X z (s_X3_fails_co 0) d ti sL bL mD mT sy sm sd mi yr mo dy (d p1.toNatClampNeg) (1 * (f_X3_totalOf sy sm p2)) (g_2 h4 h5 h6 h7 h11 h12)) q_X3_byMonths rfl rfl rfl gX3_go_X3_byMonths ⟨rfl, rfl⟩ rfl rfl (Nat.le_of_ble_eq_true rfl) ⟨Nat.le_of_ble_eq_true rfl, Nat.le_of_ble_eq_true rfl⟩ ⟨Nat.le_of_ble_eq_true rfl, Nat.le_of_ble_eq_true rfl⟩ dX3_go_67 ?_
      refine z_lload C dX3_go_70 0 rfl ?_
      refine z_aload_n C dX3_go_72 rfl 1 rfl ?_
      refine z_get (CC := RX3) (T := TX3) (N := 14) (ci := 3) C hin 0 rfl rfl 9 (by decide) w3 rfl rfl dX3_go_73 ?_
      refine z_iload_n C dX3_go_76 rfl 3 rfl ?_
      refine z_lald C 9 1 rfl rfl (vpMSlot h7) dX3_go_77 ?_
      refine z_lmul C dX3_go_78 ?_
      refine z_ladd C dX3_go_79 ?_
      refine z_iconst (v := 2) C dX3_go_80 (by decide) ?_
      refine z_wl (ws' := (wM cI cJ z (s_X3_becomes_co ((f_X3_byMonths (d p1.toNatClampNeg) (1 * (f_X3_totalOf sy sm p2))) + (1 * (sd p2.toNatClampNeg))) 2) (s_X3_becomes_d d p4 ((f_X3_byMonths (d p1.toNatClampNeg) (1 * (f_X3_totalOf sy sm p2))) + (1 * (sd p2.toNatClampNeg))) 2) ti sL bL mD mT sy sm sd mi (s_X3_becomes_yr ((f_X3_byMonths (d p1.toNatClampNeg) (1 * (f_X3_totalOf sy sm p2))) + (1 * (sd p2.toNatClampNeg))) 2) (s_X3_becomes_mo ((f_X3_byMonths (d p1.toNatClampNeg) (1 * (f_X3_totalOf sy sm p2))) + (1 * (sd p2.toNatClampNeg))) 2) (s_X3_becomes_dy ((f_X3_byMonths (d p1.toNatClampNeg) (1 * (f_X3_totalOf sy sm p2))) + (1 * (sd p2.toNatClampNeg))) 2) X)) (rest := []) (ci := 3) (q0 := 0) C (c_X3_becomes l hfl D cI cJ X z (s_X3_fails_co 0) d ti sL bL mD mT sy sm sd mi (s_X3_byMonths_yr (d p1.toNatClampNeg)) (s_X3_byMonths_mo (d p1.toNatClampNeg)) (s_X3_byMonths_dy (d p1.toNatClampNeg)) p4 ((f_X3_byMonths (d p1.toNatClampNeg) (1 * (f_X3_totalOf sy sm p2))) + (1 * (sd p2.toNatClampNeg))) (2 : Int32) (g_3 h4 h5 h6 h7 h11 h12)) q_X3_becomes rfl rfl rfl gX3_go_X3_becomes ⟨rfl, rfl⟩ rfl rfl (Nat.le_of_ble_eq_true rfl) ⟨Nat.le_of_ble_eq_true rfl, Nat.le_of_ble_eq_true rfl⟩ ⟨Nat.le_of_ble_eq_true rfl, Nat.le_of_ble_eq_true rfl⟩ dX3_go_81 ?_
      exact z_lret C ⟨congrArg (fun v => some (Value.long v)) (by rw [f_X3_go, if_pos h4, if_neg (by rw [h11]; decide : ¬ f_X3_go_j2 p3 = (-1))] : (f_X3_becomes ((f_X3_byMonths (d p1.toNatClampNeg) (1 * (f_X3_totalOf sy sm p2))) + (1 * (sd p2.toNatClampNeg))) 2) = (f_X3_go d sy sm sd p1 p2 p3 p4)), by rw [s_X3_go_co, if_pos h4, if_neg (by rw [h11]; decide : ¬ f_X3_go_j2 p3 = (-1)), s_X3_go_d, if_pos h4, if_neg (by rw [h11]; decide : ¬ f_X3_go_j2 p3 = (-1)), s_X3_go_yr, if_pos h4, if_neg (by rw [h11]; decide : ¬ f_X3_go_j2 p3 = (-1)), s_X3_go_mo, if_pos h4, if_neg (by rw [h11]; decide : ¬ f_X3_go_j2 p3 = (-1)), s_X3_go_dy, if_pos h4, if_neg (by rw [h11]; decide : ¬ f_X3_go_j2 p3 = (-1))]⟩ (by decide) (by decide) dX3_go_84
    refine z_if_eq (tgt := 46) C dX3_go_37 (by decide) (fun h8 => ?_) (fun h8 => ?_)
    · refine z_lconst (v := 1) C dX3_go_46 (by decide) ?_
      exact K2_1 (by rw [f_X3_go_j2, if_pos h8]) h8
    · refine z_ldc2 (v := (-1)) C w1 dX3_go_40 ?_
      refine z_goto (tgt := 47) C dX3_go_43 (by decide) ?_
      exact K2_m1 (by rw [f_X3_go_j2, if_neg h8]) h8
  have K1_1 : f_X3_go_j1 p1 p2 p4 = 1 → ZW p l e { frames := 7, cells := 0, slots := 0, locals := 159 } s m args below meth c 7 D (zTys cI cJ) A (zE D (zTys cI cJ) A below args s (fun v w => v = some (.long (f_X3_go d sy sm sd p1 p2 p3 p4)) ∧ w = (wM cI cJ z (s_X3_go_co d sy sm sd p1 p2 p3 p4) (s_X3_go_d d sy sm sd p1 p2 p3 p4) ti sL bL mD mT sy sm sd mi (s_X3_go_yr d sy sm sd yr p1 p2 p3 p4) (s_X3_go_mo d sy sm sd mo p1 p2 p3 p4) (s_X3_go_dy d sy sm sd dy p1 p2 p3 p4) X)) (fun _ _ => False) 0 0) 0 0 (wM cI cJ z co d ti sL bL mD mT sy sm sd mi yr mo dy X) 28 [(0, .ref (z 0)), (1, .int p1), (2, .int p2), (3, .int p3), (4, .int p4)] [.int 1, .ref (z 0)] := by
    intro h13
    refine z_wi (ws' := (wM cI cJ z (s_X3_fails_co 1) d ti sL bL mD mT sy sm sd mi yr mo dy X)) (rest := []) (ci := 3) (q0 := 0) C (c_X3_fails l hfl D cI cJ X z co d ti sL bL mD mT sy sm sd mi yr mo dy (1 : Int32) ) q_X3_fails rfl rfl rfl gX3_go_X3_fails ⟨rfl, rfl⟩ rfl rfl (Nat.le_of_ble_eq_true rfl) ⟨Nat.le_of_ble_eq_true rfl, Nat.le_of_ble_eq_true rfl⟩ ⟨Nat.le_of_ble_eq_true rfl, Nat.le_of_ble_eq_true rfl⟩ dX3_go_28 ?_
    refine z_eqst (st' := [.int 1]) (congrArg (fun v => Value.int v :: _) (by decide : (f_X3_fails 1) = (1 : Int32))) ?_
    refine z_if_eq (tgt := 36) C dX3_go_31 (by decide) (fun h => absurd h (by decide)) (fun _ => ?_)
    refine z_lconst (v := 0) C dX3_go_34 (by decide) ?_
    exact z_lret C ⟨congrArg (fun v => some (Value.long v)) (by rw [f_X3_go, if_neg (by rw [h13]; decide : ¬ f_X3_go_j1 p1 p2 p4 = 0)] : (0 : Int64) = (f_X3_go d sy sm sd p1 p2 p3 p4)), by rw [s_X3_go_co, if_neg (by rw [h13]; decide : ¬ f_X3_go_j1 p1 p2 p4 = 0), s_X3_go_d, if_neg (by rw [h13]; decide : ¬ f_X3_go_j1 p1 p2 p4 = 0), s_X3_go_yr, if_neg (by rw [h13]; decide : ¬ f_X3_go_j1 p1 p2 p4 = 0), s_X3_go_mo, if_neg (by rw [h13]; decide : ¬ f_X3_go_j1 p1 p2 p4 = 0), s_X3_go_dy, if_neg (by rw [h13]; decide : ¬ f_X3_go_j1 p1 p2 p4 = 0)]⟩ (by decide) (by decide) dX3_go_35
  refine z_if_eq (tgt := 27) C dX3_go_5 (by decide) (fun h1 => ?_) (fun h1 => ?_)
  · refine z_iconst (v := 1) C dX3_go_27 (by decide) ?_
    exact K1_1 (by rw [f_X3_go_j1, if_pos h1]) 
  · refine z_iload_n C dX3_go_8 rfl 2 rfl ?_
    refine z_si (rest := [.ref (z 0)]) C (c_X3_isSlot l hfl D cI cJ _ p2 ) q_X3_isSlot gX3_go_X3_isSlot ⟨rfl, rfl⟩ rfl rfl (Nat.le_of_ble_eq_true rfl) ⟨Nat.le_of_ble_eq_true rfl, Nat.le_of_ble_eq_true rfl⟩ ⟨Nat.le_of_ble_eq_true rfl, Nat.le_of_ble_eq_true rfl⟩ dX3_go_9 ?_
    refine z_if_eq (tgt := 27) C dX3_go_12 (by decide) (fun h2 => ?_) (fun h2 => ?_)
    · refine z_iconst (v := 1) C dX3_go_27 (by decide) ?_
      exact K1_1 (by rw [f_X3_go_j1, if_neg h1, if_pos h2]) 
    · refine z_iload C dX3_go_15 4 rfl ?_
      refine z_si (rest := [.ref (z 0)]) C (c_X3_isDate l hfl D cI cJ _ p4 ) q_X3_isDate gX3_go_X3_isDate ⟨rfl, rfl⟩ rfl rfl (Nat.le_of_ble_eq_true rfl) ⟨Nat.le_of_ble_eq_true rfl, Nat.le_of_ble_eq_true rfl⟩ ⟨Nat.le_of_ble_eq_true rfl, Nat.le_of_ble_eq_true rfl⟩ dX3_go_17 ?_
      refine z_if_eq (tgt := 27) C dX3_go_20 (by decide) (fun h3 => ?_) (fun h3 => ?_)
      · refine z_iconst (v := 1) C dX3_go_27 (by decide) ?_
        exact K1_1 (by rw [f_X3_go_j1, if_neg h1, if_neg h2, if_pos h3]) 
      · refine z_iconst (v := 0) C dX3_go_23 (by decide) ?_
        refine z_goto (tgt := 28) C dX3_go_24 (by decide) ?_
        exact K1_0 (by rw [f_X3_go_j1, if_neg h1, if_neg h2, if_neg h3]) h1 h3 h2
def f_X3_spanPart_j1 (p1 : Int32) (p2 : Int32) : Int32 := (if (f_X3_isSlot p1) = 0 then 1 else (if p2 = 121 then 0 else (if p2 = 109 then 0 else (if p2 = 100 then 0 else 2))))
def f_X3_spanPart (sy : Nat → Int64) (sm : Nat → Int64) (sd : Nat → Int64) (p1 : Int32) (p2 : Int32) : Int32 := (if f_X3_spanPart_j1 p1 p2 = 0 then (if p2 = 121 then ((sy p1.toNatClampNeg)).toInt32 else (if p2 = 109 then ((sm p1.toNatClampNeg)).toInt32 else ((sd p1.toNatClampNeg)).toInt32)) else (if f_X3_spanPart_j1 p1 p2 = 1 then 0 else 0))
def s_X3_spanPart_co (p1 : Int32) (p2 : Int32) : Int32 := (if f_X3_spanPart_j1 p1 p2 = 0 then (if p2 = 121 then (s_X3_fails_co 0) else (if p2 = 109 then (s_X3_fails_co 0) else (s_X3_fails_co 0))) else (if f_X3_spanPart_j1 p1 p2 = 1 then (s_X3_fails_co 1) else (s_X3_fails_co 2)))
theorem q_X3_spanPart : ZY yX3_spanPart wsX3_spanPart cX3_spanPart 3 (some .int) 2 := ⟨⟨_, rfl⟩, by decide +kernel, by decide +kernel, by decide +kernel⟩
set_option maxHeartbeats 4000000 in
set_option maxRecDepth 100000 in
theorem c_X3_spanPart (l : Launch) (hfl : l.stackTraces = false) (D : va_G) (cI cJ : ClassId) (X : va_W) (z : Nat → Nat) (co : Int32) (d : Nat → Int64) (ti : Nat → Int64) (sL : Nat → Int64) (bL : Nat → Int64) (mD : Nat → Int64) (mT : Nat → Int64) (sy : Nat → Int64) (sm : Nat → Int64) (sd : Nat → Int64) (mi : Nat → Int64) (yr : Int64) (mo : Int32) (dy : Int32) (p1 : Int32) (p2 : Int32)  : ZM l yX3_spanPart wsX3_spanPart { frames := 2, cells := 0, slots := 0, locals := 45 } [.ref (z 0), .int p1, .int p2] D (zTys cI cJ) (wM cI cJ z co d ti sL bL mD mT sy sm sd mi yr mo dy X) 0 0 (fun v w => v = some (.int (f_X3_spanPart sy sm sd p1 p2)) ∧ w = (wM cI cJ z (s_X3_spanPart_co p1 p2) d ti sL bL mD mT sy sm sd mi yr mo dy X)) (fun _ _ => False) := by
  refine z_open (own := RX3) hfl (cc := cX3_spanPart) (maxL := 3) (ret := (some .int)) (lv := [(0, .ref (z 0)), (1, .int p1), (2, .int p2)]) rfl (by decide) rfl rfl (Nat.le_of_ble_eq_true rfl) ?_
  intro p e s m args below meth c A C hno hnm hargs
  have hin : ∀ w ∈ wsX30, w ∈ wsX3_spanPart := by decide +kernel
  have w1 := C.1.2.2.2.2 (.fieldLink RX3 38 "YearwheelModel" "spanDays" "[J") (by decide +kernel)
  have w2 := C.1.2.2.2.2 (.fieldLink RX3 35 "YearwheelModel" "spanMonths" "[J") (by decide +kernel)
  have w3 := C.1.2.2.2.2 (.fieldLink RX3 32 "YearwheelModel" "spanYears" "[J") (by decide +kernel)
  refine z_aload_n C dX3_spanPart_0 rfl 0 rfl ?_
  refine z_iload_n C dX3_spanPart_1 rfl 1 rfl ?_
  refine z_si (rest := [.ref (z 0)]) C (c_X3_isSlot l hfl D cI cJ _ p1 ) q_X3_isSlot gX3_spanPart_X3_isSlot ⟨rfl, rfl⟩ rfl rfl (Nat.le_of_ble_eq_true rfl) ⟨Nat.le_of_ble_eq_true rfl, Nat.le_of_ble_eq_true rfl⟩ ⟨Nat.le_of_ble_eq_true rfl, Nat.le_of_ble_eq_true rfl⟩ dX3_spanPart_2 ?_
  have K1_0 : f_X3_spanPart_j1 p1 p2 = 0 → (¬ (f_X3_isSlot p1) = 0) → ZW p l e { frames := 2, cells := 0, slots := 0, locals := 45 } s m args below meth c 3 D (zTys cI cJ) A (zE D (zTys cI cJ) A below args s (fun v w => v = some (.int (f_X3_spanPart sy sm sd p1 p2)) ∧ w = (wM cI cJ z (s_X3_spanPart_co p1 p2) d ti sL bL mD mT sy sm sd mi yr mo dy X)) (fun _ _ => False) 0 0) 0 0 (wM cI cJ z co d ti sL bL mD mT sy sm sd mi yr mo dy X) 35 [(0, .ref (z 0)), (1, .int p1), (2, .int p2)] [.int 0, .ref (z 0)] := by
    intro h5 h6
    refine z_wi (ws' := (wM cI cJ z (s_X3_fails_co 0) d ti sL bL mD mT sy sm sd mi yr mo dy X)) (rest := []) (ci := 3) (q0 := 0) C (c_X3_fails l hfl D cI cJ X z co d ti sL bL mD mT sy sm sd mi yr mo dy (0 : Int32) ) q_X3_fails rfl rfl rfl gX3_spanPart_X3_fails ⟨rfl, rfl⟩ rfl rfl (Nat.le_of_ble_eq_true rfl) ⟨Nat.le_of_ble_eq_true rfl, Nat.le_of_ble_eq_true rfl⟩ ⟨Nat.le_of_ble_eq_true rfl, Nat.le_of_ble_eq_true rfl⟩ dX3_spanPart_35 ?_
    refine z_eqst (st' := [.int 0]) (congrArg (fun v => Value.int v :: _) (by decide : (f_X3_fails 0) = (0 : Int32))) ?_
    refine z_if_eq (tgt := 43) C dX3_spanPart_38 (by decide) (fun _ => ?_) (fun h => absurd (by decide) h)
    refine z_iload_n C dX3_spanPart_43 rfl 2 rfl ?_
    refine z_bipush (v := 121) C dX3_spanPart_44 (by decide) ?_
    refine z_icmp_ne (tgt := 58) C dX3_spanPart_46 (by decide) (fun h7 => ?_) (fun h7 => ?_)
    · refine z_iload_n C dX3_spanPart_58 rfl 2 rfl ?_
      refine z_bipush (v := 109) C dX3_spanPart_59 (by decide) ?_
      refine z_icmp_ne (tgt := 73) C dX3_spanPart_61 (by decide) (fun h8 => ?_) (fun h8 => ?_)
      · refine z_aload_n C dX3_spanPart_73 rfl 0 rfl ?_
        refine z_get (CC := RX3) (T := TX3) (N := 14) (ci := 3) C hin 0 rfl rfl 9 (by decide) w1 rfl rfl dX3_spanPart_74 ?_
        refine z_iload_n C dX3_spanPart_77 rfl 1 rfl ?_
        refine z_lald C 9 1 rfl rfl (vpMSlot h6) dX3_spanPart_78 ?_
        refine z_l2i (v := ((sd p1.toNatClampNeg)).toInt32) C dX3_spanPart_79 rfl ?_
        exact z_iret C ⟨congrArg (fun v => some (Value.int v)) (by rw [f_X3_spanPart, if_pos h5, if_neg h7, if_neg h8] : ((sd p1.toNatClampNeg)).toInt32 = (f_X3_spanPart sy sm sd p1 p2)), by rw [s_X3_spanPart_co, if_pos h5, if_neg h7, if_neg h8]⟩ (by decide) (by decide) dX3_spanPart_80
      · refine z_aload_n C dX3_spanPart_64 rfl 0 rfl ?_
        refine z_get (CC := RX3) (T := TX3) (N := 14) (ci := 3) C hin 0 rfl rfl 8 (by decide) w2 rfl rfl dX3_spanPart_65 ?_
        refine z_iload_n C dX3_spanPart_68 rfl 1 rfl ?_
        refine z_lald C 8 1 rfl rfl (vpMSlot h6) dX3_spanPart_69 ?_
        refine z_goto (tgt := 79) C dX3_spanPart_70 (by decide) ?_
        refine z_l2i (v := ((sm p1.toNatClampNeg)).toInt32) C dX3_spanPart_79 rfl ?_
        exact z_iret C ⟨congrArg (fun v => some (Value.int v)) (by rw [f_X3_spanPart, if_pos h5, if_neg h7, if_pos h8] : ((sm p1.toNatClampNeg)).toInt32 = (f_X3_spanPart sy sm sd p1 p2)), by rw [s_X3_spanPart_co, if_pos h5, if_neg h7, if_pos h8]⟩ (by decide) (by decide) dX3_spanPart_80
    · refine z_aload_n C dX3_spanPart_49 rfl 0 rfl ?_
      refine z_get (CC := RX3) (T := TX3) (N := 14) (ci := 3) C hin 0 rfl rfl 7 (by decide) w3 rfl rfl dX3_spanPart_50 ?_
      refine z_iload_n C dX3_spanPart_53 rfl 1 rfl ?_
      refine z_lald C 7 1 rfl rfl (vpMSlot h6) dX3_spanPart_54 ?_
      refine z_goto (tgt := 79) C dX3_spanPart_55 (by decide) ?_
      refine z_l2i (v := ((sy p1.toNatClampNeg)).toInt32) C dX3_spanPart_79 rfl ?_
      exact z_iret C ⟨congrArg (fun v => some (Value.int v)) (by rw [f_X3_spanPart, if_pos h5, if_pos h7] : ((sy p1.toNatClampNeg)).toInt32 = (f_X3_spanPart sy sm sd p1 p2)), by rw [s_X3_spanPart_co, if_pos h5, if_pos h7]⟩ (by decide) (by decide) dX3_spanPart_80
  have K1_1 : f_X3_spanPart_j1 p1 p2 = 1 → ((f_X3_isSlot p1) = 0) → ZW p l e { frames := 2, cells := 0, slots := 0, locals := 45 } s m args below meth c 3 D (zTys cI cJ) A (zE D (zTys cI cJ) A below args s (fun v w => v = some (.int (f_X3_spanPart sy sm sd p1 p2)) ∧ w = (wM cI cJ z (s_X3_spanPart_co p1 p2) d ti sL bL mD mT sy sm sd mi yr mo dy X)) (fun _ _ => False) 0 0) 0 0 (wM cI cJ z co d ti sL bL mD mT sy sm sd mi yr mo dy X) 35 [(0, .ref (z 0)), (1, .int p1), (2, .int p2)] [.int 1, .ref (z 0)] := by
    intro h9 h10
    refine z_wi (ws' := (wM cI cJ z (s_X3_fails_co 1) d ti sL bL mD mT sy sm sd mi yr mo dy X)) (rest := []) (ci := 3) (q0 := 0) C (c_X3_fails l hfl D cI cJ X z co d ti sL bL mD mT sy sm sd mi yr mo dy (1 : Int32) ) q_X3_fails rfl rfl rfl gX3_spanPart_X3_fails ⟨rfl, rfl⟩ rfl rfl (Nat.le_of_ble_eq_true rfl) ⟨Nat.le_of_ble_eq_true rfl, Nat.le_of_ble_eq_true rfl⟩ ⟨Nat.le_of_ble_eq_true rfl, Nat.le_of_ble_eq_true rfl⟩ dX3_spanPart_35 ?_
    refine z_eqst (st' := [.int 1]) (congrArg (fun v => Value.int v :: _) (by decide : (f_X3_fails 1) = (1 : Int32))) ?_
    refine z_if_eq (tgt := 43) C dX3_spanPart_38 (by decide) (fun h => absurd h (by decide)) (fun _ => ?_)
    refine z_iconst (v := 0) C dX3_spanPart_41 (by decide) ?_
    exact z_iret C ⟨congrArg (fun v => some (Value.int v)) (by rw [f_X3_spanPart, if_neg (by rw [h9]; decide : ¬ f_X3_spanPart_j1 p1 p2 = 0), if_pos h9] : (0 : Int32) = (f_X3_spanPart sy sm sd p1 p2)), by rw [s_X3_spanPart_co, if_neg (by rw [h9]; decide : ¬ f_X3_spanPart_j1 p1 p2 = 0), if_pos h9]⟩ (by decide) (by decide) dX3_spanPart_42
  have K1_2 : f_X3_spanPart_j1 p1 p2 = 2 → (¬ (f_X3_isSlot p1) = 0) → (¬ p2 = 100) → (¬ p2 = 109) → (¬ p2 = 121) → ZW p l e { frames := 2, cells := 0, slots := 0, locals := 45 } s m args below meth c 3 D (zTys cI cJ) A (zE D (zTys cI cJ) A below args s (fun v w => v = some (.int (f_X3_spanPart sy sm sd p1 p2)) ∧ w = (wM cI cJ z (s_X3_spanPart_co p1 p2) d ti sL bL mD mT sy sm sd mi yr mo dy X)) (fun _ _ => False) 0 0) 0 0 (wM cI cJ z co d ti sL bL mD mT sy sm sd mi yr mo dy X) 35 [(0, .ref (z 0)), (1, .int p1), (2, .int p2)] [.int 2, .ref (z 0)] := by
    intro h11 h12 h13 h14 h15
    refine z_wi (ws' := (wM cI cJ z (s_X3_fails_co 2) d ti sL bL mD mT sy sm sd mi yr mo dy X)) (rest := []) (ci := 3) (q0 := 0) C (c_X3_fails l hfl D cI cJ X z co d ti sL bL mD mT sy sm sd mi yr mo dy (2 : Int32) ) q_X3_fails rfl rfl rfl gX3_spanPart_X3_fails ⟨rfl, rfl⟩ rfl rfl (Nat.le_of_ble_eq_true rfl) ⟨Nat.le_of_ble_eq_true rfl, Nat.le_of_ble_eq_true rfl⟩ ⟨Nat.le_of_ble_eq_true rfl, Nat.le_of_ble_eq_true rfl⟩ dX3_spanPart_35 ?_
    refine z_eqst (st' := [.int 1]) (congrArg (fun v => Value.int v :: _) (by decide : (f_X3_fails 2) = (1 : Int32))) ?_
    refine z_if_eq (tgt := 43) C dX3_spanPart_38 (by decide) (fun h => absurd h (by decide)) (fun _ => ?_)
    refine z_iconst (v := 0) C dX3_spanPart_41 (by decide) ?_
    exact z_iret C ⟨congrArg (fun v => some (Value.int v)) (by rw [f_X3_spanPart, if_neg (by rw [h11]; decide : ¬ f_X3_spanPart_j1 p1 p2 = 0), if_neg (by rw [h11]; decide : ¬ f_X3_spanPart_j1 p1 p2 = 1)] : (0 : Int32) = (f_X3_spanPart sy sm sd p1 p2)), by rw [s_X3_spanPart_co, if_neg (by rw [h11]; decide : ¬ f_X3_spanPart_j1 p1 p2 = 0), if_neg (by rw [h11]; decide : ¬ f_X3_spanPart_j1 p1 p2 = 1)]⟩ (by decide) (by decide) dX3_spanPart_42
  refine z_if_ne (tgt := 12) C dX3_spanPart_5 (by decide) (fun h1 => ?_) (fun h1 => ?_)
  · refine z_iload_n C dX3_spanPart_12 rfl 2 rfl ?_
    refine z_bipush (v := 121) C dX3_spanPart_13 (by decide) ?_
    refine z_icmp_eq (tgt := 30) C dX3_spanPart_15 (by decide) (fun h2 => ?_) (fun h2 => ?_)
    · refine z_iconst (v := 0) C dX3_spanPart_30 (by decide) ?_
      refine z_goto (tgt := 35) C dX3_spanPart_31 (by decide) ?_
      exact K1_0 (by rw [f_X3_spanPart_j1, if_neg h1, if_pos h2]) h1
    · refine z_iload_n C dX3_spanPart_18 rfl 2 rfl ?_
      refine z_bipush (v := 109) C dX3_spanPart_19 (by decide) ?_
      refine z_icmp_eq (tgt := 30) C dX3_spanPart_21 (by decide) (fun h3 => ?_) (fun h3 => ?_)
      · refine z_iconst (v := 0) C dX3_spanPart_30 (by decide) ?_
        refine z_goto (tgt := 35) C dX3_spanPart_31 (by decide) ?_
        exact K1_0 (by rw [f_X3_spanPart_j1, if_neg h1, if_neg h2, if_pos h3]) h1
      · refine z_iload_n C dX3_spanPart_24 rfl 2 rfl ?_
        refine z_bipush (v := 100) C dX3_spanPart_25 (by decide) ?_
        refine z_icmp_ne (tgt := 34) C dX3_spanPart_27 (by decide) (fun h4 => ?_) (fun h4 => ?_)
        · refine z_iconst (v := 2) C dX3_spanPart_34 (by decide) ?_
          exact K1_2 (by rw [f_X3_spanPart_j1, if_neg h1, if_neg h2, if_neg h3, if_neg h4]) h1 h4 h3 h2
        · refine z_iconst (v := 0) C dX3_spanPart_30 (by decide) ?_
          refine z_goto (tgt := 35) C dX3_spanPart_31 (by decide) ?_
          exact K1_0 (by rw [f_X3_spanPart_j1, if_neg h1, if_neg h2, if_neg h3, if_pos h4]) h1
  · refine z_iconst (v := 1) C dX3_spanPart_8 (by decide) ?_
    refine z_goto (tgt := 35) C dX3_spanPart_9 (by decide) ?_
    exact K1_1 (by rw [f_X3_spanPart_j1, if_pos h1]) h1
def f_X3_addSpan_j1 (p1 : Int32) (p2 : Int32) (p4 : Int32) : Int32 := (if (f_X3_isSlot p1) = 0 then 1 else (if (f_X3_isSlot p2) = 0 then 1 else (if (f_X3_isSlot p4) = 0 then 1 else 0)))
def f_X3_addSpan_j2 (p3 : Int32) : Int64 := (if p3 = 0 then 1 else (-1))
def f_X3_addSpan (sy : Nat → Int64) (sm : Nat → Int64) (sd : Nat → Int64) (p1 : Int32) (p2 : Int32) (p3 : Int32) (p4 : Int32) : Int64 := (if f_X3_addSpan_j1 p1 p2 p4 = 0 then (if f_X3_addSpan_j2 p3 = (-1) then (f_X3_spanned sy sm p4 ((sy p1.toNatClampNeg) + ((-1) * (sy p2.toNatClampNeg))) ((sm p1.toNatClampNeg) + ((-1) * (sm p2.toNatClampNeg))) ((sd p1.toNatClampNeg) + ((-1) * (sd p2.toNatClampNeg))) 2) else (f_X3_spanned sy sm p4 ((sy p1.toNatClampNeg) + (1 * (sy p2.toNatClampNeg))) ((sm p1.toNatClampNeg) + (1 * (sm p2.toNatClampNeg))) ((sd p1.toNatClampNeg) + (1 * (sd p2.toNatClampNeg))) 2)) else 0)
def s_X3_addSpan_co (sy : Nat → Int64) (sm : Nat → Int64) (sd : Nat → Int64) (p1 : Int32) (p2 : Int32) (p3 : Int32) (p4 : Int32) : Int32 := (if f_X3_addSpan_j1 p1 p2 p4 = 0 then (if f_X3_addSpan_j2 p3 = (-1) then (s_X3_spanned_co ((sy p1.toNatClampNeg) + ((-1) * (sy p2.toNatClampNeg))) ((sm p1.toNatClampNeg) + ((-1) * (sm p2.toNatClampNeg))) ((sd p1.toNatClampNeg) + ((-1) * (sd p2.toNatClampNeg))) 2) else (s_X3_spanned_co ((sy p1.toNatClampNeg) + (1 * (sy p2.toNatClampNeg))) ((sm p1.toNatClampNeg) + (1 * (sm p2.toNatClampNeg))) ((sd p1.toNatClampNeg) + (1 * (sd p2.toNatClampNeg))) 2)) else (s_X3_fails_co 1))
def s_X3_addSpan_sy (sy : Nat → Int64) (sm : Nat → Int64) (sd : Nat → Int64) (p1 : Int32) (p2 : Int32) (p3 : Int32) (p4 : Int32) : Nat → Int64 := (if f_X3_addSpan_j1 p1 p2 p4 = 0 then (if f_X3_addSpan_j2 p3 = (-1) then (s_X3_spanned_sy sy p4 ((sy p1.toNatClampNeg) + ((-1) * (sy p2.toNatClampNeg))) ((sm p1.toNatClampNeg) + ((-1) * (sm p2.toNatClampNeg))) ((sd p1.toNatClampNeg) + ((-1) * (sd p2.toNatClampNeg))) 2) else (s_X3_spanned_sy sy p4 ((sy p1.toNatClampNeg) + (1 * (sy p2.toNatClampNeg))) ((sm p1.toNatClampNeg) + (1 * (sm p2.toNatClampNeg))) ((sd p1.toNatClampNeg) + (1 * (sd p2.toNatClampNeg))) 2)) else sy)
def s_X3_addSpan_sm (sy : Nat → Int64) (sm : Nat → Int64) (sd : Nat → Int64) (p1 : Int32) (p2 : Int32) (p3 : Int32) (p4 : Int32) : Nat → Int64 := (if f_X3_addSpan_j1 p1 p2 p4 = 0 then (if f_X3_addSpan_j2 p3 = (-1) then (s_X3_spanned_sm sm p4 ((sy p1.toNatClampNeg) + ((-1) * (sy p2.toNatClampNeg))) ((sm p1.toNatClampNeg) + ((-1) * (sm p2.toNatClampNeg))) ((sd p1.toNatClampNeg) + ((-1) * (sd p2.toNatClampNeg))) 2) else (s_X3_spanned_sm sm p4 ((sy p1.toNatClampNeg) + (1 * (sy p2.toNatClampNeg))) ((sm p1.toNatClampNeg) + (1 * (sm p2.toNatClampNeg))) ((sd p1.toNatClampNeg) + (1 * (sd p2.toNatClampNeg))) 2)) else sm)
def s_X3_addSpan_sd (sy : Nat → Int64) (sm : Nat → Int64) (sd : Nat → Int64) (p1 : Int32) (p2 : Int32) (p3 : Int32) (p4 : Int32) : Nat → Int64 := (if f_X3_addSpan_j1 p1 p2 p4 = 0 then (if f_X3_addSpan_j2 p3 = (-1) then (s_X3_spanned_sd sd p4 ((sy p1.toNatClampNeg) + ((-1) * (sy p2.toNatClampNeg))) ((sm p1.toNatClampNeg) + ((-1) * (sm p2.toNatClampNeg))) ((sd p1.toNatClampNeg) + ((-1) * (sd p2.toNatClampNeg))) 2) else (s_X3_spanned_sd sd p4 ((sy p1.toNatClampNeg) + (1 * (sy p2.toNatClampNeg))) ((sm p1.toNatClampNeg) + (1 * (sm p2.toNatClampNeg))) ((sd p1.toNatClampNeg) + (1 * (sd p2.toNatClampNeg))) 2)) else sd)
theorem q_X3_addSpan : ZY yX3_addSpan wsX3_addSpan cX3_addSpan 7 (some .long) 4 := ⟨⟨_, rfl⟩, by decide +kernel, by decide +kernel, by decide +kernel⟩
set_option maxHeartbeats 4000000 in
set_option maxRecDepth 100000 in
theorem c_X3_addSpan (l : Launch) (hfl : l.stackTraces = false) (D : va_G) (cI cJ : ClassId) (X : va_W) (z : Nat → Nat) (co : Int32) (d : Nat → Int64) (ti : Nat → Int64) (sL : Nat → Int64) (bL : Nat → Int64) (mD : Nat → Int64) (mT : Nat → Int64) (sy : Nat → Int64) (sm : Nat → Int64) (sd : Nat → Int64) (mi : Nat → Int64) (yr : Int64) (mo : Int32) (dy : Int32) (p1 : Int32) (p2 : Int32) (p3 : Int32) (p4 : Int32)  : ZM l yX3_addSpan wsX3_addSpan { frames := 2, cells := 0, slots := 0, locals := 53 } [.ref (z 0), .int p1, .int p2, .int p3, .int p4] D (zTys cI cJ) (wM cI cJ z co d ti sL bL mD mT sy sm sd mi yr mo dy X) 0 0 (fun v w => v = some (.long (f_X3_addSpan sy sm sd p1 p2 p3 p4)) ∧ w = (wM cI cJ z (s_X3_addSpan_co sy sm sd p1 p2 p3 p4) d ti sL bL mD mT (s_X3_addSpan_sy sy sm sd p1 p2 p3 p4) (s_X3_addSpan_sm sy sm sd p1 p2 p3 p4) (s_X3_addSpan_sd sy sm sd p1 p2 p3 p4) mi yr mo dy X)) (fun _ _ => False) := by
  refine z_open (own := RX3) hfl (cc := cX3_addSpan) (maxL := 7) (ret := (some .long)) (lv := [(0, .ref (z 0)), (1, .int p1), (2, .int p2), (3, .int p3), (4, .int p4)]) rfl (by decide) rfl rfl (Nat.le_of_ble_eq_true rfl) ?_
  intro p e s m args below meth c A C hno hnm hargs
  have hin : ∀ w ∈ wsX30, w ∈ wsX3_addSpan := by decide +kernel
  have w1 := C.1.2.2.2.2 (.constantLong RX3 181 (-1)) (by decide +kernel)
  have w2 := C.1.2.2.2.2 (.fieldLink RX3 32 "YearwheelModel" "spanYears" "[J") (by decide +kernel)
  have w3 := C.1.2.2.2.2 (.fieldLink RX3 35 "YearwheelModel" "spanMonths" "[J") (by decide +kernel)
  have w4 := C.1.2.2.2.2 (.fieldLink RX3 38 "YearwheelModel" "spanDays" "[J") (by decide +kernel)
  refine z_aload_n C dX3_addSpan_0 rfl 0 rfl ?_
  refine z_iload_n C dX3_addSpan_1 rfl 1 rfl ?_
  refine z_si (rest := [.ref (z 0)]) C (c_X3_isSlot l hfl D cI cJ _ p1 ) q_X3_isSlot gX3_addSpan_X3_isSlot ⟨rfl, rfl⟩ rfl rfl (Nat.le_of_ble_eq_true rfl) ⟨Nat.le_of_ble_eq_true rfl, Nat.le_of_ble_eq_true rfl⟩ ⟨Nat.le_of_ble_eq_true rfl, Nat.le_of_ble_eq_true rfl⟩ dX3_addSpan_2 ?_
  have K1_0 : f_X3_addSpan_j1 p1 p2 p4 = 0 → (¬ (f_X3_isSlot p1) = 0) → (¬ (f_X3_isSlot p2) = 0) → (¬ (f_X3_isSlot p4) = 0) → ZW p l e { frames := 2, cells := 0, slots := 0, locals := 53 } s m args below meth c 7 D (zTys cI cJ) A (zE D (zTys cI cJ) A below args s (fun v w => v = some (.long (f_X3_addSpan sy sm sd p1 p2 p3 p4)) ∧ w = (wM cI cJ z (s_X3_addSpan_co sy sm sd p1 p2 p3 p4) d ti sL bL mD mT (s_X3_addSpan_sy sy sm sd p1 p2 p3 p4) (s_X3_addSpan_sm sy sm sd p1 p2 p3 p4) (s_X3_addSpan_sd sy sm sd p1 p2 p3 p4) mi yr mo dy X)) (fun _ _ => False) 0 0) 0 0 (wM cI cJ z co d ti sL bL mD mT sy sm sd mi yr mo dy X) 28 [(0, .ref (z 0)), (1, .int p1), (2, .int p2), (3, .int p3), (4, .int p4)] [.int 0, .ref (z 0)] := by
    intro h4 h5 h6 h7
    refine z_wi (ws' := (wM cI cJ z (s_X3_fails_co 0) d ti sL bL mD mT sy sm sd mi yr mo dy X)) (rest := []) (ci := 3) (q0 := 0) C (c_X3_fails l hfl D cI cJ X z co d ti sL bL mD mT sy sm sd mi yr mo dy (0 : Int32) ) q_X3_fails rfl rfl rfl gX3_addSpan_X3_fails ⟨rfl, rfl⟩ rfl rfl (Nat.le_of_ble_eq_true rfl) ⟨Nat.le_of_ble_eq_true rfl, Nat.le_of_ble_eq_true rfl⟩ ⟨Nat.le_of_ble_eq_true rfl, Nat.le_of_ble_eq_true rfl⟩ dX3_addSpan_28 ?_
    refine z_eqst (st' := [.int 0]) (congrArg (fun v => Value.int v :: _) (by decide : (f_X3_fails 0) = (0 : Int32))) ?_
    refine z_if_eq (tgt := 36) C dX3_addSpan_31 (by decide) (fun _ => ?_) (fun h => absurd (by decide) h)
    refine z_iload_n C dX3_addSpan_36 rfl 3 rfl ?_
    have K2_m1 : f_X3_addSpan_j2 p3 = (-1) → (¬ p3 = 0) → ZW p l e { frames := 2, cells := 0, slots := 0, locals := 53 } s m args below meth c 7 D (zTys cI cJ) A (zE D (zTys cI cJ) A below args s (fun v w => v = some (.long (f_X3_addSpan sy sm sd p1 p2 p3 p4)) ∧ w = (wM cI cJ z (s_X3_addSpan_co sy sm sd p1 p2 p3 p4) d ti sL bL mD mT (s_X3_addSpan_sy sy sm sd p1 p2 p3 p4) (s_X3_addSpan_sm sy sm sd p1 p2 p3 p4) (s_X3_addSpan_sd sy sm sd p1 p2 p3 p4) mi yr mo dy X)) (fun _ _ => False) 0 0) 0 0 (wM cI cJ z (s_X3_fails_co 0) d ti sL bL mD mT sy sm sd mi yr mo dy X) 47 [(0, .ref (z 0)), (1, .int p1), (2, .int p2), (3, .int p3), (4, .int p4)] [.long (-1)] := by
      intro h9 h10
      refine z_lstore (lv' := [(5, .long (-1)), (0, .ref (z 0)), (1, .int p1), (2, .int p2), (3, .int p3), (4, .int p4)]) C dX3_addSpan_47 (by decide) rfl ?_
      refine z_aload_n C dX3_addSpan_49 rfl 1 rfl ?_
      refine z_iload C dX3_addSpan_50 5 rfl ?_
      refine z_aload_n C dX3_addSpan_52 rfl 1 rfl ?_
      refine z_get (CC := RX3) (T := TX3) (N := 14) (ci := 3) C hin 0 rfl rfl 7 (by decide) w2 rfl rfl dX3_addSpan_53 ?_
      refine z_iload_n C dX3_addSpan_56 rfl 2 rfl ?_
      refine z_lald C 7 1 rfl rfl (vpMSlot h5) dX3_addSpan_57 ?_
      refine z_lload C dX3_addSpan_58 0 rfl ?_
      refine z_aload_n C dX3_addSpan_60 rfl 1 rfl ?_
      refine z_get (CC := RX3) (T := TX3) (N := 14) (ci := 3) C hin 0 rfl rfl 7 (by decide) w2 rfl rfl dX3_addSpan_61 ?_
      refine z_iload_n C dX3_addSpan_64 rfl 3 rfl ?_
      refine z_lald C 7 1 rfl rfl (vpMSlot h6) dX3_addSpan_65 ?_
      refine z_lmul C dX3_addSpan_66 ?_
      refine z_ladd C dX3_addSpan_67 ?_
      refine z_aload_n C dX3_addSpan_68 rfl 1 rfl ?_
      refine z_get (CC := RX3) (T := TX3) (N := 14) (ci := 3) C hin 0 rfl rfl 8 (by decide) w3 rfl rfl dX3_addSpan_69 ?_
      refine z_iload_n C dX3_addSpan_72 rfl 2 rfl ?_
      refine z_lald C 8 1 rfl rfl (vpMSlot h5) dX3_addSpan_73 ?_
      refine z_lload C dX3_addSpan_74 0 rfl ?_
      refine z_aload_n C dX3_addSpan_76 rfl 1 rfl ?_
      refine z_get (CC := RX3) (T := TX3) (N := 14) (ci := 3) C hin 0 rfl rfl 8 (by decide) w3 rfl rfl dX3_addSpan_77 ?_
      refine z_iload_n C dX3_addSpan_80 rfl 3 rfl ?_
      refine z_lald C 8 1 rfl rfl (vpMSlot h6) dX3_addSpan_81 ?_
      refine z_lmul C dX3_addSpan_82 ?_
      refine z_ladd C dX3_addSpan_83 ?_
      refine z_aload_n C dX3_addSpan_84 rfl 1 rfl ?_
      refine z_get (CC := RX3) (T := TX3) (N := 14) (ci := 3) C hin 0 rfl rfl 9 (by decide) w4 rfl rfl dX3_addSpan_85 ?_
      refine z_iload_n C dX3_addSpan_88 rfl 2 rfl ?_
      refine z_lald C 9 1 rfl rfl (vpMSlot h5) dX3_addSpan_89 ?_
      refine z_lload C dX3_addSpan_90 0 rfl ?_
      refine z_aload_n C dX3_addSpan_92 rfl 1 rfl ?_
      refine z_get (CC := RX3) (T := TX3) (N := 14) (ci := 3) C hin 0 rfl rfl 9 (by decide) w4 rfl rfl dX3_addSpan_93 ?_
      refine z_iload_n C dX3_addSpan_96 rfl 3 rfl ?_
      refine z_lald C 9 1 rfl rfl (vpMSlot h6) dX3_addSpan_97 ?_
      refine z_lmul C dX3_addSpan_98 ?_
      refine z_ladd C dX3_addSpan_99 ?_
      refine z_iconst (v := 2) C dX3_addSpan_100 (by decide) ?_
      refine z_wl (ws' := (wM cI cJ z (s_X3_spanned_co ((sy p1.toNatClampNeg) + ((-1) * (sy p2.toNatClampNeg))) ((sm p1.toNatClampNeg) + ((-1) * (sm p2.toNatClampNeg))) ((sd p1.toNatClampNeg) + ((-1) * (sd p2.toNatClampNeg))) 2) d ti sL bL mD mT (s_X3_spanned_sy sy p4 ((sy p1.toNatClampNeg) + ((-1) * (sy p2.toNatClampNeg))) ((sm p1.toNatClampNeg) + ((-1) * (sm p2.toNatClampNeg))) ((sd p1.toNatClampNeg) + ((-1) * (sd p2.toNatClampNeg))) 2) (s_X3_spanned_sm sm p4 ((sy p1.toNatClampNeg) + ((-1) * (sy p2.toNatClampNeg))) ((sm p1.toNatClampNeg) + ((-1) * (sm p2.toNatClampNeg))) ((sd p1.toNatClampNeg) + ((-1) * (sd p2.toNatClampNeg))) 2) (s_X3_spanned_sd sd p4 ((sy p1.toNatClampNeg) + ((-1) * (sy p2.toNatClampNeg))) ((sm p1.toNatClampNeg) + ((-1) * (sm p2.toNatClampNeg))) ((sd p1.toNatClampNeg) + ((-1) * (sd p2.toNatClampNeg))) 2) mi yr mo dy X)) (rest := []) (ci := 3) (q0 := 0) C (c_X3_spanned l hfl D cI cJ X z (s_X3_fails_co 0) d ti sL bL mD mT sy sm sd mi yr mo dy p4 ((sy p1.toNatClampNeg) + ((-1) * (sy p2.toNatClampNeg))) ((sm p1.toNatClampNeg) + ((-1) * (sm p2.toNatClampNeg))) ((sd p1.toNatClampNeg) + ((-1) * (sd p2.toNatClampNeg))) (2 : Int32) (vpMSlot h7)) q_X3_spanned rfl rfl rfl gX3_addSpan_X3_spanned ⟨rfl, rfl⟩ rfl rfl (Nat.le_of_ble_eq_true rfl) ⟨Nat.le_of_ble_eq_true rfl, Nat.le_of_ble_eq_true rfl⟩ ⟨Nat.le_of_ble_eq_true rfl, Nat.le_of_ble_eq_true rfl⟩ dX3_addSpan_101 ?_
      exact z_lret C ⟨congrArg (fun v => some (Value.long v)) (by rw [f_X3_addSpan, if_pos h4, if_pos h9] : (f_X3_spanned sy sm p4 ((sy p1.toNatClampNeg) + ((-1) * (sy p2.toNatClampNeg))) ((sm p1.toNatClampNeg) + ((-1) * (sm p2.toNatClampNeg))) ((sd p1.toNatClampNeg) + ((-1) * (sd p2.toNatClampNeg))) 2) = (f_X3_addSpan sy sm sd p1 p2 p3 p4)), by rw [s_X3_addSpan_co, if_pos h4, if_pos h9, s_X3_addSpan_sy, if_pos h4, if_pos h9, s_X3_addSpan_sm, if_pos h4, if_pos h9, s_X3_addSpan_sd, if_pos h4, if_pos h9]⟩ (by decide) (by decide) dX3_addSpan_104
    have K2_1 : f_X3_addSpan_j2 p3 = 1 → (p3 = 0) → ZW p l e { frames := 2, cells := 0, slots := 0, locals := 53 } s m args below meth c 7 D (zTys cI cJ) A (zE D (zTys cI cJ) A below args s (fun v w => v = some (.long (f_X3_addSpan sy sm sd p1 p2 p3 p4)) ∧ w = (wM cI cJ z (s_X3_addSpan_co sy sm sd p1 p2 p3 p4) d ti sL bL mD mT (s_X3_addSpan_sy sy sm sd p1 p2 p3 p4) (s_X3_addSpan_sm sy sm sd p1 p2 p3 p4) (s_X3_addSpan_sd sy sm sd p1 p2 p3 p4) mi yr mo dy X)) (fun _ _ => False) 0 0) 0 0 (wM cI cJ z (s_X3_fails_co 0) d ti sL bL mD mT sy sm sd mi yr mo dy X) 47 [(0, .ref (z 0)), (1, .int p1), (2, .int p2), (3, .int p3), (4, .int p4)] [.long 1] := by
      intro h11 h12
      refine z_lstore (lv' := [(5, .long 1), (0, .ref (z 0)), (1, .int p1), (2, .int p2), (3, .int p3), (4, .int p4)]) C dX3_addSpan_47 (by decide) rfl ?_
      refine z_aload_n C dX3_addSpan_49 rfl 1 rfl ?_
      refine z_iload C dX3_addSpan_50 5 rfl ?_
      refine z_aload_n C dX3_addSpan_52 rfl 1 rfl ?_
      refine z_get (CC := RX3) (T := TX3) (N := 14) (ci := 3) C hin 0 rfl rfl 7 (by decide) w2 rfl rfl dX3_addSpan_53 ?_
      refine z_iload_n C dX3_addSpan_56 rfl 2 rfl ?_
      refine z_lald C 7 1 rfl rfl (vpMSlot h5) dX3_addSpan_57 ?_
      refine z_lload C dX3_addSpan_58 0 rfl ?_
      refine z_aload_n C dX3_addSpan_60 rfl 1 rfl ?_
      refine z_get (CC := RX3) (T := TX3) (N := 14) (ci := 3) C hin 0 rfl rfl 7 (by decide) w2 rfl rfl dX3_addSpan_61 ?_
      refine z_iload_n C dX3_addSpan_64 rfl 3 rfl ?_
      refine z_lald C 7 1 rfl rfl (vpMSlot h6) dX3_addSpan_65 ?_
      refine z_lmul C dX3_addSpan_66 ?_
      refine z_ladd C dX3_addSpan_67 ?_
      refine z_aload_n C dX3_addSpan_68 rfl 1 rfl ?_
      refine z_get (CC := RX3) (T := TX3) (N := 14) (ci := 3) C hin 0 rfl rfl 8 (by decide) w3 rfl rfl dX3_addSpan_69 ?_
      refine z_iload_n C dX3_addSpan_72 rfl 2 rfl ?_
      refine z_lald C 8 1 rfl rfl (vpMSlot h5) dX3_addSpan_73 ?_
      refine z_lload C dX3_addSpan_74 0 rfl ?_
      refine z_aload_n C dX3_addSpan_76 rfl 1 rfl ?_
      refine z_get (CC := RX3) (T := TX3) (N := 14) (ci := 3) C hin 0 rfl rfl 8 (by decide) w3 rfl rfl dX3_addSpan_77 ?_
      refine z_iload_n C dX3_addSpan_80 rfl 3 rfl ?_
      refine z_lald C 8 1 rfl rfl (vpMSlot h6) dX3_addSpan_81 ?_
      refine z_lmul C dX3_addSpan_82 ?_
      refine z_ladd C dX3_addSpan_83 ?_
      refine z_aload_n C dX3_addSpan_84 rfl 1 rfl ?_
      refine z_get (CC := RX3) (T := TX3) (N := 14) (ci := 3) C hin 0 rfl rfl 9 (by decide) w4 rfl rfl dX3_addSpan_85 ?_
      refine z_iload_n C dX3_addSpan_88 rfl 2 rfl ?_
      refine z_lald C 9 1 rfl rfl (vpMSlot h5) dX3_addSpan_89 ?_
      refine z_lload C dX3_addSpan_90 0 rfl ?_
      refine z_aload_n C dX3_addSpan_92 rfl 1 rfl ?_
      refine z_get (CC := RX3) (T := TX3) (N := 14) (ci := 3) C hin 0 rfl rfl 9 (by decide) w4 rfl rfl dX3_addSpan_93 ?_
      refine z_iload_n C dX3_addSpan_96 rfl 3 rfl ?_
      refine z_lald C 9 1 rfl rfl (vpMSlot h6) dX3_addSpan_97 ?_
      refine z_lmul C dX3_addSpan_98 ?_
      refine z_ladd C dX3_addSpan_99 ?_
      refine z_iconst (v := 2) C dX3_addSpan_100 (by decide) ?_
      refine z_wl (ws' := (wM cI cJ z (s_X3_spanned_co ((sy p1.toNatClampNeg) + (1 * (sy p2.toNatClampNeg))) ((sm p1.toNatClampNeg) + (1 * (sm p2.toNatClampNeg))) ((sd p1.toNatClampNeg) + (1 * (sd p2.toNatClampNeg))) 2) d ti sL bL mD mT (s_X3_spanned_sy sy p4 ((sy p1.toNatClampNeg) + (1 * (sy p2.toNatClampNeg))) ((sm p1.toNatClampNeg) + (1 * (sm p2.toNatClampNeg))) ((sd p1.toNatClampNeg) + (1 * (sd p2.toNatClampNeg))) 2) (s_X3_spanned_sm sm p4 ((sy p1.toNatClampNeg) + (1 * (sy p2.toNatClampNeg))) ((sm p1.toNatClampNeg) + (1 * (sm p2.toNatClampNeg))) ((sd p1.toNatClampNeg) + (1 * (sd p2.toNatClampNeg))) 2) (s_X3_spanned_sd sd p4 ((sy p1.toNatClampNeg) + (1 * (sy p2.toNatClampNeg))) ((sm p1.toNatClampNeg) + (1 * (sm p2.toNatClampNeg))) ((sd p1.toNatClampNeg) + (1 * (sd p2.toNatClampNeg))) 2) mi yr mo dy X)) (rest := []) (ci := 3) (q0 := 0) C (c_X3_spanned l hfl D cI cJ X z (s_X3_fails_co 0) d ti sL bL mD mT sy sm sd mi yr mo dy p4 ((sy p1.toNatClampNeg) + (1 * (sy p2.toNatClampNeg))) ((sm p1.toNatClampNeg) + (1 * (sm p2.toNatClampNeg))) ((sd p1.toNatClampNeg) + (1 * (sd p2.toNatClampNeg))) (2 : Int32) (vpMSlot h7)) q_X3_spanned rfl rfl rfl gX3_addSpan_X3_spanned ⟨rfl, rfl⟩ rfl rfl (Nat.le_of_ble_eq_true rfl) ⟨Nat.le_of_ble_eq_true rfl, Nat.le_of_ble_eq_true rfl⟩ ⟨Nat.le_of_ble_eq_true rfl, Nat.le_of_ble_eq_true rfl⟩ dX3_addSpan_101 ?_
      exact z_lret C ⟨congrArg (fun v => some (Value.long v)) (by rw [f_X3_addSpan, if_pos h4, if_neg (by rw [h11]; decide : ¬ f_X3_addSpan_j2 p3 = (-1))] : (f_X3_spanned sy sm p4 ((sy p1.toNatClampNeg) + (1 * (sy p2.toNatClampNeg))) ((sm p1.toNatClampNeg) + (1 * (sm p2.toNatClampNeg))) ((sd p1.toNatClampNeg) + (1 * (sd p2.toNatClampNeg))) 2) = (f_X3_addSpan sy sm sd p1 p2 p3 p4)), by rw [s_X3_addSpan_co, if_pos h4, if_neg (by rw [h11]; decide : ¬ f_X3_addSpan_j2 p3 = (-1)), s_X3_addSpan_sy, if_pos h4, if_neg (by rw [h11]; decide : ¬ f_X3_addSpan_j2 p3 = (-1)), s_X3_addSpan_sm, if_pos h4, if_neg (by rw [h11]; decide : ¬ f_X3_addSpan_j2 p3 = (-1)), s_X3_addSpan_sd, if_pos h4, if_neg (by rw [h11]; decide : ¬ f_X3_addSpan_j2 p3 = (-1))]⟩ (by decide) (by decide) dX3_addSpan_104
    refine z_if_eq (tgt := 46) C dX3_addSpan_37 (by decide) (fun h8 => ?_) (fun h8 => ?_)
    · refine z_lconst (v := 1) C dX3_addSpan_46 (by decide) ?_
      exact K2_1 (by rw [f_X3_addSpan_j2, if_pos h8]) h8
    · refine z_ldc2 (v := (-1)) C w1 dX3_addSpan_40 ?_
      refine z_goto (tgt := 47) C dX3_addSpan_43 (by decide) ?_
      exact K2_m1 (by rw [f_X3_addSpan_j2, if_neg h8]) h8
  have K1_1 : f_X3_addSpan_j1 p1 p2 p4 = 1 → ZW p l e { frames := 2, cells := 0, slots := 0, locals := 53 } s m args below meth c 7 D (zTys cI cJ) A (zE D (zTys cI cJ) A below args s (fun v w => v = some (.long (f_X3_addSpan sy sm sd p1 p2 p3 p4)) ∧ w = (wM cI cJ z (s_X3_addSpan_co sy sm sd p1 p2 p3 p4) d ti sL bL mD mT (s_X3_addSpan_sy sy sm sd p1 p2 p3 p4) (s_X3_addSpan_sm sy sm sd p1 p2 p3 p4) (s_X3_addSpan_sd sy sm sd p1 p2 p3 p4) mi yr mo dy X)) (fun _ _ => False) 0 0) 0 0 (wM cI cJ z co d ti sL bL mD mT sy sm sd mi yr mo dy X) 28 [(0, .ref (z 0)), (1, .int p1), (2, .int p2), (3, .int p3), (4, .int p4)] [.int 1, .ref (z 0)] := by
    intro h13
    refine z_wi (ws' := (wM cI cJ z (s_X3_fails_co 1) d ti sL bL mD mT sy sm sd mi yr mo dy X)) (rest := []) (ci := 3) (q0 := 0) C (c_X3_fails l hfl D cI cJ X z co d ti sL bL mD mT sy sm sd mi yr mo dy (1 : Int32) ) q_X3_fails rfl rfl rfl gX3_addSpan_X3_fails ⟨rfl, rfl⟩ rfl rfl (Nat.le_of_ble_eq_true rfl) ⟨Nat.le_of_ble_eq_true rfl, Nat.le_of_ble_eq_true rfl⟩ ⟨Nat.le_of_ble_eq_true rfl, Nat.le_of_ble_eq_true rfl⟩ dX3_addSpan_28 ?_
    refine z_eqst (st' := [.int 1]) (congrArg (fun v => Value.int v :: _) (by decide : (f_X3_fails 1) = (1 : Int32))) ?_
    refine z_if_eq (tgt := 36) C dX3_addSpan_31 (by decide) (fun h => absurd h (by decide)) (fun _ => ?_)
    refine z_lconst (v := 0) C dX3_addSpan_34 (by decide) ?_
    exact z_lret C ⟨congrArg (fun v => some (Value.long v)) (by rw [f_X3_addSpan, if_neg (by rw [h13]; decide : ¬ f_X3_addSpan_j1 p1 p2 p4 = 0)] : (0 : Int64) = (f_X3_addSpan sy sm sd p1 p2 p3 p4)), by rw [s_X3_addSpan_co, if_neg (by rw [h13]; decide : ¬ f_X3_addSpan_j1 p1 p2 p4 = 0), s_X3_addSpan_sy, if_neg (by rw [h13]; decide : ¬ f_X3_addSpan_j1 p1 p2 p4 = 0), s_X3_addSpan_sm, if_neg (by rw [h13]; decide : ¬ f_X3_addSpan_j1 p1 p2 p4 = 0), s_X3_addSpan_sd, if_neg (by rw [h13]; decide : ¬ f_X3_addSpan_j1 p1 p2 p4 = 0)]⟩ (by decide) (by decide) dX3_addSpan_35
  refine z_if_eq (tgt := 27) C dX3_addSpan_5 (by decide) (fun h1 => ?_) (fun h1 => ?_)
  · refine z_iconst (v := 1) C dX3_addSpan_27 (by decide) ?_
    exact K1_1 (by rw [f_X3_addSpan_j1, if_pos h1]) 
  · refine z_iload_n C dX3_addSpan_8 rfl 2 rfl ?_
    refine z_si (rest := [.ref (z 0)]) C (c_X3_isSlot l hfl D cI cJ _ p2 ) q_X3_isSlot gX3_addSpan_X3_isSlot ⟨rfl, rfl⟩ rfl rfl (Nat.le_of_ble_eq_true rfl) ⟨Nat.le_of_ble_eq_true rfl, Nat.le_of_ble_eq_true rfl⟩ ⟨Nat.le_of_ble_eq_true rfl, Nat.le_of_ble_eq_true rfl⟩ dX3_addSpan_9 ?_
    refine z_if_eq (tgt := 27) C dX3_addSpan_12 (by decide) (fun h2 => ?_) (fun h2 => ?_)
    · refine z_iconst (v := 1) C dX3_addSpan_27 (by decide) ?_
      exact K1_1 (by rw [f_X3_addSpan_j1, if_neg h1, if_pos h2]) 
    · refine z_iload C dX3_addSpan_15 4 rfl ?_
      refine z_si (rest := [.ref (z 0)]) C (c_X3_isSlot l hfl D cI cJ _ p4 ) q_X3_isSlot gX3_addSpan_X3_isSlot ⟨rfl, rfl⟩ rfl rfl (Nat.le_of_ble_eq_true rfl) ⟨Nat.le_of_ble_eq_true rfl, Nat.le_of_ble_eq_true rfl⟩ ⟨Nat.le_of_ble_eq_true rfl, Nat.le_of_ble_eq_true rfl⟩ dX3_addSpan_17 ?_
      refine z_if_eq (tgt := 27) C dX3_addSpan_20 (by decide) (fun h3 => ?_) (fun h3 => ?_)
      · refine z_iconst (v := 1) C dX3_addSpan_27 (by decide) ?_
        exact K1_1 (by rw [f_X3_addSpan_j1, if_neg h1, if_neg h2, if_pos h3]) 
      · refine z_iconst (v := 0) C dX3_addSpan_23 (by decide) ?_
        refine z_goto (tgt := 28) C dX3_addSpan_24 (by decide) ?_
        exact K1_0 (by rw [f_X3_addSpan_j1, if_neg h1, if_neg h2, if_neg h3]) h1 h2 h3
def f_X3_timesSpan_j1 (p1 : Int32) (p2 : Int32) (p3 : Int32) : Int32 := (if (f_X3_isSlot p1) = 0 then 1 else (if (f_X3_isSlot p3) = 0 then 1 else (if (f_X3_in ((p2).toInt64) (-100) 100) = 0 then 2 else 0)))
def f_X3_timesSpan (sy : Nat → Int64) (sm : Nat → Int64) (sd : Nat → Int64) (p1 : Int32) (p2 : Int32) (p3 : Int32) : Int64 := (if f_X3_timesSpan_j1 p1 p2 p3 = 0 then (f_X3_spanned sy sm p3 ((p2).toInt64 * (sy p1.toNatClampNeg)) ((p2).toInt64 * (sm p1.toNatClampNeg)) ((p2).toInt64 * (sd p1.toNatClampNeg)) 3) else (if f_X3_timesSpan_j1 p1 p2 p3 = 1 then 0 else 0))
def s_X3_timesSpan_co (sy : Nat → Int64) (sm : Nat → Int64) (sd : Nat → Int64) (p1 : Int32) (p2 : Int32) (p3 : Int32) : Int32 := (if f_X3_timesSpan_j1 p1 p2 p3 = 0 then (s_X3_spanned_co ((p2).toInt64 * (sy p1.toNatClampNeg)) ((p2).toInt64 * (sm p1.toNatClampNeg)) ((p2).toInt64 * (sd p1.toNatClampNeg)) 3) else (if f_X3_timesSpan_j1 p1 p2 p3 = 1 then (s_X3_fails_co 1) else (s_X3_fails_co 2)))
def s_X3_timesSpan_sy (sy : Nat → Int64) (sm : Nat → Int64) (sd : Nat → Int64) (p1 : Int32) (p2 : Int32) (p3 : Int32) : Nat → Int64 := (if f_X3_timesSpan_j1 p1 p2 p3 = 0 then (s_X3_spanned_sy sy p3 ((p2).toInt64 * (sy p1.toNatClampNeg)) ((p2).toInt64 * (sm p1.toNatClampNeg)) ((p2).toInt64 * (sd p1.toNatClampNeg)) 3) else (if f_X3_timesSpan_j1 p1 p2 p3 = 1 then sy else sy))
def s_X3_timesSpan_sm (sy : Nat → Int64) (sm : Nat → Int64) (sd : Nat → Int64) (p1 : Int32) (p2 : Int32) (p3 : Int32) : Nat → Int64 := (if f_X3_timesSpan_j1 p1 p2 p3 = 0 then (s_X3_spanned_sm sm p3 ((p2).toInt64 * (sy p1.toNatClampNeg)) ((p2).toInt64 * (sm p1.toNatClampNeg)) ((p2).toInt64 * (sd p1.toNatClampNeg)) 3) else (if f_X3_timesSpan_j1 p1 p2 p3 = 1 then sm else sm))
def s_X3_timesSpan_sd (sy : Nat → Int64) (sm : Nat → Int64) (sd : Nat → Int64) (p1 : Int32) (p2 : Int32) (p3 : Int32) : Nat → Int64 := (if f_X3_timesSpan_j1 p1 p2 p3 = 0 then (s_X3_spanned_sd sd p3 ((p2).toInt64 * (sy p1.toNatClampNeg)) ((p2).toInt64 * (sm p1.toNatClampNeg)) ((p2).toInt64 * (sd p1.toNatClampNeg)) 3) else (if f_X3_timesSpan_j1 p1 p2 p3 = 1 then sd else sd))
theorem q_X3_timesSpan : ZY yX3_timesSpan wsX3_timesSpan cX3_timesSpan 4 (some .long) 3 := ⟨⟨_, rfl⟩, by decide +kernel, by decide +kernel, by decide +kernel⟩
set_option maxHeartbeats 4000000 in
set_option maxRecDepth 100000 in
theorem c_X3_timesSpan (l : Launch) (hfl : l.stackTraces = false) (D : va_G) (cI cJ : ClassId) (X : va_W) (z : Nat → Nat) (co : Int32) (d : Nat → Int64) (ti : Nat → Int64) (sL : Nat → Int64) (bL : Nat → Int64) (mD : Nat → Int64) (mT : Nat → Int64) (sy : Nat → Int64) (sm : Nat → Int64) (sd : Nat → Int64) (mi : Nat → Int64) (yr : Int64) (mo : Int32) (dy : Int32) (p1 : Int32) (p2 : Int32) (p3 : Int32)  : ZM l yX3_timesSpan wsX3_timesSpan { frames := 2, cells := 0, slots := 0, locals := 53 } [.ref (z 0), .int p1, .int p2, .int p3] D (zTys cI cJ) (wM cI cJ z co d ti sL bL mD mT sy sm sd mi yr mo dy X) 0 0 (fun v w => v = some (.long (f_X3_timesSpan sy sm sd p1 p2 p3)) ∧ w = (wM cI cJ z (s_X3_timesSpan_co sy sm sd p1 p2 p3) d ti sL bL mD mT (s_X3_timesSpan_sy sy sm sd p1 p2 p3) (s_X3_timesSpan_sm sy sm sd p1 p2 p3) (s_X3_timesSpan_sd sy sm sd p1 p2 p3) mi yr mo dy X)) (fun _ _ => False) := by
  refine z_open (own := RX3) hfl (cc := cX3_timesSpan) (maxL := 4) (ret := (some .long)) (lv := [(0, .ref (z 0)), (1, .int p1), (2, .int p2), (3, .int p3)]) rfl (by decide) rfl rfl (Nat.le_of_ble_eq_true rfl) ?_
  intro p e s m args below meth c A C hno hnm hargs
  have hin : ∀ w ∈ wsX30, w ∈ wsX3_timesSpan := by decide +kernel
  have w1 := C.1.2.2.2.2 (.constantLong RX3 183 (-100)) (by decide +kernel)
  have w2 := C.1.2.2.2.2 (.constantLong RX3 55 (100)) (by decide +kernel)
  have w3 := C.1.2.2.2.2 (.fieldLink RX3 32 "YearwheelModel" "spanYears" "[J") (by decide +kernel)
  have w4 := C.1.2.2.2.2 (.fieldLink RX3 35 "YearwheelModel" "spanMonths" "[J") (by decide +kernel)
  have w5 := C.1.2.2.2.2 (.fieldLink RX3 38 "YearwheelModel" "spanDays" "[J") (by decide +kernel)
  refine z_aload_n C dX3_timesSpan_0 rfl 0 rfl ?_
  refine z_iload_n C dX3_timesSpan_1 rfl 1 rfl ?_
  refine z_si (rest := [.ref (z 0)]) C (c_X3_isSlot l hfl D cI cJ _ p1 ) q_X3_isSlot gX3_timesSpan_X3_isSlot ⟨rfl, rfl⟩ rfl rfl (Nat.le_of_ble_eq_true rfl) ⟨Nat.le_of_ble_eq_true rfl, Nat.le_of_ble_eq_true rfl⟩ ⟨Nat.le_of_ble_eq_true rfl, Nat.le_of_ble_eq_true rfl⟩ dX3_timesSpan_2 ?_
  have K1_0 : f_X3_timesSpan_j1 p1 p2 p3 = 0 → (¬ (f_X3_in ((p2).toInt64) (-100) 100) = 0) → (¬ (f_X3_isSlot p1) = 0) → (¬ (f_X3_isSlot p3) = 0) → ZW p l e { frames := 2, cells := 0, slots := 0, locals := 53 } s m args below meth c 4 D (zTys cI cJ) A (zE D (zTys cI cJ) A below args s (fun v w => v = some (.long (f_X3_timesSpan sy sm sd p1 p2 p3)) ∧ w = (wM cI cJ z (s_X3_timesSpan_co sy sm sd p1 p2 p3) d ti sL bL mD mT (s_X3_timesSpan_sy sy sm sd p1 p2 p3) (s_X3_timesSpan_sm sy sm sd p1 p2 p3) (s_X3_timesSpan_sd sy sm sd p1 p2 p3) mi yr mo dy X)) (fun _ _ => False) 0 0) 0 0 (wM cI cJ z co d ti sL bL mD mT sy sm sd mi yr mo dy X) 38 [(0, .ref (z 0)), (1, .int p1), (2, .int p2), (3, .int p3)] [.int 0, .ref (z 0)] := by
    intro h4 h5 h6 h7
    refine z_wi (ws' := (wM cI cJ z (s_X3_fails_co 0) d ti sL bL mD mT sy sm sd mi yr mo dy X)) (rest := []) (ci := 3) (q0 := 0) C (c_X3_fails l hfl D cI cJ X z co d ti sL bL mD mT sy sm sd mi yr mo dy (0 : Int32) ) q_X3_fails rfl rfl rfl gX3_timesSpan_X3_fails ⟨rfl, rfl⟩ rfl rfl (Nat.le_of_ble_eq_true rfl) ⟨Nat.le_of_ble_eq_true rfl, Nat.le_of_ble_eq_true rfl⟩ ⟨Nat.le_of_ble_eq_true rfl, Nat.le_of_ble_eq_true rfl⟩ dX3_timesSpan_38 ?_
    refine z_eqst (st' := [.int 0]) (congrArg (fun v => Value.int v :: _) (by decide : (f_X3_fails 0) = (0 : Int32))) ?_
    refine z_if_eq (tgt := 46) C dX3_timesSpan_41 (by decide) (fun _ => ?_) (fun h => absurd (by decide) h)
    refine z_aload_n C dX3_timesSpan_46 rfl 0 rfl ?_
    refine z_iload_n C dX3_timesSpan_47 rfl 3 rfl ?_
    refine z_iload_n C dX3_timesSpan_48 rfl 2 rfl ?_
    refine z_i2l (v := (p2).toInt64) C dX3_timesSpan_49 rfl ?_
    refine z_aload_n C dX3_timesSpan_50 rfl 0 rfl ?_
    refine z_get (CC := RX3) (T := TX3) (N := 14) (ci := 3) C hin 0 rfl rfl 7 (by decide) w3 rfl rfl dX3_timesSpan_51 ?_
    refine z_iload_n C dX3_timesSpan_54 rfl 1 rfl ?_
    refine z_lald C 7 1 rfl rfl (vpMSlot h6) dX3_timesSpan_55 ?_
    refine z_lmul C dX3_timesSpan_56 ?_
    refine z_iload_n C dX3_timesSpan_57 rfl 2 rfl ?_
    refine z_i2l (v := (p2).toInt64) C dX3_timesSpan_58 rfl ?_
    refine z_aload_n C dX3_timesSpan_59 rfl 0 rfl ?_
    refine z_get (CC := RX3) (T := TX3) (N := 14) (ci := 3) C hin 0 rfl rfl 8 (by decide) w4 rfl rfl dX3_timesSpan_60 ?_
    refine z_iload_n C dX3_timesSpan_63 rfl 1 rfl ?_
    refine z_lald C 8 1 rfl rfl (vpMSlot h6) dX3_timesSpan_64 ?_
    refine z_lmul C dX3_timesSpan_65 ?_
    refine z_iload_n C dX3_timesSpan_66 rfl 2 rfl ?_
    refine z_i2l (v := (p2).toInt64) C dX3_timesSpan_67 rfl ?_
    refine z_aload_n C dX3_timesSpan_68 rfl 0 rfl ?_
    refine z_get (CC := RX3) (T := TX3) (N := 14) (ci := 3) C hin 0 rfl rfl 9 (by decide) w5 rfl rfl dX3_timesSpan_69 ?_
    refine z_iload_n C dX3_timesSpan_72 rfl 1 rfl ?_
    refine z_lald C 9 1 rfl rfl (vpMSlot h6) dX3_timesSpan_73 ?_
    refine z_lmul C dX3_timesSpan_74 ?_
    refine z_iconst (v := 3) C dX3_timesSpan_75 (by decide) ?_
    refine z_wl (ws' := (wM cI cJ z (s_X3_spanned_co ((p2).toInt64 * (sy p1.toNatClampNeg)) ((p2).toInt64 * (sm p1.toNatClampNeg)) ((p2).toInt64 * (sd p1.toNatClampNeg)) 3) d ti sL bL mD mT (s_X3_spanned_sy sy p3 ((p2).toInt64 * (sy p1.toNatClampNeg)) ((p2).toInt64 * (sm p1.toNatClampNeg)) ((p2).toInt64 * (sd p1.toNatClampNeg)) 3) (s_X3_spanned_sm sm p3 ((p2).toInt64 * (sy p1.toNatClampNeg)) ((p2).toInt64 * (sm p1.toNatClampNeg)) ((p2).toInt64 * (sd p1.toNatClampNeg)) 3) (s_X3_spanned_sd sd p3 ((p2).toInt64 * (sy p1.toNatClampNeg)) ((p2).toInt64 * (sm p1.toNatClampNeg)) ((p2).toInt64 * (sd p1.toNatClampNeg)) 3) mi yr mo dy X)) (rest := []) (ci := 3) (q0 := 0) C (c_X3_spanned l hfl D cI cJ X z (s_X3_fails_co 0) d ti sL bL mD mT sy sm sd mi yr mo dy p3 ((p2).toInt64 * (sy p1.toNatClampNeg)) ((p2).toInt64 * (sm p1.toNatClampNeg)) ((p2).toInt64 * (sd p1.toNatClampNeg)) (3 : Int32) (vpMSlot h7)) q_X3_spanned rfl rfl rfl gX3_timesSpan_X3_spanned ⟨rfl, rfl⟩ rfl rfl (Nat.le_of_ble_eq_true rfl) ⟨Nat.le_of_ble_eq_true rfl, Nat.le_of_ble_eq_true rfl⟩ ⟨Nat.le_of_ble_eq_true rfl, Nat.le_of_ble_eq_true rfl⟩ dX3_timesSpan_76 ?_
    exact z_lret C ⟨congrArg (fun v => some (Value.long v)) (by rw [f_X3_timesSpan, if_pos h4] : (f_X3_spanned sy sm p3 ((p2).toInt64 * (sy p1.toNatClampNeg)) ((p2).toInt64 * (sm p1.toNatClampNeg)) ((p2).toInt64 * (sd p1.toNatClampNeg)) 3) = (f_X3_timesSpan sy sm sd p1 p2 p3)), by rw [s_X3_timesSpan_co, if_pos h4, s_X3_timesSpan_sy, if_pos h4, s_X3_timesSpan_sm, if_pos h4, s_X3_timesSpan_sd, if_pos h4]⟩ (by decide) (by decide) dX3_timesSpan_79
  have K1_1 : f_X3_timesSpan_j1 p1 p2 p3 = 1 → ZW p l e { frames := 2, cells := 0, slots := 0, locals := 53 } s m args below meth c 4 D (zTys cI cJ) A (zE D (zTys cI cJ) A below args s (fun v w => v = some (.long (f_X3_timesSpan sy sm sd p1 p2 p3)) ∧ w = (wM cI cJ z (s_X3_timesSpan_co sy sm sd p1 p2 p3) d ti sL bL mD mT (s_X3_timesSpan_sy sy sm sd p1 p2 p3) (s_X3_timesSpan_sm sy sm sd p1 p2 p3) (s_X3_timesSpan_sd sy sm sd p1 p2 p3) mi yr mo dy X)) (fun _ _ => False) 0 0) 0 0 (wM cI cJ z co d ti sL bL mD mT sy sm sd mi yr mo dy X) 38 [(0, .ref (z 0)), (1, .int p1), (2, .int p2), (3, .int p3)] [.int 1, .ref (z 0)] := by
    intro h8
    refine z_wi (ws' := (wM cI cJ z (s_X3_fails_co 1) d ti sL bL mD mT sy sm sd mi yr mo dy X)) (rest := []) (ci := 3) (q0 := 0) C (c_X3_fails l hfl D cI cJ X z co d ti sL bL mD mT sy sm sd mi yr mo dy (1 : Int32) ) q_X3_fails rfl rfl rfl gX3_timesSpan_X3_fails ⟨rfl, rfl⟩ rfl rfl (Nat.le_of_ble_eq_true rfl) ⟨Nat.le_of_ble_eq_true rfl, Nat.le_of_ble_eq_true rfl⟩ ⟨Nat.le_of_ble_eq_true rfl, Nat.le_of_ble_eq_true rfl⟩ dX3_timesSpan_38 ?_
    refine z_eqst (st' := [.int 1]) (congrArg (fun v => Value.int v :: _) (by decide : (f_X3_fails 1) = (1 : Int32))) ?_
    refine z_if_eq (tgt := 46) C dX3_timesSpan_41 (by decide) (fun h => absurd h (by decide)) (fun _ => ?_)
    refine z_lconst (v := 0) C dX3_timesSpan_44 (by decide) ?_
    exact z_lret C ⟨congrArg (fun v => some (Value.long v)) (by rw [f_X3_timesSpan, if_neg (by rw [h8]; decide : ¬ f_X3_timesSpan_j1 p1 p2 p3 = 0), if_pos h8] : (0 : Int64) = (f_X3_timesSpan sy sm sd p1 p2 p3)), by rw [s_X3_timesSpan_co, if_neg (by rw [h8]; decide : ¬ f_X3_timesSpan_j1 p1 p2 p3 = 0), if_pos h8, s_X3_timesSpan_sy, if_neg (by rw [h8]; decide : ¬ f_X3_timesSpan_j1 p1 p2 p3 = 0), if_pos h8, s_X3_timesSpan_sm, if_neg (by rw [h8]; decide : ¬ f_X3_timesSpan_j1 p1 p2 p3 = 0), if_pos h8, s_X3_timesSpan_sd, if_neg (by rw [h8]; decide : ¬ f_X3_timesSpan_j1 p1 p2 p3 = 0), if_pos h8]⟩ (by decide) (by decide) dX3_timesSpan_45
  have K1_2 : f_X3_timesSpan_j1 p1 p2 p3 = 2 → ((f_X3_in ((p2).toInt64) (-100) 100) = 0) → (¬ (f_X3_isSlot p1) = 0) → (¬ (f_X3_isSlot p3) = 0) → ZW p l e { frames := 2, cells := 0, slots := 0, locals := 53 } s m args below meth c 4 D (zTys cI cJ) A (zE D (zTys cI cJ) A below args s (fun v w => v = some (.long (f_X3_timesSpan sy sm sd p1 p2 p3)) ∧ w = (wM cI cJ z (s_X3_timesSpan_co sy sm sd p1 p2 p3) d ti sL bL mD mT (s_X3_timesSpan_sy sy sm sd p1 p2 p3) (s_X3_timesSpan_sm sy sm sd p1 p2 p3) (s_X3_timesSpan_sd sy sm sd p1 p2 p3) mi yr mo dy X)) (fun _ _ => False) 0 0) 0 0 (wM cI cJ z co d ti sL bL mD mT sy sm sd mi yr mo dy X) 38 [(0, .ref (z 0)), (1, .int p1), (2, .int p2), (3, .int p3)] [.int 2, .ref (z 0)] := by
    intro h9 h10 h11 h12
    refine z_wi (ws' := (wM cI cJ z (s_X3_fails_co 2) d ti sL bL mD mT sy sm sd mi yr mo dy X)) (rest := []) (ci := 3) (q0 := 0) C (c_X3_fails l hfl D cI cJ X z co d ti sL bL mD mT sy sm sd mi yr mo dy (2 : Int32) ) q_X3_fails rfl rfl rfl gX3_timesSpan_X3_fails ⟨rfl, rfl⟩ rfl rfl (Nat.le_of_ble_eq_true rfl) ⟨Nat.le_of_ble_eq_true rfl, Nat.le_of_ble_eq_true rfl⟩ ⟨Nat.le_of_ble_eq_true rfl, Nat.le_of_ble_eq_true rfl⟩ dX3_timesSpan_38 ?_
    refine z_eqst (st' := [.int 1]) (congrArg (fun v => Value.int v :: _) (by decide : (f_X3_fails 2) = (1 : Int32))) ?_
    refine z_if_eq (tgt := 46) C dX3_timesSpan_41 (by decide) (fun h => absurd h (by decide)) (fun _ => ?_)
    refine z_lconst (v := 0) C dX3_timesSpan_44 (by decide) ?_
    exact z_lret C ⟨congrArg (fun v => some (Value.long v)) (by rw [f_X3_timesSpan, if_neg (by rw [h9]; decide : ¬ f_X3_timesSpan_j1 p1 p2 p3 = 0), if_neg (by rw [h9]; decide : ¬ f_X3_timesSpan_j1 p1 p2 p3 = 1)] : (0 : Int64) = (f_X3_timesSpan sy sm sd p1 p2 p3)), by rw [s_X3_timesSpan_co, if_neg (by rw [h9]; decide : ¬ f_X3_timesSpan_j1 p1 p2 p3 = 0), if_neg (by rw [h9]; decide : ¬ f_X3_timesSpan_j1 p1 p2 p3 = 1), s_X3_timesSpan_sy, if_neg (by rw [h9]; decide : ¬ f_X3_timesSpan_j1 p1 p2 p3 = 0), if_neg (by rw [h9]; decide : ¬ f_X3_timesSpan_j1 p1 p2 p3 = 1), s_X3_timesSpan_sm, if_neg (by rw [h9]; decide : ¬ f_X3_timesSpan_j1 p1 p2 p3 = 0), if_neg (by rw [h9]; decide : ¬ f_X3_timesSpan_j1 p1 p2 p3 = 1), s_X3_timesSpan_sd, if_neg (by rw [h9]; decide : ¬ f_X3_timesSpan_j1 p1 p2 p3 = 0), if_neg (by rw [h9]; decide : ¬ f_X3_timesSpan_j1 p1 p2 p3 = 1)]⟩ (by decide) (by decide) dX3_timesSpan_45
  refine z_if_eq (tgt := 15) C dX3_timesSpan_5 (by decide) (fun h1 => ?_) (fun h1 => ?_)
  · refine z_iconst (v := 1) C dX3_timesSpan_15 (by decide) ?_
    refine z_goto (tgt := 38) C dX3_timesSpan_16 (by decide) ?_
    exact K1_1 (by rw [f_X3_timesSpan_j1, if_pos h1]) 
  · refine z_iload_n C dX3_timesSpan_8 rfl 3 rfl ?_
    refine z_si (rest := [.ref (z 0)]) C (c_X3_isSlot l hfl D cI cJ _ p3 ) q_X3_isSlot gX3_timesSpan_X3_isSlot ⟨rfl, rfl⟩ rfl rfl (Nat.le_of_ble_eq_true rfl) ⟨Nat.le_of_ble_eq_true rfl, Nat.le_of_ble_eq_true rfl⟩ ⟨Nat.le_of_ble_eq_true rfl, Nat.le_of_ble_eq_true rfl⟩ dX3_timesSpan_9 ?_
    refine z_if_ne (tgt := 19) C dX3_timesSpan_12 (by decide) (fun h2 => ?_) (fun h2 => ?_)
    · refine z_iload_n C dX3_timesSpan_19 rfl 2 rfl ?_
      refine z_i2l (v := (p2).toInt64) C dX3_timesSpan_20 rfl ?_
      refine z_ldc2 (v := (-100)) C w1 dX3_timesSpan_21 ?_
      refine z_ldc2 (v := 100) C w2 dX3_timesSpan_24 ?_
      refine z_si (rest := [.ref (z 0)]) C (c_X3_in l hfl D cI cJ _ ((p2).toInt64) ((-100) : Int64) (100 : Int64) ) q_X3_in gX3_timesSpan_X3_in ⟨rfl, rfl⟩ rfl rfl (Nat.le_of_ble_eq_true rfl) ⟨Nat.le_of_ble_eq_true rfl, Nat.le_of_ble_eq_true rfl⟩ ⟨Nat.le_of_ble_eq_true rfl, Nat.le_of_ble_eq_true rfl⟩ dX3_timesSpan_27 ?_
      refine z_if_eq (tgt := 37) C dX3_timesSpan_30 (by decide) (fun h3 => ?_) (fun h3 => ?_)
      · refine z_iconst (v := 2) C dX3_timesSpan_37 (by decide) ?_
        exact K1_2 (by rw [f_X3_timesSpan_j1, if_neg h1, if_neg h2, if_pos h3]) h3 h1 h2
      · refine z_iconst (v := 0) C dX3_timesSpan_33 (by decide) ?_
        refine z_goto (tgt := 38) C dX3_timesSpan_34 (by decide) ?_
        exact K1_0 (by rw [f_X3_timesSpan_j1, if_neg h1, if_neg h2, if_neg h3]) h3 h1 h2
    · refine z_iconst (v := 1) C dX3_timesSpan_15 (by decide) ?_
      refine z_goto (tgt := 38) C dX3_timesSpan_16 (by decide) ?_
      exact K1_1 (by rw [f_X3_timesSpan_j1, if_neg h1, if_pos h2]) 
def f_X3_plainSpan_j1 (p1 : Int32) (p2 : Int32) : Int32 := (if (f_X3_isSlot p1) = 0 then 1 else (if (f_X3_isSlot p2) = 0 then 1 else 0))
def f_X3_plainSpan (sy : Nat → Int64) (sm : Nat → Int64) (sd : Nat → Int64) (p1 : Int32) (p2 : Int32) : Int64 := (if f_X3_plainSpan_j1 p1 p2 = 0 then (f_X3_spanned sy sm p2 ((f_X3_totalOf sy sm p1) / 12) ((f_X3_totalOf sy sm p1) - (f_X3_totalOf sy sm p1) / 12 * 12) (sd p1.toNatClampNeg) 2) else 0)
def s_X3_plainSpan_co (sy : Nat → Int64) (sm : Nat → Int64) (sd : Nat → Int64) (p1 : Int32) (p2 : Int32) : Int32 := (if f_X3_plainSpan_j1 p1 p2 = 0 then (s_X3_spanned_co ((f_X3_totalOf sy sm p1) / 12) ((f_X3_totalOf sy sm p1) - (f_X3_totalOf sy sm p1) / 12 * 12) (sd p1.toNatClampNeg) 2) else (s_X3_fails_co 1))
def s_X3_plainSpan_sy (sy : Nat → Int64) (sm : Nat → Int64) (sd : Nat → Int64) (p1 : Int32) (p2 : Int32) : Nat → Int64 := (if f_X3_plainSpan_j1 p1 p2 = 0 then (s_X3_spanned_sy sy p2 ((f_X3_totalOf sy sm p1) / 12) ((f_X3_totalOf sy sm p1) - (f_X3_totalOf sy sm p1) / 12 * 12) (sd p1.toNatClampNeg) 2) else sy)
def s_X3_plainSpan_sm (sy : Nat → Int64) (sm : Nat → Int64) (sd : Nat → Int64) (p1 : Int32) (p2 : Int32) : Nat → Int64 := (if f_X3_plainSpan_j1 p1 p2 = 0 then (s_X3_spanned_sm sm p2 ((f_X3_totalOf sy sm p1) / 12) ((f_X3_totalOf sy sm p1) - (f_X3_totalOf sy sm p1) / 12 * 12) (sd p1.toNatClampNeg) 2) else sm)
def s_X3_plainSpan_sd (sy : Nat → Int64) (sm : Nat → Int64) (sd : Nat → Int64) (p1 : Int32) (p2 : Int32) : Nat → Int64 := (if f_X3_plainSpan_j1 p1 p2 = 0 then (s_X3_spanned_sd sd p2 ((f_X3_totalOf sy sm p1) / 12) ((f_X3_totalOf sy sm p1) - (f_X3_totalOf sy sm p1) / 12 * 12) (sd p1.toNatClampNeg) 2) else sd)
theorem q_X3_plainSpan : ZY yX3_plainSpan wsX3_plainSpan cX3_plainSpan 5 (some .long) 2 := ⟨⟨_, rfl⟩, by decide +kernel, by decide +kernel, by decide +kernel⟩
set_option maxHeartbeats 4000000 in
set_option maxRecDepth 100000 in
theorem c_X3_plainSpan (l : Launch) (hfl : l.stackTraces = false) (D : va_G) (cI cJ : ClassId) (X : va_W) (z : Nat → Nat) (co : Int32) (d : Nat → Int64) (ti : Nat → Int64) (sL : Nat → Int64) (bL : Nat → Int64) (mD : Nat → Int64) (mT : Nat → Int64) (sy : Nat → Int64) (sm : Nat → Int64) (sd : Nat → Int64) (mi : Nat → Int64) (yr : Int64) (mo : Int32) (dy : Int32) (p1 : Int32) (p2 : Int32)  : ZM l yX3_plainSpan wsX3_plainSpan { frames := 2, cells := 0, slots := 0, locals := 53 } [.ref (z 0), .int p1, .int p2] D (zTys cI cJ) (wM cI cJ z co d ti sL bL mD mT sy sm sd mi yr mo dy X) 0 0 (fun v w => v = some (.long (f_X3_plainSpan sy sm sd p1 p2)) ∧ w = (wM cI cJ z (s_X3_plainSpan_co sy sm sd p1 p2) d ti sL bL mD mT (s_X3_plainSpan_sy sy sm sd p1 p2) (s_X3_plainSpan_sm sy sm sd p1 p2) (s_X3_plainSpan_sd sy sm sd p1 p2) mi yr mo dy X)) (fun _ _ => False) := by
  refine z_open (own := RX3) hfl (cc := cX3_plainSpan) (maxL := 5) (ret := (some .long)) (lv := [(0, .ref (z 0)), (1, .int p1), (2, .int p2)]) rfl (by decide) rfl rfl (Nat.le_of_ble_eq_true rfl) ?_
  intro p e s m args below meth c A C hno hnm hargs
  have hin : ∀ w ∈ wsX30, w ∈ wsX3_plainSpan := by decide +kernel
  have w1 := C.1.2.2.2.2 (.constantLong RX3 113 (12)) (by decide +kernel)
  have w2 := C.1.2.2.2.2 (.fieldLink RX3 38 "YearwheelModel" "spanDays" "[J") (by decide +kernel)
  refine z_aload_n C dX3_plainSpan_0 rfl 0 rfl ?_
  refine z_iload_n C dX3_plainSpan_1 rfl 1 rfl ?_
  refine z_si (rest := [.ref (z 0)]) C (c_X3_isSlot l hfl D cI cJ _ p1 ) q_X3_isSlot gX3_plainSpan_X3_isSlot ⟨rfl, rfl⟩ rfl rfl (Nat.le_of_ble_eq_true rfl) ⟨Nat.le_of_ble_eq_true rfl, Nat.le_of_ble_eq_true rfl⟩ ⟨Nat.le_of_ble_eq_true rfl, Nat.le_of_ble_eq_true rfl⟩ dX3_plainSpan_2 ?_
  have K1_0 : f_X3_plainSpan_j1 p1 p2 = 0 → (¬ (f_X3_isSlot p1) = 0) → (¬ (f_X3_isSlot p2) = 0) → ZW p l e { frames := 2, cells := 0, slots := 0, locals := 53 } s m args below meth c 5 D (zTys cI cJ) A (zE D (zTys cI cJ) A below args s (fun v w => v = some (.long (f_X3_plainSpan sy sm sd p1 p2)) ∧ w = (wM cI cJ z (s_X3_plainSpan_co sy sm sd p1 p2) d ti sL bL mD mT (s_X3_plainSpan_sy sy sm sd p1 p2) (s_X3_plainSpan_sm sy sm sd p1 p2) (s_X3_plainSpan_sd sy sm sd p1 p2) mi yr mo dy X)) (fun _ _ => False) 0 0) 0 0 (wM cI cJ z co d ti sL bL mD mT sy sm sd mi yr mo dy X) 20 [(0, .ref (z 0)), (1, .int p1), (2, .int p2)] [.int 0, .ref (z 0)] := by
    intro h3 h4 h5
    refine z_wi (ws' := (wM cI cJ z (s_X3_fails_co 0) d ti sL bL mD mT sy sm sd mi yr mo dy X)) (rest := []) (ci := 3) (q0 := 0) C (c_X3_fails l hfl D cI cJ X z co d ti sL bL mD mT sy sm sd mi yr mo dy (0 : Int32) ) q_X3_fails rfl rfl rfl gX3_plainSpan_X3_fails ⟨rfl, rfl⟩ rfl rfl (Nat.le_of_ble_eq_true rfl) ⟨Nat.le_of_ble_eq_true rfl, Nat.le_of_ble_eq_true rfl⟩ ⟨Nat.le_of_ble_eq_true rfl, Nat.le_of_ble_eq_true rfl⟩ dX3_plainSpan_20 ?_
    refine z_eqst (st' := [.int 0]) (congrArg (fun v => Value.int v :: _) (by decide : (f_X3_fails 0) = (0 : Int32))) ?_
    refine z_if_eq (tgt := 28) C dX3_plainSpan_23 (by decide) (fun _ => ?_) (fun h => absurd (by decide) h)
    refine z_aload_n C dX3_plainSpan_28 rfl 0 rfl ?_
    refine z_iload_n C dX3_plainSpan_29 rfl 1 rfl ?_
    refine z_wl (ws' := (wM cI cJ z (s_X3_fails_co 0) d ti sL bL mD mT sy sm sd mi yr mo dy X)) (rest := []) (ci := 3) (q0 := 0) C (c_X3_totalOf l hfl D cI cJ X z (s_X3_fails_co 0) d ti sL bL mD mT sy sm sd mi yr mo dy p1 (vpMSlot h4)) q_X3_totalOf rfl rfl rfl gX3_plainSpan_X3_totalOf ⟨rfl, rfl⟩ rfl rfl (Nat.le_of_ble_eq_true rfl) ⟨Nat.le_of_ble_eq_true rfl, Nat.le_of_ble_eq_true rfl⟩ ⟨Nat.le_of_ble_eq_true rfl, Nat.le_of_ble_eq_true rfl⟩ dX3_plainSpan_30 ?_
    refine z_lstore_n (lv' := [(3, .long (f_X3_totalOf sy sm p1)), (0, .ref (z 0)), (1, .int p1), (2, .int p2)]) C dX3_plainSpan_33 rfl (by decide) rfl ?_
    refine z_aload_n C dX3_plainSpan_34 rfl 1 rfl ?_
    refine z_iload_n C dX3_plainSpan_35 rfl 3 rfl ?_
    refine z_lload_n C dX3_plainSpan_36 rfl 0 rfl ?_
    refine z_ldc2 (v := 12) C w1 dX3_plainSpan_37 ?_
    refine z_ldiv C dX3_plainSpan_40 (by decide) ?_
    refine z_lload_n C dX3_plainSpan_41 rfl 0 rfl ?_
    refine z_ldc2 (v := 12) C w1 dX3_plainSpan_42 ?_
    refine z_lrem C dX3_plainSpan_45 (by decide) ?_
    refine z_aload_n C dX3_plainSpan_46 rfl 1 rfl ?_
    refine z_get (CC := RX3) (T := TX3) (N := 14) (ci := 3) C hin 0 rfl rfl 9 (by decide) w2 rfl rfl dX3_plainSpan_47 ?_
    refine z_iload_n C dX3_plainSpan_50 rfl 2 rfl ?_
    refine z_lald C 9 1 rfl rfl (vpMSlot h4) dX3_plainSpan_51 ?_
    refine z_iconst (v := 2) C dX3_plainSpan_52 (by decide) ?_
    refine z_wl (ws' := (wM cI cJ z (s_X3_spanned_co ((f_X3_totalOf sy sm p1) / 12) ((f_X3_totalOf sy sm p1) - (f_X3_totalOf sy sm p1) / 12 * 12) (sd p1.toNatClampNeg) 2) d ti sL bL mD mT (s_X3_spanned_sy sy p2 ((f_X3_totalOf sy sm p1) / 12) ((f_X3_totalOf sy sm p1) - (f_X3_totalOf sy sm p1) / 12 * 12) (sd p1.toNatClampNeg) 2) (s_X3_spanned_sm sm p2 ((f_X3_totalOf sy sm p1) / 12) ((f_X3_totalOf sy sm p1) - (f_X3_totalOf sy sm p1) / 12 * 12) (sd p1.toNatClampNeg) 2) (s_X3_spanned_sd sd p2 ((f_X3_totalOf sy sm p1) / 12) ((f_X3_totalOf sy sm p1) - (f_X3_totalOf sy sm p1) / 12 * 12) (sd p1.toNatClampNeg) 2) mi yr mo dy X)) (rest := []) (ci := 3) (q0 := 0) C (c_X3_spanned l hfl D cI cJ X z (s_X3_fails_co 0) d ti sL bL mD mT sy sm sd mi yr mo dy p2 ((f_X3_totalOf sy sm p1) / 12) ((f_X3_totalOf sy sm p1) - (f_X3_totalOf sy sm p1) / 12 * 12) (sd p1.toNatClampNeg) (2 : Int32) (vpMSlot h5)) q_X3_spanned rfl rfl rfl gX3_plainSpan_X3_spanned ⟨rfl, rfl⟩ rfl rfl (Nat.le_of_ble_eq_true rfl) ⟨Nat.le_of_ble_eq_true rfl, Nat.le_of_ble_eq_true rfl⟩ ⟨Nat.le_of_ble_eq_true rfl, Nat.le_of_ble_eq_true rfl⟩ dX3_plainSpan_53 ?_
    exact z_lret C ⟨congrArg (fun v => some (Value.long v)) (by rw [f_X3_plainSpan, if_pos h3] : (f_X3_spanned sy sm p2 ((f_X3_totalOf sy sm p1) / 12) ((f_X3_totalOf sy sm p1) - (f_X3_totalOf sy sm p1) / 12 * 12) (sd p1.toNatClampNeg) 2) = (f_X3_plainSpan sy sm sd p1 p2)), by rw [s_X3_plainSpan_co, if_pos h3, s_X3_plainSpan_sy, if_pos h3, s_X3_plainSpan_sm, if_pos h3, s_X3_plainSpan_sd, if_pos h3]⟩ (by decide) (by decide) dX3_plainSpan_56
  have K1_1 : f_X3_plainSpan_j1 p1 p2 = 1 → ZW p l e { frames := 2, cells := 0, slots := 0, locals := 53 } s m args below meth c 5 D (zTys cI cJ) A (zE D (zTys cI cJ) A below args s (fun v w => v = some (.long (f_X3_plainSpan sy sm sd p1 p2)) ∧ w = (wM cI cJ z (s_X3_plainSpan_co sy sm sd p1 p2) d ti sL bL mD mT (s_X3_plainSpan_sy sy sm sd p1 p2) (s_X3_plainSpan_sm sy sm sd p1 p2) (s_X3_plainSpan_sd sy sm sd p1 p2) mi yr mo dy X)) (fun _ _ => False) 0 0) 0 0 (wM cI cJ z co d ti sL bL mD mT sy sm sd mi yr mo dy X) 20 [(0, .ref (z 0)), (1, .int p1), (2, .int p2)] [.int 1, .ref (z 0)] := by
    intro h6
    refine z_wi (ws' := (wM cI cJ z (s_X3_fails_co 1) d ti sL bL mD mT sy sm sd mi yr mo dy X)) (rest := []) (ci := 3) (q0 := 0) C (c_X3_fails l hfl D cI cJ X z co d ti sL bL mD mT sy sm sd mi yr mo dy (1 : Int32) ) q_X3_fails rfl rfl rfl gX3_plainSpan_X3_fails ⟨rfl, rfl⟩ rfl rfl (Nat.le_of_ble_eq_true rfl) ⟨Nat.le_of_ble_eq_true rfl, Nat.le_of_ble_eq_true rfl⟩ ⟨Nat.le_of_ble_eq_true rfl, Nat.le_of_ble_eq_true rfl⟩ dX3_plainSpan_20 ?_
    refine z_eqst (st' := [.int 1]) (congrArg (fun v => Value.int v :: _) (by decide : (f_X3_fails 1) = (1 : Int32))) ?_
    refine z_if_eq (tgt := 28) C dX3_plainSpan_23 (by decide) (fun h => absurd h (by decide)) (fun _ => ?_)
    refine z_lconst (v := 0) C dX3_plainSpan_26 (by decide) ?_
    exact z_lret C ⟨congrArg (fun v => some (Value.long v)) (by rw [f_X3_plainSpan, if_neg (by rw [h6]; decide : ¬ f_X3_plainSpan_j1 p1 p2 = 0)] : (0 : Int64) = (f_X3_plainSpan sy sm sd p1 p2)), by rw [s_X3_plainSpan_co, if_neg (by rw [h6]; decide : ¬ f_X3_plainSpan_j1 p1 p2 = 0), s_X3_plainSpan_sy, if_neg (by rw [h6]; decide : ¬ f_X3_plainSpan_j1 p1 p2 = 0), s_X3_plainSpan_sm, if_neg (by rw [h6]; decide : ¬ f_X3_plainSpan_j1 p1 p2 = 0), s_X3_plainSpan_sd, if_neg (by rw [h6]; decide : ¬ f_X3_plainSpan_j1 p1 p2 = 0)]⟩ (by decide) (by decide) dX3_plainSpan_27
  refine z_if_eq (tgt := 19) C dX3_plainSpan_5 (by decide) (fun h1 => ?_) (fun h1 => ?_)
  · refine z_iconst (v := 1) C dX3_plainSpan_19 (by decide) ?_
    exact K1_1 (by rw [f_X3_plainSpan_j1, if_pos h1]) 
  · refine z_iload_n C dX3_plainSpan_8 rfl 2 rfl ?_
    refine z_si (rest := [.ref (z 0)]) C (c_X3_isSlot l hfl D cI cJ _ p2 ) q_X3_isSlot gX3_plainSpan_X3_isSlot ⟨rfl, rfl⟩ rfl rfl (Nat.le_of_ble_eq_true rfl) ⟨Nat.le_of_ble_eq_true rfl, Nat.le_of_ble_eq_true rfl⟩ ⟨Nat.le_of_ble_eq_true rfl, Nat.le_of_ble_eq_true rfl⟩ dX3_plainSpan_9 ?_
    refine z_if_eq (tgt := 19) C dX3_plainSpan_12 (by decide) (fun h2 => ?_) (fun h2 => ?_)
    · refine z_iconst (v := 1) C dX3_plainSpan_19 (by decide) ?_
      exact K1_1 (by rw [f_X3_plainSpan_j1, if_neg h1, if_pos h2]) 
    · refine z_iconst (v := 0) C dX3_plainSpan_15 (by decide) ?_
      refine z_goto (tgt := 20) C dX3_plainSpan_16 (by decide) ?_
      exact K1_0 (by rw [f_X3_plainSpan_j1, if_neg h1, if_neg h2]) h1 h2
def f_X3_month_j1 (p1 : Int32) (p2 : Int32) (p3 : Int32) : Int32 := (if (f_X3_isSlot p1) = 0 then 1 else (if (f_X3_isYear ((p2).toInt64)) = 0 then 2 else (if (f_X3_in ((p3).toInt64) 1 12) = 0 then 2 else 0)))
def f_X3_month (mi : Nat → Int64) (p1 : Int32) (p2 : Int32) (p3 : Int32) : Int32 := (if f_X3_month_j1 p1 p2 p3 = 0 then (f_X3_monthMany (vp_updL mi p1.toNatClampNeg (((12 * (p2).toInt64) + (p3).toInt64) - 1)) p1) else (if f_X3_month_j1 p1 p2 p3 = 1 then 0 else 0))
def s_X3_month_co (p1 : Int32) (p2 : Int32) (p3 : Int32) : Int32 := (if f_X3_month_j1 p1 p2 p3 = 0 then (s_X3_fails_co 0) else (if f_X3_month_j1 p1 p2 p3 = 1 then (s_X3_fails_co 1) else (s_X3_fails_co 2)))
def s_X3_month_mi (mi : Nat → Int64) (p1 : Int32) (p2 : Int32) (p3 : Int32) : Nat → Int64 := (if f_X3_month_j1 p1 p2 p3 = 0 then (vp_updL mi p1.toNatClampNeg (((12 * (p2).toInt64) + (p3).toInt64) - 1)) else (if f_X3_month_j1 p1 p2 p3 = 1 then mi else mi))
theorem q_X3_month : ZY yX3_month wsX3_month cX3_month 4 (some .int) 3 := ⟨⟨_, rfl⟩, by decide +kernel, by decide +kernel, by decide +kernel⟩
set_option maxHeartbeats 4000000 in
set_option maxRecDepth 100000 in
theorem c_X3_month (l : Launch) (hfl : l.stackTraces = false) (D : va_G) (cI cJ : ClassId) (X : va_W) (z : Nat → Nat) (co : Int32) (d : Nat → Int64) (ti : Nat → Int64) (sL : Nat → Int64) (bL : Nat → Int64) (mD : Nat → Int64) (mT : Nat → Int64) (sy : Nat → Int64) (sm : Nat → Int64) (sd : Nat → Int64) (mi : Nat → Int64) (yr : Int64) (mo : Int32) (dy : Int32) (p1 : Int32) (p2 : Int32) (p3 : Int32)  : ZM l yX3_month wsX3_month { frames := 5, cells := 0, slots := 0, locals := 110 } [.ref (z 0), .int p1, .int p2, .int p3] D (zTys cI cJ) (wM cI cJ z co d ti sL bL mD mT sy sm sd mi yr mo dy X) 0 0 (fun v w => v = some (.int (f_X3_month mi p1 p2 p3)) ∧ w = (wM cI cJ z (s_X3_month_co p1 p2 p3) d ti sL bL mD mT sy sm sd (s_X3_month_mi mi p1 p2 p3) yr mo dy X)) (fun _ _ => False) := by
  refine z_open (own := RX3) hfl (cc := cX3_month) (maxL := 4) (ret := (some .int)) (lv := [(0, .ref (z 0)), (1, .int p1), (2, .int p2), (3, .int p3)]) rfl (by decide) rfl rfl (Nat.le_of_ble_eq_true rfl) ?_
  intro p e s m args below meth c A C hno hnm hargs
  have hin : ∀ w ∈ wsX30, w ∈ wsX3_month := by decide +kernel
  have w1 := C.1.2.2.2.2 (.constantLong RX3 113 (12)) (by decide +kernel)
  have w2 := C.1.2.2.2.2 (.fieldLink RX3 41 "YearwheelModel" "months" "[J") (by decide +kernel)
  refine z_aload_n C dX3_month_0 rfl 0 rfl ?_
  refine z_iload_n C dX3_month_1 rfl 1 rfl ?_
  refine z_si (rest := [.ref (z 0)]) C (c_X3_isSlot l hfl D cI cJ _ p1 ) q_X3_isSlot gX3_month_X3_isSlot ⟨rfl, rfl⟩ rfl rfl (Nat.le_of_ble_eq_true rfl) ⟨Nat.le_of_ble_eq_true rfl, Nat.le_of_ble_eq_true rfl⟩ ⟨Nat.le_of_ble_eq_true rfl, Nat.le_of_ble_eq_true rfl⟩ dX3_month_2 ?_
  have K1_0 : f_X3_month_j1 p1 p2 p3 = 0 → (¬ (f_X3_in ((p3).toInt64) 1 12) = 0) → (¬ (f_X3_isSlot p1) = 0) → (¬ (f_X3_isYear ((p2).toInt64)) = 0) → ZW p l e { frames := 5, cells := 0, slots := 0, locals := 110 } s m args below meth c 4 D (zTys cI cJ) A (zE D (zTys cI cJ) A below args s (fun v w => v = some (.int (f_X3_month mi p1 p2 p3)) ∧ w = (wM cI cJ z (s_X3_month_co p1 p2 p3) d ti sL bL mD mT sy sm sd (s_X3_month_mi mi p1 p2 p3) yr mo dy X)) (fun _ _ => False) 0 0) 0 0 (wM cI cJ z co d ti sL bL mD mT sy sm sd mi yr mo dy X) 37 [(0, .ref (z 0)), (1, .int p1), (2, .int p2), (3, .int p3)] [.int 0, .ref (z 0)] := by
    intro h4 h5 h6 h7
    refine z_wi (ws' := (wM cI cJ z (s_X3_fails_co 0) d ti sL bL mD mT sy sm sd mi yr mo dy X)) (rest := []) (ci := 3) (q0 := 0) C (c_X3_fails l hfl D cI cJ X z co d ti sL bL mD mT sy sm sd mi yr mo dy (0 : Int32) ) q_X3_fails rfl rfl rfl gX3_month_X3_fails ⟨rfl, rfl⟩ rfl rfl (Nat.le_of_ble_eq_true rfl) ⟨Nat.le_of_ble_eq_true rfl, Nat.le_of_ble_eq_true rfl⟩ ⟨Nat.le_of_ble_eq_true rfl, Nat.le_of_ble_eq_true rfl⟩ dX3_month_37 ?_
    refine z_eqst (st' := [.int 0]) (congrArg (fun v => Value.int v :: _) (by decide : (f_X3_fails 0) = (0 : Int32))) ?_
    refine z_if_eq (tgt := 45) C dX3_month_40 (by decide) (fun _ => ?_) (fun h => absurd (by decide) h)
    refine z_aload_n C dX3_month_45 rfl 0 rfl ?_
    refine z_get (CC := RX3) (T := TX3) (N := 14) (ci := 3) C hin 0 rfl rfl 10 (by decide) w2 rfl rfl dX3_month_46 ?_
    refine z_iload_n C dX3_month_49 rfl 1 rfl ?_
    refine z_ldc2 (v := 12) C w1 dX3_month_50 ?_
    refine z_iload_n C dX3_month_53 rfl 2 rfl ?_
    refine z_i2l (v := (p2).toInt64) C dX3_month_54 rfl ?_
    refine z_lmul C dX3_month_55 ?_
    refine z_iload_n C dX3_month_56 rfl 3 rfl ?_
    refine z_i2l (v := (p3).toInt64) C dX3_month_57 rfl ?_
    refine z_ladd C dX3_month_58 ?_
    refine z_lconst (v := 1) C dX3_month_59 (by decide) ?_
    refine z_lsub C dX3_month_60 ?_
    refine z_last C 10 1 rfl rfl (vpMSlot h6) (ws' := (wM cI cJ z (s_X3_fails_co 0) d ti sL bL mD mT sy sm sd (vp_updL mi p1.toNatClampNeg (((12 * (p2).toInt64) + (p3).toInt64) - 1)) yr mo dy X)) rfl dX3_month_61 ?_
    refine z_aload_n C dX3_month_62 rfl 0 rfl ?_
    refine z_iload_n C dX3_month_63 rfl 1 rfl ?_
    refine z_wi (ws' := (wM cI cJ z (s_X3_fails_co 0) d ti sL bL mD mT sy sm sd (vp_updL mi p1.toNatClampNeg (((12 * (p2).toInt64) + (p3).toInt64) - 1)) yr mo dy X)) (rest := []) (ci := 3) (q0 := 0) C (c_X3_monthMany l hfl D cI cJ X z (s_X3_fails_co 0) d ti sL bL mD mT sy sm sd (vp_updL mi p1.toNatClampNeg (((12 * (p2).toInt64) + (p3).toInt64) - 1)) yr mo dy p1 (vpMSlot h6)) q_X3_monthMany rfl rfl rfl gX3_month_X3_monthMany ⟨rfl, rfl⟩ rfl rfl (Nat.le_of_ble_eq_true rfl) ⟨Nat.le_of_ble_eq_true rfl, Nat.le_of_ble_eq_true rfl⟩ ⟨Nat.le_of_ble_eq_true rfl, Nat.le_of_ble_eq_true rfl⟩ dX3_month_64 ?_
    exact z_iret C ⟨congrArg (fun v => some (Value.int v)) (by rw [f_X3_month, if_pos h4] : (f_X3_monthMany (vp_updL mi p1.toNatClampNeg (((12 * (p2).toInt64) + (p3).toInt64) - 1)) p1) = (f_X3_month mi p1 p2 p3)), by rw [s_X3_month_co, if_pos h4, s_X3_month_mi, if_pos h4]⟩ (by decide) (by decide) dX3_month_67
  have K1_1 : f_X3_month_j1 p1 p2 p3 = 1 → ((f_X3_isSlot p1) = 0) → ZW p l e { frames := 5, cells := 0, slots := 0, locals := 110 } s m args below meth c 4 D (zTys cI cJ) A (zE D (zTys cI cJ) A below args s (fun v w => v = some (.int (f_X3_month mi p1 p2 p3)) ∧ w = (wM cI cJ z (s_X3_month_co p1 p2 p3) d ti sL bL mD mT sy sm sd (s_X3_month_mi mi p1 p2 p3) yr mo dy X)) (fun _ _ => False) 0 0) 0 0 (wM cI cJ z co d ti sL bL mD mT sy sm sd mi yr mo dy X) 37 [(0, .ref (z 0)), (1, .int p1), (2, .int p2), (3, .int p3)] [.int 1, .ref (z 0)] := by
    intro h8 h9
    refine z_wi (ws' := (wM cI cJ z (s_X3_fails_co 1) d ti sL bL mD mT sy sm sd mi yr mo dy X)) (rest := []) (ci := 3) (q0 := 0) C (c_X3_fails l hfl D cI cJ X z co d ti sL bL mD mT sy sm sd mi yr mo dy (1 : Int32) ) q_X3_fails rfl rfl rfl gX3_month_X3_fails ⟨rfl, rfl⟩ rfl rfl (Nat.le_of_ble_eq_true rfl) ⟨Nat.le_of_ble_eq_true rfl, Nat.le_of_ble_eq_true rfl⟩ ⟨Nat.le_of_ble_eq_true rfl, Nat.le_of_ble_eq_true rfl⟩ dX3_month_37 ?_
    refine z_eqst (st' := [.int 1]) (congrArg (fun v => Value.int v :: _) (by decide : (f_X3_fails 1) = (1 : Int32))) ?_
    refine z_if_eq (tgt := 45) C dX3_month_40 (by decide) (fun h => absurd h (by decide)) (fun _ => ?_)
    refine z_iconst (v := 0) C dX3_month_43 (by decide) ?_
    exact z_iret C ⟨congrArg (fun v => some (Value.int v)) (by rw [f_X3_month, if_neg (by rw [h8]; decide : ¬ f_X3_month_j1 p1 p2 p3 = 0), if_pos h8] : (0 : Int32) = (f_X3_month mi p1 p2 p3)), by rw [s_X3_month_co, if_neg (by rw [h8]; decide : ¬ f_X3_month_j1 p1 p2 p3 = 0), if_pos h8, s_X3_month_mi, if_neg (by rw [h8]; decide : ¬ f_X3_month_j1 p1 p2 p3 = 0), if_pos h8]⟩ (by decide) (by decide) dX3_month_44
  have K1_2 : f_X3_month_j1 p1 p2 p3 = 2 → (¬ (f_X3_isSlot p1) = 0) → ZW p l e { frames := 5, cells := 0, slots := 0, locals := 110 } s m args below meth c 4 D (zTys cI cJ) A (zE D (zTys cI cJ) A below args s (fun v w => v = some (.int (f_X3_month mi p1 p2 p3)) ∧ w = (wM cI cJ z (s_X3_month_co p1 p2 p3) d ti sL bL mD mT sy sm sd (s_X3_month_mi mi p1 p2 p3) yr mo dy X)) (fun _ _ => False) 0 0) 0 0 (wM cI cJ z co d ti sL bL mD mT sy sm sd mi yr mo dy X) 37 [(0, .ref (z 0)), (1, .int p1), (2, .int p2), (3, .int p3)] [.int 2, .ref (z 0)] := by
    intro h10 h11
    refine z_wi (ws' := (wM cI cJ z (s_X3_fails_co 2) d ti sL bL mD mT sy sm sd mi yr mo dy X)) (rest := []) (ci := 3) (q0 := 0) C (c_X3_fails l hfl D cI cJ X z co d ti sL bL mD mT sy sm sd mi yr mo dy (2 : Int32) ) q_X3_fails rfl rfl rfl gX3_month_X3_fails ⟨rfl, rfl⟩ rfl rfl (Nat.le_of_ble_eq_true rfl) ⟨Nat.le_of_ble_eq_true rfl, Nat.le_of_ble_eq_true rfl⟩ ⟨Nat.le_of_ble_eq_true rfl, Nat.le_of_ble_eq_true rfl⟩ dX3_month_37 ?_
    refine z_eqst (st' := [.int 1]) (congrArg (fun v => Value.int v :: _) (by decide : (f_X3_fails 2) = (1 : Int32))) ?_
    refine z_if_eq (tgt := 45) C dX3_month_40 (by decide) (fun h => absurd h (by decide)) (fun _ => ?_)
    refine z_iconst (v := 0) C dX3_month_43 (by decide) ?_
    exact z_iret C ⟨congrArg (fun v => some (Value.int v)) (by rw [f_X3_month, if_neg (by rw [h10]; decide : ¬ f_X3_month_j1 p1 p2 p3 = 0), if_neg (by rw [h10]; decide : ¬ f_X3_month_j1 p1 p2 p3 = 1)] : (0 : Int32) = (f_X3_month mi p1 p2 p3)), by rw [s_X3_month_co, if_neg (by rw [h10]; decide : ¬ f_X3_month_j1 p1 p2 p3 = 0), if_neg (by rw [h10]; decide : ¬ f_X3_month_j1 p1 p2 p3 = 1), s_X3_month_mi, if_neg (by rw [h10]; decide : ¬ f_X3_month_j1 p1 p2 p3 = 0), if_neg (by rw [h10]; decide : ¬ f_X3_month_j1 p1 p2 p3 = 1)]⟩ (by decide) (by decide) dX3_month_44
  refine z_if_ne (tgt := 12) C dX3_month_5 (by decide) (fun h1 => ?_) (fun h1 => ?_)
  · refine z_iload_n C dX3_month_12 rfl 2 rfl ?_
    refine z_i2l (v := (p2).toInt64) C dX3_month_13 rfl ?_
    refine z_si (rest := [.ref (z 0)]) C (c_X3_isYear l hfl D cI cJ _ ((p2).toInt64) ) q_X3_isYear gX3_month_X3_isYear ⟨rfl, rfl⟩ rfl rfl (Nat.le_of_ble_eq_true rfl) ⟨Nat.le_of_ble_eq_true rfl, Nat.le_of_ble_eq_true rfl⟩ ⟨Nat.le_of_ble_eq_true rfl, Nat.le_of_ble_eq_true rfl⟩ dX3_month_14 ?_
    refine z_if_eq (tgt := 36) C dX3_month_17 (by decide) (fun h2 => ?_) (fun h2 => ?_)
    · refine z_iconst (v := 2) C dX3_month_36 (by decide) ?_
      exact K1_2 (by rw [f_X3_month_j1, if_neg h1, if_pos h2]) h1
    · refine z_iload_n C dX3_month_20 rfl 3 rfl ?_
      refine z_i2l (v := (p3).toInt64) C dX3_month_21 rfl ?_
      refine z_lconst (v := 1) C dX3_month_22 (by decide) ?_
      refine z_ldc2 (v := 12) C w1 dX3_month_23 ?_
      refine z_si (rest := [.ref (z 0)]) C (c_X3_in l hfl D cI cJ _ ((p3).toInt64) (1 : Int64) (12 : Int64) ) q_X3_in gX3_month_X3_in ⟨rfl, rfl⟩ rfl rfl (Nat.le_of_ble_eq_true rfl) ⟨Nat.le_of_ble_eq_true rfl, Nat.le_of_ble_eq_true rfl⟩ ⟨Nat.le_of_ble_eq_true rfl, Nat.le_of_ble_eq_true rfl⟩ dX3_month_26 ?_
      refine z_if_eq (tgt := 36) C dX3_month_29 (by decide) (fun h3 => ?_) (fun h3 => ?_)
      · refine z_iconst (v := 2) C dX3_month_36 (by decide) ?_
        exact K1_2 (by rw [f_X3_month_j1, if_neg h1, if_neg h2, if_pos h3]) h1
      · refine z_iconst (v := 0) C dX3_month_32 (by decide) ?_
        refine z_goto (tgt := 37) C dX3_month_33 (by decide) ?_
        exact K1_0 (by rw [f_X3_month_j1, if_neg h1, if_neg h2, if_neg h3]) h3 h1 h2
  · refine z_iconst (v := 1) C dX3_month_8 (by decide) ?_
    refine z_goto (tgt := 37) C dX3_month_9 (by decide) ?_
    exact K1_1 (by rw [f_X3_month_j1, if_pos h1]) h1
def f_X3_moveMonth_j1 (p1 : Int32) (p2 : Int32) (p3 : Int32) (p4 : Int32) : Int32 := (if (f_X3_isSlot p1) = 0 then 1 else (if (f_X3_isSlot p4) = 0 then 1 else (if p2 = 109 then (if (f_X3_in ((p3).toInt64) (-1000000) 1000000) = 0 then 2 else 0) else (if p2 = 121 then (if (f_X3_in ((p3).toInt64) (-1000000) 1000000) = 0 then 2 else 0) else 2))))
def f_X3_moveMonth_j2 (p2 : Int32) : Int64 := (if p2 = 109 then 1 else 12)
def f_X3_moveMonth_j3 (mi : Nat → Int64) (p1 : Int32) (p3 : Int32) : Int32 := (if (f_X3_isYear (f_X3_floor ((mi p1.toNatClampNeg) + (1 * (p3).toInt64)) 12)) = 0 then 3 else 0)
def f_X3_moveMonth_j4 (mi : Nat → Int64) (p1 : Int32) (p3 : Int32) : Int32 := (if (f_X3_isYear (f_X3_floor ((mi p1.toNatClampNeg) + (12 * (p3).toInt64)) 12)) = 0 then 3 else 0)
def f_X3_moveMonth (mi : Nat → Int64) (p1 : Int32) (p2 : Int32) (p3 : Int32) (p4 : Int32) : Int32 := (if f_X3_moveMonth_j1 p1 p2 p3 p4 = 0 then (if f_X3_moveMonth_j2 p2 = 1 then (if f_X3_moveMonth_j3 mi p1 p3 = 0 then (f_X3_monthMany (vp_updL mi p4.toNatClampNeg ((mi p1.toNatClampNeg) + (1 * (p3).toInt64))) p4) else 0) else (if f_X3_moveMonth_j4 mi p1 p3 = 0 then (f_X3_monthMany (vp_updL mi p4.toNatClampNeg ((mi p1.toNatClampNeg) + (12 * (p3).toInt64))) p4) else 0)) else (if f_X3_moveMonth_j1 p1 p2 p3 p4 = 1 then 0 else 0))
def s_X3_moveMonth_co (mi : Nat → Int64) (p1 : Int32) (p2 : Int32) (p3 : Int32) (p4 : Int32) : Int32 := (if f_X3_moveMonth_j1 p1 p2 p3 p4 = 0 then (if f_X3_moveMonth_j2 p2 = 1 then (if f_X3_moveMonth_j3 mi p1 p3 = 0 then (s_X3_fails_co 0) else (s_X3_fails_co 3)) else (if f_X3_moveMonth_j4 mi p1 p3 = 0 then (s_X3_fails_co 0) else (s_X3_fails_co 3))) else (if f_X3_moveMonth_j1 p1 p2 p3 p4 = 1 then (s_X3_fails_co 1) else (s_X3_fails_co 2)))
def s_X3_moveMonth_mi (mi : Nat → Int64) (p1 : Int32) (p2 : Int32) (p3 : Int32) (p4 : Int32) : Nat → Int64 := (if f_X3_moveMonth_j1 p1 p2 p3 p4 = 0 then (if f_X3_moveMonth_j2 p2 = 1 then (if f_X3_moveMonth_j3 mi p1 p3 = 0 then (vp_updL mi p4.toNatClampNeg ((mi p1.toNatClampNeg) + (1 * (p3).toInt64))) else mi) else (if f_X3_moveMonth_j4 mi p1 p3 = 0 then (vp_updL mi p4.toNatClampNeg ((mi p1.toNatClampNeg) + (12 * (p3).toInt64))) else mi)) else (if f_X3_moveMonth_j1 p1 p2 p3 p4 = 1 then mi else mi))
theorem q_X3_moveMonth : ZY yX3_moveMonth wsX3_moveMonth cX3_moveMonth 7 (some .int) 4 := ⟨⟨_, rfl⟩, by decide +kernel, by decide +kernel, by decide +kernel⟩
set_option maxHeartbeats 4000000 in
set_option maxRecDepth 100000 in
theorem c_X3_moveMonth (l : Launch) (hfl : l.stackTraces = false) (D : va_G) (cI cJ : ClassId) (X : va_W) (z : Nat → Nat) (co : Int32) (d : Nat → Int64) (ti : Nat → Int64) (sL : Nat → Int64) (bL : Nat → Int64) (mD : Nat → Int64) (mT : Nat → Int64) (sy : Nat → Int64) (sm : Nat → Int64) (sd : Nat → Int64) (mi : Nat → Int64) (yr : Int64) (mo : Int32) (dy : Int32) (p1 : Int32) (p2 : Int32) (p3 : Int32) (p4 : Int32)  : ZM l yX3_moveMonth wsX3_moveMonth { frames := 5, cells := 0, slots := 0, locals := 110 } [.ref (z 0), .int p1, .int p2, .int p3, .int p4] D (zTys cI cJ) (wM cI cJ z co d ti sL bL mD mT sy sm sd mi yr mo dy X) 0 0 (fun v w => v = some (.int (f_X3_moveMonth mi p1 p2 p3 p4)) ∧ w = (wM cI cJ z (s_X3_moveMonth_co mi p1 p2 p3 p4) d ti sL bL mD mT sy sm sd (s_X3_moveMonth_mi mi p1 p2 p3 p4) yr mo dy X)) (fun _ _ => False) := by
  refine z_open (own := RX3) hfl (cc := cX3_moveMonth) (maxL := 7) (ret := (some .int)) (lv := [(0, .ref (z 0)), (1, .int p1), (2, .int p2), (3, .int p3), (4, .int p4)]) rfl (by decide) rfl rfl (Nat.le_of_ble_eq_true rfl) ?_
  intro p e s m args below meth c A C hno hnm hargs
  have hin : ∀ w ∈ wsX30, w ∈ wsX3_moveMonth := by decide +kernel
  have w1 := C.1.2.2.2.2 (.constantLong RX3 144 (-1000000)) (by decide +kernel)
  have w2 := C.1.2.2.2.2 (.constantLong RX3 146 (1000000)) (by decide +kernel)
  have w3 := C.1.2.2.2.2 (.fieldLink RX3 41 "YearwheelModel" "months" "[J") (by decide +kernel)
  have w4 := C.1.2.2.2.2 (.constantLong RX3 113 (12)) (by decide +kernel)
  refine z_aload_n C dX3_moveMonth_0 rfl 0 rfl ?_
  refine z_iload_n C dX3_moveMonth_1 rfl 1 rfl ?_
  refine z_si (rest := [.ref (z 0)]) C (c_X3_isSlot l hfl D cI cJ _ p1 ) q_X3_isSlot gX3_moveMonth_X3_isSlot ⟨rfl, rfl⟩ rfl rfl (Nat.le_of_ble_eq_true rfl) ⟨Nat.le_of_ble_eq_true rfl, Nat.le_of_ble_eq_true rfl⟩ ⟨Nat.le_of_ble_eq_true rfl, Nat.le_of_ble_eq_true rfl⟩ dX3_moveMonth_2 ?_
  have K1_0 : f_X3_moveMonth_j1 p1 p2 p3 p4 = 0 → (¬ (f_X3_in ((p3).toInt64) (-1000000) 1000000) = 0) → (¬ (f_X3_isSlot p1) = 0) → (¬ (f_X3_isSlot p4) = 0) → ZW p l e { frames := 5, cells := 0, slots := 0, locals := 110 } s m args below meth c 7 D (zTys cI cJ) A (zE D (zTys cI cJ) A below args s (fun v w => v = some (.int (f_X3_moveMonth mi p1 p2 p3 p4)) ∧ w = (wM cI cJ z (s_X3_moveMonth_co mi p1 p2 p3 p4) d ti sL bL mD mT sy sm sd (s_X3_moveMonth_mi mi p1 p2 p3 p4) yr mo dy X)) (fun _ _ => False) 0 0) 0 0 (wM cI cJ z co d ti sL bL mD mT sy sm sd mi yr mo dy X) 51 [(0, .ref (z 0)), (1, .int p1), (2, .int p2), (3, .int p3), (4, .int p4)] [.int 0, .ref (z 0)] := by
    intro h7 h8 h9 h10
    refine z_wi (ws' := (wM cI cJ z (s_X3_fails_co 0) d ti sL bL mD mT sy sm sd mi yr mo dy X)) (rest := []) (ci := 3) (q0 := 0) C (c_X3_fails l hfl D cI cJ X z co d ti sL bL mD mT sy sm sd mi yr mo dy (0 : Int32) ) q_X3_fails rfl rfl rfl gX3_moveMonth_X3_fails ⟨rfl, rfl⟩ rfl rfl (Nat.le_of_ble_eq_true rfl) ⟨Nat.le_of_ble_eq_true rfl, Nat.le_of_ble_eq_true rfl⟩ ⟨Nat.le_of_ble_eq_true rfl, Nat.le_of_ble_eq_true rfl⟩ dX3_moveMonth_51 ?_
    refine z_eqst (st' := [.int 0]) (congrArg (fun v => Value.int v :: _) (by decide : (f_X3_fails 0) = (0 : Int32))) ?_
    refine z_if_eq (tgt := 59) C dX3_moveMonth_54 (by decide) (fun _ => ?_) (fun h => absurd (by decide) h)
    refine z_aload_n C dX3_moveMonth_59 rfl 0 rfl ?_
    refine z_get (CC := RX3) (T := TX3) (N := 14) (ci := 3) C hin 0 rfl rfl 10 (by decide) w3 rfl rfl dX3_moveMonth_60 ?_
    refine z_iload_n C dX3_moveMonth_63 rfl 1 rfl ?_
    refine z_lald C 10 1 rfl rfl (vpMSlot h9) dX3_moveMonth_64 ?_
    refine z_iload_n C dX3_moveMonth_65 rfl 2 rfl ?_
    refine z_bipush (v := 109) C dX3_moveMonth_66 (by decide) ?_
    have K2_1 : f_X3_moveMonth_j2 p2 = 1 → (p2 = 109) → ZW p l e { frames := 5, cells := 0, slots := 0, locals := 110 } s m args below meth c 7 D (zTys cI cJ) A (zE D (zTys cI cJ) A below args s (fun v w => v = some (.int (f_X3_moveMonth mi p1 p2 p3 p4)) ∧ w = (wM cI cJ z (s_X3_moveMonth_co mi p1 p2 p3 p4) d ti sL bL mD mT sy sm sd (s_X3_moveMonth_mi mi p1 p2 p3 p4) yr mo dy X)) (fun _ _ => False) 0 0) 0 0 (wM cI cJ z (s_X3_fails_co 0) d ti sL bL mD mT sy sm sd mi yr mo dy X) 78 [(0, .ref (z 0)), (1, .int p1), (2, .int p2), (3, .int p3), (4, .int p4)] [.long 1, .long (mi p1.toNatClampNeg)] := by
      intro h12 h13
      refine z_iload_n C dX3_moveMonth_78 rfl 3 rfl ?_
      refine z_i2l (v := (p3).toInt64) C dX3_moveMonth_79 rfl ?_
      refine z_lmul C dX3_moveMonth_80 ?_
      refine z_ladd C dX3_moveMonth_81 ?_
      refine z_lstore (lv' := [(5, .long ((mi p1.toNatClampNeg) + (1 * (p3).toInt64))), (0, .ref (z 0)), (1, .int p1), (2, .int p2), (3, .int p3), (4, .int p4)]) C dX3_moveMonth_82 (by decide) rfl ?_
      refine z_aload_n C dX3_moveMonth_84 rfl 1 rfl ?_
      refine z_lload C dX3_moveMonth_85 0 rfl ?_
      refine z_ldc2 (v := 12) C w4 dX3_moveMonth_87 ?_
      refine z_sl (rest := [.ref (z 0)]) C (c_X3_floor l hfl D cI cJ _ ((mi p1.toNatClampNeg) + (1 * (p3).toInt64)) (12 : Int64) (by decide)) q_X3_floor gX3_moveMonth_X3_floor ⟨rfl, rfl⟩ rfl rfl (Nat.le_of_ble_eq_true rfl) ⟨Nat.le_of_ble_eq_true rfl, Nat.le_of_ble_eq_true rfl⟩ ⟨Nat.le_of_ble_eq_true rfl, Nat.le_of_ble_eq_true rfl⟩ dX3_moveMonth_90 ?_
      refine z_si (rest := [.ref (z 0)]) C (c_X3_isYear l hfl D cI cJ _ (f_X3_floor ((mi p1.toNatClampNeg) + (1 * (p3).toInt64)) 12) ) q_X3_isYear gX3_moveMonth_X3_isYear ⟨rfl, rfl⟩ rfl rfl (Nat.le_of_ble_eq_true rfl) ⟨Nat.le_of_ble_eq_true rfl, Nat.le_of_ble_eq_true rfl⟩ ⟨Nat.le_of_ble_eq_true rfl, Nat.le_of_ble_eq_true rfl⟩ dX3_moveMonth_93 ?_
      have K3_0 : f_X3_moveMonth_j3 mi p1 p3 = 0 → (¬ (f_X3_isYear (f_X3_floor ((mi p1.toNatClampNeg) + (1 * (p3).toInt64)) 12)) = 0) → ZW p l e { frames := 5, cells := 0, slots := 0, locals := 110 } s m args below meth c 7 D (zTys cI cJ) A (zE D (zTys cI cJ) A below args s (fun v w => v = some (.int (f_X3_moveMonth mi p1 p2 p3 p4)) ∧ w = (wM cI cJ z (s_X3_moveMonth_co mi p1 p2 p3 p4) d ti sL bL mD mT sy sm sd (s_X3_moveMonth_mi mi p1 p2 p3 p4) yr mo dy X)) (fun _ _ => False) 0 0) 0 0 (wM cI cJ z (s_X3_fails_co 0) d ti sL bL mD mT sy sm sd mi yr mo dy X) 104 [(5, .long ((mi p1.toNatClampNeg) + (1 * (p3).toInt64))), (0, .ref (z 0)), (1, .int p1), (2, .int p2), (3, .int p3), (4, .int p4)] [.int 0, .ref (z 0)] := by
        intro h15 h16
        refine z_wi (ws' := (wM cI cJ z (s_X3_fails_co 0) d ti sL bL mD mT sy sm sd mi yr mo dy X)) (rest := []) (ci := 3) (q0 := 0) C (c_X3_fails l hfl D cI cJ X z (s_X3_fails_co 0) d ti sL bL mD mT sy sm sd mi yr mo dy (0 : Int32) ) q_X3_fails rfl rfl rfl gX3_moveMonth_X3_fails ⟨rfl, rfl⟩ rfl rfl (Nat.le_of_ble_eq_true rfl) ⟨Nat.le_of_ble_eq_true rfl, Nat.le_of_ble_eq_true rfl⟩ ⟨Nat.le_of_ble_eq_true rfl, Nat.le_of_ble_eq_true rfl⟩ dX3_moveMonth_104 ?_
        refine z_eqst (st' := [.int 0]) (congrArg (fun v => Value.int v :: _) (by decide : (f_X3_fails 0) = (0 : Int32))) ?_
        refine z_if_eq (tgt := 112) C dX3_moveMonth_107 (by decide) (fun _ => ?_) (fun h => absurd (by decide) h)
        refine z_aload_n C dX3_moveMonth_112 rfl 1 rfl ?_
        refine z_get (CC := RX3) (T := TX3) (N := 14) (ci := 3) C hin 0 rfl rfl 10 (by decide) w3 rfl rfl dX3_moveMonth_113 ?_
        refine z_iload C dX3_moveMonth_116 5 rfl ?_
        refine z_lload C dX3_moveMonth_118 0 rfl ?_
        refine z_last C 10 1 rfl rfl (vpMSlot h10) (ws' := (wM cI cJ z (s_X3_fails_co 0) d ti sL bL mD mT sy sm sd (vp_updL mi p4.toNatClampNeg ((mi p1.toNatClampNeg) + (1 * (p3).toInt64))) yr mo dy X)) rfl dX3_moveMonth_120 ?_
        refine z_aload_n C dX3_moveMonth_121 rfl 1 rfl ?_
        refine z_iload C dX3_moveMonth_122 5 rfl ?_
        refine z_wi (ws' := (wM cI cJ z (s_X3_fails_co 0) d ti sL bL mD mT sy sm sd (vp_updL mi p4.toNatClampNeg ((mi p1.toNatClampNeg) + (1 * (p3).toInt64))) yr mo dy X)) (rest := []) (ci := 3) (q0 := 0) C (c_X3_monthMany l hfl D cI cJ X z (s_X3_fails_co 0) d ti sL bL mD mT sy sm sd (vp_updL mi p4.toNatClampNeg ((mi p1.toNatClampNeg) + (1 * (p3).toInt64))) yr mo dy p4 (vpMSlot h10)) q_X3_monthMany rfl rfl rfl gX3_moveMonth_X3_monthMany ⟨rfl, rfl⟩ rfl rfl (Nat.le_of_ble_eq_true rfl) ⟨Nat.le_of_ble_eq_true rfl, Nat.le_of_ble_eq_true rfl⟩ ⟨Nat.le_of_ble_eq_true rfl, Nat.le_of_ble_eq_true rfl⟩ dX3_moveMonth_124 ?_
        exact z_iret C ⟨congrArg (fun v => some (Value.int v)) (by rw [f_X3_moveMonth, if_pos h7, if_pos h12, if_pos h15] : (f_X3_monthMany (vp_updL mi p4.toNatClampNeg ((mi p1.toNatClampNeg) + (1 * (p3).toInt64))) p4) = (f_X3_moveMonth mi p1 p2 p3 p4)), by rw [s_X3_moveMonth_co, if_pos h7, if_pos h12, if_pos h15, s_X3_moveMonth_mi, if_pos h7, if_pos h12, if_pos h15]⟩ (by decide) (by decide) dX3_moveMonth_127
      have K3_3 : f_X3_moveMonth_j3 mi p1 p3 = 3 → ((f_X3_isYear (f_X3_floor ((mi p1.toNatClampNeg) + (1 * (p3).toInt64)) 12)) = 0) → ZW p l e { frames := 5, cells := 0, slots := 0, locals := 110 } s m args below meth c 7 D (zTys cI cJ) A (zE D (zTys cI cJ) A below args s (fun v w => v = some (.int (f_X3_moveMonth mi p1 p2 p3 p4)) ∧ w = (wM cI cJ z (s_X3_moveMonth_co mi p1 p2 p3 p4) d ti sL bL mD mT sy sm sd (s_X3_moveMonth_mi mi p1 p2 p3 p4) yr mo dy X)) (fun _ _ => False) 0 0) 0 0 (wM cI cJ z (s_X3_fails_co 0) d ti sL bL mD mT sy sm sd mi yr mo dy X) 104 [(5, .long ((mi p1.toNatClampNeg) + (1 * (p3).toInt64))), (0, .ref (z 0)), (1, .int p1), (2, .int p2), (3, .int p3), (4, .int p4)] [.int 3, .ref (z 0)] := by
        intro h17 h18
        refine z_wi (ws' := (wM cI cJ z (s_X3_fails_co 3) d ti sL bL mD mT sy sm sd mi yr mo dy X)) (rest := []) (ci := 3) (q0 := 0) C (c_X3_fails l hfl D cI cJ X z (s_X3_fails_co 0) d ti sL bL mD mT sy sm sd mi yr mo dy (3 : Int32) ) q_X3_fails rfl rfl rfl gX3_moveMonth_X3_fails ⟨rfl, rfl⟩ rfl rfl (Nat.le_of_ble_eq_true rfl) ⟨Nat.le_of_ble_eq_true rfl, Nat.le_of_ble_eq_true rfl⟩ ⟨Nat.le_of_ble_eq_true rfl, Nat.le_of_ble_eq_true rfl⟩ dX3_moveMonth_104 ?_
        refine z_eqst (st' := [.int 1]) (congrArg (fun v => Value.int v :: _) (by decide : (f_X3_fails 3) = (1 : Int32))) ?_
        refine z_if_eq (tgt := 112) C dX3_moveMonth_107 (by decide) (fun h => absurd h (by decide)) (fun _ => ?_)
        refine z_iconst (v := 0) C dX3_moveMonth_110 (by decide) ?_
        exact z_iret C ⟨congrArg (fun v => some (Value.int v)) (by rw [f_X3_moveMonth, if_pos h7, if_pos h12, if_neg (by rw [h17]; decide : ¬ f_X3_moveMonth_j3 mi p1 p3 = 0)] : (0 : Int32) = (f_X3_moveMonth mi p1 p2 p3 p4)), by rw [s_X3_moveMonth_co, if_pos h7, if_pos h12, if_neg (by rw [h17]; decide : ¬ f_X3_moveMonth_j3 mi p1 p3 = 0), s_X3_moveMonth_mi, if_pos h7, if_pos h12, if_neg (by rw [h17]; decide : ¬ f_X3_moveMonth_j3 mi p1 p3 = 0)]⟩ (by decide) (by decide) dX3_moveMonth_111
      refine z_if_eq (tgt := 103) C dX3_moveMonth_96 (by decide) (fun h14 => ?_) (fun h14 => ?_)
      · refine z_iconst (v := 3) C dX3_moveMonth_103 (by decide) ?_
        exact K3_3 (by rw [f_X3_moveMonth_j3, if_pos h14]) h14
      · refine z_iconst (v := 0) C dX3_moveMonth_99 (by decide) ?_
        refine z_goto (tgt := 104) C dX3_moveMonth_100 (by decide) ?_
        exact K3_0 (by rw [f_X3_moveMonth_j3, if_neg h14]) h14
    have K2_12 : f_X3_moveMonth_j2 p2 = 12 → (¬ p2 = 109) → ZW p l e { frames := 5, cells := 0, slots := 0, locals := 110 } s m args below meth c 7 D (zTys cI cJ) A (zE D (zTys cI cJ) A below args s (fun v w => v = some (.int (f_X3_moveMonth mi p1 p2 p3 p4)) ∧ w = (wM cI cJ z (s_X3_moveMonth_co mi p1 p2 p3 p4) d ti sL bL mD mT sy sm sd (s_X3_moveMonth_mi mi p1 p2 p3 p4) yr mo dy X)) (fun _ _ => False) 0 0) 0 0 (wM cI cJ z (s_X3_fails_co 0) d ti sL bL mD mT sy sm sd mi yr mo dy X) 78 [(0, .ref (z 0)), (1, .int p1), (2, .int p2), (3, .int p3), (4, .int p4)] [.long 12, .long (mi p1.toNatClampNeg)] := by
      intro h19 h20
      refine z_iload_n C dX3_moveMonth_78 rfl 3 rfl ?_
      refine z_i2l (v := (p3).toInt64) C dX3_moveMonth_79 rfl ?_
      refine z_lmul C dX3_moveMonth_80 ?_
      refine z_ladd C dX3_moveMonth_81 ?_
      refine z_lstore (lv' := [(5, .long ((mi p1.toNatClampNeg) + (12 * (p3).toInt64))), (0, .ref (z 0)), (1, .int p1), (2, .int p2), (3, .int p3), (4, .int p4)]) C dX3_moveMonth_82 (by decide) rfl ?_
      refine z_aload_n C dX3_moveMonth_84 rfl 1 rfl ?_
      refine z_lload C dX3_moveMonth_85 0 rfl ?_
      refine z_ldc2 (v := 12) C w4 dX3_moveMonth_87 ?_
      refine z_sl (rest := [.ref (z 0)]) C (c_X3_floor l hfl D cI cJ _ ((mi p1.toNatClampNeg) + (12 * (p3).toInt64)) (12 : Int64) (by decide)) q_X3_floor gX3_moveMonth_X3_floor ⟨rfl, rfl⟩ rfl rfl (Nat.le_of_ble_eq_true rfl) ⟨Nat.le_of_ble_eq_true rfl, Nat.le_of_ble_eq_true rfl⟩ ⟨Nat.le_of_ble_eq_true rfl, Nat.le_of_ble_eq_true rfl⟩ dX3_moveMonth_90 ?_
      refine z_si (rest := [.ref (z 0)]) C (c_X3_isYear l hfl D cI cJ _ (f_X3_floor ((mi p1.toNatClampNeg) + (12 * (p3).toInt64)) 12) ) q_X3_isYear gX3_moveMonth_X3_isYear ⟨rfl, rfl⟩ rfl rfl (Nat.le_of_ble_eq_true rfl) ⟨Nat.le_of_ble_eq_true rfl, Nat.le_of_ble_eq_true rfl⟩ ⟨Nat.le_of_ble_eq_true rfl, Nat.le_of_ble_eq_true rfl⟩ dX3_moveMonth_93 ?_
      have K4_0 : f_X3_moveMonth_j4 mi p1 p3 = 0 → (¬ (f_X3_isYear (f_X3_floor ((mi p1.toNatClampNeg) + (12 * (p3).toInt64)) 12)) = 0) → ZW p l e { frames := 5, cells := 0, slots := 0, locals := 110 } s m args below meth c 7 D (zTys cI cJ) A (zE D (zTys cI cJ) A below args s (fun v w => v = some (.int (f_X3_moveMonth mi p1 p2 p3 p4)) ∧ w = (wM cI cJ z (s_X3_moveMonth_co mi p1 p2 p3 p4) d ti sL bL mD mT sy sm sd (s_X3_moveMonth_mi mi p1 p2 p3 p4) yr mo dy X)) (fun _ _ => False) 0 0) 0 0 (wM cI cJ z (s_X3_fails_co 0) d ti sL bL mD mT sy sm sd mi yr mo dy X) 104 [(5, .long ((mi p1.toNatClampNeg) + (12 * (p3).toInt64))), (0, .ref (z 0)), (1, .int p1), (2, .int p2), (3, .int p3), (4, .int p4)] [.int 0, .ref (z 0)] := by
        intro h22 h23
        refine z_wi (ws' := (wM cI cJ z (s_X3_fails_co 0) d ti sL bL mD mT sy sm sd mi yr mo dy X)) (rest := []) (ci := 3) (q0 := 0) C (c_X3_fails l hfl D cI cJ X z (s_X3_fails_co 0) d ti sL bL mD mT sy sm sd mi yr mo dy (0 : Int32) ) q_X3_fails rfl rfl rfl gX3_moveMonth_X3_fails ⟨rfl, rfl⟩ rfl rfl (Nat.le_of_ble_eq_true rfl) ⟨Nat.le_of_ble_eq_true rfl, Nat.le_of_ble_eq_true rfl⟩ ⟨Nat.le_of_ble_eq_true rfl, Nat.le_of_ble_eq_true rfl⟩ dX3_moveMonth_104 ?_
        refine z_eqst (st' := [.int 0]) (congrArg (fun v => Value.int v :: _) (by decide : (f_X3_fails 0) = (0 : Int32))) ?_
        refine z_if_eq (tgt := 112) C dX3_moveMonth_107 (by decide) (fun _ => ?_) (fun h => absurd (by decide) h)
        refine z_aload_n C dX3_moveMonth_112 rfl 1 rfl ?_
        refine z_get (CC := RX3) (T := TX3) (N := 14) (ci := 3) C hin 0 rfl rfl 10 (by decide) w3 rfl rfl dX3_moveMonth_113 ?_
        refine z_iload C dX3_moveMonth_116 5 rfl ?_
        refine z_lload C dX3_moveMonth_118 0 rfl ?_
        refine z_last C 10 1 rfl rfl (vpMSlot h10) (ws' := (wM cI cJ z (s_X3_fails_co 0) d ti sL bL mD mT sy sm sd (vp_updL mi p4.toNatClampNeg ((mi p1.toNatClampNeg) + (12 * (p3).toInt64))) yr mo dy X)) rfl dX3_moveMonth_120 ?_
        refine z_aload_n C dX3_moveMonth_121 rfl 1 rfl ?_
        refine z_iload C dX3_moveMonth_122 5 rfl ?_
        refine z_wi (ws' := (wM cI cJ z (s_X3_fails_co 0) d ti sL bL mD mT sy sm sd (vp_updL mi p4.toNatClampNeg ((mi p1.toNatClampNeg) + (12 * (p3).toInt64))) yr mo dy X)) (rest := []) (ci := 3) (q0 := 0) C (c_X3_monthMany l hfl D cI cJ X z (s_X3_fails_co 0) d ti sL bL mD mT sy sm sd (vp_updL mi p4.toNatClampNeg ((mi p1.toNatClampNeg) + (12 * (p3).toInt64))) yr mo dy p4 (vpMSlot h10)) q_X3_monthMany rfl rfl rfl gX3_moveMonth_X3_monthMany ⟨rfl, rfl⟩ rfl rfl (Nat.le_of_ble_eq_true rfl) ⟨Nat.le_of_ble_eq_true rfl, Nat.le_of_ble_eq_true rfl⟩ ⟨Nat.le_of_ble_eq_true rfl, Nat.le_of_ble_eq_true rfl⟩ dX3_moveMonth_124 ?_
        exact z_iret C ⟨congrArg (fun v => some (Value.int v)) (by rw [f_X3_moveMonth, if_pos h7, if_neg (by rw [h19]; decide : ¬ f_X3_moveMonth_j2 p2 = 1), if_pos h22] : (f_X3_monthMany (vp_updL mi p4.toNatClampNeg ((mi p1.toNatClampNeg) + (12 * (p3).toInt64))) p4) = (f_X3_moveMonth mi p1 p2 p3 p4)), by rw [s_X3_moveMonth_co, if_pos h7, if_neg (by rw [h19]; decide : ¬ f_X3_moveMonth_j2 p2 = 1), if_pos h22, s_X3_moveMonth_mi, if_pos h7, if_neg (by rw [h19]; decide : ¬ f_X3_moveMonth_j2 p2 = 1), if_pos h22]⟩ (by decide) (by decide) dX3_moveMonth_127
      have K4_3 : f_X3_moveMonth_j4 mi p1 p3 = 3 → ((f_X3_isYear (f_X3_floor ((mi p1.toNatClampNeg) + (12 * (p3).toInt64)) 12)) = 0) → ZW p l e { frames := 5, cells := 0, slots := 0, locals := 110 } s m args below meth c 7 D (zTys cI cJ) A (zE D (zTys cI cJ) A below args s (fun v w => v = some (.int (f_X3_moveMonth mi p1 p2 p3 p4)) ∧ w = (wM cI cJ z (s_X3_moveMonth_co mi p1 p2 p3 p4) d ti sL bL mD mT sy sm sd (s_X3_moveMonth_mi mi p1 p2 p3 p4) yr mo dy X)) (fun _ _ => False) 0 0) 0 0 (wM cI cJ z (s_X3_fails_co 0) d ti sL bL mD mT sy sm sd mi yr mo dy X) 104 [(5, .long ((mi p1.toNatClampNeg) + (12 * (p3).toInt64))), (0, .ref (z 0)), (1, .int p1), (2, .int p2), (3, .int p3), (4, .int p4)] [.int 3, .ref (z 0)] := by
        intro h24 h25
        refine z_wi (ws' := (wM cI cJ z (s_X3_fails_co 3) d ti sL bL mD mT sy sm sd mi yr mo dy X)) (rest := []) (ci := 3) (q0 := 0) C (c_X3_fails l hfl D cI cJ X z (s_X3_fails_co 0) d ti sL bL mD mT sy sm sd mi yr mo dy (3 : Int32) ) q_X3_fails rfl rfl rfl gX3_moveMonth_X3_fails ⟨rfl, rfl⟩ rfl rfl (Nat.le_of_ble_eq_true rfl) ⟨Nat.le_of_ble_eq_true rfl, Nat.le_of_ble_eq_true rfl⟩ ⟨Nat.le_of_ble_eq_true rfl, Nat.le_of_ble_eq_true rfl⟩ dX3_moveMonth_104 ?_
        refine z_eqst (st' := [.int 1]) (congrArg (fun v => Value.int v :: _) (by decide : (f_X3_fails 3) = (1 : Int32))) ?_
        refine z_if_eq (tgt := 112) C dX3_moveMonth_107 (by decide) (fun h => absurd h (by decide)) (fun _ => ?_)
        refine z_iconst (v := 0) C dX3_moveMonth_110 (by decide) ?_
        exact z_iret C ⟨congrArg (fun v => some (Value.int v)) (by rw [f_X3_moveMonth, if_pos h7, if_neg (by rw [h19]; decide : ¬ f_X3_moveMonth_j2 p2 = 1), if_neg (by rw [h24]; decide : ¬ f_X3_moveMonth_j4 mi p1 p3 = 0)] : (0 : Int32) = (f_X3_moveMonth mi p1 p2 p3 p4)), by rw [s_X3_moveMonth_co, if_pos h7, if_neg (by rw [h19]; decide : ¬ f_X3_moveMonth_j2 p2 = 1), if_neg (by rw [h24]; decide : ¬ f_X3_moveMonth_j4 mi p1 p3 = 0), s_X3_moveMonth_mi, if_pos h7, if_neg (by rw [h19]; decide : ¬ f_X3_moveMonth_j2 p2 = 1), if_neg (by rw [h24]; decide : ¬ f_X3_moveMonth_j4 mi p1 p3 = 0)]⟩ (by decide) (by decide) dX3_moveMonth_111
      refine z_if_eq (tgt := 103) C dX3_moveMonth_96 (by decide) (fun h21 => ?_) (fun h21 => ?_)
      · refine z_iconst (v := 3) C dX3_moveMonth_103 (by decide) ?_
        exact K4_3 (by rw [f_X3_moveMonth_j4, if_pos h21]) h21
      · refine z_iconst (v := 0) C dX3_moveMonth_99 (by decide) ?_
        refine z_goto (tgt := 104) C dX3_moveMonth_100 (by decide) ?_
        exact K4_0 (by rw [f_X3_moveMonth_j4, if_neg h21]) h21
    refine z_icmp_ne (tgt := 75) C dX3_moveMonth_68 (by decide) (fun h11 => ?_) (fun h11 => ?_)
    · refine z_ldc2 (v := 12) C w4 dX3_moveMonth_75 ?_
      exact K2_12 (by rw [f_X3_moveMonth_j2, if_neg h11]) h11
    · refine z_lconst (v := 1) C dX3_moveMonth_71 (by decide) ?_
      refine z_goto (tgt := 78) C dX3_moveMonth_72 (by decide) ?_
      exact K2_1 (by rw [f_X3_moveMonth_j2, if_pos h11]) h11
  have K1_1 : f_X3_moveMonth_j1 p1 p2 p3 p4 = 1 → ZW p l e { frames := 5, cells := 0, slots := 0, locals := 110 } s m args below meth c 7 D (zTys cI cJ) A (zE D (zTys cI cJ) A below args s (fun v w => v = some (.int (f_X3_moveMonth mi p1 p2 p3 p4)) ∧ w = (wM cI cJ z (s_X3_moveMonth_co mi p1 p2 p3 p4) d ti sL bL mD mT sy sm sd (s_X3_moveMonth_mi mi p1 p2 p3 p4) yr mo dy X)) (fun _ _ => False) 0 0) 0 0 (wM cI cJ z co d ti sL bL mD mT sy sm sd mi yr mo dy X) 51 [(0, .ref (z 0)), (1, .int p1), (2, .int p2), (3, .int p3), (4, .int p4)] [.int 1, .ref (z 0)] := by
    intro h26
    refine z_wi (ws' := (wM cI cJ z (s_X3_fails_co 1) d ti sL bL mD mT sy sm sd mi yr mo dy X)) (rest := []) (ci := 3) (q0 := 0) C (c_X3_fails l hfl D cI cJ X z co d ti sL bL mD mT sy sm sd mi yr mo dy (1 : Int32) ) q_X3_fails rfl rfl rfl gX3_moveMonth_X3_fails ⟨rfl, rfl⟩ rfl rfl (Nat.le_of_ble_eq_true rfl) ⟨Nat.le_of_ble_eq_true rfl, Nat.le_of_ble_eq_true rfl⟩ ⟨Nat.le_of_ble_eq_true rfl, Nat.le_of_ble_eq_true rfl⟩ dX3_moveMonth_51 ?_
    refine z_eqst (st' := [.int 1]) (congrArg (fun v => Value.int v :: _) (by decide : (f_X3_fails 1) = (1 : Int32))) ?_
    refine z_if_eq (tgt := 59) C dX3_moveMonth_54 (by decide) (fun h => absurd h (by decide)) (fun _ => ?_)
    refine z_iconst (v := 0) C dX3_moveMonth_57 (by decide) ?_
    exact z_iret C ⟨congrArg (fun v => some (Value.int v)) (by rw [f_X3_moveMonth, if_neg (by rw [h26]; decide : ¬ f_X3_moveMonth_j1 p1 p2 p3 p4 = 0), if_pos h26] : (0 : Int32) = (f_X3_moveMonth mi p1 p2 p3 p4)), by rw [s_X3_moveMonth_co, if_neg (by rw [h26]; decide : ¬ f_X3_moveMonth_j1 p1 p2 p3 p4 = 0), if_pos h26, s_X3_moveMonth_mi, if_neg (by rw [h26]; decide : ¬ f_X3_moveMonth_j1 p1 p2 p3 p4 = 0), if_pos h26]⟩ (by decide) (by decide) dX3_moveMonth_58
  have K1_2 : f_X3_moveMonth_j1 p1 p2 p3 p4 = 2 → (¬ (f_X3_isSlot p1) = 0) → (¬ (f_X3_isSlot p4) = 0) → ZW p l e { frames := 5, cells := 0, slots := 0, locals := 110 } s m args below meth c 7 D (zTys cI cJ) A (zE D (zTys cI cJ) A below args s (fun v w => v = some (.int (f_X3_moveMonth mi p1 p2 p3 p4)) ∧ w = (wM cI cJ z (s_X3_moveMonth_co mi p1 p2 p3 p4) d ti sL bL mD mT sy sm sd (s_X3_moveMonth_mi mi p1 p2 p3 p4) yr mo dy X)) (fun _ _ => False) 0 0) 0 0 (wM cI cJ z co d ti sL bL mD mT sy sm sd mi yr mo dy X) 51 [(0, .ref (z 0)), (1, .int p1), (2, .int p2), (3, .int p3), (4, .int p4)] [.int 2, .ref (z 0)] := by
    intro h27 h28 h29
    refine z_wi (ws' := (wM cI cJ z (s_X3_fails_co 2) d ti sL bL mD mT sy sm sd mi yr mo dy X)) (rest := []) (ci := 3) (q0 := 0) C (c_X3_fails l hfl D cI cJ X z co d ti sL bL mD mT sy sm sd mi yr mo dy (2 : Int32) ) q_X3_fails rfl rfl rfl gX3_moveMonth_X3_fails ⟨rfl, rfl⟩ rfl rfl (Nat.le_of_ble_eq_true rfl) ⟨Nat.le_of_ble_eq_true rfl, Nat.le_of_ble_eq_true rfl⟩ ⟨Nat.le_of_ble_eq_true rfl, Nat.le_of_ble_eq_true rfl⟩ dX3_moveMonth_51 ?_
    refine z_eqst (st' := [.int 1]) (congrArg (fun v => Value.int v :: _) (by decide : (f_X3_fails 2) = (1 : Int32))) ?_
    refine z_if_eq (tgt := 59) C dX3_moveMonth_54 (by decide) (fun h => absurd h (by decide)) (fun _ => ?_)
    refine z_iconst (v := 0) C dX3_moveMonth_57 (by decide) ?_
    exact z_iret C ⟨congrArg (fun v => some (Value.int v)) (by rw [f_X3_moveMonth, if_neg (by rw [h27]; decide : ¬ f_X3_moveMonth_j1 p1 p2 p3 p4 = 0), if_neg (by rw [h27]; decide : ¬ f_X3_moveMonth_j1 p1 p2 p3 p4 = 1)] : (0 : Int32) = (f_X3_moveMonth mi p1 p2 p3 p4)), by rw [s_X3_moveMonth_co, if_neg (by rw [h27]; decide : ¬ f_X3_moveMonth_j1 p1 p2 p3 p4 = 0), if_neg (by rw [h27]; decide : ¬ f_X3_moveMonth_j1 p1 p2 p3 p4 = 1), s_X3_moveMonth_mi, if_neg (by rw [h27]; decide : ¬ f_X3_moveMonth_j1 p1 p2 p3 p4 = 0), if_neg (by rw [h27]; decide : ¬ f_X3_moveMonth_j1 p1 p2 p3 p4 = 1)]⟩ (by decide) (by decide) dX3_moveMonth_58
  refine z_if_eq (tgt := 16) C dX3_moveMonth_5 (by decide) (fun h1 => ?_) (fun h1 => ?_)
  · refine z_iconst (v := 1) C dX3_moveMonth_16 (by decide) ?_
    refine z_goto (tgt := 51) C dX3_moveMonth_17 (by decide) ?_
    exact K1_1 (by rw [f_X3_moveMonth_j1, if_pos h1]) 
  · refine z_iload C dX3_moveMonth_8 4 rfl ?_
    refine z_si (rest := [.ref (z 0)]) C (c_X3_isSlot l hfl D cI cJ _ p4 ) q_X3_isSlot gX3_moveMonth_X3_isSlot ⟨rfl, rfl⟩ rfl rfl (Nat.le_of_ble_eq_true rfl) ⟨Nat.le_of_ble_eq_true rfl, Nat.le_of_ble_eq_true rfl⟩ ⟨Nat.le_of_ble_eq_true rfl, Nat.le_of_ble_eq_true rfl⟩ dX3_moveMonth_10 ?_
    refine z_if_ne (tgt := 20) C dX3_moveMonth_13 (by decide) (fun h2 => ?_) (fun h2 => ?_)
    · refine z_iload_n C dX3_moveMonth_20 rfl 2 rfl ?_
      refine z_bipush (v := 109) C dX3_moveMonth_21 (by decide) ?_
      refine z_icmp_eq (tgt := 32) C dX3_moveMonth_23 (by decide) (fun h3 => ?_) (fun h3 => ?_)
      · refine z_iload_n C dX3_moveMonth_32 rfl 3 rfl ?_
        refine z_i2l (v := (p3).toInt64) C dX3_moveMonth_33 rfl ?_
        refine z_ldc2 (v := (-1000000)) C w1 dX3_moveMonth_34 ?_
        refine z_ldc2 (v := 1000000) C w2 dX3_moveMonth_37 ?_
        refine z_si (rest := [.ref (z 0)]) C (c_X3_in l hfl D cI cJ _ ((p3).toInt64) ((-1000000) : Int64) (1000000 : Int64) ) q_X3_in gX3_moveMonth_X3_in ⟨rfl, rfl⟩ rfl rfl (Nat.le_of_ble_eq_true rfl) ⟨Nat.le_of_ble_eq_true rfl, Nat.le_of_ble_eq_true rfl⟩ ⟨Nat.le_of_ble_eq_true rfl, Nat.le_of_ble_eq_true rfl⟩ dX3_moveMonth_40 ?_
        refine z_if_eq (tgt := 50) C dX3_moveMonth_43 (by decide) (fun h4 => ?_) (fun h4 => ?_)
        · refine z_iconst (v := 2) C dX3_moveMonth_50 (by decide) ?_
          exact K1_2 (by rw [f_X3_moveMonth_j1, if_neg h1, if_neg h2, if_pos h3, if_pos h4]) h1 h2
        · refine z_iconst (v := 0) C dX3_moveMonth_46 (by decide) ?_
          refine z_goto (tgt := 51) C dX3_moveMonth_47 (by decide) ?_
          exact K1_0 (by rw [f_X3_moveMonth_j1, if_neg h1, if_neg h2, if_pos h3, if_neg h4]) h4 h1 h2
      · refine z_iload_n C dX3_moveMonth_26 rfl 2 rfl ?_
        refine z_bipush (v := 121) C dX3_moveMonth_27 (by decide) ?_
        refine z_icmp_ne (tgt := 50) C dX3_moveMonth_29 (by decide) (fun h5 => ?_) (fun h5 => ?_)
        · refine z_iconst (v := 2) C dX3_moveMonth_50 (by decide) ?_
          exact K1_2 (by rw [f_X3_moveMonth_j1, if_neg h1, if_neg h2, if_neg h3, if_neg h5]) h1 h2
        · refine z_iload_n C dX3_moveMonth_32 rfl 3 rfl ?_
          refine z_i2l (v := (p3).toInt64) C dX3_moveMonth_33 rfl ?_
          refine z_ldc2 (v := (-1000000)) C w1 dX3_moveMonth_34 ?_
          refine z_ldc2 (v := 1000000) C w2 dX3_moveMonth_37 ?_
          refine z_si (rest := [.ref (z 0)]) C (c_X3_in l hfl D cI cJ _ ((p3).toInt64) ((-1000000) : Int64) (1000000 : Int64) ) q_X3_in gX3_moveMonth_X3_in ⟨rfl, rfl⟩ rfl rfl (Nat.le_of_ble_eq_true rfl) ⟨Nat.le_of_ble_eq_true rfl, Nat.le_of_ble_eq_true rfl⟩ ⟨Nat.le_of_ble_eq_true rfl, Nat.le_of_ble_eq_true rfl⟩ dX3_moveMonth_40 ?_
          refine z_if_eq (tgt := 50) C dX3_moveMonth_43 (by decide) (fun h6 => ?_) (fun h6 => ?_)
          · refine z_iconst (v := 2) C dX3_moveMonth_50 (by decide) ?_
            exact K1_2 (by rw [f_X3_moveMonth_j1, if_neg h1, if_neg h2, if_neg h3, if_pos h5, if_pos h6]) h1 h2
          · refine z_iconst (v := 0) C dX3_moveMonth_46 (by decide) ?_
            refine z_goto (tgt := 51) C dX3_moveMonth_47 (by decide) ?_
            exact K1_0 (by rw [f_X3_moveMonth_j1, if_neg h1, if_neg h2, if_neg h3, if_pos h5, if_neg h6]) h6 h1 h2
    · refine z_iconst (v := 1) C dX3_moveMonth_16 (by decide) ?_
      refine z_goto (tgt := 51) C dX3_moveMonth_17 (by decide) ?_
      exact K1_1 (by rw [f_X3_moveMonth_j1, if_neg h1, if_pos h2]) 
def f_X3_monthPart_j1 (p1 : Int32) (p2 : Int32) : Int32 := (if (f_X3_isSlot p1) = 0 then 1 else (if p2 = 121 then 0 else (if p2 = 109 then 0 else (if p2 = 108 then 0 else (if p2 = 76 then 0 else 2)))))
def f_X3_monthPart (mi : Nat → Int64) (p1 : Int32) (p2 : Int32) : Int32 := (if f_X3_monthPart_j1 p1 p2 = 0 then (if p2 = 121 then ((f_X3_floor (mi p1.toNatClampNeg) 12)).toInt32 else (if p2 = 109 then (1 + ((f_X3_rest (mi p1.toNatClampNeg) 12)).toInt32) else (if p2 = 108 then (f_X3_monthMany mi p1) else (if (f_X3_isLong (f_X3_floor (mi p1.toNatClampNeg) 12)) = 0 then 365 else 366)))) else (if f_X3_monthPart_j1 p1 p2 = 1 then 0 else 0))
def s_X3_monthPart_co (mi : Nat → Int64) (p1 : Int32) (p2 : Int32) : Int32 := (if f_X3_monthPart_j1 p1 p2 = 0 then (if p2 = 121 then (s_X3_fails_co 0) else (if p2 = 109 then (s_X3_fails_co 0) else (if p2 = 108 then (s_X3_fails_co 0) else (if (f_X3_isLong (f_X3_floor (mi p1.toNatClampNeg) 12)) = 0 then (s_X3_fails_co 0) else (s_X3_fails_co 0))))) else (if f_X3_monthPart_j1 p1 p2 = 1 then (s_X3_fails_co 1) else (s_X3_fails_co 2)))
theorem q_X3_monthPart : ZY yX3_monthPart wsX3_monthPart cX3_monthPart 5 (some .int) 2 := ⟨⟨_, rfl⟩, by decide +kernel, by decide +kernel, by decide +kernel⟩
set_option maxHeartbeats 4000000 in
set_option maxRecDepth 100000 in
theorem c_X3_monthPart (l : Launch) (hfl : l.stackTraces = false) (D : va_G) (cI cJ : ClassId) (X : va_W) (z : Nat → Nat) (co : Int32) (d : Nat → Int64) (ti : Nat → Int64) (sL : Nat → Int64) (bL : Nat → Int64) (mD : Nat → Int64) (mT : Nat → Int64) (sy : Nat → Int64) (sm : Nat → Int64) (sd : Nat → Int64) (mi : Nat → Int64) (yr : Int64) (mo : Int32) (dy : Int32) (p1 : Int32) (p2 : Int32)  : ZM l yX3_monthPart wsX3_monthPart { frames := 5, cells := 0, slots := 0, locals := 110 } [.ref (z 0), .int p1, .int p2] D (zTys cI cJ) (wM cI cJ z co d ti sL bL mD mT sy sm sd mi yr mo dy X) 0 0 (fun v w => v = some (.int (f_X3_monthPart mi p1 p2)) ∧ w = (wM cI cJ z (s_X3_monthPart_co mi p1 p2) d ti sL bL mD mT sy sm sd mi yr mo dy X)) (fun _ _ => False) := by
  refine z_open (own := RX3) hfl (cc := cX3_monthPart) (maxL := 5) (ret := (some .int)) (lv := [(0, .ref (z 0)), (1, .int p1), (2, .int p2)]) rfl (by decide) rfl rfl (Nat.le_of_ble_eq_true rfl) ?_
  intro p e s m args below meth c A C hno hnm hargs
  have hin : ∀ w ∈ wsX30, w ∈ wsX3_monthPart := by decide +kernel
  have w1 := C.1.2.2.2.2 (.fieldLink RX3 41 "YearwheelModel" "months" "[J") (by decide +kernel)
  have w2 := C.1.2.2.2.2 (.constantLong RX3 113 (12)) (by decide +kernel)
  refine z_aload_n C dX3_monthPart_0 rfl 0 rfl ?_
  refine z_iload_n C dX3_monthPart_1 rfl 1 rfl ?_
  refine z_si (rest := [.ref (z 0)]) C (c_X3_isSlot l hfl D cI cJ _ p1 ) q_X3_isSlot gX3_monthPart_X3_isSlot ⟨rfl, rfl⟩ rfl rfl (Nat.le_of_ble_eq_true rfl) ⟨Nat.le_of_ble_eq_true rfl, Nat.le_of_ble_eq_true rfl⟩ ⟨Nat.le_of_ble_eq_true rfl, Nat.le_of_ble_eq_true rfl⟩ dX3_monthPart_2 ?_
  have K1_0 : f_X3_monthPart_j1 p1 p2 = 0 → (¬ (f_X3_isSlot p1) = 0) → ZW p l e { frames := 5, cells := 0, slots := 0, locals := 110 } s m args below meth c 5 D (zTys cI cJ) A (zE D (zTys cI cJ) A below args s (fun v w => v = some (.int (f_X3_monthPart mi p1 p2)) ∧ w = (wM cI cJ z (s_X3_monthPart_co mi p1 p2) d ti sL bL mD mT sy sm sd mi yr mo dy X)) (fun _ _ => False) 0 0) 0 0 (wM cI cJ z co d ti sL bL mD mT sy sm sd mi yr mo dy X) 41 [(0, .ref (z 0)), (1, .int p1), (2, .int p2)] [.int 0, .ref (z 0)] := by
    intro h6 h7
    refine z_wi (ws' := (wM cI cJ z (s_X3_fails_co 0) d ti sL bL mD mT sy sm sd mi yr mo dy X)) (rest := []) (ci := 3) (q0 := 0) C (c_X3_fails l hfl D cI cJ X z co d ti sL bL mD mT sy sm sd mi yr mo dy (0 : Int32) ) q_X3_fails rfl rfl rfl gX3_monthPart_X3_fails ⟨rfl, rfl⟩ rfl rfl (Nat.le_of_ble_eq_true rfl) ⟨Nat.le_of_ble_eq_true rfl, Nat.le_of_ble_eq_true rfl⟩ ⟨Nat.le_of_ble_eq_true rfl, Nat.le_of_ble_eq_true rfl⟩ dX3_monthPart_41 ?_
    refine z_eqst (st' := [.int 0]) (congrArg (fun v => Value.int v :: _) (by decide : (f_X3_fails 0) = (0 : Int32))) ?_
    refine z_if_eq (tgt := 49) C dX3_monthPart_44 (by decide) (fun _ => ?_) (fun h => absurd (by decide) h)
    refine z_aload_n C dX3_monthPart_49 rfl 0 rfl ?_
    refine z_get (CC := RX3) (T := TX3) (N := 14) (ci := 3) C hin 0 rfl rfl 10 (by decide) w1 rfl rfl dX3_monthPart_50 ?_
    refine z_iload_n C dX3_monthPart_53 rfl 1 rfl ?_
    refine z_lald C 10 1 rfl rfl (vpMSlot h7) dX3_monthPart_54 ?_
    refine z_ldc2 (v := 12) C w2 dX3_monthPart_55 ?_
    refine z_sl (rest := []) C (c_X3_floor l hfl D cI cJ _ (mi p1.toNatClampNeg) (12 : Int64) (by decide)) q_X3_floor gX3_monthPart_X3_floor ⟨rfl, rfl⟩ rfl rfl (Nat.le_of_ble_eq_true rfl) ⟨Nat.le_of_ble_eq_true rfl, Nat.le_of_ble_eq_true rfl⟩ ⟨Nat.le_of_ble_eq_true rfl, Nat.le_of_ble_eq_true rfl⟩ dX3_monthPart_58 ?_
    refine z_lstore_n (lv' := [(3, .long (f_X3_floor (mi p1.toNatClampNeg) 12)), (0, .ref (z 0)), (1, .int p1), (2, .int p2)]) C dX3_monthPart_61 rfl (by decide) rfl ?_
    refine z_iload_n C dX3_monthPart_62 rfl 3 rfl ?_
    refine z_bipush (v := 121) C dX3_monthPart_63 (by decide) ?_
    refine z_icmp_ne (tgt := 73) C dX3_monthPart_65 (by decide) (fun h8 => ?_) (fun h8 => ?_)
    · refine z_iload_n C dX3_monthPart_73 rfl 3 rfl ?_
      refine z_bipush (v := 109) C dX3_monthPart_74 (by decide) ?_
      refine z_icmp_ne (tgt := 97) C dX3_monthPart_76 (by decide) (fun h9 => ?_) (fun h9 => ?_)
      · refine z_iload_n C dX3_monthPart_97 rfl 3 rfl ?_
        refine z_bipush (v := 108) C dX3_monthPart_98 (by decide) ?_
        refine z_icmp_ne (tgt := 111) C dX3_monthPart_100 (by decide) (fun h10 => ?_) (fun h10 => ?_)
        · refine z_lload_n C dX3_monthPart_111 rfl 0 rfl ?_
          refine z_si (rest := []) C (c_X3_isLong l hfl D cI cJ _ (f_X3_floor (mi p1.toNatClampNeg) 12) ) q_X3_isLong gX3_monthPart_X3_isLong ⟨rfl, rfl⟩ rfl rfl (Nat.le_of_ble_eq_true rfl) ⟨Nat.le_of_ble_eq_true rfl, Nat.le_of_ble_eq_true rfl⟩ ⟨Nat.le_of_ble_eq_true rfl, Nat.le_of_ble_eq_true rfl⟩ dX3_monthPart_112 ?_
          refine z_if_eq (tgt := 124) C dX3_monthPart_115 (by decide) (fun h11 => ?_) (fun h11 => ?_)
          · refine z_sipush (v := 365) C dX3_monthPart_124 (by decide) ?_
            exact z_iret C ⟨congrArg (fun v => some (Value.int v)) (by rw [f_X3_monthPart, if_pos h6, if_neg h8, if_neg h9, if_neg h10, if_pos h11] : (365 : Int32) = (f_X3_monthPart mi p1 p2)), by rw [s_X3_monthPart_co, if_pos h6, if_neg h8, if_neg h9, if_neg h10, if_pos h11]⟩ (by decide) (by decide) dX3_monthPart_127
          · refine z_sipush (v := 366) C dX3_monthPart_118 (by decide) ?_
            refine z_goto (tgt := 127) C dX3_monthPart_121 (by decide) ?_
            exact z_iret C ⟨congrArg (fun v => some (Value.int v)) (by rw [f_X3_monthPart, if_pos h6, if_neg h8, if_neg h9, if_neg h10, if_neg h11] : (366 : Int32) = (f_X3_monthPart mi p1 p2)), by rw [s_X3_monthPart_co, if_pos h6, if_neg h8, if_neg h9, if_neg h10, if_neg h11]⟩ (by decide) (by decide) dX3_monthPart_127
        · refine z_aload_n C dX3_monthPart_103 rfl 1 rfl ?_
          refine z_iload_n C dX3_monthPart_104 rfl 2 rfl ?_
          refine z_wi (ws' := (wM cI cJ z (s_X3_fails_co 0) d ti sL bL mD mT sy sm sd mi yr mo dy X)) (rest := []) (ci := 3) (q0 := 0) C (c_X3_monthMany l hfl D cI cJ X z (s_X3_fails_co 0) d ti sL bL mD mT sy sm sd mi yr mo dy p1 (vpMSlot h7)) q_X3_monthMany rfl rfl rfl gX3_monthPart_X3_monthMany ⟨rfl, rfl⟩ rfl rfl (Nat.le_of_ble_eq_true rfl) ⟨Nat.le_of_ble_eq_true rfl, Nat.le_of_ble_eq_true rfl⟩ ⟨Nat.le_of_ble_eq_true rfl, Nat.le_of_ble_eq_true rfl⟩ dX3_monthPart_105 ?_
          refine z_goto (tgt := 127) C dX3_monthPart_108 (by decide) ?_
          exact z_iret C ⟨congrArg (fun v => some (Value.int v)) (by rw [f_X3_monthPart, if_pos h6, if_neg h8, if_neg h9, if_pos h10] : (f_X3_monthMany mi p1) = (f_X3_monthPart mi p1 p2)), by rw [s_X3_monthPart_co, if_pos h6, if_neg h8, if_neg h9, if_pos h10]⟩ (by decide) (by decide) dX3_monthPart_127
      · refine z_iconst (v := 1) C dX3_monthPart_79 (by decide) ?_
        refine z_aload_n C dX3_monthPart_80 rfl 1 rfl ?_
        refine z_get (CC := RX3) (T := TX3) (N := 14) (ci := 3) C hin 0 rfl rfl 10 (by decide) w1 rfl rfl dX3_monthPart_81 ?_
        refine z_iload_n C dX3_monthPart_84 rfl 2 rfl ?_
        refine z_lald C 10 1 rfl rfl (vpMSlot h7) dX3_monthPart_85 ?_
        refine z_ldc2 (v := 12) C w2 dX3_monthPart_86 ?_
        refine z_sl (rest := [.int 1]) C (c_X3_rest l hfl D cI cJ _ (mi p1.toNatClampNeg) (12 : Int64) (by decide)) q_X3_rest gX3_monthPart_X3_rest ⟨rfl, rfl⟩ rfl rfl (Nat.le_of_ble_eq_true rfl) ⟨Nat.le_of_ble_eq_true rfl, Nat.le_of_ble_eq_true rfl⟩ ⟨Nat.le_of_ble_eq_true rfl, Nat.le_of_ble_eq_true rfl⟩ dX3_monthPart_89 ?_
        refine z_l2i (v := ((f_X3_rest (mi p1.toNatClampNeg) 12)).toInt32) C dX3_monthPart_92 rfl ?_
        refine z_iadd C dX3_monthPart_93 ?_
        refine z_goto (tgt := 127) C dX3_monthPart_94 (by decide) ?_
        exact z_iret C ⟨congrArg (fun v => some (Value.int v)) (by rw [f_X3_monthPart, if_pos h6, if_neg h8, if_pos h9] : (1 + ((f_X3_rest (mi p1.toNatClampNeg) 12)).toInt32) = (f_X3_monthPart mi p1 p2)), by rw [s_X3_monthPart_co, if_pos h6, if_neg h8, if_pos h9]⟩ (by decide) (by decide) dX3_monthPart_127
    · refine z_lload_n C dX3_monthPart_68 rfl 0 rfl ?_
      refine z_l2i (v := ((f_X3_floor (mi p1.toNatClampNeg) 12)).toInt32) C dX3_monthPart_69 rfl ?_
      refine z_goto (tgt := 127) C dX3_monthPart_70 (by decide) ?_
      exact z_iret C ⟨congrArg (fun v => some (Value.int v)) (by rw [f_X3_monthPart, if_pos h6, if_pos h8] : ((f_X3_floor (mi p1.toNatClampNeg) 12)).toInt32 = (f_X3_monthPart mi p1 p2)), by rw [s_X3_monthPart_co, if_pos h6, if_pos h8]⟩ (by decide) (by decide) dX3_monthPart_127
  have K1_1 : f_X3_monthPart_j1 p1 p2 = 1 → ((f_X3_isSlot p1) = 0) → ZW p l e { frames := 5, cells := 0, slots := 0, locals := 110 } s m args below meth c 5 D (zTys cI cJ) A (zE D (zTys cI cJ) A below args s (fun v w => v = some (.int (f_X3_monthPart mi p1 p2)) ∧ w = (wM cI cJ z (s_X3_monthPart_co mi p1 p2) d ti sL bL mD mT sy sm sd mi yr mo dy X)) (fun _ _ => False) 0 0) 0 0 (wM cI cJ z co d ti sL bL mD mT sy sm sd mi yr mo dy X) 41 [(0, .ref (z 0)), (1, .int p1), (2, .int p2)] [.int 1, .ref (z 0)] := by
    intro h12 h13
    refine z_wi (ws' := (wM cI cJ z (s_X3_fails_co 1) d ti sL bL mD mT sy sm sd mi yr mo dy X)) (rest := []) (ci := 3) (q0 := 0) C (c_X3_fails l hfl D cI cJ X z co d ti sL bL mD mT sy sm sd mi yr mo dy (1 : Int32) ) q_X3_fails rfl rfl rfl gX3_monthPart_X3_fails ⟨rfl, rfl⟩ rfl rfl (Nat.le_of_ble_eq_true rfl) ⟨Nat.le_of_ble_eq_true rfl, Nat.le_of_ble_eq_true rfl⟩ ⟨Nat.le_of_ble_eq_true rfl, Nat.le_of_ble_eq_true rfl⟩ dX3_monthPart_41 ?_
    refine z_eqst (st' := [.int 1]) (congrArg (fun v => Value.int v :: _) (by decide : (f_X3_fails 1) = (1 : Int32))) ?_
    refine z_if_eq (tgt := 49) C dX3_monthPart_44 (by decide) (fun h => absurd h (by decide)) (fun _ => ?_)
    refine z_iconst (v := 0) C dX3_monthPart_47 (by decide) ?_
    exact z_iret C ⟨congrArg (fun v => some (Value.int v)) (by rw [f_X3_monthPart, if_neg (by rw [h12]; decide : ¬ f_X3_monthPart_j1 p1 p2 = 0), if_pos h12] : (0 : Int32) = (f_X3_monthPart mi p1 p2)), by rw [s_X3_monthPart_co, if_neg (by rw [h12]; decide : ¬ f_X3_monthPart_j1 p1 p2 = 0), if_pos h12]⟩ (by decide) (by decide) dX3_monthPart_48
  have K1_2 : f_X3_monthPart_j1 p1 p2 = 2 → (¬ (f_X3_isSlot p1) = 0) → (¬ p2 = 108) → (¬ p2 = 109) → (¬ p2 = 121) → (¬ p2 = 76) → ZW p l e { frames := 5, cells := 0, slots := 0, locals := 110 } s m args below meth c 5 D (zTys cI cJ) A (zE D (zTys cI cJ) A below args s (fun v w => v = some (.int (f_X3_monthPart mi p1 p2)) ∧ w = (wM cI cJ z (s_X3_monthPart_co mi p1 p2) d ti sL bL mD mT sy sm sd mi yr mo dy X)) (fun _ _ => False) 0 0) 0 0 (wM cI cJ z co d ti sL bL mD mT sy sm sd mi yr mo dy X) 41 [(0, .ref (z 0)), (1, .int p1), (2, .int p2)] [.int 2, .ref (z 0)] := by
    intro h14 h15 h16 h17 h18 h19
    refine z_wi (ws' := (wM cI cJ z (s_X3_fails_co 2) d ti sL bL mD mT sy sm sd mi yr mo dy X)) (rest := []) (ci := 3) (q0 := 0) C (c_X3_fails l hfl D cI cJ X z co d ti sL bL mD mT sy sm sd mi yr mo dy (2 : Int32) ) q_X3_fails rfl rfl rfl gX3_monthPart_X3_fails ⟨rfl, rfl⟩ rfl rfl (Nat.le_of_ble_eq_true rfl) ⟨Nat.le_of_ble_eq_true rfl, Nat.le_of_ble_eq_true rfl⟩ ⟨Nat.le_of_ble_eq_true rfl, Nat.le_of_ble_eq_true rfl⟩ dX3_monthPart_41 ?_
    refine z_eqst (st' := [.int 1]) (congrArg (fun v => Value.int v :: _) (by decide : (f_X3_fails 2) = (1 : Int32))) ?_
    refine z_if_eq (tgt := 49) C dX3_monthPart_44 (by decide) (fun h => absurd h (by decide)) (fun _ => ?_)
    refine z_iconst (v := 0) C dX3_monthPart_47 (by decide) ?_
    exact z_iret C ⟨congrArg (fun v => some (Value.int v)) (by rw [f_X3_monthPart, if_neg (by rw [h14]; decide : ¬ f_X3_monthPart_j1 p1 p2 = 0), if_neg (by rw [h14]; decide : ¬ f_X3_monthPart_j1 p1 p2 = 1)] : (0 : Int32) = (f_X3_monthPart mi p1 p2)), by rw [s_X3_monthPart_co, if_neg (by rw [h14]; decide : ¬ f_X3_monthPart_j1 p1 p2 = 0), if_neg (by rw [h14]; decide : ¬ f_X3_monthPart_j1 p1 p2 = 1)]⟩ (by decide) (by decide) dX3_monthPart_48
  refine z_if_ne (tgt := 12) C dX3_monthPart_5 (by decide) (fun h1 => ?_) (fun h1 => ?_)
  · refine z_iload_n C dX3_monthPart_12 rfl 2 rfl ?_
    refine z_bipush (v := 121) C dX3_monthPart_13 (by decide) ?_
    refine z_icmp_eq (tgt := 36) C dX3_monthPart_15 (by decide) (fun h2 => ?_) (fun h2 => ?_)
    · refine z_iconst (v := 0) C dX3_monthPart_36 (by decide) ?_
      refine z_goto (tgt := 41) C dX3_monthPart_37 (by decide) ?_
      exact K1_0 (by rw [f_X3_monthPart_j1, if_neg h1, if_pos h2]) h1
    · refine z_iload_n C dX3_monthPart_18 rfl 2 rfl ?_
      refine z_bipush (v := 109) C dX3_monthPart_19 (by decide) ?_
      refine z_icmp_eq (tgt := 36) C dX3_monthPart_21 (by decide) (fun h3 => ?_) (fun h3 => ?_)
      · refine z_iconst (v := 0) C dX3_monthPart_36 (by decide) ?_
        refine z_goto (tgt := 41) C dX3_monthPart_37 (by decide) ?_
        exact K1_0 (by rw [f_X3_monthPart_j1, if_neg h1, if_neg h2, if_pos h3]) h1
      · refine z_iload_n C dX3_monthPart_24 rfl 2 rfl ?_
        refine z_bipush (v := 108) C dX3_monthPart_25 (by decide) ?_
        refine z_icmp_eq (tgt := 36) C dX3_monthPart_27 (by decide) (fun h4 => ?_) (fun h4 => ?_)
        · refine z_iconst (v := 0) C dX3_monthPart_36 (by decide) ?_
          refine z_goto (tgt := 41) C dX3_monthPart_37 (by decide) ?_
          exact K1_0 (by rw [f_X3_monthPart_j1, if_neg h1, if_neg h2, if_neg h3, if_pos h4]) h1
        · refine z_iload_n C dX3_monthPart_30 rfl 2 rfl ?_
          refine z_bipush (v := 76) C dX3_monthPart_31 (by decide) ?_
          refine z_icmp_ne (tgt := 40) C dX3_monthPart_33 (by decide) (fun h5 => ?_) (fun h5 => ?_)
          · refine z_iconst (v := 2) C dX3_monthPart_40 (by decide) ?_
            exact K1_2 (by rw [f_X3_monthPart_j1, if_neg h1, if_neg h2, if_neg h3, if_neg h4, if_neg h5]) h1 h4 h3 h2 h5
          · refine z_iconst (v := 0) C dX3_monthPart_36 (by decide) ?_
            refine z_goto (tgt := 41) C dX3_monthPart_37 (by decide) ?_
            exact K1_0 (by rw [f_X3_monthPart_j1, if_neg h1, if_neg h2, if_neg h3, if_neg h4, if_pos h5]) h1
  · refine z_iconst (v := 1) C dX3_monthPart_8 (by decide) ?_
    refine z_goto (tgt := 41) C dX3_monthPart_9 (by decide) ?_
    exact K1_1 (by rw [f_X3_monthPart_j1, if_pos h1]) h1
def f_X3_atDay_j1 (mi : Nat → Int64) (p1 : Int32) (p2 : Int32) (p3 : Int32) : Int32 := (if (f_X3_isSlot p1) = 0 then 1 else (if (f_X3_isDate p3) = 0 then 1 else (if (f_X3_in ((p2).toInt64) 0 (((f_X3_monthMany mi p1)).toInt64)) = 0 then 2 else 0)))
def f_X3_atDay_j2 (mi : Nat → Int64) (p1 : Int32) (p2 : Int32) : Int32 := (if p2 = 0 then (f_X3_monthMany mi p1) else p2)
def f_X3_atDay (d : Nat → Int64) (mi : Nat → Int64) (p1 : Int32) (p2 : Int32) (p3 : Int32) : Int64 := (if f_X3_atDay_j1 mi p1 p2 p3 = 0 then ((vp_updL d p3.toNatClampNeg (f_X3_number (f_X3_floor (mi p1.toNatClampNeg) 12) (1 + ((f_X3_rest (mi p1.toNatClampNeg) 12)).toInt32) (f_X3_atDay_j2 mi p1 p2))) p3.toNatClampNeg) else (if f_X3_atDay_j1 mi p1 p2 p3 = 1 then 0 else 0))
def s_X3_atDay_co (mi : Nat → Int64) (p1 : Int32) (p2 : Int32) (p3 : Int32) : Int32 := (if f_X3_atDay_j1 mi p1 p2 p3 = 0 then (s_X3_fails_co 0) else (if f_X3_atDay_j1 mi p1 p2 p3 = 1 then (s_X3_fails_co 1) else (s_X3_fails_co 2)))
def s_X3_atDay_d (d : Nat → Int64) (mi : Nat → Int64) (p1 : Int32) (p2 : Int32) (p3 : Int32) : Nat → Int64 := (if f_X3_atDay_j1 mi p1 p2 p3 = 0 then (vp_updL d p3.toNatClampNeg (f_X3_number (f_X3_floor (mi p1.toNatClampNeg) 12) (1 + ((f_X3_rest (mi p1.toNatClampNeg) 12)).toInt32) (f_X3_atDay_j2 mi p1 p2))) else (if f_X3_atDay_j1 mi p1 p2 p3 = 1 then d else d))
def pre_X3_atDay (mi : Nat → Int64) (p1 : Int32) (p2 : Int32) (p3 : Int32) : Prop := (((f_X3_atDay_j1 mi p1 p2 p3) = 0) → (¬ (f_X3_in ((p2).toInt64) 0 (((f_X3_monthMany mi p1)).toInt64)) = 0) → (¬ (f_X3_isDate p3) = 0) → (¬ (f_X3_isSlot p1) = 0) → ((1 + ((f_X3_rest (mi p1.toNatClampNeg) 12)).toInt32) ≤ 12))
theorem q_X3_atDay : ZY yX3_atDay wsX3_atDay cX3_atDay 4 (some .long) 3 := ⟨⟨_, rfl⟩, by decide +kernel, by decide +kernel, by decide +kernel⟩
set_option maxHeartbeats 4000000 in
set_option maxRecDepth 100000 in
theorem c_X3_atDay (l : Launch) (hfl : l.stackTraces = false) (D : va_G) (cI cJ : ClassId) (X : va_W) (z : Nat → Nat) (co : Int32) (d : Nat → Int64) (ti : Nat → Int64) (sL : Nat → Int64) (bL : Nat → Int64) (mD : Nat → Int64) (mT : Nat → Int64) (sy : Nat → Int64) (sm : Nat → Int64) (sd : Nat → Int64) (mi : Nat → Int64) (yr : Int64) (mo : Int32) (dy : Int32) (p1 : Int32) (p2 : Int32) (p3 : Int32)  (h_g : pre_X3_atDay mi p1 p2 p3) : ZM l yX3_atDay wsX3_atDay { frames := 5, cells := 0, slots := 0, locals := 115 } [.ref (z 0), .int p1, .int p2, .int p3] D (zTys cI cJ) (wM cI cJ z co d ti sL bL mD mT sy sm sd mi yr mo dy X) 0 0 (fun v w => v = some (.long (f_X3_atDay d mi p1 p2 p3)) ∧ w = (wM cI cJ z (s_X3_atDay_co mi p1 p2 p3) (s_X3_atDay_d d mi p1 p2 p3) ti sL bL mD mT sy sm sd mi yr mo dy X)) (fun _ _ => False) := by
  refine z_open (own := RX3) hfl (cc := cX3_atDay) (maxL := 4) (ret := (some .long)) (lv := [(0, .ref (z 0)), (1, .int p1), (2, .int p2), (3, .int p3)]) rfl (by decide) rfl rfl (Nat.le_of_ble_eq_true rfl) ?_
  intro p e s m args below meth c A C hno hnm hargs
  have hin : ∀ w ∈ wsX30, w ∈ wsX3_atDay := by decide +kernel
  have w1 := C.1.2.2.2.2 (.fieldLink RX3 13 "YearwheelModel" "dates" "[J") (by decide +kernel)
  have w2 := C.1.2.2.2.2 (.fieldLink RX3 41 "YearwheelModel" "months" "[J") (by decide +kernel)
  have w3 := C.1.2.2.2.2 (.constantLong RX3 113 (12)) (by decide +kernel)
  have g_0 := h_g
  refine z_aload_n C dX3_atDay_0 rfl 0 rfl ?_
  refine z_iload_n C dX3_atDay_1 rfl 1 rfl ?_
  refine z_si (rest := [.ref (z 0)]) C (c_X3_isSlot l hfl D cI cJ _ p1 ) q_X3_isSlot gX3_atDay_X3_isSlot ⟨rfl, rfl⟩ rfl rfl (Nat.le_of_ble_eq_true rfl) ⟨Nat.le_of_ble_eq_true rfl, Nat.le_of_ble_eq_true rfl⟩ ⟨Nat.le_of_ble_eq_true rfl, Nat.le_of_ble_eq_true rfl⟩ dX3_atDay_2 ?_
  have K1_0 : f_X3_atDay_j1 mi p1 p2 p3 = 0 → (¬ (f_X3_in ((p2).toInt64) 0 (((f_X3_monthMany mi p1)).toInt64)) = 0) → (¬ (f_X3_isDate p3) = 0) → (¬ (f_X3_isSlot p1) = 0) → ZW p l e { frames := 5, cells := 0, slots := 0, locals := 115 } s m args below meth c 4 D (zTys cI cJ) A (zE D (zTys cI cJ) A below args s (fun v w => v = some (.long (f_X3_atDay d mi p1 p2 p3)) ∧ w = (wM cI cJ z (s_X3_atDay_co mi p1 p2 p3) (s_X3_atDay_d d mi p1 p2 p3) ti sL bL mD mT sy sm sd mi yr mo dy X)) (fun _ _ => False) 0 0) 0 0 (wM cI cJ z co d ti sL bL mD mT sy sm sd mi yr mo dy X) 39 [(0, .ref (z 0)), (1, .int p1), (2, .int p2), (3, .int p3)] [.int 0, .ref (z 0)] := by
    intro h4 h5 h6 h7
    refine z_wi (ws' := (wM cI cJ z (s_X3_fails_co 0) d ti sL bL mD mT sy sm sd mi yr mo dy X)) (rest := []) (ci := 3) (q0 := 0) C (c_X3_fails l hfl D cI cJ X z co d ti sL bL mD mT sy sm sd mi yr mo dy (0 : Int32) ) q_X3_fails rfl rfl rfl gX3_atDay_X3_fails ⟨rfl, rfl⟩ rfl rfl (Nat.le_of_ble_eq_true rfl) ⟨Nat.le_of_ble_eq_true rfl, Nat.le_of_ble_eq_true rfl⟩ ⟨Nat.le_of_ble_eq_true rfl, Nat.le_of_ble_eq_true rfl⟩ dX3_atDay_39 ?_
    refine z_eqst (st' := [.int 0]) (congrArg (fun v => Value.int v :: _) (by decide : (f_X3_fails 0) = (0 : Int32))) ?_
    refine z_if_eq (tgt := 47) C dX3_atDay_42 (by decide) (fun _ => ?_) (fun h => absurd (by decide) h)
    refine z_aload_n C dX3_atDay_47 rfl 0 rfl ?_
    refine z_get (CC := RX3) (T := TX3) (N := 14) (ci := 3) C hin 0 rfl rfl 1 (by decide) w1 rfl rfl dX3_atDay_48 ?_
    refine z_iload_n C dX3_atDay_51 rfl 3 rfl ?_
    refine z_aload_n C dX3_atDay_52 rfl 0 rfl ?_
    refine z_get (CC := RX3) (T := TX3) (N := 14) (ci := 3) C hin 0 rfl rfl 10 (by decide) w2 rfl rfl dX3_atDay_53 ?_
    refine z_iload_n C dX3_atDay_56 rfl 1 rfl ?_
    refine z_lald C 10 1 rfl rfl (vpMSlot h7) dX3_atDay_57 ?_
    refine z_ldc2 (v := 12) C w3 dX3_atDay_58 ?_
    refine z_sl (rest := [.int p3, .ref (z 1)]) C (c_X3_floor l hfl D cI cJ _ (mi p1.toNatClampNeg) (12 : Int64) (by decide)) q_X3_floor gX3_atDay_X3_floor ⟨rfl, rfl⟩ rfl rfl (Nat.le_of_ble_eq_true rfl) ⟨Nat.le_of_ble_eq_true rfl, Nat.le_of_ble_eq_true rfl⟩ ⟨Nat.le_of_ble_eq_true rfl, Nat.le_of_ble_eq_true rfl⟩ dX3_atDay_61 ?_
    refine z_iconst (v := 1) C dX3_atDay_64 (by decide) ?_
    refine z_aload_n C dX3_atDay_65 rfl 0 rfl ?_
    refine z_get (CC := RX3) (T := TX3) (N := 14) (ci := 3) C hin 0 rfl rfl 10 (by decide) w2 rfl rfl dX3_atDay_66 ?_
    refine z_iload_n C dX3_atDay_69 rfl 1 rfl ?_
    refine z_lald C 10 1 rfl rfl (vpMSlot h7) dX3_atDay_70 ?_
    refine z_ldc2 (v := 12) C w3 dX3_atDay_71 ?_
    refine z_sl (rest := [.int 1, .long (f_X3_floor (mi p1.toNatClampNeg) 12), .int p3, .ref (z 1)]) C (c_X3_rest l hfl D cI cJ _ (mi p1.toNatClampNeg) (12 : Int64) (by decide)) q_X3_rest gX3_atDay_X3_rest ⟨rfl, rfl⟩ rfl rfl (Nat.le_of_ble_eq_true rfl) ⟨Nat.le_of_ble_eq_true rfl, Nat.le_of_ble_eq_true rfl⟩ ⟨Nat.le_of_ble_eq_true rfl, Nat.le_of_ble_eq_true rfl⟩ dX3_atDay_74 ?_
    refine z_l2i (v := ((f_X3_rest (mi p1.toNatClampNeg) 12)).toInt32) C dX3_atDay_77 rfl ?_
    refine z_iadd C dX3_atDay_78 ?_
    refine z_iload_n C dX3_atDay_79 rfl 2 rfl ?_
    have K2 : ∀ (v2_0 : Int32), (f_X3_atDay_j2 mi p1 p2) = v2_0 → ZW p l e { frames := 5, cells := 0, slots := 0, locals := 115 } s m args below meth c 4 D (zTys cI cJ) A (zE D (zTys cI cJ) A below args s (fun v w => v = some (.long (f_X3_atDay d mi p1 p2 p3)) ∧ w = (wM cI cJ z (s_X3_atDay_co mi p1 p2 p3) (s_X3_atDay_d d mi p1 p2 p3) ti sL bL mD mT sy sm sd mi yr mo dy X)) (fun _ _ => False) 0 0) 0 0 (wM cI cJ z (s_X3_fails_co 0) d ti sL bL mD mT sy sm sd mi yr mo dy X) 92 [(0, .ref (z 0)), (1, .int p1), (2, .int p2), (3, .int p3)] [.int v2_0, .int (1 + ((f_X3_rest (mi p1.toNatClampNeg) 12)).toInt32), .long (f_X3_floor (mi p1.toNatClampNeg) 12), .int p3, .ref (z 1)] := by
      rintro _ rfl
      refine z_sl (rest := [.int p3, .ref (z 1)]) C (c_X3_number l hfl D cI cJ _ (f_X3_floor (mi p1.toNatClampNeg) 12) (1 + ((f_X3_rest (mi p1.toNatClampNeg) 12)).toInt32) (f_X3_atDay_j2 mi p1 p2) (g_0 h4 h5 h6 h7)) q_X3_number gX3_atDay_X3_number ⟨rfl, rfl⟩ rfl rfl (Nat.le_of_ble_eq_true rfl) ⟨Nat.le_of_ble_eq_true rfl, Nat.le_of_ble_eq_true rfl⟩ ⟨Nat.le_of_ble_eq_true rfl, Nat.le_of_ble_eq_true rfl⟩ dX3_atDay_92 ?_
      refine z_last C 1 1 rfl rfl (vpMDate h6) (ws' := (wM cI cJ z (s_X3_fails_co 0) (vp_updL d p3.toNatClampNeg (f_X3_number (f_X3_floor (mi p1.toNatClampNeg) 12) (1 + ((f_X3_rest (mi p1.toNatClampNeg) 12)).toInt32) (f_X3_atDay_j2 mi p1 p2))) ti sL bL mD mT sy sm sd mi yr mo dy X)) rfl dX3_atDay_95 ?_
      refine z_aload_n C dX3_atDay_96 rfl 0 rfl ?_
      refine z_get (CC := RX3) (T := TX3) (N := 14) (ci := 3) C hin 0 rfl rfl 1 (by decide) w1 rfl rfl dX3_atDay_97 ?_
      refine z_iload_n C dX3_atDay_100 rfl 3 rfl ?_
      refine z_lald C 1 1 rfl rfl (vpMDate h6) dX3_atDay_101 ?_
      exact z_lret C ⟨congrArg (fun v => some (Value.long v)) (by rw [f_X3_atDay, if_pos h4] : ((vp_updL d p3.toNatClampNeg (f_X3_number (f_X3_floor (mi p1.toNatClampNeg) 12) (1 + ((f_X3_rest (mi p1.toNatClampNeg) 12)).toInt32) (f_X3_atDay_j2 mi p1 p2))) p3.toNatClampNeg) = (f_X3_atDay d mi p1 p2 p3)), by rw [s_X3_atDay_co, if_pos h4, s_X3_atDay_d, if_pos h4]⟩ (by decide) (by decide) dX3_atDay_102
    refine z_if_ne (tgt := 91) C dX3_atDay_80 (by decide) (fun h8 => ?_) (fun h8 => ?_)
    · refine z_iload_n C dX3_atDay_91 rfl 2 rfl ?_
      exact K2 _ (by rw [f_X3_atDay_j2, if_neg h8])
    · refine z_aload_n C dX3_atDay_83 rfl 0 rfl ?_
      refine z_iload_n C dX3_atDay_84 rfl 1 rfl ?_
      refine z_wi (ws' := (wM cI cJ z (s_X3_fails_co 0) d ti sL bL mD mT sy sm sd mi yr mo dy X)) (rest := [.int (1 + ((f_X3_rest (mi p1.toNatClampNeg) 12)).toInt32), .long (f_X3_floor (mi p1.toNatClampNeg) 12), .int p3, .ref (z 1)]) (ci := 3) (q0 := 0) C (c_X3_monthMany l hfl D cI cJ X z (s_X3_fails_co 0) d ti sL bL mD mT sy sm sd mi yr mo dy p1 (vpMSlot h7)) q_X3_monthMany rfl rfl rfl gX3_atDay_X3_monthMany ⟨rfl, rfl⟩ rfl rfl (Nat.le_of_ble_eq_true rfl) ⟨Nat.le_of_ble_eq_true rfl, Nat.le_of_ble_eq_true rfl⟩ ⟨Nat.le_of_ble_eq_true rfl, Nat.le_of_ble_eq_true rfl⟩ dX3_atDay_85 ?_
      refine z_goto (tgt := 92) C dX3_atDay_88 (by decide) ?_
      exact K2 _ (by rw [f_X3_atDay_j2, if_pos h8])
  have K1_1 : f_X3_atDay_j1 mi p1 p2 p3 = 1 → ZW p l e { frames := 5, cells := 0, slots := 0, locals := 115 } s m args below meth c 4 D (zTys cI cJ) A (zE D (zTys cI cJ) A below args s (fun v w => v = some (.long (f_X3_atDay d mi p1 p2 p3)) ∧ w = (wM cI cJ z (s_X3_atDay_co mi p1 p2 p3) (s_X3_atDay_d d mi p1 p2 p3) ti sL bL mD mT sy sm sd mi yr mo dy X)) (fun _ _ => False) 0 0) 0 0 (wM cI cJ z co d ti sL bL mD mT sy sm sd mi yr mo dy X) 39 [(0, .ref (z 0)), (1, .int p1), (2, .int p2), (3, .int p3)] [.int 1, .ref (z 0)] := by
    intro h9
    refine z_wi (ws' := (wM cI cJ z (s_X3_fails_co 1) d ti sL bL mD mT sy sm sd mi yr mo dy X)) (rest := []) (ci := 3) (q0 := 0) C (c_X3_fails l hfl D cI cJ X z co d ti sL bL mD mT sy sm sd mi yr mo dy (1 : Int32) ) q_X3_fails rfl rfl rfl gX3_atDay_X3_fails ⟨rfl, rfl⟩ rfl rfl (Nat.le_of_ble_eq_true rfl) ⟨Nat.le_of_ble_eq_true rfl, Nat.le_of_ble_eq_true rfl⟩ ⟨Nat.le_of_ble_eq_true rfl, Nat.le_of_ble_eq_true rfl⟩ dX3_atDay_39 ?_
    refine z_eqst (st' := [.int 1]) (congrArg (fun v => Value.int v :: _) (by decide : (f_X3_fails 1) = (1 : Int32))) ?_
    refine z_if_eq (tgt := 47) C dX3_atDay_42 (by decide) (fun h => absurd h (by decide)) (fun _ => ?_)
    refine z_lconst (v := 0) C dX3_atDay_45 (by decide) ?_
    exact z_lret C ⟨congrArg (fun v => some (Value.long v)) (by rw [f_X3_atDay, if_neg (by rw [h9]; decide : ¬ f_X3_atDay_j1 mi p1 p2 p3 = 0), if_pos h9] : (0 : Int64) = (f_X3_atDay d mi p1 p2 p3)), by rw [s_X3_atDay_co, if_neg (by rw [h9]; decide : ¬ f_X3_atDay_j1 mi p1 p2 p3 = 0), if_pos h9, s_X3_atDay_d, if_neg (by rw [h9]; decide : ¬ f_X3_atDay_j1 mi p1 p2 p3 = 0), if_pos h9]⟩ (by decide) (by decide) dX3_atDay_46
  have K1_2 : f_X3_atDay_j1 mi p1 p2 p3 = 2 → ((f_X3_in ((p2).toInt64) 0 (((f_X3_monthMany mi p1)).toInt64)) = 0) → (¬ (f_X3_isDate p3) = 0) → (¬ (f_X3_isSlot p1) = 0) → ZW p l e { frames := 5, cells := 0, slots := 0, locals := 115 } s m args below meth c 4 D (zTys cI cJ) A (zE D (zTys cI cJ) A below args s (fun v w => v = some (.long (f_X3_atDay d mi p1 p2 p3)) ∧ w = (wM cI cJ z (s_X3_atDay_co mi p1 p2 p3) (s_X3_atDay_d d mi p1 p2 p3) ti sL bL mD mT sy sm sd mi yr mo dy X)) (fun _ _ => False) 0 0) 0 0 (wM cI cJ z co d ti sL bL mD mT sy sm sd mi yr mo dy X) 39 [(0, .ref (z 0)), (1, .int p1), (2, .int p2), (3, .int p3)] [.int 2, .ref (z 0)] := by
    intro h10 h11 h12 h13
    refine z_wi (ws' := (wM cI cJ z (s_X3_fails_co 2) d ti sL bL mD mT sy sm sd mi yr mo dy X)) (rest := []) (ci := 3) (q0 := 0) C (c_X3_fails l hfl D cI cJ X z co d ti sL bL mD mT sy sm sd mi yr mo dy (2 : Int32) ) q_X3_fails rfl rfl rfl gX3_atDay_X3_fails ⟨rfl, rfl⟩ rfl rfl (Nat.le_of_ble_eq_true rfl) ⟨Nat.le_of_ble_eq_true rfl, Nat.le_of_ble_eq_true rfl⟩ ⟨Nat.le_of_ble_eq_true rfl, Nat.le_of_ble_eq_true rfl⟩ dX3_atDay_39 ?_
    refine z_eqst (st' := [.int 1]) (congrArg (fun v => Value.int v :: _) (by decide : (f_X3_fails 2) = (1 : Int32))) ?_
    refine z_if_eq (tgt := 47) C dX3_atDay_42 (by decide) (fun h => absurd h (by decide)) (fun _ => ?_)
    refine z_lconst (v := 0) C dX3_atDay_45 (by decide) ?_
    exact z_lret C ⟨congrArg (fun v => some (Value.long v)) (by rw [f_X3_atDay, if_neg (by rw [h10]; decide : ¬ f_X3_atDay_j1 mi p1 p2 p3 = 0), if_neg (by rw [h10]; decide : ¬ f_X3_atDay_j1 mi p1 p2 p3 = 1)] : (0 : Int64) = (f_X3_atDay d mi p1 p2 p3)), by rw [s_X3_atDay_co, if_neg (by rw [h10]; decide : ¬ f_X3_atDay_j1 mi p1 p2 p3 = 0), if_neg (by rw [h10]; decide : ¬ f_X3_atDay_j1 mi p1 p2 p3 = 1), s_X3_atDay_d, if_neg (by rw [h10]; decide : ¬ f_X3_atDay_j1 mi p1 p2 p3 = 0), if_neg (by rw [h10]; decide : ¬ f_X3_atDay_j1 mi p1 p2 p3 = 1)]⟩ (by decide) (by decide) dX3_atDay_46
  refine z_if_eq (tgt := 15) C dX3_atDay_5 (by decide) (fun h1 => ?_) (fun h1 => ?_)
  · refine z_iconst (v := 1) C dX3_atDay_15 (by decide) ?_
    refine z_goto (tgt := 39) C dX3_atDay_16 (by decide) ?_
    exact K1_1 (by rw [f_X3_atDay_j1, if_pos h1]) 
  · refine z_iload_n C dX3_atDay_8 rfl 3 rfl ?_
    refine z_si (rest := [.ref (z 0)]) C (c_X3_isDate l hfl D cI cJ _ p3 ) q_X3_isDate gX3_atDay_X3_isDate ⟨rfl, rfl⟩ rfl rfl (Nat.le_of_ble_eq_true rfl) ⟨Nat.le_of_ble_eq_true rfl, Nat.le_of_ble_eq_true rfl⟩ ⟨Nat.le_of_ble_eq_true rfl, Nat.le_of_ble_eq_true rfl⟩ dX3_atDay_9 ?_
    refine z_if_ne (tgt := 19) C dX3_atDay_12 (by decide) (fun h2 => ?_) (fun h2 => ?_)
    · refine z_iload_n C dX3_atDay_19 rfl 2 rfl ?_
      refine z_i2l (v := (p2).toInt64) C dX3_atDay_20 rfl ?_
      refine z_lconst (v := 0) C dX3_atDay_21 (by decide) ?_
      refine z_aload_n C dX3_atDay_22 rfl 0 rfl ?_
      refine z_iload_n C dX3_atDay_23 rfl 1 rfl ?_
      refine z_wi (ws' := (wM cI cJ z co d ti sL bL mD mT sy sm sd mi yr mo dy X)) (rest := [.long 0, .long (p2).toInt64, .ref (z 0)]) (ci := 3) (q0 := 0) C (c_X3_monthMany l hfl D cI cJ X z co d ti sL bL mD mT sy sm sd mi yr mo dy p1 (vpMSlot h1)) q_X3_monthMany rfl rfl rfl gX3_atDay_X3_monthMany ⟨rfl, rfl⟩ rfl rfl (Nat.le_of_ble_eq_true rfl) ⟨Nat.le_of_ble_eq_true rfl, Nat.le_of_ble_eq_true rfl⟩ ⟨Nat.le_of_ble_eq_true rfl, Nat.le_of_ble_eq_true rfl⟩ dX3_atDay_24 ?_
      refine z_i2l (v := ((f_X3_monthMany mi p1)).toInt64) C dX3_atDay_27 rfl ?_
      refine z_si (rest := [.ref (z 0)]) C (c_X3_in l hfl D cI cJ _ ((p2).toInt64) (0 : Int64) (((f_X3_monthMany mi p1)).toInt64) ) q_X3_in gX3_atDay_X3_in ⟨rfl, rfl⟩ rfl rfl (Nat.le_of_ble_eq_true rfl) ⟨Nat.le_of_ble_eq_true rfl, Nat.le_of_ble_eq_true rfl⟩ ⟨Nat.le_of_ble_eq_true rfl, Nat.le_of_ble_eq_true rfl⟩ dX3_atDay_28 ?_
      refine z_if_eq (tgt := 38) C dX3_atDay_31 (by decide) (fun h3 => ?_) (fun h3 => ?_)
      · refine z_iconst (v := 2) C dX3_atDay_38 (by decide) ?_
        exact K1_2 (by rw [f_X3_atDay_j1, if_neg h1, if_neg h2, if_pos h3]) h3 h2 h1
      · refine z_iconst (v := 0) C dX3_atDay_34 (by decide) ?_
        refine z_goto (tgt := 39) C dX3_atDay_35 (by decide) ?_
        exact K1_0 (by rw [f_X3_atDay_j1, if_neg h1, if_neg h2, if_neg h3]) h3 h2 h1
    · refine z_iconst (v := 1) C dX3_atDay_15 (by decide) ?_
      refine z_goto (tgt := 39) C dX3_atDay_16 (by decide) ?_
      exact K1_1 (by rw [f_X3_atDay_j1, if_neg h1, if_pos h2]) 
def f_X3_orderMonths_j1 (p1 : Int32) (p2 : Int32) : Int32 := (if (f_X3_isSlot p1) = 0 then 1 else (if (f_X3_isSlot p2) = 0 then 1 else 0))
def f_X3_orderMonths (mi : Nat → Int64) (p1 : Int32) (p2 : Int32) : Int32 := (if f_X3_orderMonths_j1 p1 p2 = 0 then (f_X3_ordered (mi p1.toNatClampNeg) (mi p2.toNatClampNeg)) else 0)
def s_X3_orderMonths_co (p1 : Int32) (p2 : Int32) : Int32 := (if f_X3_orderMonths_j1 p1 p2 = 0 then (s_X3_fails_co 0) else (s_X3_fails_co 1))
theorem q_X3_orderMonths : ZY yX3_orderMonths wsX3_orderMonths cX3_orderMonths 3 (some .int) 2 := ⟨⟨_, rfl⟩, by decide +kernel, by decide +kernel, by decide +kernel⟩
set_option maxHeartbeats 4000000 in
set_option maxRecDepth 100000 in
theorem c_X3_orderMonths (l : Launch) (hfl : l.stackTraces = false) (D : va_G) (cI cJ : ClassId) (X : va_W) (z : Nat → Nat) (co : Int32) (d : Nat → Int64) (ti : Nat → Int64) (sL : Nat → Int64) (bL : Nat → Int64) (mD : Nat → Int64) (mT : Nat → Int64) (sy : Nat → Int64) (sm : Nat → Int64) (sd : Nat → Int64) (mi : Nat → Int64) (yr : Int64) (mo : Int32) (dy : Int32) (p1 : Int32) (p2 : Int32)  : ZM l yX3_orderMonths wsX3_orderMonths { frames := 2, cells := 0, slots := 0, locals := 45 } [.ref (z 0), .int p1, .int p2] D (zTys cI cJ) (wM cI cJ z co d ti sL bL mD mT sy sm sd mi yr mo dy X) 0 0 (fun v w => v = some (.int (f_X3_orderMonths mi p1 p2)) ∧ w = (wM cI cJ z (s_X3_orderMonths_co p1 p2) d ti sL bL mD mT sy sm sd mi yr mo dy X)) (fun _ _ => False) := by
  refine z_open (own := RX3) hfl (cc := cX3_orderMonths) (maxL := 3) (ret := (some .int)) (lv := [(0, .ref (z 0)), (1, .int p1), (2, .int p2)]) rfl (by decide) rfl rfl (Nat.le_of_ble_eq_true rfl) ?_
  intro p e s m args below meth c A C hno hnm hargs
  have hin : ∀ w ∈ wsX30, w ∈ wsX3_orderMonths := by decide +kernel
  have w1 := C.1.2.2.2.2 (.fieldLink RX3 41 "YearwheelModel" "months" "[J") (by decide +kernel)
  refine z_aload_n C dX3_orderMonths_0 rfl 0 rfl ?_
  refine z_iload_n C dX3_orderMonths_1 rfl 1 rfl ?_
  refine z_si (rest := [.ref (z 0)]) C (c_X3_isSlot l hfl D cI cJ _ p1 ) q_X3_isSlot gX3_orderMonths_X3_isSlot ⟨rfl, rfl⟩ rfl rfl (Nat.le_of_ble_eq_true rfl) ⟨Nat.le_of_ble_eq_true rfl, Nat.le_of_ble_eq_true rfl⟩ ⟨Nat.le_of_ble_eq_true rfl, Nat.le_of_ble_eq_true rfl⟩ dX3_orderMonths_2 ?_
  have K1_0 : f_X3_orderMonths_j1 p1 p2 = 0 → (¬ (f_X3_isSlot p1) = 0) → (¬ (f_X3_isSlot p2) = 0) → ZW p l e { frames := 2, cells := 0, slots := 0, locals := 45 } s m args below meth c 3 D (zTys cI cJ) A (zE D (zTys cI cJ) A below args s (fun v w => v = some (.int (f_X3_orderMonths mi p1 p2)) ∧ w = (wM cI cJ z (s_X3_orderMonths_co p1 p2) d ti sL bL mD mT sy sm sd mi yr mo dy X)) (fun _ _ => False) 0 0) 0 0 (wM cI cJ z co d ti sL bL mD mT sy sm sd mi yr mo dy X) 20 [(0, .ref (z 0)), (1, .int p1), (2, .int p2)] [.int 0, .ref (z 0)] := by
    intro h3 h4 h5
    refine z_wi (ws' := (wM cI cJ z (s_X3_fails_co 0) d ti sL bL mD mT sy sm sd mi yr mo dy X)) (rest := []) (ci := 3) (q0 := 0) C (c_X3_fails l hfl D cI cJ X z co d ti sL bL mD mT sy sm sd mi yr mo dy (0 : Int32) ) q_X3_fails rfl rfl rfl gX3_orderMonths_X3_fails ⟨rfl, rfl⟩ rfl rfl (Nat.le_of_ble_eq_true rfl) ⟨Nat.le_of_ble_eq_true rfl, Nat.le_of_ble_eq_true rfl⟩ ⟨Nat.le_of_ble_eq_true rfl, Nat.le_of_ble_eq_true rfl⟩ dX3_orderMonths_20 ?_
    refine z_eqst (st' := [.int 0]) (congrArg (fun v => Value.int v :: _) (by decide : (f_X3_fails 0) = (0 : Int32))) ?_
    refine z_if_eq (tgt := 30) C dX3_orderMonths_23 (by decide) (fun _ => ?_) (fun h => absurd (by decide) h)
    refine z_aload_n C dX3_orderMonths_30 rfl 0 rfl ?_
    refine z_get (CC := RX3) (T := TX3) (N := 14) (ci := 3) C hin 0 rfl rfl 10 (by decide) w1 rfl rfl dX3_orderMonths_31 ?_
    refine z_iload_n C dX3_orderMonths_34 rfl 1 rfl ?_
    refine z_lald C 10 1 rfl rfl (vpMSlot h4) dX3_orderMonths_35 ?_
    refine z_aload_n C dX3_orderMonths_36 rfl 0 rfl ?_
    refine z_get (CC := RX3) (T := TX3) (N := 14) (ci := 3) C hin 0 rfl rfl 10 (by decide) w1 rfl rfl dX3_orderMonths_37 ?_
    refine z_iload_n C dX3_orderMonths_40 rfl 2 rfl ?_
    refine z_lald C 10 1 rfl rfl (vpMSlot h5) dX3_orderMonths_41 ?_
    refine z_si (rest := []) C (c_X3_ordered l hfl D cI cJ _ (mi p1.toNatClampNeg) (mi p2.toNatClampNeg) ) q_X3_ordered gX3_orderMonths_X3_ordered ⟨rfl, rfl⟩ rfl rfl (Nat.le_of_ble_eq_true rfl) ⟨Nat.le_of_ble_eq_true rfl, Nat.le_of_ble_eq_true rfl⟩ ⟨Nat.le_of_ble_eq_true rfl, Nat.le_of_ble_eq_true rfl⟩ dX3_orderMonths_42 ?_
    exact z_iret C ⟨congrArg (fun v => some (Value.int v)) (by rw [f_X3_orderMonths, if_pos h3] : (f_X3_ordered (mi p1.toNatClampNeg) (mi p2.toNatClampNeg)) = (f_X3_orderMonths mi p1 p2)), by rw [s_X3_orderMonths_co, if_pos h3]⟩ (by decide) (by decide) dX3_orderMonths_45
  have K1_1 : f_X3_orderMonths_j1 p1 p2 = 1 → ZW p l e { frames := 2, cells := 0, slots := 0, locals := 45 } s m args below meth c 3 D (zTys cI cJ) A (zE D (zTys cI cJ) A below args s (fun v w => v = some (.int (f_X3_orderMonths mi p1 p2)) ∧ w = (wM cI cJ z (s_X3_orderMonths_co p1 p2) d ti sL bL mD mT sy sm sd mi yr mo dy X)) (fun _ _ => False) 0 0) 0 0 (wM cI cJ z co d ti sL bL mD mT sy sm sd mi yr mo dy X) 20 [(0, .ref (z 0)), (1, .int p1), (2, .int p2)] [.int 1, .ref (z 0)] := by
    intro h6
    refine z_wi (ws' := (wM cI cJ z (s_X3_fails_co 1) d ti sL bL mD mT sy sm sd mi yr mo dy X)) (rest := []) (ci := 3) (q0 := 0) C (c_X3_fails l hfl D cI cJ X z co d ti sL bL mD mT sy sm sd mi yr mo dy (1 : Int32) ) q_X3_fails rfl rfl rfl gX3_orderMonths_X3_fails ⟨rfl, rfl⟩ rfl rfl (Nat.le_of_ble_eq_true rfl) ⟨Nat.le_of_ble_eq_true rfl, Nat.le_of_ble_eq_true rfl⟩ ⟨Nat.le_of_ble_eq_true rfl, Nat.le_of_ble_eq_true rfl⟩ dX3_orderMonths_20 ?_
    refine z_eqst (st' := [.int 1]) (congrArg (fun v => Value.int v :: _) (by decide : (f_X3_fails 1) = (1 : Int32))) ?_
    refine z_if_eq (tgt := 30) C dX3_orderMonths_23 (by decide) (fun h => absurd h (by decide)) (fun _ => ?_)
    refine z_iconst (v := 0) C dX3_orderMonths_26 (by decide) ?_
    refine z_goto (tgt := 45) C dX3_orderMonths_27 (by decide) ?_
    exact z_iret C ⟨congrArg (fun v => some (Value.int v)) (by rw [f_X3_orderMonths, if_neg (by rw [h6]; decide : ¬ f_X3_orderMonths_j1 p1 p2 = 0)] : (0 : Int32) = (f_X3_orderMonths mi p1 p2)), by rw [s_X3_orderMonths_co, if_neg (by rw [h6]; decide : ¬ f_X3_orderMonths_j1 p1 p2 = 0)]⟩ (by decide) (by decide) dX3_orderMonths_45
  refine z_if_eq (tgt := 19) C dX3_orderMonths_5 (by decide) (fun h1 => ?_) (fun h1 => ?_)
  · refine z_iconst (v := 1) C dX3_orderMonths_19 (by decide) ?_
    exact K1_1 (by rw [f_X3_orderMonths_j1, if_pos h1]) 
  · refine z_iload_n C dX3_orderMonths_8 rfl 2 rfl ?_
    refine z_si (rest := [.ref (z 0)]) C (c_X3_isSlot l hfl D cI cJ _ p2 ) q_X3_isSlot gX3_orderMonths_X3_isSlot ⟨rfl, rfl⟩ rfl rfl (Nat.le_of_ble_eq_true rfl) ⟨Nat.le_of_ble_eq_true rfl, Nat.le_of_ble_eq_true rfl⟩ ⟨Nat.le_of_ble_eq_true rfl, Nat.le_of_ble_eq_true rfl⟩ dX3_orderMonths_9 ?_
    refine z_if_eq (tgt := 19) C dX3_orderMonths_12 (by decide) (fun h2 => ?_) (fun h2 => ?_)
    · refine z_iconst (v := 1) C dX3_orderMonths_19 (by decide) ?_
      exact K1_1 (by rw [f_X3_orderMonths_j1, if_neg h1, if_pos h2]) 
    · refine z_iconst (v := 0) C dX3_orderMonths_15 (by decide) ?_
      refine z_goto (tgt := 20) C dX3_orderMonths_16 (by decide) ?_
      exact K1_0 (by rw [f_X3_orderMonths_j1, if_neg h1, if_neg h2]) h1 h2
