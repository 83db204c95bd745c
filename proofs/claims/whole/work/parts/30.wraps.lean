def f_L_date (p1 : Int32) (p2 : Int32) (p3 : Int32) (p4 : Int32) : Int32 := (if k_X2_date p1 p2 p3 p4 = 0 then 0 else (if k_X2_date p1 p2 p3 p4 = 1 then 1 else 2))
def s_L_date_d (d : Nat → Int64) (p1 : Int32) (p2 : Int32) (p3 : Int32) (p4 : Int32) : Nat → Int64 := (if k_X2_date p1 p2 p3 p4 = 0 then (s_X2_date_d d p1 p2 p3 p4) else (if k_X2_date p1 p2 p3 p4 = 1 then d else d))
def s_L_date_ou (ou : Nat → Int64) (p1 : Int32) (p2 : Int32) (p3 : Int32) (p4 : Int32) : Nat → Int64 := (if k_X2_date p1 p2 p3 p4 = 0 then (vp_updL ou 0 (f_X2_date p1 p2 p3 p4)) else (if k_X2_date p1 p2 p3 p4 = 1 then ou else ou))
def pre_L_date (p1 : Int32) (p2 : Int32) (p3 : Int32) (p4 : Int32) : Prop := ((¬ k_X2_date p1 p2 p3 p4 = 3))
theorem q_L_date : ZYH yL_date wsL_date cL_date 7 (some .int) 6 [(0, 13, 16, 13), (0, 13, 20, 15)] := ⟨⟨_, rfl⟩, by decide +kernel, by decide +kernel, by decide +kernel⟩
set_option maxHeartbeats 4000000 in
set_option maxRecDepth 100000 in
theorem c_L_date (l : Launch) (hfl : l.stackTraces = false) (D : va_G) (cI cJ : ClassId) (X : va_W) (y : Nat → Nat) (o : Nat) (d : Nat → Int64) (sy : Nat → Int32) (sm : Nat → Int32) (sd : Nat → Int32) (mi : Nat → Int32) (ti : Nat → Int64) (sL : Nat → Int64) (bL : Nat → Int64) (mD : Nat → Int64) (mT : Nat → Int64) (ou : Nat → Int64) (p1 : Int32) (p2 : Int32) (p3 : Int32) (p4 : Int32)  (h_g : pre_L_date p1 p2 p3 p4) : ZM l yL_date wsL_date { frames := 9, cells := 5, slots := 30, locals := 151 } [.ref (y 0), .int p1, .int p2, .int p3, .int p4, .ref o] D (zTys cI cJ) (wY cI cJ y d sy sm sd mi ti sL bL mD mT ((o, .inl (cJ, 1, .inr (.inl ou))) :: X)) 5 30 (fun v w => v = some (.int (f_L_date p1 p2 p3 p4)) ∧ w = (wY cI cJ y (s_L_date_d d p1 p2 p3 p4) sy sm sd mi ti sL bL mD mT ((o, .inl (cJ, 1, .inr (.inl (s_L_date_ou ou p1 p2 p3 p4)))) :: X))) (fun _ _ => False) := by
  refine z_openH (own := RL) hfl (cc := cL_date) (maxL := 7) (ret := (some .int)) (hh := [(0, 13, 16, 13), (0, 13, 20, 15)]) (lv := [(0, .ref (y 0)), (1, .int p1), (2, .int p2), (3, .int p3), (4, .int p4), (5, .ref o)]) rfl (by decide) rfl rfl (Nat.le_of_ble_eq_true rfl) ?_
  intro p e s m args below meth c A C hTab
  have w1 := C.1.2.2.2.2 (.classLink RL 13 "java/lang/IndexOutOfBoundsException") (by decide +kernel)
  have w2 := C.1.2.2.2.2 (.classLink RL 15 "java/lang/IllegalArgumentException") (by decide +kernel)
  have g_0 := h_g
  refine z_aload C dL_date_0 5 rfl ?_
  refine z_iconst (v := 0) C dL_date_2 (by decide) ?_
  refine z_aload_n C dL_date_3 rfl 0 rfl ?_
  refine z_iload_n C dL_date_4 rfl 1 rfl ?_
  refine z_iload_n C dL_date_5 rfl 2 rfl ?_
  refine z_iload_n C dL_date_6 rfl 3 rfl ?_
  refine z_iload C dL_date_7 4 rfl ?_
  refine z_xwl (ws' := (wY cI cJ y (s_X2_date_d d p1 p2 p3 p4) sy sm sd mi ti sL bL mD mT ((o, .inl (cJ, 1, .inr (.inl ou))) :: X))) (rest := [.int 0, .ref o]) (ci := 2) (q0 := 0) C (c_X2_date l hfl D cI cJ ((o, .inl (cJ, 1, .inr (.inl ou))) :: X) y d sy sm sd mi ti sL bL mD mT p1 p2 p3 p4 ) q_X2_date rfl rfl rfl gL_date_X2_date ⟨rfl, rfl⟩ rfl rfl (Nat.le_of_ble_eq_true rfl) ⟨Nat.le_of_ble_eq_true rfl, Nat.le_of_ble_eq_true rfl⟩ ⟨Nat.le_of_ble_eq_true rfl, Nat.le_of_ble_eq_true rfl⟩ dL_date_9 (fun h1 => ?_) (fun E h1 h1_E => ?_)
  · refine z_last C 11 1 rfl rfl (zvpl 0 1 (by decide)) (ws' := (wY cI cJ y (s_X2_date_d d p1 p2 p3 p4) sy sm sd mi ti sL bL mD mT ((o, .inl (cJ, 1, .inr (.inl (vp_updL ou 0 (f_X2_date p1 p2 p3 p4))))) :: X))) rfl dL_date_12 ?_
    refine z_goto (tgt := 24) C dL_date_13 (by decide) ?_
    refine z_iconst (v := 0) C dL_date_24 (by decide) ?_
    exact z_iret C ⟨congrArg (fun v => some (Value.int v)) (by rw [f_L_date, if_pos h1] : (0 : Int32) = (f_L_date p1 p2 p3 p4)), by rw [s_L_date_d, if_pos h1, s_L_date_ou, if_pos h1]⟩ (by decide) (by decide) dL_date_25
  · rcases h1_E with ⟨e1, rfl⟩ | ⟨e2, rfl⟩ | ⟨e3, rfl⟩
    · refine z_catch C hTab [] [(0, 13, 20, 15)] (a := 0) (b := 13) (h := 16) (t := 13) rfl (by decide) (by decide) w1 (C.2.2.2.2.2.1.2.2.1 "java/lang/IndexOutOfBoundsException" (by decide)) (fun _ hq => nomatch hq) (fun q => ?_)
      refine z_astore (lv' := [(6, .ref q), (0, .ref (y 0)), (1, .int p1), (2, .int p2), (3, .int p3), (4, .int p4), (5, .ref o)]) C dL_date_16 (by decide) rfl ?_
      refine z_iconst (v := 1) C dL_date_18 (by decide) ?_
      exact z_iret C ⟨congrArg (fun v => some (Value.int v)) (by rw [f_L_date, if_neg h1, if_pos e1] : (1 : Int32) = (f_L_date p1 p2 p3 p4)), by rw [s_L_date_d, if_neg h1, if_pos e1, s_L_date_ou, if_neg h1, if_pos e1]⟩ (by decide) (by decide) dL_date_19
    · refine z_catch C hTab [(0, 13, 16, 13)] [] (a := 0) (b := 13) (h := 20) (t := 15) rfl (by decide) (by decide) w2 (C.2.2.2.2.2.1.2.2.1 "java/lang/IllegalArgumentException" (by decide)) (fun q hq => ((List.mem_cons.mp hq).elim (fun z => by subst z; exact ⟨by decide, "java/lang/IndexOutOfBoundsException", w1, C.2.2.2.2.2.1.2.1 (_, _) (List.mem_of_getElem? (i := 0) rfl)⟩) (fun hq => (nomatch hq)))) (fun q => ?_)
      refine z_astore (lv' := [(6, .ref q), (0, .ref (y 0)), (1, .int p1), (2, .int p2), (3, .int p3), (4, .int p4), (5, .ref o)]) C dL_date_20 (by decide) rfl ?_
      refine z_iconst (v := 2) C dL_date_22 (by decide) ?_
      exact z_iret C ⟨congrArg (fun v => some (Value.int v)) (by rw [f_L_date, if_neg h1, if_neg (show ¬ k_X2_date p1 p2 p3 p4 = 1 from by rw [e2]; decide)] : (2 : Int32) = (f_L_date p1 p2 p3 p4)), by rw [s_L_date_d, if_neg h1, if_neg (show ¬ k_X2_date p1 p2 p3 p4 = 1 from by rw [e2]; decide), s_L_date_ou, if_neg h1, if_neg (show ¬ k_X2_date p1 p2 p3 p4 = 1 from by rw [e2]; decide)]⟩ (by decide) (by decide) dL_date_23
    · exact absurd e3 (g_0)
def f_L_ofDay (p1 : Int32) (p2 : Int64) : Int32 := (if k_X2_ofDay p1 p2 = 0 then 0 else (if k_X2_ofDay p1 p2 = 1 then 1 else 2))
def s_L_ofDay_d (d : Nat → Int64) (p1 : Int32) (p2 : Int64) : Nat → Int64 := (if k_X2_ofDay p1 p2 = 0 then (s_X2_ofDay_d d p1 p2) else (if k_X2_ofDay p1 p2 = 1 then d else d))
def s_L_ofDay_ou (ou : Nat → Int64) (p1 : Int32) (p2 : Int64) : Nat → Int64 := (if k_X2_ofDay p1 p2 = 0 then (vp_updL ou 0 (((f_X2_ofDay p1 p2)).toInt64)) else (if k_X2_ofDay p1 p2 = 1 then ou else ou))
def pre_L_ofDay (p1 : Int32) (p2 : Int64) : Prop := ((¬ k_X2_ofDay p1 p2 = 2))
theorem q_L_ofDay : ZYH yL_ofDay wsL_ofDay cL_ofDay 6 (some .int) 4 [(0, 11, 14, 13), (0, 11, 18, 21)] := ⟨⟨_, rfl⟩, by decide +kernel, by decide +kernel, by decide +kernel⟩
set_option maxHeartbeats 4000000 in
set_option maxRecDepth 100000 in
theorem c_L_ofDay (l : Launch) (hfl : l.stackTraces = false) (D : va_G) (cI cJ : ClassId) (X : va_W) (y : Nat → Nat) (o : Nat) (d : Nat → Int64) (sy : Nat → Int32) (sm : Nat → Int32) (sd : Nat → Int32) (mi : Nat → Int32) (ti : Nat → Int64) (sL : Nat → Int64) (bL : Nat → Int64) (mD : Nat → Int64) (mT : Nat → Int64) (ou : Nat → Int64) (p1 : Int32) (p2 : Int64)  (h_g : pre_L_ofDay p1 p2) : ZM l yL_ofDay wsL_ofDay { frames := 9, cells := 2, slots := 12, locals := 148 } [.ref (y 0), .int p1, .long p2, .ref o] D (zTys cI cJ) (wY cI cJ y d sy sm sd mi ti sL bL mD mT ((o, .inl (cJ, 1, .inr (.inl ou))) :: X)) 2 12 (fun v w => v = some (.int (f_L_ofDay p1 p2)) ∧ w = (wY cI cJ y (s_L_ofDay_d d p1 p2) sy sm sd mi ti sL bL mD mT ((o, .inl (cJ, 1, .inr (.inl (s_L_ofDay_ou ou p1 p2)))) :: X))) (fun _ _ => False) := by
  refine z_openH (own := RL) hfl (cc := cL_ofDay) (maxL := 6) (ret := (some .int)) (hh := [(0, 11, 14, 13), (0, 11, 18, 21)]) (lv := [(0, .ref (y 0)), (1, .int p1), (2, .long p2), (4, .ref o)]) rfl (by decide) rfl rfl (Nat.le_of_ble_eq_true rfl) ?_
  intro p e s m args below meth c A C hTab
  have w1 := C.1.2.2.2.2 (.classLink RL 13 "java/lang/IndexOutOfBoundsException") (by decide +kernel)
  have w2 := C.1.2.2.2.2 (.classLink RL 21 "java/lang/UnsupportedOperationException") (by decide +kernel)
  have g_0 := h_g
  refine z_aload C dL_ofDay_0 3 rfl ?_
  refine z_iconst (v := 0) C dL_ofDay_2 (by decide) ?_
  refine z_aload_n C dL_ofDay_3 rfl 0 rfl ?_
  refine z_iload_n C dL_ofDay_4 rfl 1 rfl ?_
  refine z_lload_n C dL_ofDay_5 rfl 2 rfl ?_
  refine z_xwi (ws' := (wY cI cJ y (s_X2_ofDay_d d p1 p2) sy sm sd mi ti sL bL mD mT ((o, .inl (cJ, 1, .inr (.inl ou))) :: X))) (rest := [.int 0, .ref o]) (ci := 2) (q0 := 0) C (c_X2_ofDay l hfl D cI cJ ((o, .inl (cJ, 1, .inr (.inl ou))) :: X) y d sy sm sd mi ti sL bL mD mT p1 p2 ) q_X2_ofDay rfl rfl rfl gL_ofDay_X2_ofDay ⟨rfl, rfl⟩ rfl rfl (Nat.le_of_ble_eq_true rfl) ⟨Nat.le_of_ble_eq_true rfl, Nat.le_of_ble_eq_true rfl⟩ ⟨Nat.le_of_ble_eq_true rfl, Nat.le_of_ble_eq_true rfl⟩ dL_ofDay_6 (fun h1 => ?_) (fun E h1 h1_E => ?_)
  · refine z_i2l (v := ((f_X2_ofDay p1 p2)).toInt64) C dL_ofDay_9 rfl ?_
    refine z_last C 11 1 rfl rfl (zvpl 0 1 (by decide)) (ws' := (wY cI cJ y (s_X2_ofDay_d d p1 p2) sy sm sd mi ti sL bL mD mT ((o, .inl (cJ, 1, .inr (.inl (vp_updL ou 0 (((f_X2_ofDay p1 p2)).toInt64))))) :: X))) rfl dL_ofDay_10 ?_
    refine z_goto (tgt := 22) C dL_ofDay_11 (by decide) ?_
    refine z_iconst (v := 0) C dL_ofDay_22 (by decide) ?_
    exact z_iret C ⟨congrArg (fun v => some (Value.int v)) (by rw [f_L_ofDay, if_pos h1] : (0 : Int32) = (f_L_ofDay p1 p2)), by rw [s_L_ofDay_d, if_pos h1, s_L_ofDay_ou, if_pos h1]⟩ (by decide) (by decide) dL_ofDay_23
  · rcases h1_E with ⟨e1, rfl⟩ | ⟨e2, rfl⟩ | ⟨e3, rfl⟩
    · refine z_catch C hTab [] [(0, 11, 18, 21)] (a := 0) (b := 11) (h := 14) (t := 13) rfl (by decide) (by decide) w1 (C.2.2.2.2.2.1.2.2.1 "java/lang/IndexOutOfBoundsException" (by decide)) (fun _ hq => nomatch hq) (fun q => ?_)
      refine z_astore (lv' := [(5, .ref q), (0, .ref (y 0)), (1, .int p1), (2, .long p2), (4, .ref o)]) C dL_ofDay_14 (by decide) rfl ?_
      refine z_iconst (v := 1) C dL_ofDay_16 (by decide) ?_
      exact z_iret C ⟨congrArg (fun v => some (Value.int v)) (by rw [f_L_ofDay, if_neg h1, if_pos e1] : (1 : Int32) = (f_L_ofDay p1 p2)), by rw [s_L_ofDay_d, if_neg h1, if_pos e1, s_L_ofDay_ou, if_neg h1, if_pos e1]⟩ (by decide) (by decide) dL_ofDay_17
    · exact absurd e2 (g_0)
    · refine z_catch C hTab [(0, 11, 14, 13)] [] (a := 0) (b := 11) (h := 18) (t := 21) rfl (by decide) (by decide) w2 (C.2.2.2.2.2.1.2.2.1 "java/lang/UnsupportedOperationException" (by decide)) (fun q hq => ((List.mem_cons.mp hq).elim (fun z => by subst z; exact ⟨by decide, "java/lang/IndexOutOfBoundsException", w1, C.2.2.2.2.2.1.2.1 (_, _) (List.mem_of_getElem? (i := 1) rfl)⟩) (fun hq => (nomatch hq)))) (fun q => ?_)
      refine z_astore (lv' := [(5, .ref q), (0, .ref (y 0)), (1, .int p1), (2, .long p2), (4, .ref o)]) C dL_ofDay_18 (by decide) rfl ?_
      refine z_iconst (v := 2) C dL_ofDay_20 (by decide) ?_
      exact z_iret C ⟨congrArg (fun v => some (Value.int v)) (by rw [f_L_ofDay, if_neg h1, if_neg (show ¬ k_X2_ofDay p1 p2 = 1 from by rw [e3]; decide)] : (2 : Int32) = (f_L_ofDay p1 p2)), by rw [s_L_ofDay_d, if_neg h1, if_neg (show ¬ k_X2_ofDay p1 p2 = 1 from by rw [e3]; decide), s_L_ofDay_ou, if_neg h1, if_neg (show ¬ k_X2_ofDay p1 p2 = 1 from by rw [e3]; decide)]⟩ (by decide) (by decide) dL_ofDay_21
def f_L_day (p1 : Int32) : Int32 := (if k_X2_day p1 = 0 then 0 else 1)
def s_L_day_ou (d : Nat → Int64) (ou : Nat → Int64) (p1 : Int32) : Nat → Int64 := (if k_X2_day p1 = 0 then (vp_updL ou 0 (f_X2_day d p1)) else ou)
def pre_L_day (p1 : Int32) : Prop := ((¬ k_X2_day p1 = 2)) ∧ ((¬ k_X2_day p1 = 3))
theorem q_L_day : ZYH yL_day wsL_day cL_day 4 (some .int) 3 [(0, 8, 11, 13)] := ⟨⟨_, rfl⟩, by decide +kernel, by decide +kernel, by decide +kernel⟩
set_option maxHeartbeats 4000000 in
set_option maxRecDepth 100000 in
theorem c_L_day (l : Launch) (hfl : l.stackTraces = false) (D : va_G) (cI cJ : ClassId) (X : va_W) (y : Nat → Nat) (o : Nat) (d : Nat → Int64) (sy : Nat → Int32) (sm : Nat → Int32) (sd : Nat → Int32) (mi : Nat → Int32) (ti : Nat → Int64) (sL : Nat → Int64) (bL : Nat → Int64) (mD : Nat → Int64) (mT : Nat → Int64) (ou : Nat → Int64) (p1 : Int32)  (h_g : pre_L_day p1) : ZM l yL_day wsL_day { frames := 8, cells := 1, slots := 6, locals := 124 } [.ref (y 0), .int p1, .ref o] D (zTys cI cJ) (wY cI cJ y d sy sm sd mi ti sL bL mD mT ((o, .inl (cJ, 1, .inr (.inl ou))) :: X)) 1 6 (fun v w => v = some (.int (f_L_day p1)) ∧ w = (wY cI cJ y d sy sm sd mi ti sL bL mD mT ((o, .inl (cJ, 1, .inr (.inl (s_L_day_ou d ou p1)))) :: X))) (fun _ _ => False) := by
  refine z_openH (own := RL) hfl (cc := cL_day) (maxL := 4) (ret := (some .int)) (hh := [(0, 8, 11, 13)]) (lv := [(0, .ref (y 0)), (1, .int p1), (2, .ref o)]) rfl (by decide) rfl rfl (Nat.le_of_ble_eq_true rfl) ?_
  intro p e s m args below meth c A C hTab
  have w1 := C.1.2.2.2.2 (.classLink RL 13 "java/lang/IndexOutOfBoundsException") (by decide +kernel)
  obtain ⟨g_0, g_1⟩ := h_g
  refine z_aload_n C dL_day_0 rfl 2 rfl ?_
  refine z_iconst (v := 0) C dL_day_1 (by decide) ?_
  refine z_aload_n C dL_day_2 rfl 0 rfl ?_
  refine z_iload_n C dL_day_3 rfl 1 rfl ?_
  refine z_xwl (ws' := (wY cI cJ y d sy sm sd mi ti sL bL mD mT ((o, .inl (cJ, 1, .inr (.inl ou))) :: X))) (rest := [.int 0, .ref o]) (ci := 2) (q0 := 0) C (c_X2_day l hfl D cI cJ ((o, .inl (cJ, 1, .inr (.inl ou))) :: X) y d sy sm sd mi ti sL bL mD mT p1 ) q_X2_day rfl rfl rfl gL_day_X2_day ⟨rfl, rfl⟩ rfl rfl (Nat.le_of_ble_eq_true rfl) ⟨Nat.le_of_ble_eq_true rfl, Nat.le_of_ble_eq_true rfl⟩ ⟨Nat.le_of_ble_eq_true rfl, Nat.le_of_ble_eq_true rfl⟩ dL_day_4 (fun h1 => ?_) (fun E h1 h1_E => ?_)
  · refine z_last C 11 1 rfl rfl (zvpl 0 1 (by decide)) (ws' := (wY cI cJ y d sy sm sd mi ti sL bL mD mT ((o, .inl (cJ, 1, .inr (.inl (vp_updL ou 0 (f_X2_day d p1))))) :: X))) rfl dL_day_7 ?_
    refine z_goto (tgt := 14) C dL_day_8 (by decide) ?_
    refine z_iconst (v := 0) C dL_day_14 (by decide) ?_
    exact z_iret C ⟨congrArg (fun v => some (Value.int v)) (by rw [f_L_day, if_pos h1] : (0 : Int32) = (f_L_day p1)), by rw [s_L_day_ou, if_pos h1]⟩ (by decide) (by decide) dL_day_15
  · rcases h1_E with ⟨e1, rfl⟩ | ⟨e2, rfl⟩ | ⟨e3, rfl⟩
    · refine z_catch C hTab [] [] (a := 0) (b := 8) (h := 11) (t := 13) rfl (by decide) (by decide) w1 (C.2.2.2.2.2.1.2.2.1 "java/lang/IndexOutOfBoundsException" (by decide)) (fun _ hq => nomatch hq) (fun q => ?_)
      refine z_astore_n (lv' := [(3, .ref q), (0, .ref (y 0)), (1, .int p1), (2, .ref o)]) C dL_day_11 rfl (by decide) rfl ?_
      refine z_iconst (v := 1) C dL_day_12 (by decide) ?_
      exact z_iret C ⟨congrArg (fun v => some (Value.int v)) (by rw [f_L_day, if_neg h1] : (1 : Int32) = (f_L_day p1)), by rw [s_L_day_ou, if_neg h1]⟩ (by decide) (by decide) dL_day_13
    · exact absurd e2 (g_0)
    · exact absurd e3 (g_1)
def f_L_part (d : Nat → Int64) (p1 : Int32) (p2 : Int32) : Int32 := (if k_X2_part d p1 p2 = 0 then 0 else (if k_X2_part d p1 p2 = 1 then 1 else 2))
def s_L_part_ou (d : Nat → Int64) (ou : Nat → Int64) (p1 : Int32) (p2 : Int32) : Nat → Int64 := (if k_X2_part d p1 p2 = 0 then (vp_updL ou 0 (((f_X2_part d p1 p2)).toInt64)) else (if k_X2_part d p1 p2 = 1 then ou else ou))
def pre_L_part (d : Nat → Int64) (p1 : Int32) (p2 : Int32) : Prop := ((¬ k_X2_part d p1 p2 = 3))
theorem q_L_part : ZYH yL_part wsL_part cL_part 5 (some .int) 4 [(0, 10, 13, 13), (0, 10, 17, 15)] := ⟨⟨_, rfl⟩, by decide +kernel, by decide +kernel, by decide +kernel⟩
set_option maxHeartbeats 4000000 in
set_option maxRecDepth 100000 in
theorem c_L_part (l : Launch) (hfl : l.stackTraces = false) (D : va_G) (cI cJ : ClassId) (X : va_W) (y : Nat → Nat) (o : Nat) (d : Nat → Int64) (sy : Nat → Int32) (sm : Nat → Int32) (sd : Nat → Int32) (mi : Nat → Int32) (ti : Nat → Int64) (sL : Nat → Int64) (bL : Nat → Int64) (mD : Nat → Int64) (mT : Nat → Int64) (ou : Nat → Int64) (p1 : Int32) (p2 : Int32)  (h_g : pre_L_part d p1 p2) : ZM l yL_part wsL_part { frames := 8, cells := 2, slots := 12, locals := 144 } [.ref (y 0), .int p1, .int p2, .ref o] D (zTys cI cJ) (wY cI cJ y d sy sm sd mi ti sL bL mD mT ((o, .inl (cJ, 1, .inr (.inl ou))) :: X)) 2 12 (fun v w => v = some (.int (f_L_part d p1 p2)) ∧ w = (wY cI cJ y d sy sm sd mi ti sL bL mD mT ((o, .inl (cJ, 1, .inr (.inl (s_L_part_ou d ou p1 p2)))) :: X))) (fun _ _ => False) := by
  refine z_openH (own := RL) hfl (cc := cL_part) (maxL := 5) (ret := (some .int)) (hh := [(0, 10, 13, 13), (0, 10, 17, 15)]) (lv := [(0, .ref (y 0)), (1, .int p1), (2, .int p2), (3, .ref o)]) rfl (by decide) rfl rfl (Nat.le_of_ble_eq_true rfl) ?_
  intro p e s m args below meth c A C hTab
  have w1 := C.1.2.2.2.2 (.classLink RL 13 "java/lang/IndexOutOfBoundsException") (by decide +kernel)
  have w2 := C.1.2.2.2.2 (.classLink RL 15 "java/lang/IllegalArgumentException") (by decide +kernel)
  have g_0 := h_g
  refine z_aload_n C dL_part_0 rfl 3 rfl ?_
  refine z_iconst (v := 0) C dL_part_1 (by decide) ?_
  refine z_aload_n C dL_part_2 rfl 0 rfl ?_
  refine z_iload_n C dL_part_3 rfl 1 rfl ?_
  refine z_iload_n C dL_part_4 rfl 2 rfl ?_
  refine z_xwi (ws' := (wY cI cJ y d sy sm sd mi ti sL bL mD mT ((o, .inl (cJ, 1, .inr (.inl ou))) :: X))) (rest := [.int 0, .ref o]) (ci := 2) (q0 := 0) C (c_X2_part l hfl D cI cJ ((o, .inl (cJ, 1, .inr (.inl ou))) :: X) y d sy sm sd mi ti sL bL mD mT p1 p2 ) q_X2_part rfl rfl rfl gL_part_X2_part ⟨rfl, rfl⟩ rfl rfl (Nat.le_of_ble_eq_true rfl) ⟨Nat.le_of_ble_eq_true rfl, Nat.le_of_ble_eq_true rfl⟩ ⟨Nat.le_of_ble_eq_true rfl, Nat.le_of_ble_eq_true rfl⟩ dL_part_5 (fun h1 => ?_) (fun E h1 h1_E => ?_)
  · refine z_i2l (v := ((f_X2_part d p1 p2)).toInt64) C dL_part_8 rfl ?_
    refine z_last C 11 1 rfl rfl (zvpl 0 1 (by decide)) (ws' := (wY cI cJ y d sy sm sd mi ti sL bL mD mT ((o, .inl (cJ, 1, .inr (.inl (vp_updL ou 0 (((f_X2_part d p1 p2)).toInt64))))) :: X))) rfl dL_part_9 ?_
    refine z_goto (tgt := 21) C dL_part_10 (by decide) ?_
    refine z_iconst (v := 0) C dL_part_21 (by decide) ?_
    exact z_iret C ⟨congrArg (fun v => some (Value.int v)) (by rw [f_L_part, if_pos h1] : (0 : Int32) = (f_L_part d p1 p2)), by rw [s_L_part_ou, if_pos h1]⟩ (by decide) (by decide) dL_part_22
  · rcases h1_E with ⟨e1, rfl⟩ | ⟨e2, rfl⟩ | ⟨e3, rfl⟩
    · refine z_catch C hTab [] [(0, 10, 17, 15)] (a := 0) (b := 10) (h := 13) (t := 13) rfl (by decide) (by decide) w1 (C.2.2.2.2.2.1.2.2.1 "java/lang/IndexOutOfBoundsException" (by decide)) (fun _ hq => nomatch hq) (fun q => ?_)
      refine z_astore (lv' := [(4, .ref q), (0, .ref (y 0)), (1, .int p1), (2, .int p2), (3, .ref o)]) C dL_part_13 (by decide) rfl ?_
      refine z_iconst (v := 1) C dL_part_15 (by decide) ?_
      exact z_iret C ⟨congrArg (fun v => some (Value.int v)) (by rw [f_L_part, if_neg h1, if_pos e1] : (1 : Int32) = (f_L_part d p1 p2)), by rw [s_L_part_ou, if_neg h1, if_pos e1]⟩ (by decide) (by decide) dL_part_16
    · refine z_catch C hTab [(0, 10, 13, 13)] [] (a := 0) (b := 10) (h := 17) (t := 15) rfl (by decide) (by decide) w2 (C.2.2.2.2.2.1.2.2.1 "java/lang/IllegalArgumentException" (by decide)) (fun q hq => ((List.mem_cons.mp hq).elim (fun z => by subst z; exact ⟨by decide, "java/lang/IndexOutOfBoundsException", w1, C.2.2.2.2.2.1.2.1 (_, _) (List.mem_of_getElem? (i := 0) rfl)⟩) (fun hq => (nomatch hq)))) (fun q => ?_)
      refine z_astore (lv' := [(4, .ref q), (0, .ref (y 0)), (1, .int p1), (2, .int p2), (3, .ref o)]) C dL_part_17 (by decide) rfl ?_
      refine z_iconst (v := 2) C dL_part_19 (by decide) ?_
      exact z_iret C ⟨congrArg (fun v => some (Value.int v)) (by rw [f_L_part, if_neg h1, if_neg (show ¬ k_X2_part d p1 p2 = 1 from by rw [e2]; decide)] : (2 : Int32) = (f_L_part d p1 p2)), by rw [s_L_part_ou, if_neg h1, if_neg (show ¬ k_X2_part d p1 p2 = 1 from by rw [e2]; decide)]⟩ (by decide) (by decide) dL_part_20
    · exact absurd e3 (g_0)
def f_L_move (d : Nat → Int64) (p1 : Int32) (p2 : Int32) (p3 : Int32) (p4 : Int32) : Int32 := (if k_X2_move d p1 p2 p3 p4 = 0 then 0 else (if k_X2_move d p1 p2 p3 p4 = 1 then 1 else (if k_X2_move d p1 p2 p3 p4 = 2 then 2 else 3)))
def s_L_move_d (d : Nat → Int64) (p1 : Int32) (p2 : Int32) (p3 : Int32) (p4 : Int32) : Nat → Int64 := (if k_X2_move d p1 p2 p3 p4 = 0 then (s_X2_move_d d p1 p2 p3 p4) else (if k_X2_move d p1 p2 p3 p4 = 1 then d else (if k_X2_move d p1 p2 p3 p4 = 2 then d else d)))
def s_L_move_ou (d : Nat → Int64) (ou : Nat → Int64) (p1 : Int32) (p2 : Int32) (p3 : Int32) (p4 : Int32) : Nat → Int64 := (if k_X2_move d p1 p2 p3 p4 = 0 then (vp_updL ou 0 (f_X2_move d p1 p2 p3 p4)) else (if k_X2_move d p1 p2 p3 p4 = 1 then ou else (if k_X2_move d p1 p2 p3 p4 = 2 then ou else ou)))
theorem q_L_move : ZYH yL_move wsL_move cL_move 7 (some .int) 6 [(0, 13, 16, 13), (0, 13, 20, 15), (0, 13, 24, 21)] := ⟨⟨_, rfl⟩, by decide +kernel, by decide +kernel, by decide +kernel⟩
set_option maxHeartbeats 4000000 in
set_option maxRecDepth 100000 in
theorem c_L_move (l : Launch) (hfl : l.stackTraces = false) (D : va_G) (cI cJ : ClassId) (X : va_W) (y : Nat → Nat) (o : Nat) (d : Nat → Int64) (sy : Nat → Int32) (sm : Nat → Int32) (sd : Nat → Int32) (mi : Nat → Int32) (ti : Nat → Int64) (sL : Nat → Int64) (bL : Nat → Int64) (mD : Nat → Int64) (mT : Nat → Int64) (ou : Nat → Int64) (p1 : Int32) (p2 : Int32) (p3 : Int32) (p4 : Int32)  : ZM l yL_move wsL_move { frames := 9, cells := 5, slots := 30, locals := 170 } [.ref (y 0), .int p1, .int p2, .int p3, .int p4, .ref o] D (zTys cI cJ) (wY cI cJ y d sy sm sd mi ti sL bL mD mT ((o, .inl (cJ, 1, .inr (.inl ou))) :: X)) 5 30 (fun v w => v = some (.int (f_L_move d p1 p2 p3 p4)) ∧ w = (wY cI cJ y (s_L_move_d d p1 p2 p3 p4) sy sm sd mi ti sL bL mD mT ((o, .inl (cJ, 1, .inr (.inl (s_L_move_ou d ou p1 p2 p3 p4)))) :: X))) (fun _ _ => False) := by
  refine z_openH (own := RL) hfl (cc := cL_move) (maxL := 7) (ret := (some .int)) (hh := [(0, 13, 16, 13), (0, 13, 20, 15), (0, 13, 24, 21)]) (lv := [(0, .ref (y 0)), (1, .int p1), (2, .int p2), (3, .int p3), (4, .int p4), (5, .ref o)]) rfl (by decide) rfl rfl (Nat.le_of_ble_eq_true rfl) ?_
  intro p e s m args below meth c A C hTab
  have w1 := C.1.2.2.2.2 (.classLink RL 13 "java/lang/IndexOutOfBoundsException") (by decide +kernel)
  have w2 := C.1.2.2.2.2 (.classLink RL 15 "java/lang/IllegalArgumentException") (by decide +kernel)
  have w3 := C.1.2.2.2.2 (.classLink RL 21 "java/lang/UnsupportedOperationException") (by decide +kernel)
  refine z_aload C dL_move_0 5 rfl ?_
  refine z_iconst (v := 0) C dL_move_2 (by decide) ?_
  refine z_aload_n C dL_move_3 rfl 0 rfl ?_
  refine z_iload_n C dL_move_4 rfl 1 rfl ?_
  refine z_iload_n C dL_move_5 rfl 2 rfl ?_
  refine z_iload_n C dL_move_6 rfl 3 rfl ?_
  refine z_iload C dL_move_7 4 rfl ?_
  refine z_xwl (ws' := (wY cI cJ y (s_X2_move_d d p1 p2 p3 p4) sy sm sd mi ti sL bL mD mT ((o, .inl (cJ, 1, .inr (.inl ou))) :: X))) (rest := [.int 0, .ref o]) (ci := 2) (q0 := 0) C (c_X2_move l hfl D cI cJ ((o, .inl (cJ, 1, .inr (.inl ou))) :: X) y d sy sm sd mi ti sL bL mD mT p1 p2 p3 p4 ) q_X2_move rfl rfl rfl gL_move_X2_move ⟨rfl, rfl⟩ rfl rfl (Nat.le_of_ble_eq_true rfl) ⟨Nat.le_of_ble_eq_true rfl, Nat.le_of_ble_eq_true rfl⟩ ⟨Nat.le_of_ble_eq_true rfl, Nat.le_of_ble_eq_true rfl⟩ dL_move_9 (fun h1 => ?_) (fun E h1 h1_E => ?_)
  · refine z_last C 11 1 rfl rfl (zvpl 0 1 (by decide)) (ws' := (wY cI cJ y (s_X2_move_d d p1 p2 p3 p4) sy sm sd mi ti sL bL mD mT ((o, .inl (cJ, 1, .inr (.inl (vp_updL ou 0 (f_X2_move d p1 p2 p3 p4))))) :: X))) rfl dL_move_12 ?_
    refine z_goto (tgt := 28) C dL_move_13 (by decide) ?_
    refine z_iconst (v := 0) C dL_move_28 (by decide) ?_
    exact z_iret C ⟨congrArg (fun v => some (Value.int v)) (by rw [f_L_move, if_pos h1] : (0 : Int32) = (f_L_move d p1 p2 p3 p4)), by rw [s_L_move_d, if_pos h1, s_L_move_ou, if_pos h1]⟩ (by decide) (by decide) dL_move_29
  · rcases h1_E with ⟨e1, rfl⟩ | ⟨e2, rfl⟩ | ⟨e3, rfl⟩
    · refine z_catch C hTab [] [(0, 13, 20, 15), (0, 13, 24, 21)] (a := 0) (b := 13) (h := 16) (t := 13) rfl (by decide) (by decide) w1 (C.2.2.2.2.2.1.2.2.1 "java/lang/IndexOutOfBoundsException" (by decide)) (fun _ hq => nomatch hq) (fun q => ?_)
      refine z_astore (lv' := [(6, .ref q), (0, .ref (y 0)), (1, .int p1), (2, .int p2), (3, .int p3), (4, .int p4), (5, .ref o)]) C dL_move_16 (by decide) rfl ?_
      refine z_iconst (v := 1) C dL_move_18 (by decide) ?_
      exact z_iret C ⟨congrArg (fun v => some (Value.int v)) (by rw [f_L_move, if_neg h1, if_pos e1] : (1 : Int32) = (f_L_move d p1 p2 p3 p4)), by rw [s_L_move_d, if_neg h1, if_pos e1, s_L_move_ou, if_neg h1, if_pos e1]⟩ (by decide) (by decide) dL_move_19
    · refine z_catch C hTab [(0, 13, 16, 13)] [(0, 13, 24, 21)] (a := 0) (b := 13) (h := 20) (t := 15) rfl (by decide) (by decide) w2 (C.2.2.2.2.2.1.2.2.1 "java/lang/IllegalArgumentException" (by decide)) (fun q hq => ((List.mem_cons.mp hq).elim (fun z => by subst z; exact ⟨by decide, "java/lang/IndexOutOfBoundsException", w1, C.2.2.2.2.2.1.2.1 (_, _) (List.mem_of_getElem? (i := 0) rfl)⟩) (fun hq => (nomatch hq)))) (fun q => ?_)
      refine z_astore (lv' := [(6, .ref q), (0, .ref (y 0)), (1, .int p1), (2, .int p2), (3, .int p3), (4, .int p4), (5, .ref o)]) C dL_move_20 (by decide) rfl ?_
      refine z_iconst (v := 2) C dL_move_22 (by decide) ?_
      exact z_iret C ⟨congrArg (fun v => some (Value.int v)) (by rw [f_L_move, if_neg h1, if_neg (show ¬ k_X2_move d p1 p2 p3 p4 = 1 from by rw [e2]; decide), if_pos e2] : (2 : Int32) = (f_L_move d p1 p2 p3 p4)), by rw [s_L_move_d, if_neg h1, if_neg (show ¬ k_X2_move d p1 p2 p3 p4 = 1 from by rw [e2]; decide), if_pos e2, s_L_move_ou, if_neg h1, if_neg (show ¬ k_X2_move d p1 p2 p3 p4 = 1 from by rw [e2]; decide), if_pos e2]⟩ (by decide) (by decide) dL_move_23
    · refine z_catch C hTab [(0, 13, 16, 13), (0, 13, 20, 15)] [] (a := 0) (b := 13) (h := 24) (t := 21) rfl (by decide) (by decide) w3 (C.2.2.2.2.2.1.2.2.1 "java/lang/UnsupportedOperationException" (by decide)) (fun q hq => ((List.mem_cons.mp hq).elim (fun z => by subst z; exact ⟨by decide, "java/lang/IndexOutOfBoundsException", w1, C.2.2.2.2.2.1.2.1 (_, _) (List.mem_of_getElem? (i := 1) rfl)⟩) (fun hq => ((List.mem_cons.mp hq).elim (fun z => by subst z; exact ⟨by decide, "java/lang/IllegalArgumentException", w2, C.2.2.2.2.2.1.2.1 (_, _) (List.mem_of_getElem? (i := 2) rfl)⟩) (fun hq => (nomatch hq)))))) (fun q => ?_)
      refine z_astore (lv' := [(6, .ref q), (0, .ref (y 0)), (1, .int p1), (2, .int p2), (3, .int p3), (4, .int p4), (5, .ref o)]) C dL_move_24 (by decide) rfl ?_
      refine z_iconst (v := 3) C dL_move_26 (by decide) ?_
      exact z_iret C ⟨congrArg (fun v => some (Value.int v)) (by rw [f_L_move, if_neg h1, if_neg (show ¬ k_X2_move d p1 p2 p3 p4 = 1 from by rw [e3]; decide), if_neg (show ¬ k_X2_move d p1 p2 p3 p4 = 2 from by rw [e3]; decide)] : (3 : Int32) = (f_L_move d p1 p2 p3 p4)), by rw [s_L_move_d, if_neg h1, if_neg (show ¬ k_X2_move d p1 p2 p3 p4 = 1 from by rw [e3]; decide), if_neg (show ¬ k_X2_move d p1 p2 p3 p4 = 2 from by rw [e3]; decide), s_L_move_ou, if_neg h1, if_neg (show ¬ k_X2_move d p1 p2 p3 p4 = 1 from by rw [e3]; decide), if_neg (show ¬ k_X2_move d p1 p2 p3 p4 = 2 from by rw [e3]; decide)]⟩ (by decide) (by decide) dL_move_27
def f_L_with (d : Nat → Int64) (p1 : Int32) (p2 : Int32) (p3 : Int32) (p4 : Int32) : Int32 := (if k_X2_with d p1 p2 p3 p4 = 0 then 0 else (if k_X2_with d p1 p2 p3 p4 = 1 then 1 else 2))
def s_L_with_d (d : Nat → Int64) (p1 : Int32) (p2 : Int32) (p3 : Int32) (p4 : Int32) : Nat → Int64 := (if k_X2_with d p1 p2 p3 p4 = 0 then (s_X2_with_d d p1 p2 p3 p4) else (if k_X2_with d p1 p2 p3 p4 = 1 then d else d))
def s_L_with_ou (d : Nat → Int64) (ou : Nat → Int64) (p1 : Int32) (p2 : Int32) (p3 : Int32) (p4 : Int32) : Nat → Int64 := (if k_X2_with d p1 p2 p3 p4 = 0 then (vp_updL ou 0 (f_X2_with d p1 p2 p3 p4)) else (if k_X2_with d p1 p2 p3 p4 = 1 then ou else ou))
def pre_L_with (d : Nat → Int64) (p1 : Int32) (p2 : Int32) (p3 : Int32) (p4 : Int32) : Prop := ((¬ k_X2_with d p1 p2 p3 p4 = 3))
theorem q_L_with : ZYH yL_with wsL_with cL_with 7 (some .int) 6 [(0, 13, 16, 13), (0, 13, 20, 15)] := ⟨⟨_, rfl⟩, by decide +kernel, by decide +kernel, by decide +kernel⟩
set_option maxHeartbeats 4000000 in
set_option maxRecDepth 100000 in
theorem c_L_with (l : Launch) (hfl : l.stackTraces = false) (D : va_G) (cI cJ : ClassId) (X : va_W) (y : Nat → Nat) (o : Nat) (d : Nat → Int64) (sy : Nat → Int32) (sm : Nat → Int32) (sd : Nat → Int32) (mi : Nat → Int32) (ti : Nat → Int64) (sL : Nat → Int64) (bL : Nat → Int64) (mD : Nat → Int64) (mT : Nat → Int64) (ou : Nat → Int64) (p1 : Int32) (p2 : Int32) (p3 : Int32) (p4 : Int32)  (h_g : pre_L_with d p1 p2 p3 p4) : ZM l yL_with wsL_with { frames := 9, cells := 4, slots := 24, locals := 155 } [.ref (y 0), .int p1, .int p2, .int p3, .int p4, .ref o] D (zTys cI cJ) (wY cI cJ y d sy sm sd mi ti sL bL mD mT ((o, .inl (cJ, 1, .inr (.inl ou))) :: X)) 4 24 (fun v w => v = some (.int (f_L_with d p1 p2 p3 p4)) ∧ w = (wY cI cJ y (s_L_with_d d p1 p2 p3 p4) sy sm sd mi ti sL bL mD mT ((o, .inl (cJ, 1, .inr (.inl (s_L_with_ou d ou p1 p2 p3 p4)))) :: X))) (fun _ _ => False) := by
  refine z_openH (own := RL) hfl (cc := cL_with) (maxL := 7) (ret := (some .int)) (hh := [(0, 13, 16, 13), (0, 13, 20, 15)]) (lv := [(0, .ref (y 0)), (1, .int p1), (2, .int p2), (3, .int p3), (4, .int p4), (5, .ref o)]) rfl (by decide) rfl rfl (Nat.le_of_ble_eq_true rfl) ?_
  intro p e s m args below meth c A C hTab
  have w1 := C.1.2.2.2.2 (.classLink RL 13 "java/lang/IndexOutOfBoundsException") (by decide +kernel)
  have w2 := C.1.2.2.2.2 (.classLink RL 15 "java/lang/IllegalArgumentException") (by decide +kernel)
  have g_0 := h_g
  refine z_aload C dL_with_0 5 rfl ?_
  refine z_iconst (v := 0) C dL_with_2 (by decide) ?_
  refine z_aload_n C dL_with_3 rfl 0 rfl ?_
  refine z_iload_n C dL_with_4 rfl 1 rfl ?_
  refine z_iload_n C dL_with_5 rfl 2 rfl ?_
  refine z_iload_n C dL_with_6 rfl 3 rfl ?_
  refine z_iload C dL_with_7 4 rfl ?_
  refine z_xwl (ws' := (wY cI cJ y (s_X2_with_d d p1 p2 p3 p4) sy sm sd mi ti sL bL mD mT ((o, .inl (cJ, 1, .inr (.inl ou))) :: X))) (rest := [.int 0, .ref o]) (ci := 2) (q0 := 0) C (c_X2_with l hfl D cI cJ ((o, .inl (cJ, 1, .inr (.inl ou))) :: X) y d sy sm sd mi ti sL bL mD mT p1 p2 p3 p4 ) q_X2_with rfl rfl rfl gL_with_X2_with ⟨rfl, rfl⟩ rfl rfl (Nat.le_of_ble_eq_true rfl) ⟨Nat.le_of_ble_eq_true rfl, Nat.le_of_ble_eq_true rfl⟩ ⟨Nat.le_of_ble_eq_true rfl, Nat.le_of_ble_eq_true rfl⟩ dL_with_9 (fun h1 => ?_) (fun E h1 h1_E => ?_)
  · refine z_last C 11 1 rfl rfl (zvpl 0 1 (by decide)) (ws' := (wY cI cJ y (s_X2_with_d d p1 p2 p3 p4) sy sm sd mi ti sL bL mD mT ((o, .inl (cJ, 1, .inr (.inl (vp_updL ou 0 (f_X2_with d p1 p2 p3 p4))))) :: X))) rfl dL_with_12 ?_
    refine z_goto (tgt := 24) C dL_with_13 (by decide) ?_
    refine z_iconst (v := 0) C dL_with_24 (by decide) ?_
    exact z_iret C ⟨congrArg (fun v => some (Value.int v)) (by rw [f_L_with, if_pos h1] : (0 : Int32) = (f_L_with d p1 p2 p3 p4)), by rw [s_L_with_d, if_pos h1, s_L_with_ou, if_pos h1]⟩ (by decide) (by decide) dL_with_25
  · rcases h1_E with ⟨e1, rfl⟩ | ⟨e2, rfl⟩ | ⟨e3, rfl⟩
    · refine z_catch C hTab [] [(0, 13, 20, 15)] (a := 0) (b := 13) (h := 16) (t := 13) rfl (by decide) (by decide) w1 (C.2.2.2.2.2.1.2.2.1 "java/lang/IndexOutOfBoundsException" (by decide)) (fun _ hq => nomatch hq) (fun q => ?_)
      refine z_astore (lv' := [(6, .ref q), (0, .ref (y 0)), (1, .int p1), (2, .int p2), (3, .int p3), (4, .int p4), (5, .ref o)]) C dL_with_16 (by decide) rfl ?_
      refine z_iconst (v := 1) C dL_with_18 (by decide) ?_
      exact z_iret C ⟨congrArg (fun v => some (Value.int v)) (by rw [f_L_with, if_neg h1, if_pos e1] : (1 : Int32) = (f_L_with d p1 p2 p3 p4)), by rw [s_L_with_d, if_neg h1, if_pos e1, s_L_with_ou, if_neg h1, if_pos e1]⟩ (by decide) (by decide) dL_with_19
    · refine z_catch C hTab [(0, 13, 16, 13)] [] (a := 0) (b := 13) (h := 20) (t := 15) rfl (by decide) (by decide) w2 (C.2.2.2.2.2.1.2.2.1 "java/lang/IllegalArgumentException" (by decide)) (fun q hq => ((List.mem_cons.mp hq).elim (fun z => by subst z; exact ⟨by decide, "java/lang/IndexOutOfBoundsException", w1, C.2.2.2.2.2.1.2.1 (_, _) (List.mem_of_getElem? (i := 0) rfl)⟩) (fun hq => (nomatch hq)))) (fun q => ?_)
      refine z_astore (lv' := [(6, .ref q), (0, .ref (y 0)), (1, .int p1), (2, .int p2), (3, .int p3), (4, .int p4), (5, .ref o)]) C dL_with_20 (by decide) rfl ?_
      refine z_iconst (v := 2) C dL_with_22 (by decide) ?_
      exact z_iret C ⟨congrArg (fun v => some (Value.int v)) (by rw [f_L_with, if_neg h1, if_neg (show ¬ k_X2_with d p1 p2 p3 p4 = 1 from by rw [e2]; decide)] : (2 : Int32) = (f_L_with d p1 p2 p3 p4)), by rw [s_L_with_d, if_neg h1, if_neg (show ¬ k_X2_with d p1 p2 p3 p4 = 1 from by rw [e2]; decide), s_L_with_ou, if_neg h1, if_neg (show ¬ k_X2_with d p1 p2 p3 p4 = 1 from by rw [e2]; decide)]⟩ (by decide) (by decide) dL_with_23
    · exact absurd e3 (g_0)
def f_L_adjust (d : Nat → Int64) (p1 : Int32) (p2 : Int32) (p3 : Int32) : Int32 := (if k_X2_adjust d p1 p2 p3 = 0 then 0 else (if k_X2_adjust d p1 p2 p3 = 1 then 1 else (if k_X2_adjust d p1 p2 p3 = 2 then 2 else 3)))
def s_L_adjust_d (d : Nat → Int64) (p1 : Int32) (p2 : Int32) (p3 : Int32) : Nat → Int64 := (if k_X2_adjust d p1 p2 p3 = 0 then (s_X2_adjust_d d p1 p2 p3) else (if k_X2_adjust d p1 p2 p3 = 1 then d else (if k_X2_adjust d p1 p2 p3 = 2 then d else d)))
def s_L_adjust_ou (d : Nat → Int64) (ou : Nat → Int64) (p1 : Int32) (p2 : Int32) (p3 : Int32) : Nat → Int64 := (if k_X2_adjust d p1 p2 p3 = 0 then (vp_updL ou 0 (f_X2_adjust d p1 p2 p3)) else (if k_X2_adjust d p1 p2 p3 = 1 then ou else (if k_X2_adjust d p1 p2 p3 = 2 then ou else ou)))
theorem q_L_adjust : ZYH yL_adjust wsL_adjust cL_adjust 6 (some .int) 5 [(0, 11, 14, 13), (0, 11, 18, 15), (0, 11, 22, 21)] := ⟨⟨_, rfl⟩, by decide +kernel, by decide +kernel, by decide +kernel⟩
set_option maxHeartbeats 4000000 in
set_option maxRecDepth 100000 in
theorem c_L_adjust (l : Launch) (hfl : l.stackTraces = false) (D : va_G) (cI cJ : ClassId) (X : va_W) (y : Nat → Nat) (o : Nat) (d : Nat → Int64) (sy : Nat → Int32) (sm : Nat → Int32) (sd : Nat → Int32) (mi : Nat → Int32) (ti : Nat → Int64) (sL : Nat → Int64) (bL : Nat → Int64) (mD : Nat → Int64) (mT : Nat → Int64) (ou : Nat → Int64) (p1 : Int32) (p2 : Int32) (p3 : Int32)  : ZM l yL_adjust wsL_adjust { frames := 9, cells := 3, slots := 18, locals := 152 } [.ref (y 0), .int p1, .int p2, .int p3, .ref o] D (zTys cI cJ) (wY cI cJ y d sy sm sd mi ti sL bL mD mT ((o, .inl (cJ, 1, .inr (.inl ou))) :: X)) 3 18 (fun v w => v = some (.int (f_L_adjust d p1 p2 p3)) ∧ w = (wY cI cJ y (s_L_adjust_d d p1 p2 p3) sy sm sd mi ti sL bL mD mT ((o, .inl (cJ, 1, .inr (.inl (s_L_adjust_ou d ou p1 p2 p3)))) :: X))) (fun _ _ => False) := by
  refine z_openH (own := RL) hfl (cc := cL_adjust) (maxL := 6) (ret := (some .int)) (hh := [(0, 11, 14, 13), (0, 11, 18, 15), (0, 11, 22, 21)]) (lv := [(0, .ref (y 0)), (1, .int p1), (2, .int p2), (3, .int p3), (4, .ref o)]) rfl (by decide) rfl rfl (Nat.le_of_ble_eq_true rfl) ?_
  intro p e s m args below meth c A C hTab
  have w1 := C.1.2.2.2.2 (.classLink RL 13 "java/lang/IndexOutOfBoundsException") (by decide +kernel)
  have w2 := C.1.2.2.2.2 (.classLink RL 15 "java/lang/IllegalArgumentException") (by decide +kernel)
  have w3 := C.1.2.2.2.2 (.classLink RL 21 "java/lang/UnsupportedOperationException") (by decide +kernel)
  refine z_aload C dL_adjust_0 4 rfl ?_
  refine z_iconst (v := 0) C dL_adjust_2 (by decide) ?_
  refine z_aload_n C dL_adjust_3 rfl 0 rfl ?_
  refine z_iload_n C dL_adjust_4 rfl 1 rfl ?_
  refine z_iload_n C dL_adjust_5 rfl 2 rfl ?_
  refine z_iload_n C dL_adjust_6 rfl 3 rfl ?_
  refine z_xwl (ws' := (wY cI cJ y (s_X2_adjust_d d p1 p2 p3) sy sm sd mi ti sL bL mD mT ((o, .inl (cJ, 1, .inr (.inl ou))) :: X))) (rest := [.int 0, .ref o]) (ci := 2) (q0 := 0) C (c_X2_adjust l hfl D cI cJ ((o, .inl (cJ, 1, .inr (.inl ou))) :: X) y d sy sm sd mi ti sL bL mD mT p1 p2 p3 ) q_X2_adjust rfl rfl rfl gL_adjust_X2_adjust ⟨rfl, rfl⟩ rfl rfl (Nat.le_of_ble_eq_true rfl) ⟨Nat.le_of_ble_eq_true rfl, Nat.le_of_ble_eq_true rfl⟩ ⟨Nat.le_of_ble_eq_true rfl, Nat.le_of_ble_eq_true rfl⟩ dL_adjust_7 (fun h1 => ?_) (fun E h1 h1_E => ?_)
  · refine z_last C 11 1 rfl rfl (zvpl 0 1 (by decide)) (ws' := (wY cI cJ y (s_X2_adjust_d d p1 p2 p3) sy sm sd mi ti sL bL mD mT ((o, .inl (cJ, 1, .inr (.inl (vp_updL ou 0 (f_X2_adjust d p1 p2 p3))))) :: X))) rfl dL_adjust_10 ?_
    refine z_goto (tgt := 26) C dL_adjust_11 (by decide) ?_
    refine z_iconst (v := 0) C dL_adjust_26 (by decide) ?_
    exact z_iret C ⟨congrArg (fun v => some (Value.int v)) (by rw [f_L_adjust, if_pos h1] : (0 : Int32) = (f_L_adjust d p1 p2 p3)), by rw [s_L_adjust_d, if_pos h1, s_L_adjust_ou, if_pos h1]⟩ (by decide) (by decide) dL_adjust_27
  · rcases h1_E with ⟨e1, rfl⟩ | ⟨e2, rfl⟩ | ⟨e3, rfl⟩
    · refine z_catch C hTab [] [(0, 11, 18, 15), (0, 11, 22, 21)] (a := 0) (b := 11) (h := 14) (t := 13) rfl (by decide) (by decide) w1 (C.2.2.2.2.2.1.2.2.1 "java/lang/IndexOutOfBoundsException" (by decide)) (fun _ hq => nomatch hq) (fun q => ?_)
      refine z_astore (lv' := [(5, .ref q), (0, .ref (y 0)), (1, .int p1), (2, .int p2), (3, .int p3), (4, .ref o)]) C dL_adjust_14 (by decide) rfl ?_
      refine z_iconst (v := 1) C dL_adjust_16 (by decide) ?_
      exact z_iret C ⟨congrArg (fun v => some (Value.int v)) (by rw [f_L_adjust, if_neg h1, if_pos e1] : (1 : Int32) = (f_L_adjust d p1 p2 p3)), by rw [s_L_adjust_d, if_neg h1, if_pos e1, s_L_adjust_ou, if_neg h1, if_pos e1]⟩ (by decide) (by decide) dL_adjust_17
    · refine z_catch C hTab [(0, 11, 14, 13)] [(0, 11, 22, 21)] (a := 0) (b := 11) (h := 18) (t := 15) rfl (by decide) (by decide) w2 (C.2.2.2.2.2.1.2.2.1 "java/lang/IllegalArgumentException" (by decide)) (fun q hq => ((List.mem_cons.mp hq).elim (fun z => by subst z; exact ⟨by decide, "java/lang/IndexOutOfBoundsException", w1, C.2.2.2.2.2.1.2.1 (_, _) (List.mem_of_getElem? (i := 0) rfl)⟩) (fun hq => (nomatch hq)))) (fun q => ?_)
      refine z_astore (lv' := [(5, .ref q), (0, .ref (y 0)), (1, .int p1), (2, .int p2), (3, .int p3), (4, .ref o)]) C dL_adjust_18 (by decide) rfl ?_
      refine z_iconst (v := 2) C dL_adjust_20 (by decide) ?_
      exact z_iret C ⟨congrArg (fun v => some (Value.int v)) (by rw [f_L_adjust, if_neg h1, if_neg (show ¬ k_X2_adjust d p1 p2 p3 = 1 from by rw [e2]; decide), if_pos e2] : (2 : Int32) = (f_L_adjust d p1 p2 p3)), by rw [s_L_adjust_d, if_neg h1, if_neg (show ¬ k_X2_adjust d p1 p2 p3 = 1 from by rw [e2]; decide), if_pos e2, s_L_adjust_ou, if_neg h1, if_neg (show ¬ k_X2_adjust d p1 p2 p3 = 1 from by rw [e2]; decide), if_pos e2]⟩ (by decide) (by decide) dL_adjust_21
    · refine z_catch C hTab [(0, 11, 14, 13), (0, 11, 18, 15)] [] (a := 0) (b := 11) (h := 22) (t := 21) rfl (by decide) (by decide) w3 (C.2.2.2.2.2.1.2.2.1 "java/lang/UnsupportedOperationException" (by decide)) (fun q hq => ((List.mem_cons.mp hq).elim (fun z => by subst z; exact ⟨by decide, "java/lang/IndexOutOfBoundsException", w1, C.2.2.2.2.2.1.2.1 (_, _) (List.mem_of_getElem? (i := 1) rfl)⟩) (fun hq => ((List.mem_cons.mp hq).elim (fun z => by subst z; exact ⟨by decide, "java/lang/IllegalArgumentException", w2, C.2.2.2.2.2.1.2.1 (_, _) (List.mem_of_getElem? (i := 2) rfl)⟩) (fun hq => (nomatch hq)))))) (fun q => ?_)
      refine z_astore (lv' := [(5, .ref q), (0, .ref (y 0)), (1, .int p1), (2, .int p2), (3, .int p3), (4, .ref o)]) C dL_adjust_22 (by decide) rfl ?_
      refine z_iconst (v := 3) C dL_adjust_24 (by decide) ?_
      exact z_iret C ⟨congrArg (fun v => some (Value.int v)) (by rw [f_L_adjust, if_neg h1, if_neg (show ¬ k_X2_adjust d p1 p2 p3 = 1 from by rw [e3]; decide), if_neg (show ¬ k_X2_adjust d p1 p2 p3 = 2 from by rw [e3]; decide)] : (3 : Int32) = (f_L_adjust d p1 p2 p3)), by rw [s_L_adjust_d, if_neg h1, if_neg (show ¬ k_X2_adjust d p1 p2 p3 = 1 from by rw [e3]; decide), if_neg (show ¬ k_X2_adjust d p1 p2 p3 = 2 from by rw [e3]; decide), s_L_adjust_ou, if_neg h1, if_neg (show ¬ k_X2_adjust d p1 p2 p3 = 1 from by rw [e3]; decide), if_neg (show ¬ k_X2_adjust d p1 p2 p3 = 2 from by rw [e3]; decide)]⟩ (by decide) (by decide) dL_adjust_25
def f_L_weekday (d : Nat → Int64) (p1 : Int32) (p2 : Int32) (p3 : Int32) (p4 : Int32) : Int32 := (if k_X2_weekday d p1 p2 p3 p4 = 0 then 0 else (if k_X2_weekday d p1 p2 p3 p4 = 1 then 1 else (if k_X2_weekday d p1 p2 p3 p4 = 2 then 2 else 3)))
def s_L_weekday_d (d : Nat → Int64) (p1 : Int32) (p2 : Int32) (p3 : Int32) (p4 : Int32) : Nat → Int64 := (if k_X2_weekday d p1 p2 p3 p4 = 0 then (s_X2_weekday_d d p1 p2 p3 p4) else (if k_X2_weekday d p1 p2 p3 p4 = 1 then d else (if k_X2_weekday d p1 p2 p3 p4 = 2 then d else d)))
def s_L_weekday_ou (d : Nat → Int64) (ou : Nat → Int64) (p1 : Int32) (p2 : Int32) (p3 : Int32) (p4 : Int32) : Nat → Int64 := (if k_X2_weekday d p1 p2 p3 p4 = 0 then (vp_updL ou 0 (f_X2_weekday d p1 p2 p3 p4)) else (if k_X2_weekday d p1 p2 p3 p4 = 1 then ou else (if k_X2_weekday d p1 p2 p3 p4 = 2 then ou else ou)))
theorem q_L_weekday : ZYH yL_weekday wsL_weekday cL_weekday 7 (some .int) 6 [(0, 13, 16, 13), (0, 13, 20, 15), (0, 13, 24, 21)] := ⟨⟨_, rfl⟩, by decide +kernel, by decide +kernel, by decide +kernel⟩
set_option maxHeartbeats 4000000 in
set_option maxRecDepth 100000 in
theorem c_L_weekday (l : Launch) (hfl : l.stackTraces = false) (D : va_G) (cI cJ : ClassId) (X : va_W) (y : Nat → Nat) (o : Nat) (d : Nat → Int64) (sy : Nat → Int32) (sm : Nat → Int32) (sd : Nat → Int32) (mi : Nat → Int32) (ti : Nat → Int64) (sL : Nat → Int64) (bL : Nat → Int64) (mD : Nat → Int64) (mT : Nat → Int64) (ou : Nat → Int64) (p1 : Int32) (p2 : Int32) (p3 : Int32) (p4 : Int32)  : ZM l yL_weekday wsL_weekday { frames := 9, cells := 4, slots := 24, locals := 153 } [.ref (y 0), .int p1, .int p2, .int p3, .int p4, .ref o] D (zTys cI cJ) (wY cI cJ y d sy sm sd mi ti sL bL mD mT ((o, .inl (cJ, 1, .inr (.inl ou))) :: X)) 4 24 (fun v w => v = some (.int (f_L_weekday d p1 p2 p3 p4)) ∧ w = (wY cI cJ y (s_L_weekday_d d p1 p2 p3 p4) sy sm sd mi ti sL bL mD mT ((o, .inl (cJ, 1, .inr (.inl (s_L_weekday_ou d ou p1 p2 p3 p4)))) :: X))) (fun _ _ => False) := by
  refine z_openH (own := RL) hfl (cc := cL_weekday) (maxL := 7) (ret := (some .int)) (hh := [(0, 13, 16, 13), (0, 13, 20, 15), (0, 13, 24, 21)]) (lv := [(0, .ref (y 0)), (1, .int p1), (2, .int p2), (3, .int p3), (4, .int p4), (5, .ref o)]) rfl (by decide) rfl rfl (Nat.le_of_ble_eq_true rfl) ?_
  intro p e s m args below meth c A C hTab
  have w1 := C.1.2.2.2.2 (.classLink RL 13 "java/lang/IndexOutOfBoundsException") (by decide +kernel)
  have w2 := C.1.2.2.2.2 (.classLink RL 15 "java/lang/IllegalArgumentException") (by decide +kernel)
  have w3 := C.1.2.2.2.2 (.classLink RL 21 "java/lang/UnsupportedOperationException") (by decide +kernel)
  refine z_aload C dL_weekday_0 5 rfl ?_
  refine z_iconst (v := 0) C dL_weekday_2 (by decide) ?_
  refine z_aload_n C dL_weekday_3 rfl 0 rfl ?_
  refine z_iload_n C dL_weekday_4 rfl 1 rfl ?_
  refine z_iload_n C dL_weekday_5 rfl 2 rfl ?_
  refine z_iload_n C dL_weekday_6 rfl 3 rfl ?_
  refine z_iload C dL_weekday_7 4 rfl ?_
  refine z_xwl (ws' := (wY cI cJ y (s_X2_weekday_d d p1 p2 p3 p4) sy sm sd mi ti sL bL mD mT ((o, .inl (cJ, 1, .inr (.inl ou))) :: X))) (rest := [.int 0, .ref o]) (ci := 2) (q0 := 0) C (c_X2_weekday l hfl D cI cJ ((o, .inl (cJ, 1, .inr (.inl ou))) :: X) y d sy sm sd mi ti sL bL mD mT p1 p2 p3 p4 ) q_X2_weekday rfl rfl rfl gL_weekday_X2_weekday ⟨rfl, rfl⟩ rfl rfl (Nat.le_of_ble_eq_true rfl) ⟨Nat.le_of_ble_eq_true rfl, Nat.le_of_ble_eq_true rfl⟩ ⟨Nat.le_of_ble_eq_true rfl, Nat.le_of_ble_eq_true rfl⟩ dL_weekday_9 (fun h1 => ?_) (fun E h1 h1_E => ?_)
  · refine z_last C 11 1 rfl rfl (zvpl 0 1 (by decide)) (ws' := (wY cI cJ y (s_X2_weekday_d d p1 p2 p3 p4) sy sm sd mi ti sL bL mD mT ((o, .inl (cJ, 1, .inr (.inl (vp_updL ou 0 (f_X2_weekday d p1 p2 p3 p4))))) :: X))) rfl dL_weekday_12 ?_
    refine z_goto (tgt := 28) C dL_weekday_13 (by decide) ?_
    refine z_iconst (v := 0) C dL_weekday_28 (by decide) ?_
    exact z_iret C ⟨congrArg (fun v => some (Value.int v)) (by rw [f_L_weekday, if_pos h1] : (0 : Int32) = (f_L_weekday d p1 p2 p3 p4)), by rw [s_L_weekday_d, if_pos h1, s_L_weekday_ou, if_pos h1]⟩ (by decide) (by decide) dL_weekday_29
  · rcases h1_E with ⟨e1, rfl⟩ | ⟨e2, rfl⟩ | ⟨e3, rfl⟩
    · refine z_catch C hTab [] [(0, 13, 20, 15), (0, 13, 24, 21)] (a := 0) (b := 13) (h := 16) (t := 13) rfl (by decide) (by decide) w1 (C.2.2.2.2.2.1.2.2.1 "java/lang/IndexOutOfBoundsException" (by decide)) (fun _ hq => nomatch hq) (fun q => ?_)
      refine z_astore (lv' := [(6, .ref q), (0, .ref (y 0)), (1, .int p1), (2, .int p2), (3, .int p3), (4, .int p4), (5, .ref o)]) C dL_weekday_16 (by decide) rfl ?_
      refine z_iconst (v := 1) C dL_weekday_18 (by decide) ?_
      exact z_iret C ⟨congrArg (fun v => some (Value.int v)) (by rw [f_L_weekday, if_neg h1, if_pos e1] : (1 : Int32) = (f_L_weekday d p1 p2 p3 p4)), by rw [s_L_weekday_d, if_neg h1, if_pos e1, s_L_weekday_ou, if_neg h1, if_pos e1]⟩ (by decide) (by decide) dL_weekday_19
    · refine z_catch C hTab [(0, 13, 16, 13)] [(0, 13, 24, 21)] (a := 0) (b := 13) (h := 20) (t := 15) rfl (by decide) (by decide) w2 (C.2.2.2.2.2.1.2.2.1 "java/lang/IllegalArgumentException" (by decide)) (fun q hq => ((List.mem_cons.mp hq).elim (fun z => by subst z; exact ⟨by decide, "java/lang/IndexOutOfBoundsException", w1, C.2.2.2.2.2.1.2.1 (_, _) (List.mem_of_getElem? (i := 0) rfl)⟩) (fun hq => (nomatch hq)))) (fun q => ?_)
      refine z_astore (lv' := [(6, .ref q), (0, .ref (y 0)), (1, .int p1), (2, .int p2), (3, .int p3), (4, .int p4), (5, .ref o)]) C dL_weekday_20 (by decide) rfl ?_
      refine z_iconst (v := 2) C dL_weekday_22 (by decide) ?_
      exact z_iret C ⟨congrArg (fun v => some (Value.int v)) (by rw [f_L_weekday, if_neg h1, if_neg (show ¬ k_X2_weekday d p1 p2 p3 p4 = 1 from by rw [e2]; decide), if_pos e2] : (2 : Int32) = (f_L_weekday d p1 p2 p3 p4)), by rw [s_L_weekday_d, if_neg h1, if_neg (show ¬ k_X2_weekday d p1 p2 p3 p4 = 1 from by rw [e2]; decide), if_pos e2, s_L_weekday_ou, if_neg h1, if_neg (show ¬ k_X2_weekday d p1 p2 p3 p4 = 1 from by rw [e2]; decide), if_pos e2]⟩ (by decide) (by decide) dL_weekday_23
    · refine z_catch C hTab [(0, 13, 16, 13), (0, 13, 20, 15)] [] (a := 0) (b := 13) (h := 24) (t := 21) rfl (by decide) (by decide) w3 (C.2.2.2.2.2.1.2.2.1 "java/lang/UnsupportedOperationException" (by decide)) (fun q hq => ((List.mem_cons.mp hq).elim (fun z => by subst z; exact ⟨by decide, "java/lang/IndexOutOfBoundsException", w1, C.2.2.2.2.2.1.2.1 (_, _) (List.mem_of_getElem? (i := 1) rfl)⟩) (fun hq => ((List.mem_cons.mp hq).elim (fun z => by subst z; exact ⟨by decide, "java/lang/IllegalArgumentException", w2, C.2.2.2.2.2.1.2.1 (_, _) (List.mem_of_getElem? (i := 2) rfl)⟩) (fun hq => (nomatch hq)))))) (fun q => ?_)
      refine z_astore (lv' := [(6, .ref q), (0, .ref (y 0)), (1, .int p1), (2, .int p2), (3, .int p3), (4, .int p4), (5, .ref o)]) C dL_weekday_24 (by decide) rfl ?_
      refine z_iconst (v := 3) C dL_weekday_26 (by decide) ?_
      exact z_iret C ⟨congrArg (fun v => some (Value.int v)) (by rw [f_L_weekday, if_neg h1, if_neg (show ¬ k_X2_weekday d p1 p2 p3 p4 = 1 from by rw [e3]; decide), if_neg (show ¬ k_X2_weekday d p1 p2 p3 p4 = 2 from by rw [e3]; decide)] : (3 : Int32) = (f_L_weekday d p1 p2 p3 p4)), by rw [s_L_weekday_d, if_neg h1, if_neg (show ¬ k_X2_weekday d p1 p2 p3 p4 = 1 from by rw [e3]; decide), if_neg (show ¬ k_X2_weekday d p1 p2 p3 p4 = 2 from by rw [e3]; decide), s_L_weekday_ou, if_neg h1, if_neg (show ¬ k_X2_weekday d p1 p2 p3 p4 = 1 from by rw [e3]; decide), if_neg (show ¬ k_X2_weekday d p1 p2 p3 p4 = 2 from by rw [e3]; decide)]⟩ (by decide) (by decide) dL_weekday_27
def f_L_inMonth (d : Nat → Int64) (p1 : Int32) (p2 : Int32) (p3 : Int32) (p4 : Int32) : Int32 := (if k_X2_inMonth d p1 p2 p3 p4 = 0 then 0 else (if k_X2_inMonth d p1 p2 p3 p4 = 1 then 1 else (if k_X2_inMonth d p1 p2 p3 p4 = 2 then 2 else 3)))
def s_L_inMonth_d (d : Nat → Int64) (p1 : Int32) (p2 : Int32) (p3 : Int32) (p4 : Int32) : Nat → Int64 := (if k_X2_inMonth d p1 p2 p3 p4 = 0 then (s_X2_inMonth_d d p1 p2 p3 p4) else (if k_X2_inMonth d p1 p2 p3 p4 = 1 then d else (if k_X2_inMonth d p1 p2 p3 p4 = 2 then d else d)))
def s_L_inMonth_ou (d : Nat → Int64) (ou : Nat → Int64) (p1 : Int32) (p2 : Int32) (p3 : Int32) (p4 : Int32) : Nat → Int64 := (if k_X2_inMonth d p1 p2 p3 p4 = 0 then (vp_updL ou 0 (f_X2_inMonth d p1 p2 p3 p4)) else (if k_X2_inMonth d p1 p2 p3 p4 = 1 then ou else (if k_X2_inMonth d p1 p2 p3 p4 = 2 then ou else ou)))
theorem q_L_inMonth : ZYH yL_inMonth wsL_inMonth cL_inMonth 7 (some .int) 6 [(0, 13, 16, 13), (0, 13, 20, 15), (0, 13, 24, 21)] := ⟨⟨_, rfl⟩, by decide +kernel, by decide +kernel, by decide +kernel⟩
set_option maxHeartbeats 4000000 in
set_option maxRecDepth 100000 in
theorem c_L_inMonth (l : Launch) (hfl : l.stackTraces = false) (D : va_G) (cI cJ : ClassId) (X : va_W) (y : Nat → Nat) (o : Nat) (d : Nat → Int64) (sy : Nat → Int32) (sm : Nat → Int32) (sd : Nat → Int32) (mi : Nat → Int32) (ti : Nat → Int64) (sL : Nat → Int64) (bL : Nat → Int64) (mD : Nat → Int64) (mT : Nat → Int64) (ou : Nat → Int64) (p1 : Int32) (p2 : Int32) (p3 : Int32) (p4 : Int32)  : ZM l yL_inMonth wsL_inMonth { frames := 9, cells := 5, slots := 30, locals := 153 } [.ref (y 0), .int p1, .int p2, .int p3, .int p4, .ref o] D (zTys cI cJ) (wY cI cJ y d sy sm sd mi ti sL bL mD mT ((o, .inl (cJ, 1, .inr (.inl ou))) :: X)) 5 30 (fun v w => v = some (.int (f_L_inMonth d p1 p2 p3 p4)) ∧ w = (wY cI cJ y (s_L_inMonth_d d p1 p2 p3 p4) sy sm sd mi ti sL bL mD mT ((o, .inl (cJ, 1, .inr (.inl (s_L_inMonth_ou d ou p1 p2 p3 p4)))) :: X))) (fun _ _ => False) := by
  refine z_openH (own := RL) hfl (cc := cL_inMonth) (maxL := 7) (ret := (some .int)) (hh := [(0, 13, 16, 13), (0, 13, 20, 15), (0, 13, 24, 21)]) (lv := [(0, .ref (y 0)), (1, .int p1), (2, .int p2), (3, .int p3), (4, .int p4), (5, .ref o)]) rfl (by decide) rfl rfl (Nat.le_of_ble_eq_true rfl) ?_
  intro p e s m args below meth c A C hTab
  have w1 := C.1.2.2.2.2 (.classLink RL 13 "java/lang/IndexOutOfBoundsException") (by decide +kernel)
  have w2 := C.1.2.2.2.2 (.classLink RL 15 "java/lang/IllegalArgumentException") (by decide +kernel)
  have w3 := C.1.2.2.2.2 (.classLink RL 21 "java/lang/UnsupportedOperationException") (by decide +kernel)
  refine z_aload C dL_inMonth_0 5 rfl ?_
  refine z_iconst (v := 0) C dL_inMonth_2 (by decide) ?_
  refine z_aload_n C dL_inMonth_3 rfl 0 rfl ?_
  refine z_iload_n C dL_inMonth_4 rfl 1 rfl ?_
  refine z_iload_n C dL_inMonth_5 rfl 2 rfl ?_
  refine z_iload_n C dL_inMonth_6 rfl 3 rfl ?_
  refine z_iload C dL_inMonth_7 4 rfl ?_
  refine z_xwl (ws' := (wY cI cJ y (s_X2_inMonth_d d p1 p2 p3 p4) sy sm sd mi ti sL bL mD mT ((o, .inl (cJ, 1, .inr (.inl ou))) :: X))) (rest := [.int 0, .ref o]) (ci := 2) (q0 := 0) C (c_X2_inMonth l hfl D cI cJ ((o, .inl (cJ, 1, .inr (.inl ou))) :: X) y d sy sm sd mi ti sL bL mD mT p1 p2 p3 p4 ) q_X2_inMonth rfl rfl rfl gL_inMonth_X2_inMonth ⟨rfl, rfl⟩ rfl rfl (Nat.le_of_ble_eq_true rfl) ⟨Nat.le_of_ble_eq_true rfl, Nat.le_of_ble_eq_true rfl⟩ ⟨Nat.le_of_ble_eq_true rfl, Nat.le_of_ble_eq_true rfl⟩ dL_inMonth_9 (fun h1 => ?_) (fun E h1 h1_E => ?_)
  · refine z_last C 11 1 rfl rfl (zvpl 0 1 (by decide)) (ws' := (wY cI cJ y (s_X2_inMonth_d d p1 p2 p3 p4) sy sm sd mi ti sL bL mD mT ((o, .inl (cJ, 1, .inr (.inl (vp_updL ou 0 (f_X2_inMonth d p1 p2 p3 p4))))) :: X))) rfl dL_inMonth_12 ?_
    refine z_goto (tgt := 28) C dL_inMonth_13 (by decide) ?_
    refine z_iconst (v := 0) C dL_inMonth_28 (by decide) ?_
    exact z_iret C ⟨congrArg (fun v => some (Value.int v)) (by rw [f_L_inMonth, if_pos h1] : (0 : Int32) = (f_L_inMonth d p1 p2 p3 p4)), by rw [s_L_inMonth_d, if_pos h1, s_L_inMonth_ou, if_pos h1]⟩ (by decide) (by decide) dL_inMonth_29
  · rcases h1_E with ⟨e1, rfl⟩ | ⟨e2, rfl⟩ | ⟨e3, rfl⟩
    · refine z_catch C hTab [] [(0, 13, 20, 15), (0, 13, 24, 21)] (a := 0) (b := 13) (h := 16) (t := 13) rfl (by decide) (by decide) w1 (C.2.2.2.2.2.1.2.2.1 "java/lang/IndexOutOfBoundsException" (by decide)) (fun _ hq => nomatch hq) (fun q => ?_)
      refine z_astore (lv' := [(6, .ref q), (0, .ref (y 0)), (1, .int p1), (2, .int p2), (3, .int p3), (4, .int p4), (5, .ref o)]) C dL_inMonth_16 (by decide) rfl ?_
      refine z_iconst (v := 1) C dL_inMonth_18 (by decide) ?_
      exact z_iret C ⟨congrArg (fun v => some (Value.int v)) (by rw [f_L_inMonth, if_neg h1, if_pos e1] : (1 : Int32) = (f_L_inMonth d p1 p2 p3 p4)), by rw [s_L_inMonth_d, if_neg h1, if_pos e1, s_L_inMonth_ou, if_neg h1, if_pos e1]⟩ (by decide) (by decide) dL_inMonth_19
    · refine z_catch C hTab [(0, 13, 16, 13)] [(0, 13, 24, 21)] (a := 0) (b := 13) (h := 20) (t := 15) rfl (by decide) (by decide) w2 (C.2.2.2.2.2.1.2.2.1 "java/lang/IllegalArgumentException" (by decide)) (fun q hq => ((List.mem_cons.mp hq).elim (fun z => by subst z; exact ⟨by decide, "java/lang/IndexOutOfBoundsException", w1, C.2.2.2.2.2.1.2.1 (_, _) (List.mem_of_getElem? (i := 0) rfl)⟩) (fun hq => (nomatch hq)))) (fun q => ?_)
      refine z_astore (lv' := [(6, .ref q), (0, .ref (y 0)), (1, .int p1), (2, .int p2), (3, .int p3), (4, .int p4), (5, .ref o)]) C dL_inMonth_20 (by decide) rfl ?_
      refine z_iconst (v := 2) C dL_inMonth_22 (by decide) ?_
      exact z_iret C ⟨congrArg (fun v => some (Value.int v)) (by rw [f_L_inMonth, if_neg h1, if_neg (show ¬ k_X2_inMonth d p1 p2 p3 p4 = 1 from by rw [e2]; decide), if_pos e2] : (2 : Int32) = (f_L_inMonth d p1 p2 p3 p4)), by rw [s_L_inMonth_d, if_neg h1, if_neg (show ¬ k_X2_inMonth d p1 p2 p3 p4 = 1 from by rw [e2]; decide), if_pos e2, s_L_inMonth_ou, if_neg h1, if_neg (show ¬ k_X2_inMonth d p1 p2 p3 p4 = 1 from by rw [e2]; decide), if_pos e2]⟩ (by decide) (by decide) dL_inMonth_23
    · refine z_catch C hTab [(0, 13, 16, 13), (0, 13, 20, 15)] [] (a := 0) (b := 13) (h := 24) (t := 21) rfl (by decide) (by decide) w3 (C.2.2.2.2.2.1.2.2.1 "java/lang/UnsupportedOperationException" (by decide)) (fun q hq => ((List.mem_cons.mp hq).elim (fun z => by subst z; exact ⟨by decide, "java/lang/IndexOutOfBoundsException", w1, C.2.2.2.2.2.1.2.1 (_, _) (List.mem_of_getElem? (i := 1) rfl)⟩) (fun hq => ((List.mem_cons.mp hq).elim (fun z => by subst z; exact ⟨by decide, "java/lang/IllegalArgumentException", w2, C.2.2.2.2.2.1.2.1 (_, _) (List.mem_of_getElem? (i := 2) rfl)⟩) (fun hq => (nomatch hq)))))) (fun q => ?_)
      refine z_astore (lv' := [(6, .ref q), (0, .ref (y 0)), (1, .int p1), (2, .int p2), (3, .int p3), (4, .int p4), (5, .ref o)]) C dL_inMonth_24 (by decide) rfl ?_
      refine z_iconst (v := 3) C dL_inMonth_26 (by decide) ?_
      exact z_iret C ⟨congrArg (fun v => some (Value.int v)) (by rw [f_L_inMonth, if_neg h1, if_neg (show ¬ k_X2_inMonth d p1 p2 p3 p4 = 1 from by rw [e3]; decide), if_neg (show ¬ k_X2_inMonth d p1 p2 p3 p4 = 2 from by rw [e3]; decide)] : (3 : Int32) = (f_L_inMonth d p1 p2 p3 p4)), by rw [s_L_inMonth_d, if_neg h1, if_neg (show ¬ k_X2_inMonth d p1 p2 p3 p4 = 1 from by rw [e3]; decide), if_neg (show ¬ k_X2_inMonth d p1 p2 p3 p4 = 2 from by rw [e3]; decide), s_L_inMonth_ou, if_neg h1, if_neg (show ¬ k_X2_inMonth d p1 p2 p3 p4 = 1 from by rw [e3]; decide), if_neg (show ¬ k_X2_inMonth d p1 p2 p3 p4 = 2 from by rw [e3]; decide)]⟩ (by decide) (by decide) dL_inMonth_27
def f_L_atYear (p1 : Int32) (p2 : Int32) (p3 : Int32) (p4 : Int32) : Int32 := (if k_X2_atYear p1 p2 p3 p4 = 0 then 0 else (if k_X2_atYear p1 p2 p3 p4 = 1 then 1 else 2))
def s_L_atYear_d (d : Nat → Int64) (p1 : Int32) (p2 : Int32) (p3 : Int32) (p4 : Int32) : Nat → Int64 := (if k_X2_atYear p1 p2 p3 p4 = 0 then (s_X2_atYear_d d p1 p2 p3 p4) else (if k_X2_atYear p1 p2 p3 p4 = 1 then d else d))
def s_L_atYear_ou (ou : Nat → Int64) (p1 : Int32) (p2 : Int32) (p3 : Int32) (p4 : Int32) : Nat → Int64 := (if k_X2_atYear p1 p2 p3 p4 = 0 then (vp_updL ou 0 (f_X2_atYear p1 p2 p3 p4)) else (if k_X2_atYear p1 p2 p3 p4 = 1 then ou else ou))
def pre_L_atYear (p1 : Int32) (p2 : Int32) (p3 : Int32) (p4 : Int32) : Prop := ((¬ k_X2_atYear p1 p2 p3 p4 = 3))
theorem q_L_atYear : ZYH yL_atYear wsL_atYear cL_atYear 7 (some .int) 6 [(0, 13, 16, 13), (0, 13, 20, 15)] := ⟨⟨_, rfl⟩, by decide +kernel, by decide +kernel, by decide +kernel⟩
set_option maxHeartbeats 4000000 in
set_option maxRecDepth 100000 in
theorem c_L_atYear (l : Launch) (hfl : l.stackTraces = false) (D : va_G) (cI cJ : ClassId) (X : va_W) (y : Nat → Nat) (o : Nat) (d : Nat → Int64) (sy : Nat → Int32) (sm : Nat → Int32) (sd : Nat → Int32) (mi : Nat → Int32) (ti : Nat → Int64) (sL : Nat → Int64) (bL : Nat → Int64) (mD : Nat → Int64) (mT : Nat → Int64) (ou : Nat → Int64) (p1 : Int32) (p2 : Int32) (p3 : Int32) (p4 : Int32)  (h_g : pre_L_atYear p1 p2 p3 p4) : ZM l yL_atYear wsL_atYear { frames := 9, cells := 5, slots := 30, locals := 149 } [.ref (y 0), .int p1, .int p2, .int p3, .int p4, .ref o] D (zTys cI cJ) (wY cI cJ y d sy sm sd mi ti sL bL mD mT ((o, .inl (cJ, 1, .inr (.inl ou))) :: X)) 5 30 (fun v w => v = some (.int (f_L_atYear p1 p2 p3 p4)) ∧ w = (wY cI cJ y (s_L_atYear_d d p1 p2 p3 p4) sy sm sd mi ti sL bL mD mT ((o, .inl (cJ, 1, .inr (.inl (s_L_atYear_ou ou p1 p2 p3 p4)))) :: X))) (fun _ _ => False) := by
  refine z_openH (own := RL) hfl (cc := cL_atYear) (maxL := 7) (ret := (some .int)) (hh := [(0, 13, 16, 13), (0, 13, 20, 15)]) (lv := [(0, .ref (y 0)), (1, .int p1), (2, .int p2), (3, .int p3), (4, .int p4), (5, .ref o)]) rfl (by decide) rfl rfl (Nat.le_of_ble_eq_true rfl) ?_
  intro p e s m args below meth c A C hTab
  have w1 := C.1.2.2.2.2 (.classLink RL 13 "java/lang/IndexOutOfBoundsException") (by decide +kernel)
  have w2 := C.1.2.2.2.2 (.classLink RL 15 "java/lang/IllegalArgumentException") (by decide +kernel)
  have g_0 := h_g
  refine z_aload C dL_atYear_0 5 rfl ?_
  refine z_iconst (v := 0) C dL_atYear_2 (by decide) ?_
  refine z_aload_n C dL_atYear_3 rfl 0 rfl ?_
  refine z_iload_n C dL_atYear_4 rfl 1 rfl ?_
  refine z_iload_n C dL_atYear_5 rfl 2 rfl ?_
  refine z_iload_n C dL_atYear_6 rfl 3 rfl ?_
  refine z_iload C dL_atYear_7 4 rfl ?_
  refine z_xwl (ws' := (wY cI cJ y (s_X2_atYear_d d p1 p2 p3 p4) sy sm sd mi ti sL bL mD mT ((o, .inl (cJ, 1, .inr (.inl ou))) :: X))) (rest := [.int 0, .ref o]) (ci := 2) (q0 := 0) C (c_X2_atYear l hfl D cI cJ ((o, .inl (cJ, 1, .inr (.inl ou))) :: X) y d sy sm sd mi ti sL bL mD mT p1 p2 p3 p4 ) q_X2_atYear rfl rfl rfl gL_atYear_X2_atYear ⟨rfl, rfl⟩ rfl rfl (Nat.le_of_ble_eq_true rfl) ⟨Nat.le_of_ble_eq_true rfl, Nat.le_of_ble_eq_true rfl⟩ ⟨Nat.le_of_ble_eq_true rfl, Nat.le_of_ble_eq_true rfl⟩ dL_atYear_9 (fun h1 => ?_) (fun E h1 h1_E => ?_)
  · refine z_last C 11 1 rfl rfl (zvpl 0 1 (by decide)) (ws' := (wY cI cJ y (s_X2_atYear_d d p1 p2 p3 p4) sy sm sd mi ti sL bL mD mT ((o, .inl (cJ, 1, .inr (.inl (vp_updL ou 0 (f_X2_atYear p1 p2 p3 p4))))) :: X))) rfl dL_atYear_12 ?_
    refine z_goto (tgt := 24) C dL_atYear_13 (by decide) ?_
    refine z_iconst (v := 0) C dL_atYear_24 (by decide) ?_
    exact z_iret C ⟨congrArg (fun v => some (Value.int v)) (by rw [f_L_atYear, if_pos h1] : (0 : Int32) = (f_L_atYear p1 p2 p3 p4)), by rw [s_L_atYear_d, if_pos h1, s_L_atYear_ou, if_pos h1]⟩ (by decide) (by decide) dL_atYear_25
  · rcases h1_E with ⟨e1, rfl⟩ | ⟨e2, rfl⟩ | ⟨e3, rfl⟩
    · refine z_catch C hTab [] [(0, 13, 20, 15)] (a := 0) (b := 13) (h := 16) (t := 13) rfl (by decide) (by decide) w1 (C.2.2.2.2.2.1.2.2.1 "java/lang/IndexOutOfBoundsException" (by decide)) (fun _ hq => nomatch hq) (fun q => ?_)
      refine z_astore (lv' := [(6, .ref q), (0, .ref (y 0)), (1, .int p1), (2, .int p2), (3, .int p3), (4, .int p4), (5, .ref o)]) C dL_atYear_16 (by decide) rfl ?_
      refine z_iconst (v := 1) C dL_atYear_18 (by decide) ?_
      exact z_iret C ⟨congrArg (fun v => some (Value.int v)) (by rw [f_L_atYear, if_neg h1, if_pos e1] : (1 : Int32) = (f_L_atYear p1 p2 p3 p4)), by rw [s_L_atYear_d, if_neg h1, if_pos e1, s_L_atYear_ou, if_neg h1, if_pos e1]⟩ (by decide) (by decide) dL_atYear_19
    · refine z_catch C hTab [(0, 13, 16, 13)] [] (a := 0) (b := 13) (h := 20) (t := 15) rfl (by decide) (by decide) w2 (C.2.2.2.2.2.1.2.2.1 "java/lang/IllegalArgumentException" (by decide)) (fun q hq => ((List.mem_cons.mp hq).elim (fun z => by subst z; exact ⟨by decide, "java/lang/IndexOutOfBoundsException", w1, C.2.2.2.2.2.1.2.1 (_, _) (List.mem_of_getElem? (i := 0) rfl)⟩) (fun hq => (nomatch hq)))) (fun q => ?_)
      refine z_astore (lv' := [(6, .ref q), (0, .ref (y 0)), (1, .int p1), (2, .int p2), (3, .int p3), (4, .int p4), (5, .ref o)]) C dL_atYear_20 (by decide) rfl ?_
      refine z_iconst (v := 2) C dL_atYear_22 (by decide) ?_
      exact z_iret C ⟨congrArg (fun v => some (Value.int v)) (by rw [f_L_atYear, if_neg h1, if_neg (show ¬ k_X2_atYear p1 p2 p3 p4 = 1 from by rw [e2]; decide)] : (2 : Int32) = (f_L_atYear p1 p2 p3 p4)), by rw [s_L_atYear_d, if_neg h1, if_neg (show ¬ k_X2_atYear p1 p2 p3 p4 = 1 from by rw [e2]; decide), s_L_atYear_ou, if_neg h1, if_neg (show ¬ k_X2_atYear p1 p2 p3 p4 = 1 from by rw [e2]; decide)]⟩ (by decide) (by decide) dL_atYear_23
    · exact absurd e3 (g_0)
def f_L_order (p1 : Int32) (p2 : Int32) : Int32 := (if k_X2_order p1 p2 = 0 then 0 else 1)
def s_L_order_ou (d : Nat → Int64) (ou : Nat → Int64) (p1 : Int32) (p2 : Int32) : Nat → Int64 := (if k_X2_order p1 p2 = 0 then (vp_updL ou 0 (((f_X2_order d p1 p2)).toInt64)) else ou)
def pre_L_order (p1 : Int32) (p2 : Int32) : Prop := ((¬ k_X2_order p1 p2 = 2)) ∧ ((¬ k_X2_order p1 p2 = 3))
theorem q_L_order : ZYH yL_order wsL_order cL_order 5 (some .int) 4 [(0, 10, 13, 13)] := ⟨⟨_, rfl⟩, by decide +kernel, by decide +kernel, by decide +kernel⟩
set_option maxHeartbeats 4000000 in
set_option maxRecDepth 100000 in
theorem c_L_order (l : Launch) (hfl : l.stackTraces = false) (D : va_G) (cI cJ : ClassId) (X : va_W) (y : Nat → Nat) (o : Nat) (d : Nat → Int64) (sy : Nat → Int32) (sm : Nat → Int32) (sd : Nat → Int32) (mi : Nat → Int32) (ti : Nat → Int64) (sL : Nat → Int64) (bL : Nat → Int64) (mD : Nat → Int64) (mT : Nat → Int64) (ou : Nat → Int64) (p1 : Int32) (p2 : Int32)  (h_g : pre_L_order p1 p2) : ZM l yL_order wsL_order { frames := 8, cells := 2, slots := 12, locals := 125 } [.ref (y 0), .int p1, .int p2, .ref o] D (zTys cI cJ) (wY cI cJ y d sy sm sd mi ti sL bL mD mT ((o, .inl (cJ, 1, .inr (.inl ou))) :: X)) 2 12 (fun v w => v = some (.int (f_L_order p1 p2)) ∧ w = (wY cI cJ y d sy sm sd mi ti sL bL mD mT ((o, .inl (cJ, 1, .inr (.inl (s_L_order_ou d ou p1 p2)))) :: X))) (fun _ _ => False) := by
  refine z_openH (own := RL) hfl (cc := cL_order) (maxL := 5) (ret := (some .int)) (hh := [(0, 10, 13, 13)]) (lv := [(0, .ref (y 0)), (1, .int p1), (2, .int p2), (3, .ref o)]) rfl (by decide) rfl rfl (Nat.le_of_ble_eq_true rfl) ?_
  intro p e s m args below meth c A C hTab
  have w1 := C.1.2.2.2.2 (.classLink RL 13 "java/lang/IndexOutOfBoundsException") (by decide +kernel)
  obtain ⟨g_0, g_1⟩ := h_g
  refine z_aload_n C dL_order_0 rfl 3 rfl ?_
  refine z_iconst (v := 0) C dL_order_1 (by decide) ?_
  refine z_aload_n C dL_order_2 rfl 0 rfl ?_
  refine z_iload_n C dL_order_3 rfl 1 rfl ?_
  refine z_iload_n C dL_order_4 rfl 2 rfl ?_
  refine z_xwi (ws' := (wY cI cJ y d sy sm sd mi ti sL bL mD mT ((o, .inl (cJ, 1, .inr (.inl ou))) :: X))) (rest := [.int 0, .ref o]) (ci := 2) (q0 := 0) C (c_X2_order l hfl D cI cJ ((o, .inl (cJ, 1, .inr (.inl ou))) :: X) y d sy sm sd mi ti sL bL mD mT p1 p2 ) q_X2_order rfl rfl rfl gL_order_X2_order ⟨rfl, rfl⟩ rfl rfl (Nat.le_of_ble_eq_true rfl) ⟨Nat.le_of_ble_eq_true rfl, Nat.le_of_ble_eq_true rfl⟩ ⟨Nat.le_of_ble_eq_true rfl, Nat.le_of_ble_eq_true rfl⟩ dL_order_5 (fun h1 => ?_) (fun E h1 h1_E => ?_)
  · refine z_i2l (v := ((f_X2_order d p1 p2)).toInt64) C dL_order_8 rfl ?_
    refine z_last C 11 1 rfl rfl (zvpl 0 1 (by decide)) (ws' := (wY cI cJ y d sy sm sd mi ti sL bL mD mT ((o, .inl (cJ, 1, .inr (.inl (vp_updL ou 0 (((f_X2_order d p1 p2)).toInt64))))) :: X))) rfl dL_order_9 ?_
    refine z_goto (tgt := 17) C dL_order_10 (by decide) ?_
    refine z_iconst (v := 0) C dL_order_17 (by decide) ?_
    exact z_iret C ⟨congrArg (fun v => some (Value.int v)) (by rw [f_L_order, if_pos h1] : (0 : Int32) = (f_L_order p1 p2)), by rw [s_L_order_ou, if_pos h1]⟩ (by decide) (by decide) dL_order_18
  · rcases h1_E with ⟨e1, rfl⟩ | ⟨e2, rfl⟩ | ⟨e3, rfl⟩
    · refine z_catch C hTab [] [] (a := 0) (b := 10) (h := 13) (t := 13) rfl (by decide) (by decide) w1 (C.2.2.2.2.2.1.2.2.1 "java/lang/IndexOutOfBoundsException" (by decide)) (fun _ hq => nomatch hq) (fun q => ?_)
      refine z_astore (lv' := [(4, .ref q), (0, .ref (y 0)), (1, .int p1), (2, .int p2), (3, .ref o)]) C dL_order_13 (by decide) rfl ?_
      refine z_iconst (v := 1) C dL_order_15 (by decide) ?_
      exact z_iret C ⟨congrArg (fun v => some (Value.int v)) (by rw [f_L_order, if_neg h1] : (1 : Int32) = (f_L_order p1 p2)), by rw [s_L_order_ou, if_neg h1]⟩ (by decide) (by decide) dL_order_16
    · exact absurd e2 (g_0)
    · exact absurd e3 (g_1)
def f_L_between (p1 : Int32) (p2 : Int32) (p3 : Int32) : Int32 := (if k_X2_between p1 p2 p3 = 0 then 0 else (if k_X2_between p1 p2 p3 = 1 then 1 else 2))
def s_L_between_ou (d : Nat → Int64) (ou : Nat → Int64) (p1 : Int32) (p2 : Int32) (p3 : Int32) : Nat → Int64 := (if k_X2_between p1 p2 p3 = 0 then (vp_updL ou 0 (f_X2_between d p1 p2 p3)) else (if k_X2_between p1 p2 p3 = 1 then ou else ou))
def pre_L_between (p1 : Int32) (p2 : Int32) (p3 : Int32) : Prop := ((¬ k_X2_between p1 p2 p3 = 3))
theorem q_L_between : ZYH yL_between wsL_between cL_between 6 (some .int) 5 [(0, 11, 14, 13), (0, 11, 18, 15)] := ⟨⟨_, rfl⟩, by decide +kernel, by decide +kernel, by decide +kernel⟩
set_option maxHeartbeats 4000000 in
set_option maxRecDepth 100000 in
theorem c_L_between (l : Launch) (hfl : l.stackTraces = false) (D : va_G) (cI cJ : ClassId) (X : va_W) (y : Nat → Nat) (o : Nat) (d : Nat → Int64) (sy : Nat → Int32) (sm : Nat → Int32) (sd : Nat → Int32) (mi : Nat → Int32) (ti : Nat → Int64) (sL : Nat → Int64) (bL : Nat → Int64) (mD : Nat → Int64) (mT : Nat → Int64) (ou : Nat → Int64) (p1 : Int32) (p2 : Int32) (p3 : Int32)  (h_g : pre_L_between p1 p2 p3) : ZM l yL_between wsL_between { frames := 8, cells := 3, slots := 18, locals := 157 } [.ref (y 0), .int p1, .int p2, .int p3, .ref o] D (zTys cI cJ) (wY cI cJ y d sy sm sd mi ti sL bL mD mT ((o, .inl (cJ, 1, .inr (.inl ou))) :: X)) 3 18 (fun v w => v = some (.int (f_L_between p1 p2 p3)) ∧ w = (wY cI cJ y d sy sm sd mi ti sL bL mD mT ((o, .inl (cJ, 1, .inr (.inl (s_L_between_ou d ou p1 p2 p3)))) :: X))) (fun _ _ => False) := by
  refine z_openH (own := RL) hfl (cc := cL_between) (maxL := 6) (ret := (some .int)) (hh := [(0, 11, 14, 13), (0, 11, 18, 15)]) (lv := [(0, .ref (y 0)), (1, .int p1), (2, .int p2), (3, .int p3), (4, .ref o)]) rfl (by decide) rfl rfl (Nat.le_of_ble_eq_true rfl) ?_
  intro p e s m args below meth c A C hTab
  have w1 := C.1.2.2.2.2 (.classLink RL 13 "java/lang/IndexOutOfBoundsException") (by decide +kernel)
  have w2 := C.1.2.2.2.2 (.classLink RL 15 "java/lang/IllegalArgumentException") (by decide +kernel)
  have g_0 := h_g
  refine z_aload C dL_between_0 4 rfl ?_
  refine z_iconst (v := 0) C dL_between_2 (by decide) ?_
  refine z_aload_n C dL_between_3 rfl 0 rfl ?_
  refine z_iload_n C dL_between_4 rfl 1 rfl ?_
  refine z_iload_n C dL_between_5 rfl 2 rfl ?_
  refine z_iload_n C dL_between_6 rfl 3 rfl ?_
  refine z_xwl (ws' := (wY cI cJ y d sy sm sd mi ti sL bL mD mT ((o, .inl (cJ, 1, .inr (.inl ou))) :: X))) (rest := [.int 0, .ref o]) (ci := 2) (q0 := 0) C (c_X2_between l hfl D cI cJ ((o, .inl (cJ, 1, .inr (.inl ou))) :: X) y d sy sm sd mi ti sL bL mD mT p1 p2 p3 ) q_X2_between rfl rfl rfl gL_between_X2_between ⟨rfl, rfl⟩ rfl rfl (Nat.le_of_ble_eq_true rfl) ⟨Nat.le_of_ble_eq_true rfl, Nat.le_of_ble_eq_true rfl⟩ ⟨Nat.le_of_ble_eq_true rfl, Nat.le_of_ble_eq_true rfl⟩ dL_between_7 (fun h1 => ?_) (fun E h1 h1_E => ?_)
  · refine z_last C 11 1 rfl rfl (zvpl 0 1 (by decide)) (ws' := (wY cI cJ y d sy sm sd mi ti sL bL mD mT ((o, .inl (cJ, 1, .inr (.inl (vp_updL ou 0 (f_X2_between d p1 p2 p3))))) :: X))) rfl dL_between_10 ?_
    refine z_goto (tgt := 22) C dL_between_11 (by decide) ?_
    refine z_iconst (v := 0) C dL_between_22 (by decide) ?_
    exact z_iret C ⟨congrArg (fun v => some (Value.int v)) (by rw [f_L_between, if_pos h1] : (0 : Int32) = (f_L_between p1 p2 p3)), by rw [s_L_between_ou, if_pos h1]⟩ (by decide) (by decide) dL_between_23
  · rcases h1_E with ⟨e1, rfl⟩ | ⟨e2, rfl⟩ | ⟨e3, rfl⟩
    · refine z_catch C hTab [] [(0, 11, 18, 15)] (a := 0) (b := 11) (h := 14) (t := 13) rfl (by decide) (by decide) w1 (C.2.2.2.2.2.1.2.2.1 "java/lang/IndexOutOfBoundsException" (by decide)) (fun _ hq => nomatch hq) (fun q => ?_)
      refine z_astore (lv' := [(5, .ref q), (0, .ref (y 0)), (1, .int p1), (2, .int p2), (3, .int p3), (4, .ref o)]) C dL_between_14 (by decide) rfl ?_
      refine z_iconst (v := 1) C dL_between_16 (by decide) ?_
      exact z_iret C ⟨congrArg (fun v => some (Value.int v)) (by rw [f_L_between, if_neg h1, if_pos e1] : (1 : Int32) = (f_L_between p1 p2 p3)), by rw [s_L_between_ou, if_neg h1, if_pos e1]⟩ (by decide) (by decide) dL_between_17
    · refine z_catch C hTab [(0, 11, 14, 13)] [] (a := 0) (b := 11) (h := 18) (t := 15) rfl (by decide) (by decide) w2 (C.2.2.2.2.2.1.2.2.1 "java/lang/IllegalArgumentException" (by decide)) (fun q hq => ((List.mem_cons.mp hq).elim (fun z => by subst z; exact ⟨by decide, "java/lang/IndexOutOfBoundsException", w1, C.2.2.2.2.2.1.2.1 (_, _) (List.mem_of_getElem? (i := 0) rfl)⟩) (fun hq => (nomatch hq)))) (fun q => ?_)
      refine z_astore (lv' := [(5, .ref q), (0, .ref (y 0)), (1, .int p1), (2, .int p2), (3, .int p3), (4, .ref o)]) C dL_between_18 (by decide) rfl ?_
      refine z_iconst (v := 2) C dL_between_20 (by decide) ?_
      exact z_iret C ⟨congrArg (fun v => some (Value.int v)) (by rw [f_L_between, if_neg h1, if_neg (show ¬ k_X2_between p1 p2 p3 = 1 from by rw [e2]; decide)] : (2 : Int32) = (f_L_between p1 p2 p3)), by rw [s_L_between_ou, if_neg h1, if_neg (show ¬ k_X2_between p1 p2 p3 = 1 from by rw [e2]; decide)]⟩ (by decide) (by decide) dL_between_21
    · exact absurd e3 (g_0)
def f_L_span (p1 : Int32) (p2 : Int32) (p3 : Int32) (p4 : Int32) : Int32 := (if k_X2_span p1 p2 p3 p4 = 0 then 0 else (if k_X2_span p1 p2 p3 p4 = 1 then 1 else 2))
def s_L_span_sy (sy : Nat → Int32) (p1 : Int32) (p2 : Int32) (p3 : Int32) (p4 : Int32) : Nat → Int32 := (if k_X2_span p1 p2 p3 p4 = 0 then (s_X2_span_sy sy p1 p2 p3 p4) else (if k_X2_span p1 p2 p3 p4 = 1 then sy else sy))
def s_L_span_sm (sm : Nat → Int32) (p1 : Int32) (p2 : Int32) (p3 : Int32) (p4 : Int32) : Nat → Int32 := (if k_X2_span p1 p2 p3 p4 = 0 then (s_X2_span_sm sm p1 p2 p3 p4) else (if k_X2_span p1 p2 p3 p4 = 1 then sm else sm))
def s_L_span_sd (sd : Nat → Int32) (p1 : Int32) (p2 : Int32) (p3 : Int32) (p4 : Int32) : Nat → Int32 := (if k_X2_span p1 p2 p3 p4 = 0 then (s_X2_span_sd sd p1 p2 p3 p4) else (if k_X2_span p1 p2 p3 p4 = 1 then sd else sd))
def s_L_span_ou (sy : Nat → Int32) (sm : Nat → Int32) (ou : Nat → Int64) (p1 : Int32) (p2 : Int32) (p3 : Int32) (p4 : Int32) : Nat → Int64 := (if k_X2_span p1 p2 p3 p4 = 0 then (vp_updL ou 0 (f_X2_span sy sm p1 p2 p3 p4)) else (if k_X2_span p1 p2 p3 p4 = 1 then ou else ou))
def pre_L_span (p1 : Int32) (p2 : Int32) (p3 : Int32) (p4 : Int32) : Prop := ((¬ k_X2_span p1 p2 p3 p4 = 3))
theorem q_L_span : ZYH yL_span wsL_span cL_span 7 (some .int) 6 [(0, 13, 16, 13), (0, 13, 20, 15)] := ⟨⟨_, rfl⟩, by decide +kernel, by decide +kernel, by decide +kernel⟩
set_option maxHeartbeats 4000000 in
set_option maxRecDepth 100000 in
theorem c_L_span (l : Launch) (hfl : l.stackTraces = false) (D : va_G) (cI cJ : ClassId) (X : va_W) (y : Nat → Nat) (o : Nat) (d : Nat → Int64) (sy : Nat → Int32) (sm : Nat → Int32) (sd : Nat → Int32) (mi : Nat → Int32) (ti : Nat → Int64) (sL : Nat → Int64) (bL : Nat → Int64) (mD : Nat → Int64) (mT : Nat → Int64) (ou : Nat → Int64) (p1 : Int32) (p2 : Int32) (p3 : Int32) (p4 : Int32)  (h_g : pre_L_span p1 p2 p3 p4) : ZM l yL_span wsL_span { frames := 9, cells := 3, slots := 18, locals := 153 } [.ref (y 0), .int p1, .int p2, .int p3, .int p4, .ref o] D (zTys cI cJ) (wY cI cJ y d sy sm sd mi ti sL bL mD mT ((o, .inl (cJ, 1, .inr (.inl ou))) :: X)) 3 18 (fun v w => v = some (.int (f_L_span p1 p2 p3 p4)) ∧ w = (wY cI cJ y d (s_L_span_sy sy p1 p2 p3 p4) (s_L_span_sm sm p1 p2 p3 p4) (s_L_span_sd sd p1 p2 p3 p4) mi ti sL bL mD mT ((o, .inl (cJ, 1, .inr (.inl (s_L_span_ou sy sm ou p1 p2 p3 p4)))) :: X))) (fun _ _ => False) := by
  refine z_openH (own := RL) hfl (cc := cL_span) (maxL := 7) (ret := (some .int)) (hh := [(0, 13, 16, 13), (0, 13, 20, 15)]) (lv := [(0, .ref (y 0)), (1, .int p1), (2, .int p2), (3, .int p3), (4, .int p4), (5, .ref o)]) rfl (by decide) rfl rfl (Nat.le_of_ble_eq_true rfl) ?_
  intro p e s m args below meth c A C hTab
  have w1 := C.1.2.2.2.2 (.classLink RL 13 "java/lang/IndexOutOfBoundsException") (by decide +kernel)
  have w2 := C.1.2.2.2.2 (.classLink RL 15 "java/lang/IllegalArgumentException") (by decide +kernel)
  have g_0 := h_g
  refine z_aload C dL_span_0 5 rfl ?_
  refine z_iconst (v := 0) C dL_span_2 (by decide) ?_
  refine z_aload_n C dL_span_3 rfl 0 rfl ?_
  refine z_iload_n C dL_span_4 rfl 1 rfl ?_
  refine z_iload_n C dL_span_5 rfl 2 rfl ?_
  refine z_iload_n C dL_span_6 rfl 3 rfl ?_
  refine z_iload C dL_span_7 4 rfl ?_
  refine z_xwl (ws' := (wY cI cJ y d (s_X2_span_sy sy p1 p2 p3 p4) (s_X2_span_sm sm p1 p2 p3 p4) (s_X2_span_sd sd p1 p2 p3 p4) mi ti sL bL mD mT ((o, .inl (cJ, 1, .inr (.inl ou))) :: X))) (rest := [.int 0, .ref o]) (ci := 2) (q0 := 0) C (c_X2_span l hfl D cI cJ ((o, .inl (cJ, 1, .inr (.inl ou))) :: X) y d sy sm sd mi ti sL bL mD mT p1 p2 p3 p4 ) q_X2_span rfl rfl rfl gL_span_X2_span ⟨rfl, rfl⟩ rfl rfl (Nat.le_of_ble_eq_true rfl) ⟨Nat.le_of_ble_eq_true rfl, Nat.le_of_ble_eq_true rfl⟩ ⟨Nat.le_of_ble_eq_true rfl, Nat.le_of_ble_eq_true rfl⟩ dL_span_9 (fun h1 => ?_) (fun E h1 h1_E => ?_)
  · refine z_last C 11 1 rfl rfl (zvpl 0 1 (by decide)) (ws' := (wY cI cJ y d (s_X2_span_sy sy p1 p2 p3 p4) (s_X2_span_sm sm p1 p2 p3 p4) (s_X2_span_sd sd p1 p2 p3 p4) mi ti sL bL mD mT ((o, .inl (cJ, 1, .inr (.inl (vp_updL ou 0 (f_X2_span sy sm p1 p2 p3 p4))))) :: X))) rfl dL_span_12 ?_
    refine z_goto (tgt := 24) C dL_span_13 (by decide) ?_
    refine z_iconst (v := 0) C dL_span_24 (by decide) ?_
    exact z_iret C ⟨congrArg (fun v => some (Value.int v)) (by rw [f_L_span, if_pos h1] : (0 : Int32) = (f_L_span p1 p2 p3 p4)), by rw [s_L_span_sy, if_pos h1, s_L_span_sm, if_pos h1, s_L_span_sd, if_pos h1, s_L_span_ou, if_pos h1]⟩ (by decide) (by decide) dL_span_25
  · rcases h1_E with ⟨e1, rfl⟩ | ⟨e2, rfl⟩ | ⟨e3, rfl⟩
    · refine z_catch C hTab [] [(0, 13, 20, 15)] (a := 0) (b := 13) (h := 16) (t := 13) rfl (by decide) (by decide) w1 (C.2.2.2.2.2.1.2.2.1 "java/lang/IndexOutOfBoundsException" (by decide)) (fun _ hq => nomatch hq) (fun q => ?_)
      refine z_astore (lv' := [(6, .ref q), (0, .ref (y 0)), (1, .int p1), (2, .int p2), (3, .int p3), (4, .int p4), (5, .ref o)]) C dL_span_16 (by decide) rfl ?_
      refine z_iconst (v := 1) C dL_span_18 (by decide) ?_
      exact z_iret C ⟨congrArg (fun v => some (Value.int v)) (by rw [f_L_span, if_neg h1, if_pos e1] : (1 : Int32) = (f_L_span p1 p2 p3 p4)), by rw [s_L_span_sy, if_neg h1, if_pos e1, s_L_span_sm, if_neg h1, if_pos e1, s_L_span_sd, if_neg h1, if_pos e1, s_L_span_ou, if_neg h1, if_pos e1]⟩ (by decide) (by decide) dL_span_19
    · refine z_catch C hTab [(0, 13, 16, 13)] [] (a := 0) (b := 13) (h := 20) (t := 15) rfl (by decide) (by decide) w2 (C.2.2.2.2.2.1.2.2.1 "java/lang/IllegalArgumentException" (by decide)) (fun q hq => ((List.mem_cons.mp hq).elim (fun z => by subst z; exact ⟨by decide, "java/lang/IndexOutOfBoundsException", w1, C.2.2.2.2.2.1.2.1 (_, _) (List.mem_of_getElem? (i := 0) rfl)⟩) (fun hq => (nomatch hq)))) (fun q => ?_)
      refine z_astore (lv' := [(6, .ref q), (0, .ref (y 0)), (1, .int p1), (2, .int p2), (3, .int p3), (4, .int p4), (5, .ref o)]) C dL_span_20 (by decide) rfl ?_
      refine z_iconst (v := 2) C dL_span_22 (by decide) ?_
      exact z_iret C ⟨congrArg (fun v => some (Value.int v)) (by rw [f_L_span, if_neg h1, if_neg (show ¬ k_X2_span p1 p2 p3 p4 = 1 from by rw [e2]; decide)] : (2 : Int32) = (f_L_span p1 p2 p3 p4)), by rw [s_L_span_sy, if_neg h1, if_neg (show ¬ k_X2_span p1 p2 p3 p4 = 1 from by rw [e2]; decide), s_L_span_sm, if_neg h1, if_neg (show ¬ k_X2_span p1 p2 p3 p4 = 1 from by rw [e2]; decide), s_L_span_sd, if_neg h1, if_neg (show ¬ k_X2_span p1 p2 p3 p4 = 1 from by rw [e2]; decide), s_L_span_ou, if_neg h1, if_neg (show ¬ k_X2_span p1 p2 p3 p4 = 1 from by rw [e2]; decide)]⟩ (by decide) (by decide) dL_span_23
    · exact absurd e3 (g_0)
def f_L_until (d : Nat → Int64) (p1 : Int32) (p2 : Int32) (p3 : Int32) : Int32 := (if k_X2_until d p1 p2 p3 = 0 then 0 else (if k_X2_until d p1 p2 p3 = 1 then 1 else 2))
def s_L_until_sy (d : Nat → Int64) (sy : Nat → Int32) (p1 : Int32) (p2 : Int32) (p3 : Int32) : Nat → Int32 := (if k_X2_until d p1 p2 p3 = 0 then (s_X2_until_sy d sy p1 p2 p3) else (if k_X2_until d p1 p2 p3 = 1 then sy else sy))
def s_L_until_sm (d : Nat → Int64) (sm : Nat → Int32) (p1 : Int32) (p2 : Int32) (p3 : Int32) : Nat → Int32 := (if k_X2_until d p1 p2 p3 = 0 then (s_X2_until_sm d sm p1 p2 p3) else (if k_X2_until d p1 p2 p3 = 1 then sm else sm))
def s_L_until_sd (d : Nat → Int64) (sd : Nat → Int32) (p1 : Int32) (p2 : Int32) (p3 : Int32) : Nat → Int32 := (if k_X2_until d p1 p2 p3 = 0 then (s_X2_until_sd d sd p1 p2 p3) else (if k_X2_until d p1 p2 p3 = 1 then sd else sd))
def s_L_until_ou (d : Nat → Int64) (sy : Nat → Int32) (sm : Nat → Int32) (ou : Nat → Int64) (p1 : Int32) (p2 : Int32) (p3 : Int32) : Nat → Int64 := (if k_X2_until d p1 p2 p3 = 0 then (vp_updL ou 0 (f_X2_until d sy sm p1 p2 p3)) else (if k_X2_until d p1 p2 p3 = 1 then ou else ou))
def pre_L_until (d : Nat → Int64) (p1 : Int32) (p2 : Int32) (p3 : Int32) : Prop := ((¬ k_X2_until d p1 p2 p3 = 2))
theorem q_L_until : ZYH yL_until wsL_until cL_until 6 (some .int) 5 [(0, 11, 14, 13), (0, 11, 18, 21)] := ⟨⟨_, rfl⟩, by decide +kernel, by decide +kernel, by decide +kernel⟩
set_option maxHeartbeats 4000000 in
set_option maxRecDepth 100000 in
theorem c_L_until (l : Launch) (hfl : l.stackTraces = false) (D : va_G) (cI cJ : ClassId) (X : va_W) (y : Nat → Nat) (o : Nat) (d : Nat → Int64) (sy : Nat → Int32) (sm : Nat → Int32) (sd : Nat → Int32) (mi : Nat → Int32) (ti : Nat → Int64) (sL : Nat → Int64) (bL : Nat → Int64) (mD : Nat → Int64) (mT : Nat → Int64) (ou : Nat → Int64) (p1 : Int32) (p2 : Int32) (p3 : Int32)  (h_g : pre_L_until d p1 p2 p3) : ZM l yL_until wsL_until { frames := 9, cells := 5, slots := 30, locals := 159 } [.ref (y 0), .int p1, .int p2, .int p3, .ref o] D (zTys cI cJ) (wY cI cJ y d sy sm sd mi ti sL bL mD mT ((o, .inl (cJ, 1, .inr (.inl ou))) :: X)) 5 30 (fun v w => v = some (.int (f_L_until d p1 p2 p3)) ∧ w = (wY cI cJ y d (s_L_until_sy d sy p1 p2 p3) (s_L_until_sm d sm p1 p2 p3) (s_L_until_sd d sd p1 p2 p3) mi ti sL bL mD mT ((o, .inl (cJ, 1, .inr (.inl (s_L_until_ou d sy sm ou p1 p2 p3)))) :: X))) (fun _ _ => False) := by
  refine z_openH (own := RL) hfl (cc := cL_until) (maxL := 6) (ret := (some .int)) (hh := [(0, 11, 14, 13), (0, 11, 18, 21)]) (lv := [(0, .ref (y 0)), (1, .int p1), (2, .int p2), (3, .int p3), (4, .ref o)]) rfl (by decide) rfl rfl (Nat.le_of_ble_eq_true rfl) ?_
  intro p e s m args below meth c A C hTab
  have w1 := C.1.2.2.2.2 (.classLink RL 13 "java/lang/IndexOutOfBoundsException") (by decide +kernel)
  have w2 := C.1.2.2.2.2 (.classLink RL 21 "java/lang/UnsupportedOperationException") (by decide +kernel)
  have g_0 := h_g
  refine z_aload C dL_until_0 4 rfl ?_
  refine z_iconst (v := 0) C dL_until_2 (by decide) ?_
  refine z_aload_n C dL_until_3 rfl 0 rfl ?_
  refine z_iload_n C dL_until_4 rfl 1 rfl ?_
  refine z_iload_n C dL_until_5 rfl 2 rfl ?_
  refine z_iload_n C dL_until_6 rfl 3 rfl ?_
  refine z_xwl (ws' := (wY cI cJ y d (s_X2_until_sy d sy p1 p2 p3) (s_X2_until_sm d sm p1 p2 p3) (s_X2_until_sd d sd p1 p2 p3) mi ti sL bL mD mT ((o, .inl (cJ, 1, .inr (.inl ou))) :: X))) (rest := [.int 0, .ref o]) (ci := 2) (q0 := 0) C (c_X2_until l hfl D cI cJ ((o, .inl (cJ, 1, .inr (.inl ou))) :: X) y d sy sm sd mi ti sL bL mD mT p1 p2 p3 ) q_X2_until rfl rfl rfl gL_until_X2_until ⟨rfl, rfl⟩ rfl rfl (Nat.le_of_ble_eq_true rfl) ⟨Nat.le_of_ble_eq_true rfl, Nat.le_of_ble_eq_true rfl⟩ ⟨Nat.le_of_ble_eq_true rfl, Nat.le_of_ble_eq_true rfl⟩ dL_until_7 (fun h1 => ?_) (fun E h1 h1_E => ?_)
  · refine z_last C 11 1 rfl rfl (zvpl 0 1 (by decide)) (ws' := (wY cI cJ y d (s_X2_until_sy d sy p1 p2 p3) (s_X2_until_sm d sm p1 p2 p3) (s_X2_until_sd d sd p1 p2 p3) mi ti sL bL mD mT ((o, .inl (cJ, 1, .inr (.inl (vp_updL ou 0 (f_X2_until d sy sm p1 p2 p3))))) :: X))) rfl dL_until_10 ?_
    refine z_goto (tgt := 22) C dL_until_11 (by decide) ?_
    refine z_iconst (v := 0) C dL_until_22 (by decide) ?_
    exact z_iret C ⟨congrArg (fun v => some (Value.int v)) (by rw [f_L_until, if_pos h1] : (0 : Int32) = (f_L_until d p1 p2 p3)), by rw [s_L_until_sy, if_pos h1, s_L_until_sm, if_pos h1, s_L_until_sd, if_pos h1, s_L_until_ou, if_pos h1]⟩ (by decide) (by decide) dL_until_23
  · rcases h1_E with ⟨e1, rfl⟩ | ⟨e2, rfl⟩ | ⟨e3, rfl⟩
    · refine z_catch C hTab [] [(0, 11, 18, 21)] (a := 0) (b := 11) (h := 14) (t := 13) rfl (by decide) (by decide) w1 (C.2.2.2.2.2.1.2.2.1 "java/lang/IndexOutOfBoundsException" (by decide)) (fun _ hq => nomatch hq) (fun q => ?_)
      refine z_astore (lv' := [(5, .ref q), (0, .ref (y 0)), (1, .int p1), (2, .int p2), (3, .int p3), (4, .ref o)]) C dL_until_14 (by decide) rfl ?_
      refine z_iconst (v := 1) C dL_until_16 (by decide) ?_
      exact z_iret C ⟨congrArg (fun v => some (Value.int v)) (by rw [f_L_until, if_neg h1, if_pos e1] : (1 : Int32) = (f_L_until d p1 p2 p3)), by rw [s_L_until_sy, if_neg h1, if_pos e1, s_L_until_sm, if_neg h1, if_pos e1, s_L_until_sd, if_neg h1, if_pos e1, s_L_until_ou, if_neg h1, if_pos e1]⟩ (by decide) (by decide) dL_until_17
    · exact absurd e2 (g_0)
    · refine z_catch C hTab [(0, 11, 14, 13)] [] (a := 0) (b := 11) (h := 18) (t := 21) rfl (by decide) (by decide) w2 (C.2.2.2.2.2.1.2.2.1 "java/lang/UnsupportedOperationException" (by decide)) (fun q hq => ((List.mem_cons.mp hq).elim (fun z => by subst z; exact ⟨by decide, "java/lang/IndexOutOfBoundsException", w1, C.2.2.2.2.2.1.2.1 (_, _) (List.mem_of_getElem? (i := 1) rfl)⟩) (fun hq => (nomatch hq)))) (fun q => ?_)
      refine z_astore (lv' := [(5, .ref q), (0, .ref (y 0)), (1, .int p1), (2, .int p2), (3, .int p3), (4, .ref o)]) C dL_until_18 (by decide) rfl ?_
      refine z_iconst (v := 2) C dL_until_20 (by decide) ?_
      exact z_iret C ⟨congrArg (fun v => some (Value.int v)) (by rw [f_L_until, if_neg h1, if_neg (show ¬ k_X2_until d p1 p2 p3 = 1 from by rw [e3]; decide)] : (2 : Int32) = (f_L_until d p1 p2 p3)), by rw [s_L_until_sy, if_neg h1, if_neg (show ¬ k_X2_until d p1 p2 p3 = 1 from by rw [e3]; decide), s_L_until_sm, if_neg h1, if_neg (show ¬ k_X2_until d p1 p2 p3 = 1 from by rw [e3]; decide), s_L_until_sd, if_neg h1, if_neg (show ¬ k_X2_until d p1 p2 p3 = 1 from by rw [e3]; decide), s_L_until_ou, if_neg h1, if_neg (show ¬ k_X2_until d p1 p2 p3 = 1 from by rw [e3]; decide)]⟩ (by decide) (by decide) dL_until_21
def f_L_go (d : Nat → Int64) (sy : Nat → Int32) (sm : Nat → Int32) (sd : Nat → Int32) (p1 : Int32) (p2 : Int32) (p3 : Int32) (p4 : Int32) : Int32 := (if k_X2_go d sy sm sd p1 p2 p3 p4 = 0 then 0 else (if k_X2_go d sy sm sd p1 p2 p3 p4 = 1 then 1 else 2))
def s_L_go_d (d : Nat → Int64) (sy : Nat → Int32) (sm : Nat → Int32) (sd : Nat → Int32) (p1 : Int32) (p2 : Int32) (p3 : Int32) (p4 : Int32) : Nat → Int64 := (if k_X2_go d sy sm sd p1 p2 p3 p4 = 0 then (s_X2_go_d d sy sm sd p1 p2 p3 p4) else (if k_X2_go d sy sm sd p1 p2 p3 p4 = 1 then d else d))
def s_L_go_ou (d : Nat → Int64) (sy : Nat → Int32) (sm : Nat → Int32) (sd : Nat → Int32) (ou : Nat → Int64) (p1 : Int32) (p2 : Int32) (p3 : Int32) (p4 : Int32) : Nat → Int64 := (if k_X2_go d sy sm sd p1 p2 p3 p4 = 0 then (vp_updL ou 0 (f_X2_go d sy sm sd p1 p2 p3 p4)) else (if k_X2_go d sy sm sd p1 p2 p3 p4 = 1 then ou else ou))
def pre_L_go (d : Nat → Int64) (sy : Nat → Int32) (sm : Nat → Int32) (sd : Nat → Int32) (p1 : Int32) (p2 : Int32) (p3 : Int32) (p4 : Int32) : Prop := ((¬ k_X2_go d sy sm sd p1 p2 p3 p4 = 2))
theorem q_L_go : ZYH yL_go wsL_go cL_go 7 (some .int) 6 [(0, 13, 16, 13), (0, 13, 20, 21)] := ⟨⟨_, rfl⟩, by decide +kernel, by decide +kernel, by decide +kernel⟩
set_option maxHeartbeats 4000000 in
set_option maxRecDepth 100000 in
theorem c_L_go (l : Launch) (hfl : l.stackTraces = false) (D : va_G) (cI cJ : ClassId) (X : va_W) (y : Nat → Nat) (o : Nat) (d : Nat → Int64) (sy : Nat → Int32) (sm : Nat → Int32) (sd : Nat → Int32) (mi : Nat → Int32) (ti : Nat → Int64) (sL : Nat → Int64) (bL : Nat → Int64) (mD : Nat → Int64) (mT : Nat → Int64) (ou : Nat → Int64) (p1 : Int32) (p2 : Int32) (p3 : Int32) (p4 : Int32)  (h_g : pre_L_go d sy sm sd p1 p2 p3 p4) : ZM l yL_go wsL_go { frames := 9, cells := 4, slots := 24, locals := 152 } [.ref (y 0), .int p1, .int p2, .int p3, .int p4, .ref o] D (zTys cI cJ) (wY cI cJ y d sy sm sd mi ti sL bL mD mT ((o, .inl (cJ, 1, .inr (.inl ou))) :: X)) 4 24 (fun v w => v = some (.int (f_L_go d sy sm sd p1 p2 p3 p4)) ∧ w = (wY cI cJ y (s_L_go_d d sy sm sd p1 p2 p3 p4) sy sm sd mi ti sL bL mD mT ((o, .inl (cJ, 1, .inr (.inl (s_L_go_ou d sy sm sd ou p1 p2 p3 p4)))) :: X))) (fun _ _ => False) := by
  refine z_openH (own := RL) hfl (cc := cL_go) (maxL := 7) (ret := (some .int)) (hh := [(0, 13, 16, 13), (0, 13, 20, 21)]) (lv := [(0, .ref (y 0)), (1, .int p1), (2, .int p2), (3, .int p3), (4, .int p4), (5, .ref o)]) rfl (by decide) rfl rfl (Nat.le_of_ble_eq_true rfl) ?_
  intro p e s m args below meth c A C hTab
  have w1 := C.1.2.2.2.2 (.classLink RL 13 "java/lang/IndexOutOfBoundsException") (by decide +kernel)
  have w2 := C.1.2.2.2.2 (.classLink RL 21 "java/lang/UnsupportedOperationException") (by decide +kernel)
  have g_0 := h_g
  refine z_aload C dL_go_0 5 rfl ?_
  refine z_iconst (v := 0) C dL_go_2 (by decide) ?_
  refine z_aload_n C dL_go_3 rfl 0 rfl ?_
  refine z_iload_n C dL_go_4 rfl 1 rfl ?_
  refine z_iload_n C dL_go_5 rfl 2 rfl ?_
  refine z_iload_n C dL_go_6 rfl 3 rfl ?_
  refine z_iload C dL_go_7 4 rfl ?_
  refine z_xwl (ws' := (wY cI cJ y (s_X2_go_d d sy sm sd p1 p2 p3 p4) sy sm sd mi ti sL bL mD mT ((o, .inl (cJ, 1, .inr (.inl ou))) :: X))) (rest := [.int 0, .ref o]) (ci := 2) (q0 := 0) C (c_X2_go l hfl D cI cJ ((o, .inl (cJ, 1, .inr (.inl ou))) :: X) y d sy sm sd mi ti sL bL mD mT p1 p2 p3 p4 ) q_X2_go rfl rfl rfl gL_go_X2_go ⟨rfl, rfl⟩ rfl rfl (Nat.le_of_ble_eq_true rfl) ⟨Nat.le_of_ble_eq_true rfl, Nat.le_of_ble_eq_true rfl⟩ ⟨Nat.le_of_ble_eq_true rfl, Nat.le_of_ble_eq_true rfl⟩ dL_go_9 (fun h1 => ?_) (fun E h1 h1_E => ?_)
  · refine z_last C 11 1 rfl rfl (zvpl 0 1 (by decide)) (ws' := (wY cI cJ y (s_X2_go_d d sy sm sd p1 p2 p3 p4) sy sm sd mi ti sL bL mD mT ((o, .inl (cJ, 1, .inr (.inl (vp_updL ou 0 (f_X2_go d sy sm sd p1 p2 p3 p4))))) :: X))) rfl dL_go_12 ?_
    refine z_goto (tgt := 24) C dL_go_13 (by decide) ?_
    refine z_iconst (v := 0) C dL_go_24 (by decide) ?_
    exact z_iret C ⟨congrArg (fun v => some (Value.int v)) (by rw [f_L_go, if_pos h1] : (0 : Int32) = (f_L_go d sy sm sd p1 p2 p3 p4)), by rw [s_L_go_d, if_pos h1, s_L_go_ou, if_pos h1]⟩ (by decide) (by decide) dL_go_25
  · rcases h1_E with ⟨e1, rfl⟩ | ⟨e2, rfl⟩ | ⟨e3, rfl⟩
    · refine z_catch C hTab [] [(0, 13, 20, 21)] (a := 0) (b := 13) (h := 16) (t := 13) rfl (by decide) (by decide) w1 (C.2.2.2.2.2.1.2.2.1 "java/lang/IndexOutOfBoundsException" (by decide)) (fun _ hq => nomatch hq) (fun q => ?_)
      refine z_astore (lv' := [(6, .ref q), (0, .ref (y 0)), (1, .int p1), (2, .int p2), (3, .int p3), (4, .int p4), (5, .ref o)]) C dL_go_16 (by decide) rfl ?_
      refine z_iconst (v := 1) C dL_go_18 (by decide) ?_
      exact z_iret C ⟨congrArg (fun v => some (Value.int v)) (by rw [f_L_go, if_neg h1, if_pos e1] : (1 : Int32) = (f_L_go d sy sm sd p1 p2 p3 p4)), by rw [s_L_go_d, if_neg h1, if_pos e1, s_L_go_ou, if_neg h1, if_pos e1]⟩ (by decide) (by decide) dL_go_19
    · exact absurd e2 (g_0)
    · refine z_catch C hTab [(0, 13, 16, 13)] [] (a := 0) (b := 13) (h := 20) (t := 21) rfl (by decide) (by decide) w2 (C.2.2.2.2.2.1.2.2.1 "java/lang/UnsupportedOperationException" (by decide)) (fun q hq => ((List.mem_cons.mp hq).elim (fun z => by subst z; exact ⟨by decide, "java/lang/IndexOutOfBoundsException", w1, C.2.2.2.2.2.1.2.1 (_, _) (List.mem_of_getElem? (i := 1) rfl)⟩) (fun hq => (nomatch hq)))) (fun q => ?_)
      refine z_astore (lv' := [(6, .ref q), (0, .ref (y 0)), (1, .int p1), (2, .int p2), (3, .int p3), (4, .int p4), (5, .ref o)]) C dL_go_20 (by decide) rfl ?_
      refine z_iconst (v := 2) C dL_go_22 (by decide) ?_
      exact z_iret C ⟨congrArg (fun v => some (Value.int v)) (by rw [f_L_go, if_neg h1, if_neg (show ¬ k_X2_go d sy sm sd p1 p2 p3 p4 = 1 from by rw [e3]; decide)] : (2 : Int32) = (f_L_go d sy sm sd p1 p2 p3 p4)), by rw [s_L_go_d, if_neg h1, if_neg (show ¬ k_X2_go d sy sm sd p1 p2 p3 p4 = 1 from by rw [e3]; decide), s_L_go_ou, if_neg h1, if_neg (show ¬ k_X2_go d sy sm sd p1 p2 p3 p4 = 1 from by rw [e3]; decide)]⟩ (by decide) (by decide) dL_go_23
def f_L_spanPart (p1 : Int32) (p2 : Int32) : Int32 := (if k_X2_spanPart p1 p2 = 0 then 0 else (if k_X2_spanPart p1 p2 = 1 then 1 else 2))
def s_L_spanPart_ou (sy : Nat → Int32) (sm : Nat → Int32) (sd : Nat → Int32) (ou : Nat → Int64) (p1 : Int32) (p2 : Int32) : Nat → Int64 := (if k_X2_spanPart p1 p2 = 0 then (vp_updL ou 0 (((f_X2_spanPart sy sm sd p1 p2)).toInt64)) else (if k_X2_spanPart p1 p2 = 1 then ou else ou))
def pre_L_spanPart (p1 : Int32) (p2 : Int32) : Prop := ((¬ k_X2_spanPart p1 p2 = 3))
theorem q_L_spanPart : ZYH yL_spanPart wsL_spanPart cL_spanPart 5 (some .int) 4 [(0, 10, 13, 13), (0, 10, 17, 15)] := ⟨⟨_, rfl⟩, by decide +kernel, by decide +kernel, by decide +kernel⟩
set_option maxHeartbeats 4000000 in
set_option maxRecDepth 100000 in
theorem c_L_spanPart (l : Launch) (hfl : l.stackTraces = false) (D : va_G) (cI cJ : ClassId) (X : va_W) (y : Nat → Nat) (o : Nat) (d : Nat → Int64) (sy : Nat → Int32) (sm : Nat → Int32) (sd : Nat → Int32) (mi : Nat → Int32) (ti : Nat → Int64) (sL : Nat → Int64) (bL : Nat → Int64) (mD : Nat → Int64) (mT : Nat → Int64) (ou : Nat → Int64) (p1 : Int32) (p2 : Int32)  (h_g : pre_L_spanPart p1 p2) : ZM l yL_spanPart wsL_spanPart { frames := 8, cells := 2, slots := 12, locals := 125 } [.ref (y 0), .int p1, .int p2, .ref o] D (zTys cI cJ) (wY cI cJ y d sy sm sd mi ti sL bL mD mT ((o, .inl (cJ, 1, .inr (.inl ou))) :: X)) 2 12 (fun v w => v = some (.int (f_L_spanPart p1 p2)) ∧ w = (wY cI cJ y d sy sm sd mi ti sL bL mD mT ((o, .inl (cJ, 1, .inr (.inl (s_L_spanPart_ou sy sm sd ou p1 p2)))) :: X))) (fun _ _ => False) := by
  refine z_openH (own := RL) hfl (cc := cL_spanPart) (maxL := 5) (ret := (some .int)) (hh := [(0, 10, 13, 13), (0, 10, 17, 15)]) (lv := [(0, .ref (y 0)), (1, .int p1), (2, .int p2), (3, .ref o)]) rfl (by decide) rfl rfl (Nat.le_of_ble_eq_true rfl) ?_
  intro p e s m args below meth c A C hTab
  have w1 := C.1.2.2.2.2 (.classLink RL 13 "java/lang/IndexOutOfBoundsException") (by decide +kernel)
  have w2 := C.1.2.2.2.2 (.classLink RL 15 "java/lang/IllegalArgumentException") (by decide +kernel)
  have g_0 := h_g
  refine z_aload_n C dL_spanPart_0 rfl 3 rfl ?_
  refine z_iconst (v := 0) C dL_spanPart_1 (by decide) ?_
  refine z_aload_n C dL_spanPart_2 rfl 0 rfl ?_
  refine z_iload_n C dL_spanPart_3 rfl 1 rfl ?_
  refine z_iload_n C dL_spanPart_4 rfl 2 rfl ?_
  refine z_xwi (ws' := (wY cI cJ y d sy sm sd mi ti sL bL mD mT ((o, .inl (cJ, 1, .inr (.inl ou))) :: X))) (rest := [.int 0, .ref o]) (ci := 2) (q0 := 0) C (c_X2_spanPart l hfl D cI cJ ((o, .inl (cJ, 1, .inr (.inl ou))) :: X) y d sy sm sd mi ti sL bL mD mT p1 p2 ) q_X2_spanPart rfl rfl rfl gL_spanPart_X2_spanPart ⟨rfl, rfl⟩ rfl rfl (Nat.le_of_ble_eq_true rfl) ⟨Nat.le_of_ble_eq_true rfl, Nat.le_of_ble_eq_true rfl⟩ ⟨Nat.le_of_ble_eq_true rfl, Nat.le_of_ble_eq_true rfl⟩ dL_spanPart_5 (fun h1 => ?_) (fun E h1 h1_E => ?_)
  · refine z_i2l (v := ((f_X2_spanPart sy sm sd p1 p2)).toInt64) C dL_spanPart_8 rfl ?_
    refine z_last C 11 1 rfl rfl (zvpl 0 1 (by decide)) (ws' := (wY cI cJ y d sy sm sd mi ti sL bL mD mT ((o, .inl (cJ, 1, .inr (.inl (vp_updL ou 0 (((f_X2_spanPart sy sm sd p1 p2)).toInt64))))) :: X))) rfl dL_spanPart_9 ?_
    refine z_goto (tgt := 21) C dL_spanPart_10 (by decide) ?_
    refine z_iconst (v := 0) C dL_spanPart_21 (by decide) ?_
    exact z_iret C ⟨congrArg (fun v => some (Value.int v)) (by rw [f_L_spanPart, if_pos h1] : (0 : Int32) = (f_L_spanPart p1 p2)), by rw [s_L_spanPart_ou, if_pos h1]⟩ (by decide) (by decide) dL_spanPart_22
  · rcases h1_E with ⟨e1, rfl⟩ | ⟨e2, rfl⟩ | ⟨e3, rfl⟩
    · refine z_catch C hTab [] [(0, 10, 17, 15)] (a := 0) (b := 10) (h := 13) (t := 13) rfl (by decide) (by decide) w1 (C.2.2.2.2.2.1.2.2.1 "java/lang/IndexOutOfBoundsException" (by decide)) (fun _ hq => nomatch hq) (fun q => ?_)
      refine z_astore (lv' := [(4, .ref q), (0, .ref (y 0)), (1, .int p1), (2, .int p2), (3, .ref o)]) C dL_spanPart_13 (by decide) rfl ?_
      refine z_iconst (v := 1) C dL_spanPart_15 (by decide) ?_
      exact z_iret C ⟨congrArg (fun v => some (Value.int v)) (by rw [f_L_spanPart, if_neg h1, if_pos e1] : (1 : Int32) = (f_L_spanPart p1 p2)), by rw [s_L_spanPart_ou, if_neg h1, if_pos e1]⟩ (by decide) (by decide) dL_spanPart_16
    · refine z_catch C hTab [(0, 10, 13, 13)] [] (a := 0) (b := 10) (h := 17) (t := 15) rfl (by decide) (by decide) w2 (C.2.2.2.2.2.1.2.2.1 "java/lang/IllegalArgumentException" (by decide)) (fun q hq => ((List.mem_cons.mp hq).elim (fun z => by subst z; exact ⟨by decide, "java/lang/IndexOutOfBoundsException", w1, C.2.2.2.2.2.1.2.1 (_, _) (List.mem_of_getElem? (i := 0) rfl)⟩) (fun hq => (nomatch hq)))) (fun q => ?_)
      refine z_astore (lv' := [(4, .ref q), (0, .ref (y 0)), (1, .int p1), (2, .int p2), (3, .ref o)]) C dL_spanPart_17 (by decide) rfl ?_
      refine z_iconst (v := 2) C dL_spanPart_19 (by decide) ?_
      exact z_iret C ⟨congrArg (fun v => some (Value.int v)) (by rw [f_L_spanPart, if_neg h1, if_neg (show ¬ k_X2_spanPart p1 p2 = 1 from by rw [e2]; decide)] : (2 : Int32) = (f_L_spanPart p1 p2)), by rw [s_L_spanPart_ou, if_neg h1, if_neg (show ¬ k_X2_spanPart p1 p2 = 1 from by rw [e2]; decide)]⟩ (by decide) (by decide) dL_spanPart_20
    · exact absurd e3 (g_0)
def f_L_addSpan (sy : Nat → Int32) (sm : Nat → Int32) (sd : Nat → Int32) (p1 : Int32) (p2 : Int32) (p3 : Int32) (p4 : Int32) : Int32 := (if k_X2_addSpan sy sm sd p1 p2 p3 p4 = 0 then 0 else (if k_X2_addSpan sy sm sd p1 p2 p3 p4 = 1 then 1 else 2))
def s_L_addSpan_sy (sy : Nat → Int32) (sm : Nat → Int32) (sd : Nat → Int32) (p1 : Int32) (p2 : Int32) (p3 : Int32) (p4 : Int32) : Nat → Int32 := (if k_X2_addSpan sy sm sd p1 p2 p3 p4 = 0 then (s_X2_addSpan_sy sy sm sd p1 p2 p3 p4) else (if k_X2_addSpan sy sm sd p1 p2 p3 p4 = 1 then sy else sy))
def s_L_addSpan_sm (sy : Nat → Int32) (sm : Nat → Int32) (sd : Nat → Int32) (p1 : Int32) (p2 : Int32) (p3 : Int32) (p4 : Int32) : Nat → Int32 := (if k_X2_addSpan sy sm sd p1 p2 p3 p4 = 0 then (s_X2_addSpan_sm sy sm sd p1 p2 p3 p4) else (if k_X2_addSpan sy sm sd p1 p2 p3 p4 = 1 then sm else sm))
def s_L_addSpan_sd (sy : Nat → Int32) (sm : Nat → Int32) (sd : Nat → Int32) (p1 : Int32) (p2 : Int32) (p3 : Int32) (p4 : Int32) : Nat → Int32 := (if k_X2_addSpan sy sm sd p1 p2 p3 p4 = 0 then (s_X2_addSpan_sd sy sm sd p1 p2 p3 p4) else (if k_X2_addSpan sy sm sd p1 p2 p3 p4 = 1 then sd else sd))
def s_L_addSpan_ou (sy : Nat → Int32) (sm : Nat → Int32) (sd : Nat → Int32) (ou : Nat → Int64) (p1 : Int32) (p2 : Int32) (p3 : Int32) (p4 : Int32) : Nat → Int64 := (if k_X2_addSpan sy sm sd p1 p2 p3 p4 = 0 then (vp_updL ou 0 (f_X2_addSpan sy sm sd p1 p2 p3 p4)) else (if k_X2_addSpan sy sm sd p1 p2 p3 p4 = 1 then ou else ou))
def pre_L_addSpan (sy : Nat → Int32) (sm : Nat → Int32) (sd : Nat → Int32) (p1 : Int32) (p2 : Int32) (p3 : Int32) (p4 : Int32) : Prop := ((¬ k_X2_addSpan sy sm sd p1 p2 p3 p4 = 2))
theorem q_L_addSpan : ZYH yL_addSpan wsL_addSpan cL_addSpan 7 (some .int) 6 [(0, 13, 16, 13), (0, 13, 20, 21)] := ⟨⟨_, rfl⟩, by decide +kernel, by decide +kernel, by decide +kernel⟩
set_option maxHeartbeats 4000000 in
set_option maxRecDepth 100000 in
theorem c_L_addSpan (l : Launch) (hfl : l.stackTraces = false) (D : va_G) (cI cJ : ClassId) (X : va_W) (y : Nat → Nat) (o : Nat) (d : Nat → Int64) (sy : Nat → Int32) (sm : Nat → Int32) (sd : Nat → Int32) (mi : Nat → Int32) (ti : Nat → Int64) (sL : Nat → Int64) (bL : Nat → Int64) (mD : Nat → Int64) (mT : Nat → Int64) (ou : Nat → Int64) (p1 : Int32) (p2 : Int32) (p3 : Int32) (p4 : Int32)  (h_g : pre_L_addSpan sy sm sd p1 p2 p3 p4) : ZM l yL_addSpan wsL_addSpan { frames := 9, cells := 4, slots := 24, locals := 161 } [.ref (y 0), .int p1, .int p2, .int p3, .int p4, .ref o] D (zTys cI cJ) (wY cI cJ y d sy sm sd mi ti sL bL mD mT ((o, .inl (cJ, 1, .inr (.inl ou))) :: X)) 4 24 (fun v w => v = some (.int (f_L_addSpan sy sm sd p1 p2 p3 p4)) ∧ w = (wY cI cJ y d (s_L_addSpan_sy sy sm sd p1 p2 p3 p4) (s_L_addSpan_sm sy sm sd p1 p2 p3 p4) (s_L_addSpan_sd sy sm sd p1 p2 p3 p4) mi ti sL bL mD mT ((o, .inl (cJ, 1, .inr (.inl (s_L_addSpan_ou sy sm sd ou p1 p2 p3 p4)))) :: X))) (fun _ _ => False) := by
  refine z_openH (own := RL) hfl (cc := cL_addSpan) (maxL := 7) (ret := (some .int)) (hh := [(0, 13, 16, 13), (0, 13, 20, 21)]) (lv := [(0, .ref (y 0)), (1, .int p1), (2, .int p2), (3, .int p3), (4, .int p4), (5, .ref o)]) rfl (by decide) rfl rfl (Nat.le_of_ble_eq_true rfl) ?_
  intro p e s m args below meth c A C hTab
  have w1 := C.1.2.2.2.2 (.classLink RL 13 "java/lang/IndexOutOfBoundsException") (by decide +kernel)
  have w2 := C.1.2.2.2.2 (.classLink RL 21 "java/lang/UnsupportedOperationException") (by decide +kernel)
  have g_0 := h_g
  refine z_aload C dL_addSpan_0 5 rfl ?_
  refine z_iconst (v := 0) C dL_addSpan_2 (by decide) ?_
  refine z_aload_n C dL_addSpan_3 rfl 0 rfl ?_
  refine z_iload_n C dL_addSpan_4 rfl 1 rfl ?_
  refine z_iload_n C dL_addSpan_5 rfl 2 rfl ?_
  refine z_iload_n C dL_addSpan_6 rfl 3 rfl ?_
  refine z_iload C dL_addSpan_7 4 rfl ?_
  refine z_xwl (ws' := (wY cI cJ y d (s_X2_addSpan_sy sy sm sd p1 p2 p3 p4) (s_X2_addSpan_sm sy sm sd p1 p2 p3 p4) (s_X2_addSpan_sd sy sm sd p1 p2 p3 p4) mi ti sL bL mD mT ((o, .inl (cJ, 1, .inr (.inl ou))) :: X))) (rest := [.int 0, .ref o]) (ci := 2) (q0 := 0) C (c_X2_addSpan l hfl D cI cJ ((o, .inl (cJ, 1, .inr (.inl ou))) :: X) y d sy sm sd mi ti sL bL mD mT p1 p2 p3 p4 ) q_X2_addSpan rfl rfl rfl gL_addSpan_X2_addSpan ⟨rfl, rfl⟩ rfl rfl (Nat.le_of_ble_eq_true rfl) ⟨Nat.le_of_ble_eq_true rfl, Nat.le_of_ble_eq_true rfl⟩ ⟨Nat.le_of_ble_eq_true rfl, Nat.le_of_ble_eq_true rfl⟩ dL_addSpan_9 (fun h1 => ?_) (fun E h1 h1_E => ?_)
  · refine z_last C 11 1 rfl rfl (zvpl 0 1 (by decide)) (ws' := (wY cI cJ y d (s_X2_addSpan_sy sy sm sd p1 p2 p3 p4) (s_X2_addSpan_sm sy sm sd p1 p2 p3 p4) (s_X2_addSpan_sd sy sm sd p1 p2 p3 p4) mi ti sL bL mD mT ((o, .inl (cJ, 1, .inr (.inl (vp_updL ou 0 (f_X2_addSpan sy sm sd p1 p2 p3 p4))))) :: X))) rfl dL_addSpan_12 ?_
    refine z_goto (tgt := 24) C dL_addSpan_13 (by decide) ?_
    refine z_iconst (v := 0) C dL_addSpan_24 (by decide) ?_
    exact z_iret C ⟨congrArg (fun v => some (Value.int v)) (by rw [f_L_addSpan, if_pos h1] : (0 : Int32) = (f_L_addSpan sy sm sd p1 p2 p3 p4)), by rw [s_L_addSpan_sy, if_pos h1, s_L_addSpan_sm, if_pos h1, s_L_addSpan_sd, if_pos h1, s_L_addSpan_ou, if_pos h1]⟩ (by decide) (by decide) dL_addSpan_25
  · rcases h1_E with ⟨e1, rfl⟩ | ⟨e2, rfl⟩ | ⟨e3, rfl⟩
    · refine z_catch C hTab [] [(0, 13, 20, 21)] (a := 0) (b := 13) (h := 16) (t := 13) rfl (by decide) (by decide) w1 (C.2.2.2.2.2.1.2.2.1 "java/lang/IndexOutOfBoundsException" (by decide)) (fun _ hq => nomatch hq) (fun q => ?_)
      refine z_astore (lv' := [(6, .ref q), (0, .ref (y 0)), (1, .int p1), (2, .int p2), (3, .int p3), (4, .int p4), (5, .ref o)]) C dL_addSpan_16 (by decide) rfl ?_
      refine z_iconst (v := 1) C dL_addSpan_18 (by decide) ?_
      exact z_iret C ⟨congrArg (fun v => some (Value.int v)) (by rw [f_L_addSpan, if_neg h1, if_pos e1] : (1 : Int32) = (f_L_addSpan sy sm sd p1 p2 p3 p4)), by rw [s_L_addSpan_sy, if_neg h1, if_pos e1, s_L_addSpan_sm, if_neg h1, if_pos e1, s_L_addSpan_sd, if_neg h1, if_pos e1, s_L_addSpan_ou, if_neg h1, if_pos e1]⟩ (by decide) (by decide) dL_addSpan_19
    · exact absurd e2 (g_0)
    · refine z_catch C hTab [(0, 13, 16, 13)] [] (a := 0) (b := 13) (h := 20) (t := 21) rfl (by decide) (by decide) w2 (C.2.2.2.2.2.1.2.2.1 "java/lang/UnsupportedOperationException" (by decide)) (fun q hq => ((List.mem_cons.mp hq).elim (fun z => by subst z; exact ⟨by decide, "java/lang/IndexOutOfBoundsException", w1, C.2.2.2.2.2.1.2.1 (_, _) (List.mem_of_getElem? (i := 1) rfl)⟩) (fun hq => (nomatch hq)))) (fun q => ?_)
      refine z_astore (lv' := [(6, .ref q), (0, .ref (y 0)), (1, .int p1), (2, .int p2), (3, .int p3), (4, .int p4), (5, .ref o)]) C dL_addSpan_20 (by decide) rfl ?_
      refine z_iconst (v := 2) C dL_addSpan_22 (by decide) ?_
      exact z_iret C ⟨congrArg (fun v => some (Value.int v)) (by rw [f_L_addSpan, if_neg h1, if_neg (show ¬ k_X2_addSpan sy sm sd p1 p2 p3 p4 = 1 from by rw [e3]; decide)] : (2 : Int32) = (f_L_addSpan sy sm sd p1 p2 p3 p4)), by rw [s_L_addSpan_sy, if_neg h1, if_neg (show ¬ k_X2_addSpan sy sm sd p1 p2 p3 p4 = 1 from by rw [e3]; decide), s_L_addSpan_sm, if_neg h1, if_neg (show ¬ k_X2_addSpan sy sm sd p1 p2 p3 p4 = 1 from by rw [e3]; decide), s_L_addSpan_sd, if_neg h1, if_neg (show ¬ k_X2_addSpan sy sm sd p1 p2 p3 p4 = 1 from by rw [e3]; decide), s_L_addSpan_ou, if_neg h1, if_neg (show ¬ k_X2_addSpan sy sm sd p1 p2 p3 p4 = 1 from by rw [e3]; decide)]⟩ (by decide) (by decide) dL_addSpan_23
def f_L_timesSpan (sy : Nat → Int32) (sm : Nat → Int32) (sd : Nat → Int32) (p1 : Int32) (p2 : Int32) (p3 : Int32) : Int32 := (if k_X2_timesSpan sy sm sd p1 p2 p3 = 0 then 0 else (if k_X2_timesSpan sy sm sd p1 p2 p3 = 1 then 1 else (if k_X2_timesSpan sy sm sd p1 p2 p3 = 2 then 2 else 3)))
def s_L_timesSpan_sy (sy : Nat → Int32) (sm : Nat → Int32) (sd : Nat → Int32) (p1 : Int32) (p2 : Int32) (p3 : Int32) : Nat → Int32 := (if k_X2_timesSpan sy sm sd p1 p2 p3 = 0 then (s_X2_timesSpan_sy sy sm sd p1 p2 p3) else (if k_X2_timesSpan sy sm sd p1 p2 p3 = 1 then sy else (if k_X2_timesSpan sy sm sd p1 p2 p3 = 2 then sy else sy)))
def s_L_timesSpan_sm (sy : Nat → Int32) (sm : Nat → Int32) (sd : Nat → Int32) (p1 : Int32) (p2 : Int32) (p3 : Int32) : Nat → Int32 := (if k_X2_timesSpan sy sm sd p1 p2 p3 = 0 then (s_X2_timesSpan_sm sy sm sd p1 p2 p3) else (if k_X2_timesSpan sy sm sd p1 p2 p3 = 1 then sm else (if k_X2_timesSpan sy sm sd p1 p2 p3 = 2 then sm else sm)))
def s_L_timesSpan_sd (sy : Nat → Int32) (sm : Nat → Int32) (sd : Nat → Int32) (p1 : Int32) (p2 : Int32) (p3 : Int32) : Nat → Int32 := (if k_X2_timesSpan sy sm sd p1 p2 p3 = 0 then (s_X2_timesSpan_sd sy sm sd p1 p2 p3) else (if k_X2_timesSpan sy sm sd p1 p2 p3 = 1 then sd else (if k_X2_timesSpan sy sm sd p1 p2 p3 = 2 then sd else sd)))
def s_L_timesSpan_ou (sy : Nat → Int32) (sm : Nat → Int32) (sd : Nat → Int32) (ou : Nat → Int64) (p1 : Int32) (p2 : Int32) (p3 : Int32) : Nat → Int64 := (if k_X2_timesSpan sy sm sd p1 p2 p3 = 0 then (vp_updL ou 0 (f_X2_timesSpan sy sm sd p1 p2 p3)) else (if k_X2_timesSpan sy sm sd p1 p2 p3 = 1 then ou else (if k_X2_timesSpan sy sm sd p1 p2 p3 = 2 then ou else ou)))
theorem q_L_timesSpan : ZYH yL_timesSpan wsL_timesSpan cL_timesSpan 6 (some .int) 5 [(0, 11, 14, 13), (0, 11, 18, 15), (0, 11, 22, 21)] := ⟨⟨_, rfl⟩, by decide +kernel, by decide +kernel, by decide +kernel⟩
set_option maxHeartbeats 4000000 in
set_option maxRecDepth 100000 in
theorem c_L_timesSpan (l : Launch) (hfl : l.stackTraces = false) (D : va_G) (cI cJ : ClassId) (X : va_W) (y : Nat → Nat) (o : Nat) (d : Nat → Int64) (sy : Nat → Int32) (sm : Nat → Int32) (sd : Nat → Int32) (mi : Nat → Int32) (ti : Nat → Int64) (sL : Nat → Int64) (bL : Nat → Int64) (mD : Nat → Int64) (mT : Nat → Int64) (ou : Nat → Int64) (p1 : Int32) (p2 : Int32) (p3 : Int32)  : ZM l yL_timesSpan wsL_timesSpan { frames := 9, cells := 4, slots := 24, locals := 152 } [.ref (y 0), .int p1, .int p2, .int p3, .ref o] D (zTys cI cJ) (wY cI cJ y d sy sm sd mi ti sL bL mD mT ((o, .inl (cJ, 1, .inr (.inl ou))) :: X)) 4 24 (fun v w => v = some (.int (f_L_timesSpan sy sm sd p1 p2 p3)) ∧ w = (wY cI cJ y d (s_L_timesSpan_sy sy sm sd p1 p2 p3) (s_L_timesSpan_sm sy sm sd p1 p2 p3) (s_L_timesSpan_sd sy sm sd p1 p2 p3) mi ti sL bL mD mT ((o, .inl (cJ, 1, .inr (.inl (s_L_timesSpan_ou sy sm sd ou p1 p2 p3)))) :: X))) (fun _ _ => False) := by
  refine z_openH (own := RL) hfl (cc := cL_timesSpan) (maxL := 6) (ret := (some .int)) (hh := [(0, 11, 14, 13), (0, 11, 18, 15), (0, 11, 22, 21)]) (lv := [(0, .ref (y 0)), (1, .int p1), (2, .int p2), (3, .int p3), (4, .ref o)]) rfl (by decide) rfl rfl (Nat.le_of_ble_eq_true rfl) ?_
  intro p e s m args below meth c A C hTab
  have w1 := C.1.2.2.2.2 (.classLink RL 13 "java/lang/IndexOutOfBoundsException") (by decide +kernel)
  have w2 := C.1.2.2.2.2 (.classLink RL 15 "java/lang/IllegalArgumentException") (by decide +kernel)
  have w3 := C.1.2.2.2.2 (.classLink RL 21 "java/lang/UnsupportedOperationException") (by decide +kernel)
  refine z_aload C dL_timesSpan_0 4 rfl ?_
  refine z_iconst (v := 0) C dL_timesSpan_2 (by decide) ?_
  refine z_aload_n C dL_timesSpan_3 rfl 0 rfl ?_
  refine z_iload_n C dL_timesSpan_4 rfl 1 rfl ?_
  refine z_iload_n C dL_timesSpan_5 rfl 2 rfl ?_
  refine z_iload_n C dL_timesSpan_6 rfl 3 rfl ?_
  refine z_xwl (ws' := (wY cI cJ y d (s_X2_timesSpan_sy sy sm sd p1 p2 p3) (s_X2_timesSpan_sm sy sm sd p1 p2 p3) (s_X2_timesSpan_sd sy sm sd p1 p2 p3) mi ti sL bL mD mT ((o, .inl (cJ, 1, .inr (.inl ou))) :: X))) (rest := [.int 0, .ref o]) (ci := 2) (q0 := 0) C (c_X2_timesSpan l hfl D cI cJ ((o, .inl (cJ, 1, .inr (.inl ou))) :: X) y d sy sm sd mi ti sL bL mD mT p1 p2 p3 ) q_X2_timesSpan rfl rfl rfl gL_timesSpan_X2_timesSpan ⟨rfl, rfl⟩ rfl rfl (Nat.le_of_ble_eq_true rfl) ⟨Nat.le_of_ble_eq_true rfl, Nat.le_of_ble_eq_true rfl⟩ ⟨Nat.le_of_ble_eq_true rfl, Nat.le_of_ble_eq_true rfl⟩ dL_timesSpan_7 (fun h1 => ?_) (fun E h1 h1_E => ?_)
  · refine z_last C 11 1 rfl rfl (zvpl 0 1 (by decide)) (ws' := (wY cI cJ y d (s_X2_timesSpan_sy sy sm sd p1 p2 p3) (s_X2_timesSpan_sm sy sm sd p1 p2 p3) (s_X2_timesSpan_sd sy sm sd p1 p2 p3) mi ti sL bL mD mT ((o, .inl (cJ, 1, .inr (.inl (vp_updL ou 0 (f_X2_timesSpan sy sm sd p1 p2 p3))))) :: X))) rfl dL_timesSpan_10 ?_
    refine z_goto (tgt := 26) C dL_timesSpan_11 (by decide) ?_
    refine z_iconst (v := 0) C dL_timesSpan_26 (by decide) ?_
    exact z_iret C ⟨congrArg (fun v => some (Value.int v)) (by rw [f_L_timesSpan, if_pos h1] : (0 : Int32) = (f_L_timesSpan sy sm sd p1 p2 p3)), by rw [s_L_timesSpan_sy, if_pos h1, s_L_timesSpan_sm, if_pos h1, s_L_timesSpan_sd, if_pos h1, s_L_timesSpan_ou, if_pos h1]⟩ (by decide) (by decide) dL_timesSpan_27
  · rcases h1_E with ⟨e1, rfl⟩ | ⟨e2, rfl⟩ | ⟨e3, rfl⟩
    · refine z_catch C hTab [] [(0, 11, 18, 15), (0, 11, 22, 21)] (a := 0) (b := 11) (h := 14) (t := 13) rfl (by decide) (by decide) w1 (C.2.2.2.2.2.1.2.2.1 "java/lang/IndexOutOfBoundsException" (by decide)) (fun _ hq => nomatch hq) (fun q => ?_)
      refine z_astore (lv' := [(5, .ref q), (0, .ref (y 0)), (1, .int p1), (2, .int p2), (3, .int p3), (4, .ref o)]) C dL_timesSpan_14 (by decide) rfl ?_
      refine z_iconst (v := 1) C dL_timesSpan_16 (by decide) ?_
      exact z_iret C ⟨congrArg (fun v => some (Value.int v)) (by rw [f_L_timesSpan, if_neg h1, if_pos e1] : (1 : Int32) = (f_L_timesSpan sy sm sd p1 p2 p3)), by rw [s_L_timesSpan_sy, if_neg h1, if_pos e1, s_L_timesSpan_sm, if_neg h1, if_pos e1, s_L_timesSpan_sd, if_neg h1, if_pos e1, s_L_timesSpan_ou, if_neg h1, if_pos e1]⟩ (by decide) (by decide) dL_timesSpan_17
    · refine z_catch C hTab [(0, 11, 14, 13)] [(0, 11, 22, 21)] (a := 0) (b := 11) (h := 18) (t := 15) rfl (by decide) (by decide) w2 (C.2.2.2.2.2.1.2.2.1 "java/lang/IllegalArgumentException" (by decide)) (fun q hq => ((List.mem_cons.mp hq).elim (fun z => by subst z; exact ⟨by decide, "java/lang/IndexOutOfBoundsException", w1, C.2.2.2.2.2.1.2.1 (_, _) (List.mem_of_getElem? (i := 0) rfl)⟩) (fun hq => (nomatch hq)))) (fun q => ?_)
      refine z_astore (lv' := [(5, .ref q), (0, .ref (y 0)), (1, .int p1), (2, .int p2), (3, .int p3), (4, .ref o)]) C dL_timesSpan_18 (by decide) rfl ?_
      refine z_iconst (v := 2) C dL_timesSpan_20 (by decide) ?_
      exact z_iret C ⟨congrArg (fun v => some (Value.int v)) (by rw [f_L_timesSpan, if_neg h1, if_neg (show ¬ k_X2_timesSpan sy sm sd p1 p2 p3 = 1 from by rw [e2]; decide), if_pos e2] : (2 : Int32) = (f_L_timesSpan sy sm sd p1 p2 p3)), by rw [s_L_timesSpan_sy, if_neg h1, if_neg (show ¬ k_X2_timesSpan sy sm sd p1 p2 p3 = 1 from by rw [e2]; decide), if_pos e2, s_L_timesSpan_sm, if_neg h1, if_neg (show ¬ k_X2_timesSpan sy sm sd p1 p2 p3 = 1 from by rw [e2]; decide), if_pos e2, s_L_timesSpan_sd, if_neg h1, if_neg (show ¬ k_X2_timesSpan sy sm sd p1 p2 p3 = 1 from by rw [e2]; decide), if_pos e2, s_L_timesSpan_ou, if_neg h1, if_neg (show ¬ k_X2_timesSpan sy sm sd p1 p2 p3 = 1 from by rw [e2]; decide), if_pos e2]⟩ (by decide) (by decide) dL_timesSpan_21
    · refine z_catch C hTab [(0, 11, 14, 13), (0, 11, 18, 15)] [] (a := 0) (b := 11) (h := 22) (t := 21) rfl (by decide) (by decide) w3 (C.2.2.2.2.2.1.2.2.1 "java/lang/UnsupportedOperationException" (by decide)) (fun q hq => ((List.mem_cons.mp hq).elim (fun z => by subst z; exact ⟨by decide, "java/lang/IndexOutOfBoundsException", w1, C.2.2.2.2.2.1.2.1 (_, _) (List.mem_of_getElem? (i := 1) rfl)⟩) (fun hq => ((List.mem_cons.mp hq).elim (fun z => by subst z; exact ⟨by decide, "java/lang/IllegalArgumentException", w2, C.2.2.2.2.2.1.2.1 (_, _) (List.mem_of_getElem? (i := 2) rfl)⟩) (fun hq => (nomatch hq)))))) (fun q => ?_)
      refine z_astore (lv' := [(5, .ref q), (0, .ref (y 0)), (1, .int p1), (2, .int p2), (3, .int p3), (4, .ref o)]) C dL_timesSpan_22 (by decide) rfl ?_
      refine z_iconst (v := 3) C dL_timesSpan_24 (by decide) ?_
      exact z_iret C ⟨congrArg (fun v => some (Value.int v)) (by rw [f_L_timesSpan, if_neg h1, if_neg (show ¬ k_X2_timesSpan sy sm sd p1 p2 p3 = 1 from by rw [e3]; decide), if_neg (show ¬ k_X2_timesSpan sy sm sd p1 p2 p3 = 2 from by rw [e3]; decide)] : (3 : Int32) = (f_L_timesSpan sy sm sd p1 p2 p3)), by rw [s_L_timesSpan_sy, if_neg h1, if_neg (show ¬ k_X2_timesSpan sy sm sd p1 p2 p3 = 1 from by rw [e3]; decide), if_neg (show ¬ k_X2_timesSpan sy sm sd p1 p2 p3 = 2 from by rw [e3]; decide), s_L_timesSpan_sm, if_neg h1, if_neg (show ¬ k_X2_timesSpan sy sm sd p1 p2 p3 = 1 from by rw [e3]; decide), if_neg (show ¬ k_X2_timesSpan sy sm sd p1 p2 p3 = 2 from by rw [e3]; decide), s_L_timesSpan_sd, if_neg h1, if_neg (show ¬ k_X2_timesSpan sy sm sd p1 p2 p3 = 1 from by rw [e3]; decide), if_neg (show ¬ k_X2_timesSpan sy sm sd p1 p2 p3 = 2 from by rw [e3]; decide), s_L_timesSpan_ou, if_neg h1, if_neg (show ¬ k_X2_timesSpan sy sm sd p1 p2 p3 = 1 from by rw [e3]; decide), if_neg (show ¬ k_X2_timesSpan sy sm sd p1 p2 p3 = 2 from by rw [e3]; decide)]⟩ (by decide) (by decide) dL_timesSpan_25
def f_L_plainSpan (sy : Nat → Int32) (sm : Nat → Int32) (sd : Nat → Int32) (p1 : Int32) (p2 : Int32) : Int32 := (if k_X2_plainSpan sy sm sd p1 p2 = 0 then 0 else (if k_X2_plainSpan sy sm sd p1 p2 = 1 then 1 else 2))
def s_L_plainSpan_sy (sy : Nat → Int32) (sm : Nat → Int32) (sd : Nat → Int32) (p1 : Int32) (p2 : Int32) : Nat → Int32 := (if k_X2_plainSpan sy sm sd p1 p2 = 0 then (s_X2_plainSpan_sy sy sm sd p1 p2) else (if k_X2_plainSpan sy sm sd p1 p2 = 1 then sy else sy))
def s_L_plainSpan_sm (sy : Nat → Int32) (sm : Nat → Int32) (sd : Nat → Int32) (p1 : Int32) (p2 : Int32) : Nat → Int32 := (if k_X2_plainSpan sy sm sd p1 p2 = 0 then (s_X2_plainSpan_sm sy sm sd p1 p2) else (if k_X2_plainSpan sy sm sd p1 p2 = 1 then sm else sm))
def s_L_plainSpan_sd (sy : Nat → Int32) (sm : Nat → Int32) (sd : Nat → Int32) (p1 : Int32) (p2 : Int32) : Nat → Int32 := (if k_X2_plainSpan sy sm sd p1 p2 = 0 then (s_X2_plainSpan_sd sy sm sd p1 p2) else (if k_X2_plainSpan sy sm sd p1 p2 = 1 then sd else sd))
def s_L_plainSpan_ou (sy : Nat → Int32) (sm : Nat → Int32) (sd : Nat → Int32) (ou : Nat → Int64) (p1 : Int32) (p2 : Int32) : Nat → Int64 := (if k_X2_plainSpan sy sm sd p1 p2 = 0 then (vp_updL ou 0 (f_X2_plainSpan sy sm sd p1 p2)) else (if k_X2_plainSpan sy sm sd p1 p2 = 1 then ou else ou))
def pre_L_plainSpan (sy : Nat → Int32) (sm : Nat → Int32) (sd : Nat → Int32) (p1 : Int32) (p2 : Int32) : Prop := ((¬ k_X2_plainSpan sy sm sd p1 p2 = 2))
theorem q_L_plainSpan : ZYH yL_plainSpan wsL_plainSpan cL_plainSpan 5 (some .int) 4 [(0, 9, 12, 13), (0, 9, 16, 21)] := ⟨⟨_, rfl⟩, by decide +kernel, by decide +kernel, by decide +kernel⟩
set_option maxHeartbeats 4000000 in
set_option maxRecDepth 100000 in
theorem c_L_plainSpan (l : Launch) (hfl : l.stackTraces = false) (D : va_G) (cI cJ : ClassId) (X : va_W) (y : Nat → Nat) (o : Nat) (d : Nat → Int64) (sy : Nat → Int32) (sm : Nat → Int32) (sd : Nat → Int32) (mi : Nat → Int32) (ti : Nat → Int64) (sL : Nat → Int64) (bL : Nat → Int64) (mD : Nat → Int64) (mT : Nat → Int64) (ou : Nat → Int64) (p1 : Int32) (p2 : Int32)  (h_g : pre_L_plainSpan sy sm sd p1 p2) : ZM l yL_plainSpan wsL_plainSpan { frames := 9, cells := 3, slots := 18, locals := 153 } [.ref (y 0), .int p1, .int p2, .ref o] D (zTys cI cJ) (wY cI cJ y d sy sm sd mi ti sL bL mD mT ((o, .inl (cJ, 1, .inr (.inl ou))) :: X)) 3 18 (fun v w => v = some (.int (f_L_plainSpan sy sm sd p1 p2)) ∧ w = (wY cI cJ y d (s_L_plainSpan_sy sy sm sd p1 p2) (s_L_plainSpan_sm sy sm sd p1 p2) (s_L_plainSpan_sd sy sm sd p1 p2) mi ti sL bL mD mT ((o, .inl (cJ, 1, .inr (.inl (s_L_plainSpan_ou sy sm sd ou p1 p2)))) :: X))) (fun _ _ => False) := by
  refine z_openH (own := RL) hfl (cc := cL_plainSpan) (maxL := 5) (ret := (some .int)) (hh := [(0, 9, 12, 13), (0, 9, 16, 21)]) (lv := [(0, .ref (y 0)), (1, .int p1), (2, .int p2), (3, .ref o)]) rfl (by decide) rfl rfl (Nat.le_of_ble_eq_true rfl) ?_
  intro p e s m args below meth c A C hTab
  have w1 := C.1.2.2.2.2 (.classLink RL 13 "java/lang/IndexOutOfBoundsException") (by decide +kernel)
  have w2 := C.1.2.2.2.2 (.classLink RL 21 "java/lang/UnsupportedOperationException") (by decide +kernel)
  have g_0 := h_g
  refine z_aload_n C dL_plainSpan_0 rfl 3 rfl ?_
  refine z_iconst (v := 0) C dL_plainSpan_1 (by decide) ?_
  refine z_aload_n C dL_plainSpan_2 rfl 0 rfl ?_
  refine z_iload_n C dL_plainSpan_3 rfl 1 rfl ?_
  refine z_iload_n C dL_plainSpan_4 rfl 2 rfl ?_
  refine z_xwl (ws' := (wY cI cJ y d (s_X2_plainSpan_sy sy sm sd p1 p2) (s_X2_plainSpan_sm sy sm sd p1 p2) (s_X2_plainSpan_sd sy sm sd p1 p2) mi ti sL bL mD mT ((o, .inl (cJ, 1, .inr (.inl ou))) :: X))) (rest := [.int 0, .ref o]) (ci := 2) (q0 := 0) C (c_X2_plainSpan l hfl D cI cJ ((o, .inl (cJ, 1, .inr (.inl ou))) :: X) y d sy sm sd mi ti sL bL mD mT p1 p2 ) q_X2_plainSpan rfl rfl rfl gL_plainSpan_X2_plainSpan ⟨rfl, rfl⟩ rfl rfl (Nat.le_of_ble_eq_true rfl) ⟨Nat.le_of_ble_eq_true rfl, Nat.le_of_ble_eq_true rfl⟩ ⟨Nat.le_of_ble_eq_true rfl, Nat.le_of_ble_eq_true rfl⟩ dL_plainSpan_5 (fun h1 => ?_) (fun E h1 h1_E => ?_)
  · refine z_last C 11 1 rfl rfl (zvpl 0 1 (by decide)) (ws' := (wY cI cJ y d (s_X2_plainSpan_sy sy sm sd p1 p2) (s_X2_plainSpan_sm sy sm sd p1 p2) (s_X2_plainSpan_sd sy sm sd p1 p2) mi ti sL bL mD mT ((o, .inl (cJ, 1, .inr (.inl (vp_updL ou 0 (f_X2_plainSpan sy sm sd p1 p2))))) :: X))) rfl dL_plainSpan_8 ?_
    refine z_goto (tgt := 20) C dL_plainSpan_9 (by decide) ?_
    refine z_iconst (v := 0) C dL_plainSpan_20 (by decide) ?_
    exact z_iret C ⟨congrArg (fun v => some (Value.int v)) (by rw [f_L_plainSpan, if_pos h1] : (0 : Int32) = (f_L_plainSpan sy sm sd p1 p2)), by rw [s_L_plainSpan_sy, if_pos h1, s_L_plainSpan_sm, if_pos h1, s_L_plainSpan_sd, if_pos h1, s_L_plainSpan_ou, if_pos h1]⟩ (by decide) (by decide) dL_plainSpan_21
  · rcases h1_E with ⟨e1, rfl⟩ | ⟨e2, rfl⟩ | ⟨e3, rfl⟩
    · refine z_catch C hTab [] [(0, 9, 16, 21)] (a := 0) (b := 9) (h := 12) (t := 13) rfl (by decide) (by decide) w1 (C.2.2.2.2.2.1.2.2.1 "java/lang/IndexOutOfBoundsException" (by decide)) (fun _ hq => nomatch hq) (fun q => ?_)
      refine z_astore (lv' := [(4, .ref q), (0, .ref (y 0)), (1, .int p1), (2, .int p2), (3, .ref o)]) C dL_plainSpan_12 (by decide) rfl ?_
      refine z_iconst (v := 1) C dL_plainSpan_14 (by decide) ?_
      exact z_iret C ⟨congrArg (fun v => some (Value.int v)) (by rw [f_L_plainSpan, if_neg h1, if_pos e1] : (1 : Int32) = (f_L_plainSpan sy sm sd p1 p2)), by rw [s_L_plainSpan_sy, if_neg h1, if_pos e1, s_L_plainSpan_sm, if_neg h1, if_pos e1, s_L_plainSpan_sd, if_neg h1, if_pos e1, s_L_plainSpan_ou, if_neg h1, if_pos e1]⟩ (by decide) (by decide) dL_plainSpan_15
    · exact absurd e2 (g_0)
    · refine z_catch C hTab [(0, 9, 12, 13)] [] (a := 0) (b := 9) (h := 16) (t := 21) rfl (by decide) (by decide) w2 (C.2.2.2.2.2.1.2.2.1 "java/lang/UnsupportedOperationException" (by decide)) (fun q hq => ((List.mem_cons.mp hq).elim (fun z => by subst z; exact ⟨by decide, "java/lang/IndexOutOfBoundsException", w1, C.2.2.2.2.2.1.2.1 (_, _) (List.mem_of_getElem? (i := 1) rfl)⟩) (fun hq => (nomatch hq)))) (fun q => ?_)
      refine z_astore (lv' := [(4, .ref q), (0, .ref (y 0)), (1, .int p1), (2, .int p2), (3, .ref o)]) C dL_plainSpan_16 (by decide) rfl ?_
      refine z_iconst (v := 2) C dL_plainSpan_18 (by decide) ?_
      exact z_iret C ⟨congrArg (fun v => some (Value.int v)) (by rw [f_L_plainSpan, if_neg h1, if_neg (show ¬ k_X2_plainSpan sy sm sd p1 p2 = 1 from by rw [e3]; decide)] : (2 : Int32) = (f_L_plainSpan sy sm sd p1 p2)), by rw [s_L_plainSpan_sy, if_neg h1, if_neg (show ¬ k_X2_plainSpan sy sm sd p1 p2 = 1 from by rw [e3]; decide), s_L_plainSpan_sm, if_neg h1, if_neg (show ¬ k_X2_plainSpan sy sm sd p1 p2 = 1 from by rw [e3]; decide), s_L_plainSpan_sd, if_neg h1, if_neg (show ¬ k_X2_plainSpan sy sm sd p1 p2 = 1 from by rw [e3]; decide), s_L_plainSpan_ou, if_neg h1, if_neg (show ¬ k_X2_plainSpan sy sm sd p1 p2 = 1 from by rw [e3]; decide)]⟩ (by decide) (by decide) dL_plainSpan_19
def f_L_month (p1 : Int32) (p2 : Int32) (p3 : Int32) : Int32 := (if k_X2_month p1 p2 p3 = 0 then 0 else (if k_X2_month p1 p2 p3 = 1 then 1 else 2))
def s_L_month_mi (mi : Nat → Int32) (p1 : Int32) (p2 : Int32) (p3 : Int32) : Nat → Int32 := (if k_X2_month p1 p2 p3 = 0 then (s_X2_month_mi mi p1 p2 p3) else (if k_X2_month p1 p2 p3 = 1 then mi else mi))
def s_L_month_ou (ou : Nat → Int64) (p1 : Int32) (p2 : Int32) (p3 : Int32) : Nat → Int64 := (if k_X2_month p1 p2 p3 = 0 then (vp_updL ou 0 (((f_X2_month p1 p2 p3)).toInt64)) else (if k_X2_month p1 p2 p3 = 1 then ou else ou))
def pre_L_month (p1 : Int32) (p2 : Int32) (p3 : Int32) : Prop := ((¬ k_X2_month p1 p2 p3 = 3))
theorem q_L_month : ZYH yL_month wsL_month cL_month 6 (some .int) 5 [(0, 12, 15, 13), (0, 12, 19, 15)] := ⟨⟨_, rfl⟩, by decide +kernel, by decide +kernel, by decide +kernel⟩
set_option maxHeartbeats 4000000 in
set_option maxRecDepth 100000 in
theorem c_L_month (l : Launch) (hfl : l.stackTraces = false) (D : va_G) (cI cJ : ClassId) (X : va_W) (y : Nat → Nat) (o : Nat) (d : Nat → Int64) (sy : Nat → Int32) (sm : Nat → Int32) (sd : Nat → Int32) (mi : Nat → Int32) (ti : Nat → Int64) (sL : Nat → Int64) (bL : Nat → Int64) (mD : Nat → Int64) (mT : Nat → Int64) (ou : Nat → Int64) (p1 : Int32) (p2 : Int32) (p3 : Int32)  (h_g : pre_L_month p1 p2 p3) : ZM l yL_month wsL_month { frames := 9, cells := 4, slots := 24, locals := 148 } [.ref (y 0), .int p1, .int p2, .int p3, .ref o] D (zTys cI cJ) (wY cI cJ y d sy sm sd mi ti sL bL mD mT ((o, .inl (cJ, 1, .inr (.inl ou))) :: X)) 4 24 (fun v w => v = some (.int (f_L_month p1 p2 p3)) ∧ w = (wY cI cJ y d sy sm sd (s_L_month_mi mi p1 p2 p3) ti sL bL mD mT ((o, .inl (cJ, 1, .inr (.inl (s_L_month_ou ou p1 p2 p3)))) :: X))) (fun _ _ => False) := by
  refine z_openH (own := RL) hfl (cc := cL_month) (maxL := 6) (ret := (some .int)) (hh := [(0, 12, 15, 13), (0, 12, 19, 15)]) (lv := [(0, .ref (y 0)), (1, .int p1), (2, .int p2), (3, .int p3), (4, .ref o)]) rfl (by decide) rfl rfl (Nat.le_of_ble_eq_true rfl) ?_
  intro p e s m args below meth c A C hTab
  have w1 := C.1.2.2.2.2 (.classLink RL 13 "java/lang/IndexOutOfBoundsException") (by decide +kernel)
  have w2 := C.1.2.2.2.2 (.classLink RL 15 "java/lang/IllegalArgumentException") (by decide +kernel)
  have g_0 := h_g
  refine z_aload C dL_month_0 4 rfl ?_
  refine z_iconst (v := 0) C dL_month_2 (by decide) ?_
  refine z_aload_n C dL_month_3 rfl 0 rfl ?_
  refine z_iload_n C dL_month_4 rfl 1 rfl ?_
  refine z_iload_n C dL_month_5 rfl 2 rfl ?_
  refine z_iload_n C dL_month_6 rfl 3 rfl ?_
  refine z_xwi (ws' := (wY cI cJ y d sy sm sd (s_X2_month_mi mi p1 p2 p3) ti sL bL mD mT ((o, .inl (cJ, 1, .inr (.inl ou))) :: X))) (rest := [.int 0, .ref o]) (ci := 2) (q0 := 0) C (c_X2_month l hfl D cI cJ ((o, .inl (cJ, 1, .inr (.inl ou))) :: X) y d sy sm sd mi ti sL bL mD mT p1 p2 p3 ) q_X2_month rfl rfl rfl gL_month_X2_month ⟨rfl, rfl⟩ rfl rfl (Nat.le_of_ble_eq_true rfl) ⟨Nat.le_of_ble_eq_true rfl, Nat.le_of_ble_eq_true rfl⟩ ⟨Nat.le_of_ble_eq_true rfl, Nat.le_of_ble_eq_true rfl⟩ dL_month_7 (fun h1 => ?_) (fun E h1 h1_E => ?_)
  · refine z_i2l (v := ((f_X2_month p1 p2 p3)).toInt64) C dL_month_10 rfl ?_
    refine z_last C 11 1 rfl rfl (zvpl 0 1 (by decide)) (ws' := (wY cI cJ y d sy sm sd (s_X2_month_mi mi p1 p2 p3) ti sL bL mD mT ((o, .inl (cJ, 1, .inr (.inl (vp_updL ou 0 (((f_X2_month p1 p2 p3)).toInt64))))) :: X))) rfl dL_month_11 ?_
    refine z_goto (tgt := 23) C dL_month_12 (by decide) ?_
    refine z_iconst (v := 0) C dL_month_23 (by decide) ?_
    exact z_iret C ⟨congrArg (fun v => some (Value.int v)) (by rw [f_L_month, if_pos h1] : (0 : Int32) = (f_L_month p1 p2 p3)), by rw [s_L_month_mi, if_pos h1, s_L_month_ou, if_pos h1]⟩ (by decide) (by decide) dL_month_24
  · rcases h1_E with ⟨e1, rfl⟩ | ⟨e2, rfl⟩ | ⟨e3, rfl⟩
    · refine z_catch C hTab [] [(0, 12, 19, 15)] (a := 0) (b := 12) (h := 15) (t := 13) rfl (by decide) (by decide) w1 (C.2.2.2.2.2.1.2.2.1 "java/lang/IndexOutOfBoundsException" (by decide)) (fun _ hq => nomatch hq) (fun q => ?_)
      refine z_astore (lv' := [(5, .ref q), (0, .ref (y 0)), (1, .int p1), (2, .int p2), (3, .int p3), (4, .ref o)]) C dL_month_15 (by decide) rfl ?_
      refine z_iconst (v := 1) C dL_month_17 (by decide) ?_
      exact z_iret C ⟨congrArg (fun v => some (Value.int v)) (by rw [f_L_month, if_neg h1, if_pos e1] : (1 : Int32) = (f_L_month p1 p2 p3)), by rw [s_L_month_mi, if_neg h1, if_pos e1, s_L_month_ou, if_neg h1, if_pos e1]⟩ (by decide) (by decide) dL_month_18
    · refine z_catch C hTab [(0, 12, 15, 13)] [] (a := 0) (b := 12) (h := 19) (t := 15) rfl (by decide) (by decide) w2 (C.2.2.2.2.2.1.2.2.1 "java/lang/IllegalArgumentException" (by decide)) (fun q hq => ((List.mem_cons.mp hq).elim (fun z => by subst z; exact ⟨by decide, "java/lang/IndexOutOfBoundsException", w1, C.2.2.2.2.2.1.2.1 (_, _) (List.mem_of_getElem? (i := 0) rfl)⟩) (fun hq => (nomatch hq)))) (fun q => ?_)
      refine z_astore (lv' := [(5, .ref q), (0, .ref (y 0)), (1, .int p1), (2, .int p2), (3, .int p3), (4, .ref o)]) C dL_month_19 (by decide) rfl ?_
      refine z_iconst (v := 2) C dL_month_21 (by decide) ?_
      exact z_iret C ⟨congrArg (fun v => some (Value.int v)) (by rw [f_L_month, if_neg h1, if_neg (show ¬ k_X2_month p1 p2 p3 = 1 from by rw [e2]; decide)] : (2 : Int32) = (f_L_month p1 p2 p3)), by rw [s_L_month_mi, if_neg h1, if_neg (show ¬ k_X2_month p1 p2 p3 = 1 from by rw [e2]; decide), s_L_month_ou, if_neg h1, if_neg (show ¬ k_X2_month p1 p2 p3 = 1 from by rw [e2]; decide)]⟩ (by decide) (by decide) dL_month_22
    · exact absurd e3 (g_0)
def f_L_moveMonth (mi : Nat → Int32) (p1 : Int32) (p2 : Int32) (p3 : Int32) (p4 : Int32) : Int32 := (if k_X2_moveMonth mi p1 p2 p3 p4 = 0 then 0 else (if k_X2_moveMonth mi p1 p2 p3 p4 = 1 then 1 else (if k_X2_moveMonth mi p1 p2 p3 p4 = 2 then 2 else 3)))
def s_L_moveMonth_mi (mi : Nat → Int32) (p1 : Int32) (p2 : Int32) (p3 : Int32) (p4 : Int32) : Nat → Int32 := (if k_X2_moveMonth mi p1 p2 p3 p4 = 0 then (s_X2_moveMonth_mi mi p1 p2 p3 p4) else (if k_X2_moveMonth mi p1 p2 p3 p4 = 1 then mi else (if k_X2_moveMonth mi p1 p2 p3 p4 = 2 then mi else mi)))
def s_L_moveMonth_ou (mi : Nat → Int32) (ou : Nat → Int64) (p1 : Int32) (p2 : Int32) (p3 : Int32) (p4 : Int32) : Nat → Int64 := (if k_X2_moveMonth mi p1 p2 p3 p4 = 0 then (vp_updL ou 0 (((f_X2_moveMonth mi p1 p2 p3 p4)).toInt64)) else (if k_X2_moveMonth mi p1 p2 p3 p4 = 1 then ou else (if k_X2_moveMonth mi p1 p2 p3 p4 = 2 then ou else ou)))
theorem q_L_moveMonth : ZYH yL_moveMonth wsL_moveMonth cL_moveMonth 7 (some .int) 6 [(0, 14, 17, 13), (0, 14, 21, 15), (0, 14, 25, 21)] := ⟨⟨_, rfl⟩, by decide +kernel, by decide +kernel, by decide +kernel⟩
set_option maxHeartbeats 4000000 in
set_option maxRecDepth 100000 in
theorem c_L_moveMonth (l : Launch) (hfl : l.stackTraces = false) (D : va_G) (cI cJ : ClassId) (X : va_W) (y : Nat → Nat) (o : Nat) (d : Nat → Int64) (sy : Nat → Int32) (sm : Nat → Int32) (sd : Nat → Int32) (mi : Nat → Int32) (ti : Nat → Int64) (sL : Nat → Int64) (bL : Nat → Int64) (mD : Nat → Int64) (mT : Nat → Int64) (ou : Nat → Int64) (p1 : Int32) (p2 : Int32) (p3 : Int32) (p4 : Int32)  : ZM l yL_moveMonth wsL_moveMonth { frames := 9, cells := 5, slots := 30, locals := 149 } [.ref (y 0), .int p1, .int p2, .int p3, .int p4, .ref o] D (zTys cI cJ) (wY cI cJ y d sy sm sd mi ti sL bL mD mT ((o, .inl (cJ, 1, .inr (.inl ou))) :: X)) 5 30 (fun v w => v = some (.int (f_L_moveMonth mi p1 p2 p3 p4)) ∧ w = (wY cI cJ y d sy sm sd (s_L_moveMonth_mi mi p1 p2 p3 p4) ti sL bL mD mT ((o, .inl (cJ, 1, .inr (.inl (s_L_moveMonth_ou mi ou p1 p2 p3 p4)))) :: X))) (fun _ _ => False) := by
  refine z_openH (own := RL) hfl (cc := cL_moveMonth) (maxL := 7) (ret := (some .int)) (hh := [(0, 14, 17, 13), (0, 14, 21, 15), (0, 14, 25, 21)]) (lv := [(0, .ref (y 0)), (1, .int p1), (2, .int p2), (3, .int p3), (4, .int p4), (5, .ref o)]) rfl (by decide) rfl rfl (Nat.le_of_ble_eq_true rfl) ?_
  intro p e s m args below meth c A C hTab
  have w1 := C.1.2.2.2.2 (.classLink RL 13 "java/lang/IndexOutOfBoundsException") (by decide +kernel)
  have w2 := C.1.2.2.2.2 (.classLink RL 15 "java/lang/IllegalArgumentException") (by decide +kernel)
  have w3 := C.1.2.2.2.2 (.classLink RL 21 "java/lang/UnsupportedOperationException") (by decide +kernel)
  refine z_aload C dL_moveMonth_0 5 rfl ?_
  refine z_iconst (v := 0) C dL_moveMonth_2 (by decide) ?_
  refine z_aload_n C dL_moveMonth_3 rfl 0 rfl ?_
  refine z_iload_n C dL_moveMonth_4 rfl 1 rfl ?_
  refine z_iload_n C dL_moveMonth_5 rfl 2 rfl ?_
  refine z_iload_n C dL_moveMonth_6 rfl 3 rfl ?_
  refine z_iload C dL_moveMonth_7 4 rfl ?_
  refine z_xwi (ws' := (wY cI cJ y d sy sm sd (s_X2_moveMonth_mi mi p1 p2 p3 p4) ti sL bL mD mT ((o, .inl (cJ, 1, .inr (.inl ou))) :: X))) (rest := [.int 0, .ref o]) (ci := 2) (q0 := 0) C (c_X2_moveMonth l hfl D cI cJ ((o, .inl (cJ, 1, .inr (.inl ou))) :: X) y d sy sm sd mi ti sL bL mD mT p1 p2 p3 p4 ) q_X2_moveMonth rfl rfl rfl gL_moveMonth_X2_moveMonth ⟨rfl, rfl⟩ rfl rfl (Nat.le_of_ble_eq_true rfl) ⟨Nat.le_of_ble_eq_true rfl, Nat.le_of_ble_eq_true rfl⟩ ⟨Nat.le_of_ble_eq_true rfl, Nat.le_of_ble_eq_true rfl⟩ dL_moveMonth_9 (fun h1 => ?_) (fun E h1 h1_E => ?_)
  · refine z_i2l (v := ((f_X2_moveMonth mi p1 p2 p3 p4)).toInt64) C dL_moveMonth_12 rfl ?_
    refine z_last C 11 1 rfl rfl (zvpl 0 1 (by decide)) (ws' := (wY cI cJ y d sy sm sd (s_X2_moveMonth_mi mi p1 p2 p3 p4) ti sL bL mD mT ((o, .inl (cJ, 1, .inr (.inl (vp_updL ou 0 (((f_X2_moveMonth mi p1 p2 p3 p4)).toInt64))))) :: X))) rfl dL_moveMonth_13 ?_
    refine z_goto (tgt := 29) C dL_moveMonth_14 (by decide) ?_
    refine z_iconst (v := 0) C dL_moveMonth_29 (by decide) ?_
    exact z_iret C ⟨congrArg (fun v => some (Value.int v)) (by rw [f_L_moveMonth, if_pos h1] : (0 : Int32) = (f_L_moveMonth mi p1 p2 p3 p4)), by rw [s_L_moveMonth_mi, if_pos h1, s_L_moveMonth_ou, if_pos h1]⟩ (by decide) (by decide) dL_moveMonth_30
  · rcases h1_E with ⟨e1, rfl⟩ | ⟨e2, rfl⟩ | ⟨e3, rfl⟩
    · refine z_catch C hTab [] [(0, 14, 21, 15), (0, 14, 25, 21)] (a := 0) (b := 14) (h := 17) (t := 13) rfl (by decide) (by decide) w1 (C.2.2.2.2.2.1.2.2.1 "java/lang/IndexOutOfBoundsException" (by decide)) (fun _ hq => nomatch hq) (fun q => ?_)
      refine z_astore (lv' := [(6, .ref q), (0, .ref (y 0)), (1, .int p1), (2, .int p2), (3, .int p3), (4, .int p4), (5, .ref o)]) C dL_moveMonth_17 (by decide) rfl ?_
      refine z_iconst (v := 1) C dL_moveMonth_19 (by decide) ?_
      exact z_iret C ⟨congrArg (fun v => some (Value.int v)) (by rw [f_L_moveMonth, if_neg h1, if_pos e1] : (1 : Int32) = (f_L_moveMonth mi p1 p2 p3 p4)), by rw [s_L_moveMonth_mi, if_neg h1, if_pos e1, s_L_moveMonth_ou, if_neg h1, if_pos e1]⟩ (by decide) (by decide) dL_moveMonth_20
    · refine z_catch C hTab [(0, 14, 17, 13)] [(0, 14, 25, 21)] (a := 0) (b := 14) (h := 21) (t := 15) rfl (by decide) (by decide) w2 (C.2.2.2.2.2.1.2.2.1 "java/lang/IllegalArgumentException" (by decide)) (fun q hq => ((List.mem_cons.mp hq).elim (fun z => by subst z; exact ⟨by decide, "java/lang/IndexOutOfBoundsException", w1, C.2.2.2.2.2.1.2.1 (_, _) (List.mem_of_getElem? (i := 0) rfl)⟩) (fun hq => (nomatch hq)))) (fun q => ?_)
      refine z_astore (lv' := [(6, .ref q), (0, .ref (y 0)), (1, .int p1), (2, .int p2), (3, .int p3), (4, .int p4), (5, .ref o)]) C dL_moveMonth_21 (by decide) rfl ?_
      refine z_iconst (v := 2) C dL_moveMonth_23 (by decide) ?_
      exact z_iret C ⟨congrArg (fun v => some (Value.int v)) (by rw [f_L_moveMonth, if_neg h1, if_neg (show ¬ k_X2_moveMonth mi p1 p2 p3 p4 = 1 from by rw [e2]; decide), if_pos e2] : (2 : Int32) = (f_L_moveMonth mi p1 p2 p3 p4)), by rw [s_L_moveMonth_mi, if_neg h1, if_neg (show ¬ k_X2_moveMonth mi p1 p2 p3 p4 = 1 from by rw [e2]; decide), if_pos e2, s_L_moveMonth_ou, if_neg h1, if_neg (show ¬ k_X2_moveMonth mi p1 p2 p3 p4 = 1 from by rw [e2]; decide), if_pos e2]⟩ (by decide) (by decide) dL_moveMonth_24
    · refine z_catch C hTab [(0, 14, 17, 13), (0, 14, 21, 15)] [] (a := 0) (b := 14) (h := 25) (t := 21) rfl (by decide) (by decide) w3 (C.2.2.2.2.2.1.2.2.1 "java/lang/UnsupportedOperationException" (by decide)) (fun q hq => ((List.mem_cons.mp hq).elim (fun z => by subst z; exact ⟨by decide, "java/lang/IndexOutOfBoundsException", w1, C.2.2.2.2.2.1.2.1 (_, _) (List.mem_of_getElem? (i := 1) rfl)⟩) (fun hq => ((List.mem_cons.mp hq).elim (fun z => by subst z; exact ⟨by decide, "java/lang/IllegalArgumentException", w2, C.2.2.2.2.2.1.2.1 (_, _) (List.mem_of_getElem? (i := 2) rfl)⟩) (fun hq => (nomatch hq)))))) (fun q => ?_)
      refine z_astore (lv' := [(6, .ref q), (0, .ref (y 0)), (1, .int p1), (2, .int p2), (3, .int p3), (4, .int p4), (5, .ref o)]) C dL_moveMonth_25 (by decide) rfl ?_
      refine z_iconst (v := 3) C dL_moveMonth_27 (by decide) ?_
      exact z_iret C ⟨congrArg (fun v => some (Value.int v)) (by rw [f_L_moveMonth, if_neg h1, if_neg (show ¬ k_X2_moveMonth mi p1 p2 p3 p4 = 1 from by rw [e3]; decide), if_neg (show ¬ k_X2_moveMonth mi p1 p2 p3 p4 = 2 from by rw [e3]; decide)] : (3 : Int32) = (f_L_moveMonth mi p1 p2 p3 p4)), by rw [s_L_moveMonth_mi, if_neg h1, if_neg (show ¬ k_X2_moveMonth mi p1 p2 p3 p4 = 1 from by rw [e3]; decide), if_neg (show ¬ k_X2_moveMonth mi p1 p2 p3 p4 = 2 from by rw [e3]; decide), s_L_moveMonth_ou, if_neg h1, if_neg (show ¬ k_X2_moveMonth mi p1 p2 p3 p4 = 1 from by rw [e3]; decide), if_neg (show ¬ k_X2_moveMonth mi p1 p2 p3 p4 = 2 from by rw [e3]; decide)]⟩ (by decide) (by decide) dL_moveMonth_28
def f_L_monthPart (p1 : Int32) (p2 : Int32) : Int32 := (if k_X2_monthPart p1 p2 = 0 then 0 else (if k_X2_monthPart p1 p2 = 1 then 1 else 2))
def s_L_monthPart_ou (mi : Nat → Int32) (ou : Nat → Int64) (p1 : Int32) (p2 : Int32) : Nat → Int64 := (if k_X2_monthPart p1 p2 = 0 then (vp_updL ou 0 (((f_X2_monthPart mi p1 p2)).toInt64)) else (if k_X2_monthPart p1 p2 = 1 then ou else ou))
def pre_L_monthPart (p1 : Int32) (p2 : Int32) : Prop := ((¬ k_X2_monthPart p1 p2 = 3))
theorem q_L_monthPart : ZYH yL_monthPart wsL_monthPart cL_monthPart 5 (some .int) 4 [(0, 10, 13, 13), (0, 10, 17, 15)] := ⟨⟨_, rfl⟩, by decide +kernel, by decide +kernel, by decide +kernel⟩
set_option maxHeartbeats 4000000 in
set_option maxRecDepth 100000 in
theorem c_L_monthPart (l : Launch) (hfl : l.stackTraces = false) (D : va_G) (cI cJ : ClassId) (X : va_W) (y : Nat → Nat) (o : Nat) (d : Nat → Int64) (sy : Nat → Int32) (sm : Nat → Int32) (sd : Nat → Int32) (mi : Nat → Int32) (ti : Nat → Int64) (sL : Nat → Int64) (bL : Nat → Int64) (mD : Nat → Int64) (mT : Nat → Int64) (ou : Nat → Int64) (p1 : Int32) (p2 : Int32)  (h_g : pre_L_monthPart p1 p2) : ZM l yL_monthPart wsL_monthPart { frames := 8, cells := 2, slots := 12, locals := 127 } [.ref (y 0), .int p1, .int p2, .ref o] D (zTys cI cJ) (wY cI cJ y d sy sm sd mi ti sL bL mD mT ((o, .inl (cJ, 1, .inr (.inl ou))) :: X)) 2 12 (fun v w => v = some (.int (f_L_monthPart p1 p2)) ∧ w = (wY cI cJ y d sy sm sd mi ti sL bL mD mT ((o, .inl (cJ, 1, .inr (.inl (s_L_monthPart_ou mi ou p1 p2)))) :: X))) (fun _ _ => False) := by
  refine z_openH (own := RL) hfl (cc := cL_monthPart) (maxL := 5) (ret := (some .int)) (hh := [(0, 10, 13, 13), (0, 10, 17, 15)]) (lv := [(0, .ref (y 0)), (1, .int p1), (2, .int p2), (3, .ref o)]) rfl (by decide) rfl rfl (Nat.le_of_ble_eq_true rfl) ?_
  intro p e s m args below meth c A C hTab
  have w1 := C.1.2.2.2.2 (.classLink RL 13 "java/lang/IndexOutOfBoundsException") (by decide +kernel)
  have w2 := C.1.2.2.2.2 (.classLink RL 15 "java/lang/IllegalArgumentException") (by decide +kernel)
  have g_0 := h_g
  refine z_aload_n C dL_monthPart_0 rfl 3 rfl ?_
  refine z_iconst (v := 0) C dL_monthPart_1 (by decide) ?_
  refine z_aload_n C dL_monthPart_2 rfl 0 rfl ?_
  refine z_iload_n C dL_monthPart_3 rfl 1 rfl ?_
  refine z_iload_n C dL_monthPart_4 rfl 2 rfl ?_
  refine z_xwi (ws' := (wY cI cJ y d sy sm sd mi ti sL bL mD mT ((o, .inl (cJ, 1, .inr (.inl ou))) :: X))) (rest := [.int 0, .ref o]) (ci := 2) (q0 := 0) C (c_X2_monthPart l hfl D cI cJ ((o, .inl (cJ, 1, .inr (.inl ou))) :: X) y d sy sm sd mi ti sL bL mD mT p1 p2 ) q_X2_monthPart rfl rfl rfl gL_monthPart_X2_monthPart ⟨rfl, rfl⟩ rfl rfl (Nat.le_of_ble_eq_true rfl) ⟨Nat.le_of_ble_eq_true rfl, Nat.le_of_ble_eq_true rfl⟩ ⟨Nat.le_of_ble_eq_true rfl, Nat.le_of_ble_eq_true rfl⟩ dL_monthPart_5 (fun h1 => ?_) (fun E h1 h1_E => ?_)
  · refine z_i2l (v := ((f_X2_monthPart mi p1 p2)).toInt64) C dL_monthPart_8 rfl ?_
    refine z_last C 11 1 rfl rfl (zvpl 0 1 (by decide)) (ws' := (wY cI cJ y d sy sm sd mi ti sL bL mD mT ((o, .inl (cJ, 1, .inr (.inl (vp_updL ou 0 (((f_X2_monthPart mi p1 p2)).toInt64))))) :: X))) rfl dL_monthPart_9 ?_
    refine z_goto (tgt := 21) C dL_monthPart_10 (by decide) ?_
    refine z_iconst (v := 0) C dL_monthPart_21 (by decide) ?_
    exact z_iret C ⟨congrArg (fun v => some (Value.int v)) (by rw [f_L_monthPart, if_pos h1] : (0 : Int32) = (f_L_monthPart p1 p2)), by rw [s_L_monthPart_ou, if_pos h1]⟩ (by decide) (by decide) dL_monthPart_22
  · rcases h1_E with ⟨e1, rfl⟩ | ⟨e2, rfl⟩ | ⟨e3, rfl⟩
    · refine z_catch C hTab [] [(0, 10, 17, 15)] (a := 0) (b := 10) (h := 13) (t := 13) rfl (by decide) (by decide) w1 (C.2.2.2.2.2.1.2.2.1 "java/lang/IndexOutOfBoundsException" (by decide)) (fun _ hq => nomatch hq) (fun q => ?_)
      refine z_astore (lv' := [(4, .ref q), (0, .ref (y 0)), (1, .int p1), (2, .int p2), (3, .ref o)]) C dL_monthPart_13 (by decide) rfl ?_
      refine z_iconst (v := 1) C dL_monthPart_15 (by decide) ?_
      exact z_iret C ⟨congrArg (fun v => some (Value.int v)) (by rw [f_L_monthPart, if_neg h1, if_pos e1] : (1 : Int32) = (f_L_monthPart p1 p2)), by rw [s_L_monthPart_ou, if_neg h1, if_pos e1]⟩ (by decide) (by decide) dL_monthPart_16
    · refine z_catch C hTab [(0, 10, 13, 13)] [] (a := 0) (b := 10) (h := 17) (t := 15) rfl (by decide) (by decide) w2 (C.2.2.2.2.2.1.2.2.1 "java/lang/IllegalArgumentException" (by decide)) (fun q hq => ((List.mem_cons.mp hq).elim (fun z => by subst z; exact ⟨by decide, "java/lang/IndexOutOfBoundsException", w1, C.2.2.2.2.2.1.2.1 (_, _) (List.mem_of_getElem? (i := 0) rfl)⟩) (fun hq => (nomatch hq)))) (fun q => ?_)
      refine z_astore (lv' := [(4, .ref q), (0, .ref (y 0)), (1, .int p1), (2, .int p2), (3, .ref o)]) C dL_monthPart_17 (by decide) rfl ?_
      refine z_iconst (v := 2) C dL_monthPart_19 (by decide) ?_
      exact z_iret C ⟨congrArg (fun v => some (Value.int v)) (by rw [f_L_monthPart, if_neg h1, if_neg (show ¬ k_X2_monthPart p1 p2 = 1 from by rw [e2]; decide)] : (2 : Int32) = (f_L_monthPart p1 p2)), by rw [s_L_monthPart_ou, if_neg h1, if_neg (show ¬ k_X2_monthPart p1 p2 = 1 from by rw [e2]; decide)]⟩ (by decide) (by decide) dL_monthPart_20
    · exact absurd e3 (g_0)
def f_L_atDay (mi : Nat → Int32) (p1 : Int32) (p2 : Int32) (p3 : Int32) : Int32 := (if k_X2_atDay mi p1 p2 p3 = 0 then 0 else (if k_X2_atDay mi p1 p2 p3 = 1 then 1 else 2))
def s_L_atDay_d (d : Nat → Int64) (mi : Nat → Int32) (p1 : Int32) (p2 : Int32) (p3 : Int32) : Nat → Int64 := (if k_X2_atDay mi p1 p2 p3 = 0 then (s_X2_atDay_d d mi p1 p2 p3) else (if k_X2_atDay mi p1 p2 p3 = 1 then d else d))
def s_L_atDay_ou (mi : Nat → Int32) (ou : Nat → Int64) (p1 : Int32) (p2 : Int32) (p3 : Int32) : Nat → Int64 := (if k_X2_atDay mi p1 p2 p3 = 0 then (vp_updL ou 0 (f_X2_atDay mi p1 p2 p3)) else (if k_X2_atDay mi p1 p2 p3 = 1 then ou else ou))
def pre_L_atDay (mi : Nat → Int32) (p1 : Int32) (p2 : Int32) (p3 : Int32) : Prop := ((¬ k_X2_atDay mi p1 p2 p3 = 3))
theorem q_L_atDay : ZYH yL_atDay wsL_atDay cL_atDay 6 (some .int) 5 [(0, 11, 14, 13), (0, 11, 18, 15)] := ⟨⟨_, rfl⟩, by decide +kernel, by decide +kernel, by decide +kernel⟩
set_option maxHeartbeats 4000000 in
set_option maxRecDepth 100000 in
theorem c_L_atDay (l : Launch) (hfl : l.stackTraces = false) (D : va_G) (cI cJ : ClassId) (X : va_W) (y : Nat → Nat) (o : Nat) (d : Nat → Int64) (sy : Nat → Int32) (sm : Nat → Int32) (sd : Nat → Int32) (mi : Nat → Int32) (ti : Nat → Int64) (sL : Nat → Int64) (bL : Nat → Int64) (mD : Nat → Int64) (mT : Nat → Int64) (ou : Nat → Int64) (p1 : Int32) (p2 : Int32) (p3 : Int32)  (h_g : pre_L_atDay mi p1 p2 p3) : ZM l yL_atDay wsL_atDay { frames := 9, cells := 4, slots := 24, locals := 149 } [.ref (y 0), .int p1, .int p2, .int p3, .ref o] D (zTys cI cJ) (wY cI cJ y d sy sm sd mi ti sL bL mD mT ((o, .inl (cJ, 1, .inr (.inl ou))) :: X)) 4 24 (fun v w => v = some (.int (f_L_atDay mi p1 p2 p3)) ∧ w = (wY cI cJ y (s_L_atDay_d d mi p1 p2 p3) sy sm sd mi ti sL bL mD mT ((o, .inl (cJ, 1, .inr (.inl (s_L_atDay_ou mi ou p1 p2 p3)))) :: X))) (fun _ _ => False) := by
  refine z_openH (own := RL) hfl (cc := cL_atDay) (maxL := 6) (ret := (some .int)) (hh := [(0, 11, 14, 13), (0, 11, 18, 15)]) (lv := [(0, .ref (y 0)), (1, .int p1), (2, .int p2), (3, .int p3), (4, .ref o)]) rfl (by decide) rfl rfl (Nat.le_of_ble_eq_true rfl) ?_
  intro p e s m args below meth c A C hTab
  have w1 := C.1.2.2.2.2 (.classLink RL 13 "java/lang/IndexOutOfBoundsException") (by decide +kernel)
  have w2 := C.1.2.2.2.2 (.classLink RL 15 "java/lang/IllegalArgumentException") (by decide +kernel)
  have g_0 := h_g
  refine z_aload C dL_atDay_0 4 rfl ?_
  refine z_iconst (v := 0) C dL_atDay_2 (by decide) ?_
  refine z_aload_n C dL_atDay_3 rfl 0 rfl ?_
  refine z_iload_n C dL_atDay_4 rfl 1 rfl ?_
  refine z_iload_n C dL_atDay_5 rfl 2 rfl ?_
  refine z_iload_n C dL_atDay_6 rfl 3 rfl ?_
  refine z_xwl (ws' := (wY cI cJ y (s_X2_atDay_d d mi p1 p2 p3) sy sm sd mi ti sL bL mD mT ((o, .inl (cJ, 1, .inr (.inl ou))) :: X))) (rest := [.int 0, .ref o]) (ci := 2) (q0 := 0) C (c_X2_atDay l hfl D cI cJ ((o, .inl (cJ, 1, .inr (.inl ou))) :: X) y d sy sm sd mi ti sL bL mD mT p1 p2 p3 ) q_X2_atDay rfl rfl rfl gL_atDay_X2_atDay ⟨rfl, rfl⟩ rfl rfl (Nat.le_of_ble_eq_true rfl) ⟨Nat.le_of_ble_eq_true rfl, Nat.le_of_ble_eq_true rfl⟩ ⟨Nat.le_of_ble_eq_true rfl, Nat.le_of_ble_eq_true rfl⟩ dL_atDay_7 (fun h1 => ?_) (fun E h1 h1_E => ?_)
  · refine z_last C 11 1 rfl rfl (zvpl 0 1 (by decide)) (ws' := (wY cI cJ y (s_X2_atDay_d d mi p1 p2 p3) sy sm sd mi ti sL bL mD mT ((o, .inl (cJ, 1, .inr (.inl (vp_updL ou 0 (f_X2_atDay mi p1 p2 p3))))) :: X))) rfl dL_atDay_10 ?_
    refine z_goto (tgt := 22) C dL_atDay_11 (by decide) ?_
    refine z_iconst (v := 0) C dL_atDay_22 (by decide) ?_
    exact z_iret C ⟨congrArg (fun v => some (Value.int v)) (by rw [f_L_atDay, if_pos h1] : (0 : Int32) = (f_L_atDay mi p1 p2 p3)), by rw [s_L_atDay_d, if_pos h1, s_L_atDay_ou, if_pos h1]⟩ (by decide) (by decide) dL_atDay_23
  · rcases h1_E with ⟨e1, rfl⟩ | ⟨e2, rfl⟩ | ⟨e3, rfl⟩
    · refine z_catch C hTab [] [(0, 11, 18, 15)] (a := 0) (b := 11) (h := 14) (t := 13) rfl (by decide) (by decide) w1 (C.2.2.2.2.2.1.2.2.1 "java/lang/IndexOutOfBoundsException" (by decide)) (fun _ hq => nomatch hq) (fun q => ?_)
      refine z_astore (lv' := [(5, .ref q), (0, .ref (y 0)), (1, .int p1), (2, .int p2), (3, .int p3), (4, .ref o)]) C dL_atDay_14 (by decide) rfl ?_
      refine z_iconst (v := 1) C dL_atDay_16 (by decide) ?_
      exact z_iret C ⟨congrArg (fun v => some (Value.int v)) (by rw [f_L_atDay, if_neg h1, if_pos e1] : (1 : Int32) = (f_L_atDay mi p1 p2 p3)), by rw [s_L_atDay_d, if_neg h1, if_pos e1, s_L_atDay_ou, if_neg h1, if_pos e1]⟩ (by decide) (by decide) dL_atDay_17
    · refine z_catch C hTab [(0, 11, 14, 13)] [] (a := 0) (b := 11) (h := 18) (t := 15) rfl (by decide) (by decide) w2 (C.2.2.2.2.2.1.2.2.1 "java/lang/IllegalArgumentException" (by decide)) (fun q hq => ((List.mem_cons.mp hq).elim (fun z => by subst z; exact ⟨by decide, "java/lang/IndexOutOfBoundsException", w1, C.2.2.2.2.2.1.2.1 (_, _) (List.mem_of_getElem? (i := 0) rfl)⟩) (fun hq => (nomatch hq)))) (fun q => ?_)
      refine z_astore (lv' := [(5, .ref q), (0, .ref (y 0)), (1, .int p1), (2, .int p2), (3, .int p3), (4, .ref o)]) C dL_atDay_18 (by decide) rfl ?_
      refine z_iconst (v := 2) C dL_atDay_20 (by decide) ?_
      exact z_iret C ⟨congrArg (fun v => some (Value.int v)) (by rw [f_L_atDay, if_neg h1, if_neg (show ¬ k_X2_atDay mi p1 p2 p3 = 1 from by rw [e2]; decide)] : (2 : Int32) = (f_L_atDay mi p1 p2 p3)), by rw [s_L_atDay_d, if_neg h1, if_neg (show ¬ k_X2_atDay mi p1 p2 p3 = 1 from by rw [e2]; decide), s_L_atDay_ou, if_neg h1, if_neg (show ¬ k_X2_atDay mi p1 p2 p3 = 1 from by rw [e2]; decide)]⟩ (by decide) (by decide) dL_atDay_21
    · exact absurd e3 (g_0)
def f_L_orderMonths (p1 : Int32) (p2 : Int32) : Int32 := (if k_X2_orderMonths p1 p2 = 0 then 0 else 1)
def s_L_orderMonths_ou (mi : Nat → Int32) (ou : Nat → Int64) (p1 : Int32) (p2 : Int32) : Nat → Int64 := (if k_X2_orderMonths p1 p2 = 0 then (vp_updL ou 0 (((f_X2_orderMonths mi p1 p2)).toInt64)) else ou)
def pre_L_orderMonths (p1 : Int32) (p2 : Int32) : Prop := ((¬ k_X2_orderMonths p1 p2 = 2)) ∧ ((¬ k_X2_orderMonths p1 p2 = 3))
theorem q_L_orderMonths : ZYH yL_orderMonths wsL_orderMonths cL_orderMonths 5 (some .int) 4 [(0, 10, 13, 13)] := ⟨⟨_, rfl⟩, by decide +kernel, by decide +kernel, by decide +kernel⟩
set_option maxHeartbeats 4000000 in
set_option maxRecDepth 100000 in
theorem c_L_orderMonths (l : Launch) (hfl : l.stackTraces = false) (D : va_G) (cI cJ : ClassId) (X : va_W) (y : Nat → Nat) (o : Nat) (d : Nat → Int64) (sy : Nat → Int32) (sm : Nat → Int32) (sd : Nat → Int32) (mi : Nat → Int32) (ti : Nat → Int64) (sL : Nat → Int64) (bL : Nat → Int64) (mD : Nat → Int64) (mT : Nat → Int64) (ou : Nat → Int64) (p1 : Int32) (p2 : Int32)  (h_g : pre_L_orderMonths p1 p2) : ZM l yL_orderMonths wsL_orderMonths { frames := 8, cells := 2, slots := 12, locals := 125 } [.ref (y 0), .int p1, .int p2, .ref o] D (zTys cI cJ) (wY cI cJ y d sy sm sd mi ti sL bL mD mT ((o, .inl (cJ, 1, .inr (.inl ou))) :: X)) 2 12 (fun v w => v = some (.int (f_L_orderMonths p1 p2)) ∧ w = (wY cI cJ y d sy sm sd mi ti sL bL mD mT ((o, .inl (cJ, 1, .inr (.inl (s_L_orderMonths_ou mi ou p1 p2)))) :: X))) (fun _ _ => False) := by
  refine z_openH (own := RL) hfl (cc := cL_orderMonths) (maxL := 5) (ret := (some .int)) (hh := [(0, 10, 13, 13)]) (lv := [(0, .ref (y 0)), (1, .int p1), (2, .int p2), (3, .ref o)]) rfl (by decide) rfl rfl (Nat.le_of_ble_eq_true rfl) ?_
  intro p e s m args below meth c A C hTab
  have w1 := C.1.2.2.2.2 (.classLink RL 13 "java/lang/IndexOutOfBoundsException") (by decide +kernel)
  obtain ⟨g_0, g_1⟩ := h_g
  refine z_aload_n C dL_orderMonths_0 rfl 3 rfl ?_
  refine z_iconst (v := 0) C dL_orderMonths_1 (by decide) ?_
  refine z_aload_n C dL_orderMonths_2 rfl 0 rfl ?_
  refine z_iload_n C dL_orderMonths_3 rfl 1 rfl ?_
  refine z_iload_n C dL_orderMonths_4 rfl 2 rfl ?_
  refine z_xwi (ws' := (wY cI cJ y d sy sm sd mi ti sL bL mD mT ((o, .inl (cJ, 1, .inr (.inl ou))) :: X))) (rest := [.int 0, .ref o]) (ci := 2) (q0 := 0) C (c_X2_orderMonths l hfl D cI cJ ((o, .inl (cJ, 1, .inr (.inl ou))) :: X) y d sy sm sd mi ti sL bL mD mT p1 p2 ) q_X2_orderMonths rfl rfl rfl gL_orderMonths_X2_orderMonths ⟨rfl, rfl⟩ rfl rfl (Nat.le_of_ble_eq_true rfl) ⟨Nat.le_of_ble_eq_true rfl, Nat.le_of_ble_eq_true rfl⟩ ⟨Nat.le_of_ble_eq_true rfl, Nat.le_of_ble_eq_true rfl⟩ dL_orderMonths_5 (fun h1 => ?_) (fun E h1 h1_E => ?_)
  · refine z_i2l (v := ((f_X2_orderMonths mi p1 p2)).toInt64) C dL_orderMonths_8 rfl ?_
    refine z_last C 11 1 rfl rfl (zvpl 0 1 (by decide)) (ws' := (wY cI cJ y d sy sm sd mi ti sL bL mD mT ((o, .inl (cJ, 1, .inr (.inl (vp_updL ou 0 (((f_X2_orderMonths mi p1 p2)).toInt64))))) :: X))) rfl dL_orderMonths_9 ?_
    refine z_goto (tgt := 17) C dL_orderMonths_10 (by decide) ?_
    refine z_iconst (v := 0) C dL_orderMonths_17 (by decide) ?_
    exact z_iret C ⟨congrArg (fun v => some (Value.int v)) (by rw [f_L_orderMonths, if_pos h1] : (0 : Int32) = (f_L_orderMonths p1 p2)), by rw [s_L_orderMonths_ou, if_pos h1]⟩ (by decide) (by decide) dL_orderMonths_18
  · rcases h1_E with ⟨e1, rfl⟩ | ⟨e2, rfl⟩ | ⟨e3, rfl⟩
    · refine z_catch C hTab [] [] (a := 0) (b := 10) (h := 13) (t := 13) rfl (by decide) (by decide) w1 (C.2.2.2.2.2.1.2.2.1 "java/lang/IndexOutOfBoundsException" (by decide)) (fun _ hq => nomatch hq) (fun q => ?_)
      refine z_astore (lv' := [(4, .ref q), (0, .ref (y 0)), (1, .int p1), (2, .int p2), (3, .ref o)]) C dL_orderMonths_13 (by decide) rfl ?_
      refine z_iconst (v := 1) C dL_orderMonths_15 (by decide) ?_
      exact z_iret C ⟨congrArg (fun v => some (Value.int v)) (by rw [f_L_orderMonths, if_neg h1] : (1 : Int32) = (f_L_orderMonths p1 p2)), by rw [s_L_orderMonths_ou, if_neg h1]⟩ (by decide) (by decide) dL_orderMonths_16
    · exact absurd e2 (g_0)
    · exact absurd e3 (g_1)
def f_L_time (p1 : Int32) (p2 : Int32) (p3 : Int32) (p4 : Int32) (p5 : Int32) : Int32 := (if k_X2_time p1 p2 p3 p4 p5 = 0 then 0 else (if k_X2_time p1 p2 p3 p4 p5 = 1 then 1 else 2))
def s_L_time_ti (ti : Nat → Int64) (p1 : Int32) (p2 : Int32) (p3 : Int32) (p4 : Int32) (p5 : Int32) : Nat → Int64 := (if k_X2_time p1 p2 p3 p4 p5 = 0 then (s_X2_time_ti ti p1 p2 p3 p4 p5) else (if k_X2_time p1 p2 p3 p4 p5 = 1 then ti else ti))
def s_L_time_ou (ti : Nat → Int64) (ou : Nat → Int64) (p1 : Int32) (p2 : Int32) (p3 : Int32) (p4 : Int32) (p5 : Int32) : Nat → Int64 := (if k_X2_time p1 p2 p3 p4 p5 = 0 then (vp_updL ou 0 (f_X2_time ti p1 p2 p3 p4 p5)) else (if k_X2_time p1 p2 p3 p4 p5 = 1 then ou else ou))
def pre_L_time (p1 : Int32) (p2 : Int32) (p3 : Int32) (p4 : Int32) (p5 : Int32) : Prop := ((¬ k_X2_time p1 p2 p3 p4 p5 = 3))
theorem q_L_time : ZYH yL_time wsL_time cL_time 8 (some .int) 7 [(0, 15, 18, 13), (0, 15, 22, 15)] := ⟨⟨_, rfl⟩, by decide +kernel, by decide +kernel, by decide +kernel⟩
set_option maxHeartbeats 4000000 in
set_option maxRecDepth 100000 in
theorem c_L_time (l : Launch) (hfl : l.stackTraces = false) (D : va_G) (cI cJ : ClassId) (X : va_W) (y : Nat → Nat) (o : Nat) (d : Nat → Int64) (sy : Nat → Int32) (sm : Nat → Int32) (sd : Nat → Int32) (mi : Nat → Int32) (ti : Nat → Int64) (sL : Nat → Int64) (bL : Nat → Int64) (mD : Nat → Int64) (mT : Nat → Int64) (ou : Nat → Int64) (p1 : Int32) (p2 : Int32) (p3 : Int32) (p4 : Int32) (p5 : Int32)  (h_g : pre_L_time p1 p2 p3 p4 p5) : ZM l yL_time wsL_time { frames := 8, cells := 5, slots := 30, locals := 128 } [.ref (y 0), .int p1, .int p2, .int p3, .int p4, .int p5, .ref o] D (zTys cI cJ) (wY cI cJ y d sy sm sd mi ti sL bL mD mT ((o, .inl (cJ, 1, .inr (.inl ou))) :: X)) 5 30 (fun v w => v = some (.int (f_L_time p1 p2 p3 p4 p5)) ∧ w = (wY cI cJ y d sy sm sd mi (s_L_time_ti ti p1 p2 p3 p4 p5) sL bL mD mT ((o, .inl (cJ, 1, .inr (.inl (s_L_time_ou ti ou p1 p2 p3 p4 p5)))) :: X))) (fun _ _ => False) := by
  refine z_openH (own := RL) hfl (cc := cL_time) (maxL := 8) (ret := (some .int)) (hh := [(0, 15, 18, 13), (0, 15, 22, 15)]) (lv := [(0, .ref (y 0)), (1, .int p1), (2, .int p2), (3, .int p3), (4, .int p4), (5, .int p5), (6, .ref o)]) rfl (by decide) rfl rfl (Nat.le_of_ble_eq_true rfl) ?_
  intro p e s m args below meth c A C hTab
  have w1 := C.1.2.2.2.2 (.classLink RL 13 "java/lang/IndexOutOfBoundsException") (by decide +kernel)
  have w2 := C.1.2.2.2.2 (.classLink RL 15 "java/lang/IllegalArgumentException") (by decide +kernel)
  have g_0 := h_g
  refine z_aload C dL_time_0 6 rfl ?_
  refine z_iconst (v := 0) C dL_time_2 (by decide) ?_
  refine z_aload_n C dL_time_3 rfl 0 rfl ?_
  refine z_iload_n C dL_time_4 rfl 1 rfl ?_
  refine z_iload_n C dL_time_5 rfl 2 rfl ?_
  refine z_iload_n C dL_time_6 rfl 3 rfl ?_
  refine z_iload C dL_time_7 4 rfl ?_
  refine z_iload C dL_time_9 5 rfl ?_
  refine z_xwl (ws' := (wY cI cJ y d sy sm sd mi (s_X2_time_ti ti p1 p2 p3 p4 p5) sL bL mD mT ((o, .inl (cJ, 1, .inr (.inl ou))) :: X))) (rest := [.int 0, .ref o]) (ci := 2) (q0 := 0) C (c_X2_time l hfl D cI cJ ((o, .inl (cJ, 1, .inr (.inl ou))) :: X) y d sy sm sd mi ti sL bL mD mT p1 p2 p3 p4 p5 ) q_X2_time rfl rfl rfl gL_time_X2_time ⟨rfl, rfl⟩ rfl rfl (Nat.le_of_ble_eq_true rfl) ⟨Nat.le_of_ble_eq_true rfl, Nat.le_of_ble_eq_true rfl⟩ ⟨Nat.le_of_ble_eq_true rfl, Nat.le_of_ble_eq_true rfl⟩ dL_time_11 (fun h1 => ?_) (fun E h1 h1_E => ?_)
  · refine z_last C 11 1 rfl rfl (zvpl 0 1 (by decide)) (ws' := (wY cI cJ y d sy sm sd mi (s_X2_time_ti ti p1 p2 p3 p4 p5) sL bL mD mT ((o, .inl (cJ, 1, .inr (.inl (vp_updL ou 0 (f_X2_time ti p1 p2 p3 p4 p5))))) :: X))) rfl dL_time_14 ?_
    refine z_goto (tgt := 26) C dL_time_15 (by decide) ?_
    refine z_iconst (v := 0) C dL_time_26 (by decide) ?_
    exact z_iret C ⟨congrArg (fun v => some (Value.int v)) (by rw [f_L_time, if_pos h1] : (0 : Int32) = (f_L_time p1 p2 p3 p4 p5)), by rw [s_L_time_ti, if_pos h1, s_L_time_ou, if_pos h1]⟩ (by decide) (by decide) dL_time_27
  · rcases h1_E with ⟨e1, rfl⟩ | ⟨e2, rfl⟩ | ⟨e3, rfl⟩
    · refine z_catch C hTab [] [(0, 15, 22, 15)] (a := 0) (b := 15) (h := 18) (t := 13) rfl (by decide) (by decide) w1 (C.2.2.2.2.2.1.2.2.1 "java/lang/IndexOutOfBoundsException" (by decide)) (fun _ hq => nomatch hq) (fun q => ?_)
      refine z_astore (lv' := [(7, .ref q), (0, .ref (y 0)), (1, .int p1), (2, .int p2), (3, .int p3), (4, .int p4), (5, .int p5), (6, .ref o)]) C dL_time_18 (by decide) rfl ?_
      refine z_iconst (v := 1) C dL_time_20 (by decide) ?_
      exact z_iret C ⟨congrArg (fun v => some (Value.int v)) (by rw [f_L_time, if_neg h1, if_pos e1] : (1 : Int32) = (f_L_time p1 p2 p3 p4 p5)), by rw [s_L_time_ti, if_neg h1, if_pos e1, s_L_time_ou, if_neg h1, if_pos e1]⟩ (by decide) (by decide) dL_time_21
    · refine z_catch C hTab [(0, 15, 18, 13)] [] (a := 0) (b := 15) (h := 22) (t := 15) rfl (by decide) (by decide) w2 (C.2.2.2.2.2.1.2.2.1 "java/lang/IllegalArgumentException" (by decide)) (fun q hq => ((List.mem_cons.mp hq).elim (fun z => by subst z; exact ⟨by decide, "java/lang/IndexOutOfBoundsException", w1, C.2.2.2.2.2.1.2.1 (_, _) (List.mem_of_getElem? (i := 0) rfl)⟩) (fun hq => (nomatch hq)))) (fun q => ?_)
      refine z_astore (lv' := [(7, .ref q), (0, .ref (y 0)), (1, .int p1), (2, .int p2), (3, .int p3), (4, .int p4), (5, .int p5), (6, .ref o)]) C dL_time_22 (by decide) rfl ?_
      refine z_iconst (v := 2) C dL_time_24 (by decide) ?_
      exact z_iret C ⟨congrArg (fun v => some (Value.int v)) (by rw [f_L_time, if_neg h1, if_neg (show ¬ k_X2_time p1 p2 p3 p4 p5 = 1 from by rw [e2]; decide)] : (2 : Int32) = (f_L_time p1 p2 p3 p4 p5)), by rw [s_L_time_ti, if_neg h1, if_neg (show ¬ k_X2_time p1 p2 p3 p4 p5 = 1 from by rw [e2]; decide), s_L_time_ou, if_neg h1, if_neg (show ¬ k_X2_time p1 p2 p3 p4 p5 = 1 from by rw [e2]; decide)]⟩ (by decide) (by decide) dL_time_25
    · exact absurd e3 (g_0)
def f_L_ofBillionths (p1 : Int32) (p2 : Int64) : Int32 := (if k_X2_ofBillionths p1 p2 = 0 then 0 else (if k_X2_ofBillionths p1 p2 = 1 then 1 else 2))
def s_L_ofBillionths_ti (ti : Nat → Int64) (p1 : Int32) (p2 : Int64) : Nat → Int64 := (if k_X2_ofBillionths p1 p2 = 0 then (s_X2_ofBillionths_ti ti p1 p2) else (if k_X2_ofBillionths p1 p2 = 1 then ti else ti))
def s_L_ofBillionths_ou (ou : Nat → Int64) (p1 : Int32) (p2 : Int64) : Nat → Int64 := (if k_X2_ofBillionths p1 p2 = 0 then (vp_updL ou 0 (((f_X2_ofBillionths p1 p2)).toInt64)) else (if k_X2_ofBillionths p1 p2 = 1 then ou else ou))
def pre_L_ofBillionths (p1 : Int32) (p2 : Int64) : Prop := ((¬ k_X2_ofBillionths p1 p2 = 3))
theorem q_L_ofBillionths : ZYH yL_ofBillionths wsL_ofBillionths cL_ofBillionths 6 (some .int) 4 [(0, 11, 14, 13), (0, 11, 18, 15)] := ⟨⟨_, rfl⟩, by decide +kernel, by decide +kernel, by decide +kernel⟩
set_option maxHeartbeats 4000000 in
set_option maxRecDepth 100000 in
theorem c_L_ofBillionths (l : Launch) (hfl : l.stackTraces = false) (D : va_G) (cI cJ : ClassId) (X : va_W) (y : Nat → Nat) (o : Nat) (d : Nat → Int64) (sy : Nat → Int32) (sm : Nat → Int32) (sd : Nat → Int32) (mi : Nat → Int32) (ti : Nat → Int64) (sL : Nat → Int64) (bL : Nat → Int64) (mD : Nat → Int64) (mT : Nat → Int64) (ou : Nat → Int64) (p1 : Int32) (p2 : Int64)  (h_g : pre_L_ofBillionths p1 p2) : ZM l yL_ofBillionths wsL_ofBillionths { frames := 8, cells := 2, slots := 12, locals := 126 } [.ref (y 0), .int p1, .long p2, .ref o] D (zTys cI cJ) (wY cI cJ y d sy sm sd mi ti sL bL mD mT ((o, .inl (cJ, 1, .inr (.inl ou))) :: X)) 2 12 (fun v w => v = some (.int (f_L_ofBillionths p1 p2)) ∧ w = (wY cI cJ y d sy sm sd mi (s_L_ofBillionths_ti ti p1 p2) sL bL mD mT ((o, .inl (cJ, 1, .inr (.inl (s_L_ofBillionths_ou ou p1 p2)))) :: X))) (fun _ _ => False) := by
  refine z_openH (own := RL) hfl (cc := cL_ofBillionths) (maxL := 6) (ret := (some .int)) (hh := [(0, 11, 14, 13), (0, 11, 18, 15)]) (lv := [(0, .ref (y 0)), (1, .int p1), (2, .long p2), (4, .ref o)]) rfl (by decide) rfl rfl (Nat.le_of_ble_eq_true rfl) ?_
  intro p e s m args below meth c A C hTab
  have w1 := C.1.2.2.2.2 (.classLink RL 13 "java/lang/IndexOutOfBoundsException") (by decide +kernel)
  have w2 := C.1.2.2.2.2 (.classLink RL 15 "java/lang/IllegalArgumentException") (by decide +kernel)
  have g_0 := h_g
  refine z_aload C dL_ofBillionths_0 3 rfl ?_
  refine z_iconst (v := 0) C dL_ofBillionths_2 (by decide) ?_
  refine z_aload_n C dL_ofBillionths_3 rfl 0 rfl ?_
  refine z_iload_n C dL_ofBillionths_4 rfl 1 rfl ?_
  refine z_lload_n C dL_ofBillionths_5 rfl 2 rfl ?_
  refine z_xwi (ws' := (wY cI cJ y d sy sm sd mi (s_X2_ofBillionths_ti ti p1 p2) sL bL mD mT ((o, .inl (cJ, 1, .inr (.inl ou))) :: X))) (rest := [.int 0, .ref o]) (ci := 2) (q0 := 0) C (c_X2_ofBillionths l hfl D cI cJ ((o, .inl (cJ, 1, .inr (.inl ou))) :: X) y d sy sm sd mi ti sL bL mD mT p1 p2 ) q_X2_ofBillionths rfl rfl rfl gL_ofBillionths_X2_ofBillionths ⟨rfl, rfl⟩ rfl rfl (Nat.le_of_ble_eq_true rfl) ⟨Nat.le_of_ble_eq_true rfl, Nat.le_of_ble_eq_true rfl⟩ ⟨Nat.le_of_ble_eq_true rfl, Nat.le_of_ble_eq_true rfl⟩ dL_ofBillionths_6 (fun h1 => ?_) (fun E h1 h1_E => ?_)
  · refine z_i2l (v := ((f_X2_ofBillionths p1 p2)).toInt64) C dL_ofBillionths_9 rfl ?_
    refine z_last C 11 1 rfl rfl (zvpl 0 1 (by decide)) (ws' := (wY cI cJ y d sy sm sd mi (s_X2_ofBillionths_ti ti p1 p2) sL bL mD mT ((o, .inl (cJ, 1, .inr (.inl (vp_updL ou 0 (((f_X2_ofBillionths p1 p2)).toInt64))))) :: X))) rfl dL_ofBillionths_10 ?_
    refine z_goto (tgt := 22) C dL_ofBillionths_11 (by decide) ?_
    refine z_iconst (v := 0) C dL_ofBillionths_22 (by decide) ?_
    exact z_iret C ⟨congrArg (fun v => some (Value.int v)) (by rw [f_L_ofBillionths, if_pos h1] : (0 : Int32) = (f_L_ofBillionths p1 p2)), by rw [s_L_ofBillionths_ti, if_pos h1, s_L_ofBillionths_ou, if_pos h1]⟩ (by decide) (by decide) dL_ofBillionths_23
  · rcases h1_E with ⟨e1, rfl⟩ | ⟨e2, rfl⟩ | ⟨e3, rfl⟩
    · refine z_catch C hTab [] [(0, 11, 18, 15)] (a := 0) (b := 11) (h := 14) (t := 13) rfl (by decide) (by decide) w1 (C.2.2.2.2.2.1.2.2.1 "java/lang/IndexOutOfBoundsException" (by decide)) (fun _ hq => nomatch hq) (fun q => ?_)
      refine z_astore (lv' := [(5, .ref q), (0, .ref (y 0)), (1, .int p1), (2, .long p2), (4, .ref o)]) C dL_ofBillionths_14 (by decide) rfl ?_
      refine z_iconst (v := 1) C dL_ofBillionths_16 (by decide) ?_
      exact z_iret C ⟨congrArg (fun v => some (Value.int v)) (by rw [f_L_ofBillionths, if_neg h1, if_pos e1] : (1 : Int32) = (f_L_ofBillionths p1 p2)), by rw [s_L_ofBillionths_ti, if_neg h1, if_pos e1, s_L_ofBillionths_ou, if_neg h1, if_pos e1]⟩ (by decide) (by decide) dL_ofBillionths_17
    · refine z_catch C hTab [(0, 11, 14, 13)] [] (a := 0) (b := 11) (h := 18) (t := 15) rfl (by decide) (by decide) w2 (C.2.2.2.2.2.1.2.2.1 "java/lang/IllegalArgumentException" (by decide)) (fun q hq => ((List.mem_cons.mp hq).elim (fun z => by subst z; exact ⟨by decide, "java/lang/IndexOutOfBoundsException", w1, C.2.2.2.2.2.1.2.1 (_, _) (List.mem_of_getElem? (i := 0) rfl)⟩) (fun hq => (nomatch hq)))) (fun q => ?_)
      refine z_astore (lv' := [(5, .ref q), (0, .ref (y 0)), (1, .int p1), (2, .long p2), (4, .ref o)]) C dL_ofBillionths_18 (by decide) rfl ?_
      refine z_iconst (v := 2) C dL_ofBillionths_20 (by decide) ?_
      exact z_iret C ⟨congrArg (fun v => some (Value.int v)) (by rw [f_L_ofBillionths, if_neg h1, if_neg (show ¬ k_X2_ofBillionths p1 p2 = 1 from by rw [e2]; decide)] : (2 : Int32) = (f_L_ofBillionths p1 p2)), by rw [s_L_ofBillionths_ti, if_neg h1, if_neg (show ¬ k_X2_ofBillionths p1 p2 = 1 from by rw [e2]; decide), s_L_ofBillionths_ou, if_neg h1, if_neg (show ¬ k_X2_ofBillionths p1 p2 = 1 from by rw [e2]; decide)]⟩ (by decide) (by decide) dL_ofBillionths_21
    · exact absurd e3 (g_0)
def f_L_timePart (p1 : Int32) (p2 : Int32) : Int32 := (if k_X2_timePart p1 p2 = 0 then 0 else (if k_X2_timePart p1 p2 = 1 then 1 else 2))
def s_L_timePart_ou (ti : Nat → Int64) (ou : Nat → Int64) (p1 : Int32) (p2 : Int32) : Nat → Int64 := (if k_X2_timePart p1 p2 = 0 then (vp_updL ou 0 (((f_X2_timePart ti p1 p2)).toInt64)) else (if k_X2_timePart p1 p2 = 1 then ou else ou))
def pre_L_timePart (p1 : Int32) (p2 : Int32) : Prop := ((¬ k_X2_timePart p1 p2 = 3))
theorem q_L_timePart : ZYH yL_timePart wsL_timePart cL_timePart 5 (some .int) 4 [(0, 10, 13, 13), (0, 10, 17, 15)] := ⟨⟨_, rfl⟩, by decide +kernel, by decide +kernel, by decide +kernel⟩
set_option maxHeartbeats 4000000 in
set_option maxRecDepth 100000 in
theorem c_L_timePart (l : Launch) (hfl : l.stackTraces = false) (D : va_G) (cI cJ : ClassId) (X : va_W) (y : Nat → Nat) (o : Nat) (d : Nat → Int64) (sy : Nat → Int32) (sm : Nat → Int32) (sd : Nat → Int32) (mi : Nat → Int32) (ti : Nat → Int64) (sL : Nat → Int64) (bL : Nat → Int64) (mD : Nat → Int64) (mT : Nat → Int64) (ou : Nat → Int64) (p1 : Int32) (p2 : Int32)  (h_g : pre_L_timePart p1 p2) : ZM l yL_timePart wsL_timePart { frames := 8, cells := 2, slots := 12, locals := 127 } [.ref (y 0), .int p1, .int p2, .ref o] D (zTys cI cJ) (wY cI cJ y d sy sm sd mi ti sL bL mD mT ((o, .inl (cJ, 1, .inr (.inl ou))) :: X)) 2 12 (fun v w => v = some (.int (f_L_timePart p1 p2)) ∧ w = (wY cI cJ y d sy sm sd mi ti sL bL mD mT ((o, .inl (cJ, 1, .inr (.inl (s_L_timePart_ou ti ou p1 p2)))) :: X))) (fun _ _ => False) := by
  refine z_openH (own := RL) hfl (cc := cL_timePart) (maxL := 5) (ret := (some .int)) (hh := [(0, 10, 13, 13), (0, 10, 17, 15)]) (lv := [(0, .ref (y 0)), (1, .int p1), (2, .int p2), (3, .ref o)]) rfl (by decide) rfl rfl (Nat.le_of_ble_eq_true rfl) ?_
  intro p e s m args below meth c A C hTab
  have w1 := C.1.2.2.2.2 (.classLink RL 13 "java/lang/IndexOutOfBoundsException") (by decide +kernel)
  have w2 := C.1.2.2.2.2 (.classLink RL 15 "java/lang/IllegalArgumentException") (by decide +kernel)
  have g_0 := h_g
  refine z_aload_n C dL_timePart_0 rfl 3 rfl ?_
  refine z_iconst (v := 0) C dL_timePart_1 (by decide) ?_
  refine z_aload_n C dL_timePart_2 rfl 0 rfl ?_
  refine z_iload_n C dL_timePart_3 rfl 1 rfl ?_
  refine z_iload_n C dL_timePart_4 rfl 2 rfl ?_
  refine z_xwi (ws' := (wY cI cJ y d sy sm sd mi ti sL bL mD mT ((o, .inl (cJ, 1, .inr (.inl ou))) :: X))) (rest := [.int 0, .ref o]) (ci := 2) (q0 := 0) C (c_X2_timePart l hfl D cI cJ ((o, .inl (cJ, 1, .inr (.inl ou))) :: X) y d sy sm sd mi ti sL bL mD mT p1 p2 ) q_X2_timePart rfl rfl rfl gL_timePart_X2_timePart ⟨rfl, rfl⟩ rfl rfl (Nat.le_of_ble_eq_true rfl) ⟨Nat.le_of_ble_eq_true rfl, Nat.le_of_ble_eq_true rfl⟩ ⟨Nat.le_of_ble_eq_true rfl, Nat.le_of_ble_eq_true rfl⟩ dL_timePart_5 (fun h1 => ?_) (fun E h1 h1_E => ?_)
  · refine z_i2l (v := ((f_X2_timePart ti p1 p2)).toInt64) C dL_timePart_8 rfl ?_
    refine z_last C 11 1 rfl rfl (zvpl 0 1 (by decide)) (ws' := (wY cI cJ y d sy sm sd mi ti sL bL mD mT ((o, .inl (cJ, 1, .inr (.inl (vp_updL ou 0 (((f_X2_timePart ti p1 p2)).toInt64))))) :: X))) rfl dL_timePart_9 ?_
    refine z_goto (tgt := 21) C dL_timePart_10 (by decide) ?_
    refine z_iconst (v := 0) C dL_timePart_21 (by decide) ?_
    exact z_iret C ⟨congrArg (fun v => some (Value.int v)) (by rw [f_L_timePart, if_pos h1] : (0 : Int32) = (f_L_timePart p1 p2)), by rw [s_L_timePart_ou, if_pos h1]⟩ (by decide) (by decide) dL_timePart_22
  · rcases h1_E with ⟨e1, rfl⟩ | ⟨e2, rfl⟩ | ⟨e3, rfl⟩
    · refine z_catch C hTab [] [(0, 10, 17, 15)] (a := 0) (b := 10) (h := 13) (t := 13) rfl (by decide) (by decide) w1 (C.2.2.2.2.2.1.2.2.1 "java/lang/IndexOutOfBoundsException" (by decide)) (fun _ hq => nomatch hq) (fun q => ?_)
      refine z_astore (lv' := [(4, .ref q), (0, .ref (y 0)), (1, .int p1), (2, .int p2), (3, .ref o)]) C dL_timePart_13 (by decide) rfl ?_
      refine z_iconst (v := 1) C dL_timePart_15 (by decide) ?_
      exact z_iret C ⟨congrArg (fun v => some (Value.int v)) (by rw [f_L_timePart, if_neg h1, if_pos e1] : (1 : Int32) = (f_L_timePart p1 p2)), by rw [s_L_timePart_ou, if_neg h1, if_pos e1]⟩ (by decide) (by decide) dL_timePart_16
    · refine z_catch C hTab [(0, 10, 13, 13)] [] (a := 0) (b := 10) (h := 17) (t := 15) rfl (by decide) (by decide) w2 (C.2.2.2.2.2.1.2.2.1 "java/lang/IllegalArgumentException" (by decide)) (fun q hq => ((List.mem_cons.mp hq).elim (fun z => by subst z; exact ⟨by decide, "java/lang/IndexOutOfBoundsException", w1, C.2.2.2.2.2.1.2.1 (_, _) (List.mem_of_getElem? (i := 0) rfl)⟩) (fun hq => (nomatch hq)))) (fun q => ?_)
      refine z_astore (lv' := [(4, .ref q), (0, .ref (y 0)), (1, .int p1), (2, .int p2), (3, .ref o)]) C dL_timePart_17 (by decide) rfl ?_
      refine z_iconst (v := 2) C dL_timePart_19 (by decide) ?_
      exact z_iret C ⟨congrArg (fun v => some (Value.int v)) (by rw [f_L_timePart, if_neg h1, if_neg (show ¬ k_X2_timePart p1 p2 = 1 from by rw [e2]; decide)] : (2 : Int32) = (f_L_timePart p1 p2)), by rw [s_L_timePart_ou, if_neg h1, if_neg (show ¬ k_X2_timePart p1 p2 = 1 from by rw [e2]; decide)]⟩ (by decide) (by decide) dL_timePart_20
    · exact absurd e3 (g_0)
def f_L_moveTime (p1 : Int32) (p2 : Int32) (p3 : Int64) (p4 : Int32) : Int32 := (if k_X2_moveTime p1 p2 p3 p4 = 0 then 0 else (if k_X2_moveTime p1 p2 p3 p4 = 1 then 1 else 2))
def s_L_moveTime_ti (ti : Nat → Int64) (p1 : Int32) (p2 : Int32) (p3 : Int64) (p4 : Int32) : Nat → Int64 := (if k_X2_moveTime p1 p2 p3 p4 = 0 then (s_X2_moveTime_ti ti p1 p2 p3 p4) else (if k_X2_moveTime p1 p2 p3 p4 = 1 then ti else ti))
def s_L_moveTime_ou (ti : Nat → Int64) (ou : Nat → Int64) (p1 : Int32) (p2 : Int32) (p3 : Int64) (p4 : Int32) : Nat → Int64 := (if k_X2_moveTime p1 p2 p3 p4 = 0 then (vp_updL ou 0 (f_X2_moveTime ti p1 p2 p3 p4)) else (if k_X2_moveTime p1 p2 p3 p4 = 1 then ou else ou))
def pre_L_moveTime (p1 : Int32) (p2 : Int32) (p3 : Int64) (p4 : Int32) : Prop := ((¬ k_X2_moveTime p1 p2 p3 p4 = 3))
theorem q_L_moveTime : ZYH yL_moveTime wsL_moveTime cL_moveTime 8 (some .int) 6 [(0, 13, 16, 13), (0, 13, 20, 15)] := ⟨⟨_, rfl⟩, by decide +kernel, by decide +kernel, by decide +kernel⟩
set_option maxHeartbeats 4000000 in
set_option maxRecDepth 100000 in
theorem c_L_moveTime (l : Launch) (hfl : l.stackTraces = false) (D : va_G) (cI cJ : ClassId) (X : va_W) (y : Nat → Nat) (o : Nat) (d : Nat → Int64) (sy : Nat → Int32) (sm : Nat → Int32) (sd : Nat → Int32) (mi : Nat → Int32) (ti : Nat → Int64) (sL : Nat → Int64) (bL : Nat → Int64) (mD : Nat → Int64) (mT : Nat → Int64) (ou : Nat → Int64) (p1 : Int32) (p2 : Int32) (p3 : Int64) (p4 : Int32)  (h_g : pre_L_moveTime p1 p2 p3 p4) : ZM l yL_moveTime wsL_moveTime { frames := 8, cells := 5, slots := 30, locals := 130 } [.ref (y 0), .int p1, .int p2, .long p3, .int p4, .ref o] D (zTys cI cJ) (wY cI cJ y d sy sm sd mi ti sL bL mD mT ((o, .inl (cJ, 1, .inr (.inl ou))) :: X)) 5 30 (fun v w => v = some (.int (f_L_moveTime p1 p2 p3 p4)) ∧ w = (wY cI cJ y d sy sm sd mi (s_L_moveTime_ti ti p1 p2 p3 p4) sL bL mD mT ((o, .inl (cJ, 1, .inr (.inl (s_L_moveTime_ou ti ou p1 p2 p3 p4)))) :: X))) (fun _ _ => False) := by
  refine z_openH (own := RL) hfl (cc := cL_moveTime) (maxL := 8) (ret := (some .int)) (hh := [(0, 13, 16, 13), (0, 13, 20, 15)]) (lv := [(0, .ref (y 0)), (1, .int p1), (2, .int p2), (3, .long p3), (5, .int p4), (6, .ref o)]) rfl (by decide) rfl rfl (Nat.le_of_ble_eq_true rfl) ?_
  intro p e s m args below meth c A C hTab
  have w1 := C.1.2.2.2.2 (.classLink RL 13 "java/lang/IndexOutOfBoundsException") (by decide +kernel)
  have w2 := C.1.2.2.2.2 (.classLink RL 15 "java/lang/IllegalArgumentException") (by decide +kernel)
  have g_0 := h_g
  refine z_aload C dL_moveTime_0 5 rfl ?_
  refine z_iconst (v := 0) C dL_moveTime_2 (by decide) ?_
  refine z_aload_n C dL_moveTime_3 rfl 0 rfl ?_
  refine z_iload_n C dL_moveTime_4 rfl 1 rfl ?_
  refine z_iload_n C dL_moveTime_5 rfl 2 rfl ?_
  refine z_lload_n C dL_moveTime_6 rfl 3 rfl ?_
  refine z_iload C dL_moveTime_7 4 rfl ?_
  refine z_xwl (ws' := (wY cI cJ y d sy sm sd mi (s_X2_moveTime_ti ti p1 p2 p3 p4) sL bL mD mT ((o, .inl (cJ, 1, .inr (.inl ou))) :: X))) (rest := [.int 0, .ref o]) (ci := 2) (q0 := 0) C (c_X2_moveTime l hfl D cI cJ ((o, .inl (cJ, 1, .inr (.inl ou))) :: X) y d sy sm sd mi ti sL bL mD mT p1 p2 p3 p4 ) q_X2_moveTime rfl rfl rfl gL_moveTime_X2_moveTime ⟨rfl, rfl⟩ rfl rfl (Nat.le_of_ble_eq_true rfl) ⟨Nat.le_of_ble_eq_true rfl, Nat.le_of_ble_eq_true rfl⟩ ⟨Nat.le_of_ble_eq_true rfl, Nat.le_of_ble_eq_true rfl⟩ dL_moveTime_9 (fun h1 => ?_) (fun E h1 h1_E => ?_)
  · refine z_last C 11 1 rfl rfl (zvpl 0 1 (by decide)) (ws' := (wY cI cJ y d sy sm sd mi (s_X2_moveTime_ti ti p1 p2 p3 p4) sL bL mD mT ((o, .inl (cJ, 1, .inr (.inl (vp_updL ou 0 (f_X2_moveTime ti p1 p2 p3 p4))))) :: X))) rfl dL_moveTime_12 ?_
    refine z_goto (tgt := 24) C dL_moveTime_13 (by decide) ?_
    refine z_iconst (v := 0) C dL_moveTime_24 (by decide) ?_
    exact z_iret C ⟨congrArg (fun v => some (Value.int v)) (by rw [f_L_moveTime, if_pos h1] : (0 : Int32) = (f_L_moveTime p1 p2 p3 p4)), by rw [s_L_moveTime_ti, if_pos h1, s_L_moveTime_ou, if_pos h1]⟩ (by decide) (by decide) dL_moveTime_25
  · rcases h1_E with ⟨e1, rfl⟩ | ⟨e2, rfl⟩ | ⟨e3, rfl⟩
    · refine z_catch C hTab [] [(0, 13, 20, 15)] (a := 0) (b := 13) (h := 16) (t := 13) rfl (by decide) (by decide) w1 (C.2.2.2.2.2.1.2.2.1 "java/lang/IndexOutOfBoundsException" (by decide)) (fun _ hq => nomatch hq) (fun q => ?_)
      refine z_astore (lv' := [(7, .ref q), (0, .ref (y 0)), (1, .int p1), (2, .int p2), (3, .long p3), (5, .int p4), (6, .ref o)]) C dL_moveTime_16 (by decide) rfl ?_
      refine z_iconst (v := 1) C dL_moveTime_18 (by decide) ?_
      exact z_iret C ⟨congrArg (fun v => some (Value.int v)) (by rw [f_L_moveTime, if_neg h1, if_pos e1] : (1 : Int32) = (f_L_moveTime p1 p2 p3 p4)), by rw [s_L_moveTime_ti, if_neg h1, if_pos e1, s_L_moveTime_ou, if_neg h1, if_pos e1]⟩ (by decide) (by decide) dL_moveTime_19
    · refine z_catch C hTab [(0, 13, 16, 13)] [] (a := 0) (b := 13) (h := 20) (t := 15) rfl (by decide) (by decide) w2 (C.2.2.2.2.2.1.2.2.1 "java/lang/IllegalArgumentException" (by decide)) (fun q hq => ((List.mem_cons.mp hq).elim (fun z => by subst z; exact ⟨by decide, "java/lang/IndexOutOfBoundsException", w1, C.2.2.2.2.2.1.2.1 (_, _) (List.mem_of_getElem? (i := 0) rfl)⟩) (fun hq => (nomatch hq)))) (fun q => ?_)
      refine z_astore (lv' := [(7, .ref q), (0, .ref (y 0)), (1, .int p1), (2, .int p2), (3, .long p3), (5, .int p4), (6, .ref o)]) C dL_moveTime_20 (by decide) rfl ?_
      refine z_iconst (v := 2) C dL_moveTime_22 (by decide) ?_
      exact z_iret C ⟨congrArg (fun v => some (Value.int v)) (by rw [f_L_moveTime, if_neg h1, if_neg (show ¬ k_X2_moveTime p1 p2 p3 p4 = 1 from by rw [e2]; decide)] : (2 : Int32) = (f_L_moveTime p1 p2 p3 p4)), by rw [s_L_moveTime_ti, if_neg h1, if_neg (show ¬ k_X2_moveTime p1 p2 p3 p4 = 1 from by rw [e2]; decide), s_L_moveTime_ou, if_neg h1, if_neg (show ¬ k_X2_moveTime p1 p2 p3 p4 = 1 from by rw [e2]; decide)]⟩ (by decide) (by decide) dL_moveTime_23
    · exact absurd e3 (g_0)
def f_L_cutTime (p1 : Int32) (p2 : Int32) (p3 : Int32) : Int32 := (if k_X2_cutTime p1 p2 p3 = 0 then 0 else (if k_X2_cutTime p1 p2 p3 = 1 then 1 else 2))
def s_L_cutTime_ti (ti : Nat → Int64) (p1 : Int32) (p2 : Int32) (p3 : Int32) : Nat → Int64 := (if k_X2_cutTime p1 p2 p3 = 0 then (s_X2_cutTime_ti ti p1 p2 p3) else (if k_X2_cutTime p1 p2 p3 = 1 then ti else ti))
def s_L_cutTime_ou (ti : Nat → Int64) (ou : Nat → Int64) (p1 : Int32) (p2 : Int32) (p3 : Int32) : Nat → Int64 := (if k_X2_cutTime p1 p2 p3 = 0 then (vp_updL ou 0 (f_X2_cutTime ti p1 p2 p3)) else (if k_X2_cutTime p1 p2 p3 = 1 then ou else ou))
def pre_L_cutTime (p1 : Int32) (p2 : Int32) (p3 : Int32) : Prop := ((¬ k_X2_cutTime p1 p2 p3 = 3))
theorem q_L_cutTime : ZYH yL_cutTime wsL_cutTime cL_cutTime 6 (some .int) 5 [(0, 11, 14, 13), (0, 11, 18, 15)] := ⟨⟨_, rfl⟩, by decide +kernel, by decide +kernel, by decide +kernel⟩
set_option maxHeartbeats 4000000 in
set_option maxRecDepth 100000 in
theorem c_L_cutTime (l : Launch) (hfl : l.stackTraces = false) (D : va_G) (cI cJ : ClassId) (X : va_W) (y : Nat → Nat) (o : Nat) (d : Nat → Int64) (sy : Nat → Int32) (sm : Nat → Int32) (sd : Nat → Int32) (mi : Nat → Int32) (ti : Nat → Int64) (sL : Nat → Int64) (bL : Nat → Int64) (mD : Nat → Int64) (mT : Nat → Int64) (ou : Nat → Int64) (p1 : Int32) (p2 : Int32) (p3 : Int32)  (h_g : pre_L_cutTime p1 p2 p3) : ZM l yL_cutTime wsL_cutTime { frames := 8, cells := 3, slots := 18, locals := 128 } [.ref (y 0), .int p1, .int p2, .int p3, .ref o] D (zTys cI cJ) (wY cI cJ y d sy sm sd mi ti sL bL mD mT ((o, .inl (cJ, 1, .inr (.inl ou))) :: X)) 3 18 (fun v w => v = some (.int (f_L_cutTime p1 p2 p3)) ∧ w = (wY cI cJ y d sy sm sd mi (s_L_cutTime_ti ti p1 p2 p3) sL bL mD mT ((o, .inl (cJ, 1, .inr (.inl (s_L_cutTime_ou ti ou p1 p2 p3)))) :: X))) (fun _ _ => False) := by
  refine z_openH (own := RL) hfl (cc := cL_cutTime) (maxL := 6) (ret := (some .int)) (hh := [(0, 11, 14, 13), (0, 11, 18, 15)]) (lv := [(0, .ref (y 0)), (1, .int p1), (2, .int p2), (3, .int p3), (4, .ref o)]) rfl (by decide) rfl rfl (Nat.le_of_ble_eq_true rfl) ?_
  intro p e s m args below meth c A C hTab
  have w1 := C.1.2.2.2.2 (.classLink RL 13 "java/lang/IndexOutOfBoundsException") (by decide +kernel)
  have w2 := C.1.2.2.2.2 (.classLink RL 15 "java/lang/IllegalArgumentException") (by decide +kernel)
  have g_0 := h_g
  refine z_aload C dL_cutTime_0 4 rfl ?_
  refine z_iconst (v := 0) C dL_cutTime_2 (by decide) ?_
  refine z_aload_n C dL_cutTime_3 rfl 0 rfl ?_
  refine z_iload_n C dL_cutTime_4 rfl 1 rfl ?_
  refine z_iload_n C dL_cutTime_5 rfl 2 rfl ?_
  refine z_iload_n C dL_cutTime_6 rfl 3 rfl ?_
  refine z_xwl (ws' := (wY cI cJ y d sy sm sd mi (s_X2_cutTime_ti ti p1 p2 p3) sL bL mD mT ((o, .inl (cJ, 1, .inr (.inl ou))) :: X))) (rest := [.int 0, .ref o]) (ci := 2) (q0 := 0) C (c_X2_cutTime l hfl D cI cJ ((o, .inl (cJ, 1, .inr (.inl ou))) :: X) y d sy sm sd mi ti sL bL mD mT p1 p2 p3 ) q_X2_cutTime rfl rfl rfl gL_cutTime_X2_cutTime ⟨rfl, rfl⟩ rfl rfl (Nat.le_of_ble_eq_true rfl) ⟨Nat.le_of_ble_eq_true rfl, Nat.le_of_ble_eq_true rfl⟩ ⟨Nat.le_of_ble_eq_true rfl, Nat.le_of_ble_eq_true rfl⟩ dL_cutTime_7 (fun h1 => ?_) (fun E h1 h1_E => ?_)
  · refine z_last C 11 1 rfl rfl (zvpl 0 1 (by decide)) (ws' := (wY cI cJ y d sy sm sd mi (s_X2_cutTime_ti ti p1 p2 p3) sL bL mD mT ((o, .inl (cJ, 1, .inr (.inl (vp_updL ou 0 (f_X2_cutTime ti p1 p2 p3))))) :: X))) rfl dL_cutTime_10 ?_
    refine z_goto (tgt := 22) C dL_cutTime_11 (by decide) ?_
    refine z_iconst (v := 0) C dL_cutTime_22 (by decide) ?_
    exact z_iret C ⟨congrArg (fun v => some (Value.int v)) (by rw [f_L_cutTime, if_pos h1] : (0 : Int32) = (f_L_cutTime p1 p2 p3)), by rw [s_L_cutTime_ti, if_pos h1, s_L_cutTime_ou, if_pos h1]⟩ (by decide) (by decide) dL_cutTime_23
  · rcases h1_E with ⟨e1, rfl⟩ | ⟨e2, rfl⟩ | ⟨e3, rfl⟩
    · refine z_catch C hTab [] [(0, 11, 18, 15)] (a := 0) (b := 11) (h := 14) (t := 13) rfl (by decide) (by decide) w1 (C.2.2.2.2.2.1.2.2.1 "java/lang/IndexOutOfBoundsException" (by decide)) (fun _ hq => nomatch hq) (fun q => ?_)
      refine z_astore (lv' := [(5, .ref q), (0, .ref (y 0)), (1, .int p1), (2, .int p2), (3, .int p3), (4, .ref o)]) C dL_cutTime_14 (by decide) rfl ?_
      refine z_iconst (v := 1) C dL_cutTime_16 (by decide) ?_
      exact z_iret C ⟨congrArg (fun v => some (Value.int v)) (by rw [f_L_cutTime, if_neg h1, if_pos e1] : (1 : Int32) = (f_L_cutTime p1 p2 p3)), by rw [s_L_cutTime_ti, if_neg h1, if_pos e1, s_L_cutTime_ou, if_neg h1, if_pos e1]⟩ (by decide) (by decide) dL_cutTime_17
    · refine z_catch C hTab [(0, 11, 14, 13)] [] (a := 0) (b := 11) (h := 18) (t := 15) rfl (by decide) (by decide) w2 (C.2.2.2.2.2.1.2.2.1 "java/lang/IllegalArgumentException" (by decide)) (fun q hq => ((List.mem_cons.mp hq).elim (fun z => by subst z; exact ⟨by decide, "java/lang/IndexOutOfBoundsException", w1, C.2.2.2.2.2.1.2.1 (_, _) (List.mem_of_getElem? (i := 0) rfl)⟩) (fun hq => (nomatch hq)))) (fun q => ?_)
      refine z_astore (lv' := [(5, .ref q), (0, .ref (y 0)), (1, .int p1), (2, .int p2), (3, .int p3), (4, .ref o)]) C dL_cutTime_18 (by decide) rfl ?_
      refine z_iconst (v := 2) C dL_cutTime_20 (by decide) ?_
      exact z_iret C ⟨congrArg (fun v => some (Value.int v)) (by rw [f_L_cutTime, if_neg h1, if_neg (show ¬ k_X2_cutTime p1 p2 p3 = 1 from by rw [e2]; decide)] : (2 : Int32) = (f_L_cutTime p1 p2 p3)), by rw [s_L_cutTime_ti, if_neg h1, if_neg (show ¬ k_X2_cutTime p1 p2 p3 = 1 from by rw [e2]; decide), s_L_cutTime_ou, if_neg h1, if_neg (show ¬ k_X2_cutTime p1 p2 p3 = 1 from by rw [e2]; decide)]⟩ (by decide) (by decide) dL_cutTime_21
    · exact absurd e3 (g_0)
def f_L_goTime (p1 : Int32) (p2 : Int32) (p4 : Int32) : Int32 := (if k_X2_goTime p1 p2 p4 = 0 then 0 else 1)
def s_L_goTime_ti (ti : Nat → Int64) (sL : Nat → Int64) (bL : Nat → Int64) (p1 : Int32) (p2 : Int32) (p3 : Int32) (p4 : Int32) : Nat → Int64 := (if k_X2_goTime p1 p2 p4 = 0 then (s_X2_goTime_ti ti sL bL p1 p2 p3 p4) else ti)
def s_L_goTime_ou (ti : Nat → Int64) (sL : Nat → Int64) (bL : Nat → Int64) (ou : Nat → Int64) (p1 : Int32) (p2 : Int32) (p3 : Int32) (p4 : Int32) : Nat → Int64 := (if k_X2_goTime p1 p2 p4 = 0 then (vp_updL ou 0 (f_X2_goTime ti sL bL p1 p2 p3 p4)) else ou)
def pre_L_goTime (p1 : Int32) (p2 : Int32) (p4 : Int32) : Prop := ((¬ k_X2_goTime p1 p2 p4 = 2)) ∧ ((¬ k_X2_goTime p1 p2 p4 = 3))
theorem q_L_goTime : ZYH yL_goTime wsL_goTime cL_goTime 7 (some .int) 6 [(0, 13, 16, 13)] := ⟨⟨_, rfl⟩, by decide +kernel, by decide +kernel, by decide +kernel⟩
set_option maxHeartbeats 4000000 in
set_option maxRecDepth 100000 in
theorem c_L_goTime (l : Launch) (hfl : l.stackTraces = false) (D : va_G) (cI cJ : ClassId) (X : va_W) (y : Nat → Nat) (o : Nat) (d : Nat → Int64) (sy : Nat → Int32) (sm : Nat → Int32) (sd : Nat → Int32) (mi : Nat → Int32) (ti : Nat → Int64) (sL : Nat → Int64) (bL : Nat → Int64) (mD : Nat → Int64) (mT : Nat → Int64) (ou : Nat → Int64) (p1 : Int32) (p2 : Int32) (p3 : Int32) (p4 : Int32)  (h_g : pre_L_goTime p1 p2 p4) : ZM l yL_goTime wsL_goTime { frames := 8, cells := 3, slots := 18, locals := 129 } [.ref (y 0), .int p1, .int p2, .int p3, .int p4, .ref o] D (zTys cI cJ) (wY cI cJ y d sy sm sd mi ti sL bL mD mT ((o, .inl (cJ, 1, .inr (.inl ou))) :: X)) 3 18 (fun v w => v = some (.int (f_L_goTime p1 p2 p4)) ∧ w = (wY cI cJ y d sy sm sd mi (s_L_goTime_ti ti sL bL p1 p2 p3 p4) sL bL mD mT ((o, .inl (cJ, 1, .inr (.inl (s_L_goTime_ou ti sL bL ou p1 p2 p3 p4)))) :: X))) (fun _ _ => False) := by
  refine z_openH (own := RL) hfl (cc := cL_goTime) (maxL := 7) (ret := (some .int)) (hh := [(0, 13, 16, 13)]) (lv := [(0, .ref (y 0)), (1, .int p1), (2, .int p2), (3, .int p3), (4, .int p4), (5, .ref o)]) rfl (by decide) rfl rfl (Nat.le_of_ble_eq_true rfl) ?_
  intro p e s m args below meth c A C hTab
  have w1 := C.1.2.2.2.2 (.classLink RL 13 "java/lang/IndexOutOfBoundsException") (by decide +kernel)
  obtain ⟨g_0, g_1⟩ := h_g
  refine z_aload C dL_goTime_0 5 rfl ?_
  refine z_iconst (v := 0) C dL_goTime_2 (by decide) ?_
  refine z_aload_n C dL_goTime_3 rfl 0 rfl ?_
  refine z_iload_n C dL_goTime_4 rfl 1 rfl ?_
  refine z_iload_n C dL_goTime_5 rfl 2 rfl ?_
  refine z_iload_n C dL_goTime_6 rfl 3 rfl ?_
  refine z_iload C dL_goTime_7 4 rfl ?_
  refine z_xwl (ws' := (wY cI cJ y d sy sm sd mi (s_X2_goTime_ti ti sL bL p1 p2 p3 p4) sL bL mD mT ((o, .inl (cJ, 1, .inr (.inl ou))) :: X))) (rest := [.int 0, .ref o]) (ci := 2) (q0 := 0) C (c_X2_goTime l hfl D cI cJ ((o, .inl (cJ, 1, .inr (.inl ou))) :: X) y d sy sm sd mi ti sL bL mD mT p1 p2 p3 p4 ) q_X2_goTime rfl rfl rfl gL_goTime_X2_goTime ⟨rfl, rfl⟩ rfl rfl (Nat.le_of_ble_eq_true rfl) ⟨Nat.le_of_ble_eq_true rfl, Nat.le_of_ble_eq_true rfl⟩ ⟨Nat.le_of_ble_eq_true rfl, Nat.le_of_ble_eq_true rfl⟩ dL_goTime_9 (fun h1 => ?_) (fun E h1 h1_E => ?_)
  · refine z_last C 11 1 rfl rfl (zvpl 0 1 (by decide)) (ws' := (wY cI cJ y d sy sm sd mi (s_X2_goTime_ti ti sL bL p1 p2 p3 p4) sL bL mD mT ((o, .inl (cJ, 1, .inr (.inl (vp_updL ou 0 (f_X2_goTime ti sL bL p1 p2 p3 p4))))) :: X))) rfl dL_goTime_12 ?_
    refine z_goto (tgt := 20) C dL_goTime_13 (by decide) ?_
    refine z_iconst (v := 0) C dL_goTime_20 (by decide) ?_
    exact z_iret C ⟨congrArg (fun v => some (Value.int v)) (by rw [f_L_goTime, if_pos h1] : (0 : Int32) = (f_L_goTime p1 p2 p4)), by rw [s_L_goTime_ti, if_pos h1, s_L_goTime_ou, if_pos h1]⟩ (by decide) (by decide) dL_goTime_21
  · rcases h1_E with ⟨e1, rfl⟩ | ⟨e2, rfl⟩ | ⟨e3, rfl⟩
    · refine z_catch C hTab [] [] (a := 0) (b := 13) (h := 16) (t := 13) rfl (by decide) (by decide) w1 (C.2.2.2.2.2.1.2.2.1 "java/lang/IndexOutOfBoundsException" (by decide)) (fun _ hq => nomatch hq) (fun q => ?_)
      refine z_astore (lv' := [(6, .ref q), (0, .ref (y 0)), (1, .int p1), (2, .int p2), (3, .int p3), (4, .int p4), (5, .ref o)]) C dL_goTime_16 (by decide) rfl ?_
      refine z_iconst (v := 1) C dL_goTime_18 (by decide) ?_
      exact z_iret C ⟨congrArg (fun v => some (Value.int v)) (by rw [f_L_goTime, if_neg h1] : (1 : Int32) = (f_L_goTime p1 p2 p4)), by rw [s_L_goTime_ti, if_neg h1, s_L_goTime_ou, if_neg h1]⟩ (by decide) (by decide) dL_goTime_19
    · exact absurd e2 (g_0)
    · exact absurd e3 (g_1)
def f_L_orderTimes (p1 : Int32) (p2 : Int32) : Int32 := (if k_X2_orderTimes p1 p2 = 0 then 0 else 1)
def s_L_orderTimes_ou (ti : Nat → Int64) (ou : Nat → Int64) (p1 : Int32) (p2 : Int32) : Nat → Int64 := (if k_X2_orderTimes p1 p2 = 0 then (vp_updL ou 0 (((f_X2_orderTimes ti p1 p2)).toInt64)) else ou)
def pre_L_orderTimes (p1 : Int32) (p2 : Int32) : Prop := ((¬ k_X2_orderTimes p1 p2 = 2)) ∧ ((¬ k_X2_orderTimes p1 p2 = 3))
theorem q_L_orderTimes : ZYH yL_orderTimes wsL_orderTimes cL_orderTimes 5 (some .int) 4 [(0, 10, 13, 13)] := ⟨⟨_, rfl⟩, by decide +kernel, by decide +kernel, by decide +kernel⟩
set_option maxHeartbeats 4000000 in
set_option maxRecDepth 100000 in
theorem c_L_orderTimes (l : Launch) (hfl : l.stackTraces = false) (D : va_G) (cI cJ : ClassId) (X : va_W) (y : Nat → Nat) (o : Nat) (d : Nat → Int64) (sy : Nat → Int32) (sm : Nat → Int32) (sd : Nat → Int32) (mi : Nat → Int32) (ti : Nat → Int64) (sL : Nat → Int64) (bL : Nat → Int64) (mD : Nat → Int64) (mT : Nat → Int64) (ou : Nat → Int64) (p1 : Int32) (p2 : Int32)  (h_g : pre_L_orderTimes p1 p2) : ZM l yL_orderTimes wsL_orderTimes { frames := 8, cells := 2, slots := 12, locals := 125 } [.ref (y 0), .int p1, .int p2, .ref o] D (zTys cI cJ) (wY cI cJ y d sy sm sd mi ti sL bL mD mT ((o, .inl (cJ, 1, .inr (.inl ou))) :: X)) 2 12 (fun v w => v = some (.int (f_L_orderTimes p1 p2)) ∧ w = (wY cI cJ y d sy sm sd mi ti sL bL mD mT ((o, .inl (cJ, 1, .inr (.inl (s_L_orderTimes_ou ti ou p1 p2)))) :: X))) (fun _ _ => False) := by
  refine z_openH (own := RL) hfl (cc := cL_orderTimes) (maxL := 5) (ret := (some .int)) (hh := [(0, 10, 13, 13)]) (lv := [(0, .ref (y 0)), (1, .int p1), (2, .int p2), (3, .ref o)]) rfl (by decide) rfl rfl (Nat.le_of_ble_eq_true rfl) ?_
  intro p e s m args below meth c A C hTab
  have w1 := C.1.2.2.2.2 (.classLink RL 13 "java/lang/IndexOutOfBoundsException") (by decide +kernel)
  obtain ⟨g_0, g_1⟩ := h_g
  refine z_aload_n C dL_orderTimes_0 rfl 3 rfl ?_
  refine z_iconst (v := 0) C dL_orderTimes_1 (by decide) ?_
  refine z_aload_n C dL_orderTimes_2 rfl 0 rfl ?_
  refine z_iload_n C dL_orderTimes_3 rfl 1 rfl ?_
  refine z_iload_n C dL_orderTimes_4 rfl 2 rfl ?_
  refine z_xwi (ws' := (wY cI cJ y d sy sm sd mi ti sL bL mD mT ((o, .inl (cJ, 1, .inr (.inl ou))) :: X))) (rest := [.int 0, .ref o]) (ci := 2) (q0 := 0) C (c_X2_orderTimes l hfl D cI cJ ((o, .inl (cJ, 1, .inr (.inl ou))) :: X) y d sy sm sd mi ti sL bL mD mT p1 p2 ) q_X2_orderTimes rfl rfl rfl gL_orderTimes_X2_orderTimes ⟨rfl, rfl⟩ rfl rfl (Nat.le_of_ble_eq_true rfl) ⟨Nat.le_of_ble_eq_true rfl, Nat.le_of_ble_eq_true rfl⟩ ⟨Nat.le_of_ble_eq_true rfl, Nat.le_of_ble_eq_true rfl⟩ dL_orderTimes_5 (fun h1 => ?_) (fun E h1 h1_E => ?_)
  · refine z_i2l (v := ((f_X2_orderTimes ti p1 p2)).toInt64) C dL_orderTimes_8 rfl ?_
    refine z_last C 11 1 rfl rfl (zvpl 0 1 (by decide)) (ws' := (wY cI cJ y d sy sm sd mi ti sL bL mD mT ((o, .inl (cJ, 1, .inr (.inl (vp_updL ou 0 (((f_X2_orderTimes ti p1 p2)).toInt64))))) :: X))) rfl dL_orderTimes_9 ?_
    refine z_goto (tgt := 17) C dL_orderTimes_10 (by decide) ?_
    refine z_iconst (v := 0) C dL_orderTimes_17 (by decide) ?_
    exact z_iret C ⟨congrArg (fun v => some (Value.int v)) (by rw [f_L_orderTimes, if_pos h1] : (0 : Int32) = (f_L_orderTimes p1 p2)), by rw [s_L_orderTimes_ou, if_pos h1]⟩ (by decide) (by decide) dL_orderTimes_18
  · rcases h1_E with ⟨e1, rfl⟩ | ⟨e2, rfl⟩ | ⟨e3, rfl⟩
    · refine z_catch C hTab [] [] (a := 0) (b := 10) (h := 13) (t := 13) rfl (by decide) (by decide) w1 (C.2.2.2.2.2.1.2.2.1 "java/lang/IndexOutOfBoundsException" (by decide)) (fun _ hq => nomatch hq) (fun q => ?_)
      refine z_astore (lv' := [(4, .ref q), (0, .ref (y 0)), (1, .int p1), (2, .int p2), (3, .ref o)]) C dL_orderTimes_13 (by decide) rfl ?_
      refine z_iconst (v := 1) C dL_orderTimes_15 (by decide) ?_
      exact z_iret C ⟨congrArg (fun v => some (Value.int v)) (by rw [f_L_orderTimes, if_neg h1] : (1 : Int32) = (f_L_orderTimes p1 p2)), by rw [s_L_orderTimes_ou, if_neg h1]⟩ (by decide) (by decide) dL_orderTimes_16
    · exact absurd e2 (g_0)
    · exact absurd e3 (g_1)
def f_L_length (p1 : Int32) (p2 : Int64) (p3 : Int64) : Int32 := (if k_X2_length p1 p2 p3 = 0 then 0 else (if k_X2_length p1 p2 p3 = 1 then 1 else (if k_X2_length p1 p2 p3 = 2 then 2 else 3)))
def s_L_length_sL (sL : Nat → Int64) (p1 : Int32) (p2 : Int64) (p3 : Int64) : Nat → Int64 := (if k_X2_length p1 p2 p3 = 0 then (s_X2_length_sL sL p1 p2 p3) else (if k_X2_length p1 p2 p3 = 1 then sL else (if k_X2_length p1 p2 p3 = 2 then sL else sL)))
def s_L_length_bL (bL : Nat → Int64) (p1 : Int32) (p2 : Int64) (p3 : Int64) : Nat → Int64 := (if k_X2_length p1 p2 p3 = 0 then (s_X2_length_bL bL p1 p2 p3) else (if k_X2_length p1 p2 p3 = 1 then bL else (if k_X2_length p1 p2 p3 = 2 then bL else bL)))
def s_L_length_ou (ou : Nat → Int64) (p1 : Int32) (p2 : Int64) (p3 : Int64) : Nat → Int64 := (if k_X2_length p1 p2 p3 = 0 then (vp_updL ou 0 (f_X2_length p1 p2 p3)) else (if k_X2_length p1 p2 p3 = 1 then ou else (if k_X2_length p1 p2 p3 = 2 then ou else ou)))
theorem q_L_length : ZYH yL_length wsL_length cL_length 8 (some .int) 5 [(0, 12, 15, 13), (0, 12, 19, 15), (0, 12, 23, 21)] := ⟨⟨_, rfl⟩, by decide +kernel, by decide +kernel, by decide +kernel⟩
set_option maxHeartbeats 4000000 in
set_option maxRecDepth 100000 in
theorem c_L_length (l : Launch) (hfl : l.stackTraces = false) (D : va_G) (cI cJ : ClassId) (X : va_W) (y : Nat → Nat) (o : Nat) (d : Nat → Int64) (sy : Nat → Int32) (sm : Nat → Int32) (sd : Nat → Int32) (mi : Nat → Int32) (ti : Nat → Int64) (sL : Nat → Int64) (bL : Nat → Int64) (mD : Nat → Int64) (mT : Nat → Int64) (ou : Nat → Int64) (p1 : Int32) (p2 : Int64) (p3 : Int64)  : ZM l yL_length wsL_length { frames := 9, cells := 4, slots := 24, locals := 156 } [.ref (y 0), .int p1, .long p2, .long p3, .ref o] D (zTys cI cJ) (wY cI cJ y d sy sm sd mi ti sL bL mD mT ((o, .inl (cJ, 1, .inr (.inl ou))) :: X)) 4 24 (fun v w => v = some (.int (f_L_length p1 p2 p3)) ∧ w = (wY cI cJ y d sy sm sd mi ti (s_L_length_sL sL p1 p2 p3) (s_L_length_bL bL p1 p2 p3) mD mT ((o, .inl (cJ, 1, .inr (.inl (s_L_length_ou ou p1 p2 p3)))) :: X))) (fun _ _ => False) := by
  refine z_openH (own := RL) hfl (cc := cL_length) (maxL := 8) (ret := (some .int)) (hh := [(0, 12, 15, 13), (0, 12, 19, 15), (0, 12, 23, 21)]) (lv := [(0, .ref (y 0)), (1, .int p1), (2, .long p2), (4, .long p3), (6, .ref o)]) rfl (by decide) rfl rfl (Nat.le_of_ble_eq_true rfl) ?_
  intro p e s m args below meth c A C hTab
  have w1 := C.1.2.2.2.2 (.classLink RL 13 "java/lang/IndexOutOfBoundsException") (by decide +kernel)
  have w2 := C.1.2.2.2.2 (.classLink RL 15 "java/lang/IllegalArgumentException") (by decide +kernel)
  have w3 := C.1.2.2.2.2 (.classLink RL 21 "java/lang/UnsupportedOperationException") (by decide +kernel)
  refine z_aload C dL_length_0 4 rfl ?_
  refine z_iconst (v := 0) C dL_length_2 (by decide) ?_
  refine z_aload_n C dL_length_3 rfl 0 rfl ?_
  refine z_iload_n C dL_length_4 rfl 1 rfl ?_
  refine z_lload_n C dL_length_5 rfl 2 rfl ?_
  refine z_lload C dL_length_6 3 rfl ?_
  refine z_xwl (ws' := (wY cI cJ y d sy sm sd mi ti (s_X2_length_sL sL p1 p2 p3) (s_X2_length_bL bL p1 p2 p3) mD mT ((o, .inl (cJ, 1, .inr (.inl ou))) :: X))) (rest := [.int 0, .ref o]) (ci := 2) (q0 := 0) C (c_X2_length l hfl D cI cJ ((o, .inl (cJ, 1, .inr (.inl ou))) :: X) y d sy sm sd mi ti sL bL mD mT p1 p2 p3 ) q_X2_length rfl rfl rfl gL_length_X2_length ⟨rfl, rfl⟩ rfl rfl (Nat.le_of_ble_eq_true rfl) ⟨Nat.le_of_ble_eq_true rfl, Nat.le_of_ble_eq_true rfl⟩ ⟨Nat.le_of_ble_eq_true rfl, Nat.le_of_ble_eq_true rfl⟩ dL_length_8 (fun h1 => ?_) (fun E h1 h1_E => ?_)
  · refine z_last C 11 1 rfl rfl (zvpl 0 1 (by decide)) (ws' := (wY cI cJ y d sy sm sd mi ti (s_X2_length_sL sL p1 p2 p3) (s_X2_length_bL bL p1 p2 p3) mD mT ((o, .inl (cJ, 1, .inr (.inl (vp_updL ou 0 (f_X2_length p1 p2 p3))))) :: X))) rfl dL_length_11 ?_
    refine z_goto (tgt := 27) C dL_length_12 (by decide) ?_
    refine z_iconst (v := 0) C dL_length_27 (by decide) ?_
    exact z_iret C ⟨congrArg (fun v => some (Value.int v)) (by rw [f_L_length, if_pos h1] : (0 : Int32) = (f_L_length p1 p2 p3)), by rw [s_L_length_sL, if_pos h1, s_L_length_bL, if_pos h1, s_L_length_ou, if_pos h1]⟩ (by decide) (by decide) dL_length_28
  · rcases h1_E with ⟨e1, rfl⟩ | ⟨e2, rfl⟩ | ⟨e3, rfl⟩
    · refine z_catch C hTab [] [(0, 12, 19, 15), (0, 12, 23, 21)] (a := 0) (b := 12) (h := 15) (t := 13) rfl (by decide) (by decide) w1 (C.2.2.2.2.2.1.2.2.1 "java/lang/IndexOutOfBoundsException" (by decide)) (fun _ hq => nomatch hq) (fun q => ?_)
      refine z_astore (lv' := [(7, .ref q), (0, .ref (y 0)), (1, .int p1), (2, .long p2), (4, .long p3), (6, .ref o)]) C dL_length_15 (by decide) rfl ?_
      refine z_iconst (v := 1) C dL_length_17 (by decide) ?_
      exact z_iret C ⟨congrArg (fun v => some (Value.int v)) (by rw [f_L_length, if_neg h1, if_pos e1] : (1 : Int32) = (f_L_length p1 p2 p3)), by rw [s_L_length_sL, if_neg h1, if_pos e1, s_L_length_bL, if_neg h1, if_pos e1, s_L_length_ou, if_neg h1, if_pos e1]⟩ (by decide) (by decide) dL_length_18
    · refine z_catch C hTab [(0, 12, 15, 13)] [(0, 12, 23, 21)] (a := 0) (b := 12) (h := 19) (t := 15) rfl (by decide) (by decide) w2 (C.2.2.2.2.2.1.2.2.1 "java/lang/IllegalArgumentException" (by decide)) (fun q hq => ((List.mem_cons.mp hq).elim (fun z => by subst z; exact ⟨by decide, "java/lang/IndexOutOfBoundsException", w1, C.2.2.2.2.2.1.2.1 (_, _) (List.mem_of_getElem? (i := 0) rfl)⟩) (fun hq => (nomatch hq)))) (fun q => ?_)
      refine z_astore (lv' := [(7, .ref q), (0, .ref (y 0)), (1, .int p1), (2, .long p2), (4, .long p3), (6, .ref o)]) C dL_length_19 (by decide) rfl ?_
      refine z_iconst (v := 2) C dL_length_21 (by decide) ?_
      exact z_iret C ⟨congrArg (fun v => some (Value.int v)) (by rw [f_L_length, if_neg h1, if_neg (show ¬ k_X2_length p1 p2 p3 = 1 from by rw [e2]; decide), if_pos e2] : (2 : Int32) = (f_L_length p1 p2 p3)), by rw [s_L_length_sL, if_neg h1, if_neg (show ¬ k_X2_length p1 p2 p3 = 1 from by rw [e2]; decide), if_pos e2, s_L_length_bL, if_neg h1, if_neg (show ¬ k_X2_length p1 p2 p3 = 1 from by rw [e2]; decide), if_pos e2, s_L_length_ou, if_neg h1, if_neg (show ¬ k_X2_length p1 p2 p3 = 1 from by rw [e2]; decide), if_pos e2]⟩ (by decide) (by decide) dL_length_22
    · refine z_catch C hTab [(0, 12, 15, 13), (0, 12, 19, 15)] [] (a := 0) (b := 12) (h := 23) (t := 21) rfl (by decide) (by decide) w3 (C.2.2.2.2.2.1.2.2.1 "java/lang/UnsupportedOperationException" (by decide)) (fun q hq => ((List.mem_cons.mp hq).elim (fun z => by subst z; exact ⟨by decide, "java/lang/IndexOutOfBoundsException", w1, C.2.2.2.2.2.1.2.1 (_, _) (List.mem_of_getElem? (i := 1) rfl)⟩) (fun hq => ((List.mem_cons.mp hq).elim (fun z => by subst z; exact ⟨by decide, "java/lang/IllegalArgumentException", w2, C.2.2.2.2.2.1.2.1 (_, _) (List.mem_of_getElem? (i := 2) rfl)⟩) (fun hq => (nomatch hq)))))) (fun q => ?_)
      refine z_astore (lv' := [(7, .ref q), (0, .ref (y 0)), (1, .int p1), (2, .long p2), (4, .long p3), (6, .ref o)]) C dL_length_23 (by decide) rfl ?_
      refine z_iconst (v := 3) C dL_length_25 (by decide) ?_
      exact z_iret C ⟨congrArg (fun v => some (Value.int v)) (by rw [f_L_length, if_neg h1, if_neg (show ¬ k_X2_length p1 p2 p3 = 1 from by rw [e3]; decide), if_neg (show ¬ k_X2_length p1 p2 p3 = 2 from by rw [e3]; decide)] : (3 : Int32) = (f_L_length p1 p2 p3)), by rw [s_L_length_sL, if_neg h1, if_neg (show ¬ k_X2_length p1 p2 p3 = 1 from by rw [e3]; decide), if_neg (show ¬ k_X2_length p1 p2 p3 = 2 from by rw [e3]; decide), s_L_length_bL, if_neg h1, if_neg (show ¬ k_X2_length p1 p2 p3 = 1 from by rw [e3]; decide), if_neg (show ¬ k_X2_length p1 p2 p3 = 2 from by rw [e3]; decide), s_L_length_ou, if_neg h1, if_neg (show ¬ k_X2_length p1 p2 p3 = 1 from by rw [e3]; decide), if_neg (show ¬ k_X2_length p1 p2 p3 = 2 from by rw [e3]; decide)]⟩ (by decide) (by decide) dL_length_26
def f_L_lengthPart (p1 : Int32) (p2 : Int32) : Int32 := (if k_X2_lengthPart p1 p2 = 0 then 0 else (if k_X2_lengthPart p1 p2 = 1 then 1 else 2))
def s_L_lengthPart_ou (sL : Nat → Int64) (bL : Nat → Int64) (ou : Nat → Int64) (p1 : Int32) (p2 : Int32) : Nat → Int64 := (if k_X2_lengthPart p1 p2 = 0 then (vp_updL ou 0 (f_X2_lengthPart sL bL p1 p2)) else (if k_X2_lengthPart p1 p2 = 1 then ou else ou))
def pre_L_lengthPart (p1 : Int32) (p2 : Int32) : Prop := ((¬ k_X2_lengthPart p1 p2 = 3))
theorem q_L_lengthPart : ZYH yL_lengthPart wsL_lengthPart cL_lengthPart 5 (some .int) 4 [(0, 9, 12, 13), (0, 9, 16, 15)] := ⟨⟨_, rfl⟩, by decide +kernel, by decide +kernel, by decide +kernel⟩
set_option maxHeartbeats 4000000 in
set_option maxRecDepth 100000 in
theorem c_L_lengthPart (l : Launch) (hfl : l.stackTraces = false) (D : va_G) (cI cJ : ClassId) (X : va_W) (y : Nat → Nat) (o : Nat) (d : Nat → Int64) (sy : Nat → Int32) (sm : Nat → Int32) (sd : Nat → Int32) (mi : Nat → Int32) (ti : Nat → Int64) (sL : Nat → Int64) (bL : Nat → Int64) (mD : Nat → Int64) (mT : Nat → Int64) (ou : Nat → Int64) (p1 : Int32) (p2 : Int32)  (h_g : pre_L_lengthPart p1 p2) : ZM l yL_lengthPart wsL_lengthPart { frames := 8, cells := 2, slots := 12, locals := 125 } [.ref (y 0), .int p1, .int p2, .ref o] D (zTys cI cJ) (wY cI cJ y d sy sm sd mi ti sL bL mD mT ((o, .inl (cJ, 1, .inr (.inl ou))) :: X)) 2 12 (fun v w => v = some (.int (f_L_lengthPart p1 p2)) ∧ w = (wY cI cJ y d sy sm sd mi ti sL bL mD mT ((o, .inl (cJ, 1, .inr (.inl (s_L_lengthPart_ou sL bL ou p1 p2)))) :: X))) (fun _ _ => False) := by
  refine z_openH (own := RL) hfl (cc := cL_lengthPart) (maxL := 5) (ret := (some .int)) (hh := [(0, 9, 12, 13), (0, 9, 16, 15)]) (lv := [(0, .ref (y 0)), (1, .int p1), (2, .int p2), (3, .ref o)]) rfl (by decide) rfl rfl (Nat.le_of_ble_eq_true rfl) ?_
  intro p e s m args below meth c A C hTab
  have w1 := C.1.2.2.2.2 (.classLink RL 13 "java/lang/IndexOutOfBoundsException") (by decide +kernel)
  have w2 := C.1.2.2.2.2 (.classLink RL 15 "java/lang/IllegalArgumentException") (by decide +kernel)
  have g_0 := h_g
  refine z_aload_n C dL_lengthPart_0 rfl 3 rfl ?_
  refine z_iconst (v := 0) C dL_lengthPart_1 (by decide) ?_
  refine z_aload_n C dL_lengthPart_2 rfl 0 rfl ?_
  refine z_iload_n C dL_lengthPart_3 rfl 1 rfl ?_
  refine z_iload_n C dL_lengthPart_4 rfl 2 rfl ?_
  refine z_xwl (ws' := (wY cI cJ y d sy sm sd mi ti sL bL mD mT ((o, .inl (cJ, 1, .inr (.inl ou))) :: X))) (rest := [.int 0, .ref o]) (ci := 2) (q0 := 0) C (c_X2_lengthPart l hfl D cI cJ ((o, .inl (cJ, 1, .inr (.inl ou))) :: X) y d sy sm sd mi ti sL bL mD mT p1 p2 ) q_X2_lengthPart rfl rfl rfl gL_lengthPart_X2_lengthPart ⟨rfl, rfl⟩ rfl rfl (Nat.le_of_ble_eq_true rfl) ⟨Nat.le_of_ble_eq_true rfl, Nat.le_of_ble_eq_true rfl⟩ ⟨Nat.le_of_ble_eq_true rfl, Nat.le_of_ble_eq_true rfl⟩ dL_lengthPart_5 (fun h1 => ?_) (fun E h1 h1_E => ?_)
  · refine z_last C 11 1 rfl rfl (zvpl 0 1 (by decide)) (ws' := (wY cI cJ y d sy sm sd mi ti sL bL mD mT ((o, .inl (cJ, 1, .inr (.inl (vp_updL ou 0 (f_X2_lengthPart sL bL p1 p2))))) :: X))) rfl dL_lengthPart_8 ?_
    refine z_goto (tgt := 20) C dL_lengthPart_9 (by decide) ?_
    refine z_iconst (v := 0) C dL_lengthPart_20 (by decide) ?_
    exact z_iret C ⟨congrArg (fun v => some (Value.int v)) (by rw [f_L_lengthPart, if_pos h1] : (0 : Int32) = (f_L_lengthPart p1 p2)), by rw [s_L_lengthPart_ou, if_pos h1]⟩ (by decide) (by decide) dL_lengthPart_21
  · rcases h1_E with ⟨e1, rfl⟩ | ⟨e2, rfl⟩ | ⟨e3, rfl⟩
    · refine z_catch C hTab [] [(0, 9, 16, 15)] (a := 0) (b := 9) (h := 12) (t := 13) rfl (by decide) (by decide) w1 (C.2.2.2.2.2.1.2.2.1 "java/lang/IndexOutOfBoundsException" (by decide)) (fun _ hq => nomatch hq) (fun q => ?_)
      refine z_astore (lv' := [(4, .ref q), (0, .ref (y 0)), (1, .int p1), (2, .int p2), (3, .ref o)]) C dL_lengthPart_12 (by decide) rfl ?_
      refine z_iconst (v := 1) C dL_lengthPart_14 (by decide) ?_
      exact z_iret C ⟨congrArg (fun v => some (Value.int v)) (by rw [f_L_lengthPart, if_neg h1, if_pos e1] : (1 : Int32) = (f_L_lengthPart p1 p2)), by rw [s_L_lengthPart_ou, if_neg h1, if_pos e1]⟩ (by decide) (by decide) dL_lengthPart_15
    · refine z_catch C hTab [(0, 9, 12, 13)] [] (a := 0) (b := 9) (h := 16) (t := 15) rfl (by decide) (by decide) w2 (C.2.2.2.2.2.1.2.2.1 "java/lang/IllegalArgumentException" (by decide)) (fun q hq => ((List.mem_cons.mp hq).elim (fun z => by subst z; exact ⟨by decide, "java/lang/IndexOutOfBoundsException", w1, C.2.2.2.2.2.1.2.1 (_, _) (List.mem_of_getElem? (i := 0) rfl)⟩) (fun hq => (nomatch hq)))) (fun q => ?_)
      refine z_astore (lv' := [(4, .ref q), (0, .ref (y 0)), (1, .int p1), (2, .int p2), (3, .ref o)]) C dL_lengthPart_16 (by decide) rfl ?_
      refine z_iconst (v := 2) C dL_lengthPart_18 (by decide) ?_
      exact z_iret C ⟨congrArg (fun v => some (Value.int v)) (by rw [f_L_lengthPart, if_neg h1, if_neg (show ¬ k_X2_lengthPart p1 p2 = 1 from by rw [e2]; decide)] : (2 : Int32) = (f_L_lengthPart p1 p2)), by rw [s_L_lengthPart_ou, if_neg h1, if_neg (show ¬ k_X2_lengthPart p1 p2 = 1 from by rw [e2]; decide)]⟩ (by decide) (by decide) dL_lengthPart_19
    · exact absurd e3 (g_0)
def f_L_addLength (sL : Nat → Int64) (bL : Nat → Int64) (p1 : Int32) (p2 : Int32) (p3 : Int32) (p4 : Int32) : Int32 := (if k_X2_addLength sL bL p1 p2 p3 p4 = 0 then 0 else (if k_X2_addLength sL bL p1 p2 p3 p4 = 1 then 1 else 2))
def s_L_addLength_sL (sL : Nat → Int64) (bL : Nat → Int64) (p1 : Int32) (p2 : Int32) (p3 : Int32) (p4 : Int32) : Nat → Int64 := (if k_X2_addLength sL bL p1 p2 p3 p4 = 0 then (s_X2_addLength_sL sL bL p1 p2 p3 p4) else (if k_X2_addLength sL bL p1 p2 p3 p4 = 1 then sL else sL))
def s_L_addLength_bL (sL : Nat → Int64) (bL : Nat → Int64) (p1 : Int32) (p2 : Int32) (p3 : Int32) (p4 : Int32) : Nat → Int64 := (if k_X2_addLength sL bL p1 p2 p3 p4 = 0 then (s_X2_addLength_bL sL bL p1 p2 p3 p4) else (if k_X2_addLength sL bL p1 p2 p3 p4 = 1 then bL else bL))
def s_L_addLength_ou (sL : Nat → Int64) (bL : Nat → Int64) (ou : Nat → Int64) (p1 : Int32) (p2 : Int32) (p3 : Int32) (p4 : Int32) : Nat → Int64 := (if k_X2_addLength sL bL p1 p2 p3 p4 = 0 then (vp_updL ou 0 (f_X2_addLength sL bL p1 p2 p3 p4)) else (if k_X2_addLength sL bL p1 p2 p3 p4 = 1 then ou else ou))
def pre_L_addLength (sL : Nat → Int64) (bL : Nat → Int64) (p1 : Int32) (p2 : Int32) (p3 : Int32) (p4 : Int32) : Prop := ((¬ k_X2_addLength sL bL p1 p2 p3 p4 = 2))
theorem q_L_addLength : ZYH yL_addLength wsL_addLength cL_addLength 7 (some .int) 6 [(0, 13, 16, 13), (0, 13, 20, 21)] := ⟨⟨_, rfl⟩, by decide +kernel, by decide +kernel, by decide +kernel⟩
set_option maxHeartbeats 4000000 in
set_option maxRecDepth 100000 in
theorem c_L_addLength (l : Launch) (hfl : l.stackTraces = false) (D : va_G) (cI cJ : ClassId) (X : va_W) (y : Nat → Nat) (o : Nat) (d : Nat → Int64) (sy : Nat → Int32) (sm : Nat → Int32) (sd : Nat → Int32) (mi : Nat → Int32) (ti : Nat → Int64) (sL : Nat → Int64) (bL : Nat → Int64) (mD : Nat → Int64) (mT : Nat → Int64) (ou : Nat → Int64) (p1 : Int32) (p2 : Int32) (p3 : Int32) (p4 : Int32)  (h_g : pre_L_addLength sL bL p1 p2 p3 p4) : ZM l yL_addLength wsL_addLength { frames := 9, cells := 4, slots := 24, locals := 158 } [.ref (y 0), .int p1, .int p2, .int p3, .int p4, .ref o] D (zTys cI cJ) (wY cI cJ y d sy sm sd mi ti sL bL mD mT ((o, .inl (cJ, 1, .inr (.inl ou))) :: X)) 4 24 (fun v w => v = some (.int (f_L_addLength sL bL p1 p2 p3 p4)) ∧ w = (wY cI cJ y d sy sm sd mi ti (s_L_addLength_sL sL bL p1 p2 p3 p4) (s_L_addLength_bL sL bL p1 p2 p3 p4) mD mT ((o, .inl (cJ, 1, .inr (.inl (s_L_addLength_ou sL bL ou p1 p2 p3 p4)))) :: X))) (fun _ _ => False) := by
  refine z_openH (own := RL) hfl (cc := cL_addLength) (maxL := 7) (ret := (some .int)) (hh := [(0, 13, 16, 13), (0, 13, 20, 21)]) (lv := [(0, .ref (y 0)), (1, .int p1), (2, .int p2), (3, .int p3), (4, .int p4), (5, .ref o)]) rfl (by decide) rfl rfl (Nat.le_of_ble_eq_true rfl) ?_
  intro p e s m args below meth c A C hTab
  have w1 := C.1.2.2.2.2 (.classLink RL 13 "java/lang/IndexOutOfBoundsException") (by decide +kernel)
  have w2 := C.1.2.2.2.2 (.classLink RL 21 "java/lang/UnsupportedOperationException") (by decide +kernel)
  have g_0 := h_g
  refine z_aload C dL_addLength_0 5 rfl ?_
  refine z_iconst (v := 0) C dL_addLength_2 (by decide) ?_
  refine z_aload_n C dL_addLength_3 rfl 0 rfl ?_
  refine z_iload_n C dL_addLength_4 rfl 1 rfl ?_
  refine z_iload_n C dL_addLength_5 rfl 2 rfl ?_
  refine z_iload_n C dL_addLength_6 rfl 3 rfl ?_
  refine z_iload C dL_addLength_7 4 rfl ?_
  refine z_xwl (ws' := (wY cI cJ y d sy sm sd mi ti (s_X2_addLength_sL sL bL p1 p2 p3 p4) (s_X2_addLength_bL sL bL p1 p2 p3 p4) mD mT ((o, .inl (cJ, 1, .inr (.inl ou))) :: X))) (rest := [.int 0, .ref o]) (ci := 2) (q0 := 0) C (c_X2_addLength l hfl D cI cJ ((o, .inl (cJ, 1, .inr (.inl ou))) :: X) y d sy sm sd mi ti sL bL mD mT p1 p2 p3 p4 ) q_X2_addLength rfl rfl rfl gL_addLength_X2_addLength ⟨rfl, rfl⟩ rfl rfl (Nat.le_of_ble_eq_true rfl) ⟨Nat.le_of_ble_eq_true rfl, Nat.le_of_ble_eq_true rfl⟩ ⟨Nat.le_of_ble_eq_true rfl, Nat.le_of_ble_eq_true rfl⟩ dL_addLength_9 (fun h1 => ?_) (fun E h1 h1_E => ?_)
  · refine z_last C 11 1 rfl rfl (zvpl 0 1 (by decide)) (ws' := (wY cI cJ y d sy sm sd mi ti (s_X2_addLength_sL sL bL p1 p2 p3 p4) (s_X2_addLength_bL sL bL p1 p2 p3 p4) mD mT ((o, .inl (cJ, 1, .inr (.inl (vp_updL ou 0 (f_X2_addLength sL bL p1 p2 p3 p4))))) :: X))) rfl dL_addLength_12 ?_
    refine z_goto (tgt := 24) C dL_addLength_13 (by decide) ?_
    refine z_iconst (v := 0) C dL_addLength_24 (by decide) ?_
    exact z_iret C ⟨congrArg (fun v => some (Value.int v)) (by rw [f_L_addLength, if_pos h1] : (0 : Int32) = (f_L_addLength sL bL p1 p2 p3 p4)), by rw [s_L_addLength_sL, if_pos h1, s_L_addLength_bL, if_pos h1, s_L_addLength_ou, if_pos h1]⟩ (by decide) (by decide) dL_addLength_25
  · rcases h1_E with ⟨e1, rfl⟩ | ⟨e2, rfl⟩ | ⟨e3, rfl⟩
    · refine z_catch C hTab [] [(0, 13, 20, 21)] (a := 0) (b := 13) (h := 16) (t := 13) rfl (by decide) (by decide) w1 (C.2.2.2.2.2.1.2.2.1 "java/lang/IndexOutOfBoundsException" (by decide)) (fun _ hq => nomatch hq) (fun q => ?_)
      refine z_astore (lv' := [(6, .ref q), (0, .ref (y 0)), (1, .int p1), (2, .int p2), (3, .int p3), (4, .int p4), (5, .ref o)]) C dL_addLength_16 (by decide) rfl ?_
      refine z_iconst (v := 1) C dL_addLength_18 (by decide) ?_
      exact z_iret C ⟨congrArg (fun v => some (Value.int v)) (by rw [f_L_addLength, if_neg h1, if_pos e1] : (1 : Int32) = (f_L_addLength sL bL p1 p2 p3 p4)), by rw [s_L_addLength_sL, if_neg h1, if_pos e1, s_L_addLength_bL, if_neg h1, if_pos e1, s_L_addLength_ou, if_neg h1, if_pos e1]⟩ (by decide) (by decide) dL_addLength_19
    · exact absurd e2 (g_0)
    · refine z_catch C hTab [(0, 13, 16, 13)] [] (a := 0) (b := 13) (h := 20) (t := 21) rfl (by decide) (by decide) w2 (C.2.2.2.2.2.1.2.2.1 "java/lang/UnsupportedOperationException" (by decide)) (fun q hq => ((List.mem_cons.mp hq).elim (fun z => by subst z; exact ⟨by decide, "java/lang/IndexOutOfBoundsException", w1, C.2.2.2.2.2.1.2.1 (_, _) (List.mem_of_getElem? (i := 1) rfl)⟩) (fun hq => (nomatch hq)))) (fun q => ?_)
      refine z_astore (lv' := [(6, .ref q), (0, .ref (y 0)), (1, .int p1), (2, .int p2), (3, .int p3), (4, .int p4), (5, .ref o)]) C dL_addLength_20 (by decide) rfl ?_
      refine z_iconst (v := 2) C dL_addLength_22 (by decide) ?_
      exact z_iret C ⟨congrArg (fun v => some (Value.int v)) (by rw [f_L_addLength, if_neg h1, if_neg (show ¬ k_X2_addLength sL bL p1 p2 p3 p4 = 1 from by rw [e3]; decide)] : (2 : Int32) = (f_L_addLength sL bL p1 p2 p3 p4)), by rw [s_L_addLength_sL, if_neg h1, if_neg (show ¬ k_X2_addLength sL bL p1 p2 p3 p4 = 1 from by rw [e3]; decide), s_L_addLength_bL, if_neg h1, if_neg (show ¬ k_X2_addLength sL bL p1 p2 p3 p4 = 1 from by rw [e3]; decide), s_L_addLength_ou, if_neg h1, if_neg (show ¬ k_X2_addLength sL bL p1 p2 p3 p4 = 1 from by rw [e3]; decide)]⟩ (by decide) (by decide) dL_addLength_23
def f_L_timesLength (sL : Nat → Int64) (bL : Nat → Int64) (p1 : Int32) (p2 : Int32) (p3 : Int32) : Int32 := (if k_X2_timesLength sL bL p1 p2 p3 = 0 then 0 else (if k_X2_timesLength sL bL p1 p2 p3 = 1 then 1 else (if k_X2_timesLength sL bL p1 p2 p3 = 2 then 2 else 3)))
def s_L_timesLength_sL (sL : Nat → Int64) (bL : Nat → Int64) (p1 : Int32) (p2 : Int32) (p3 : Int32) : Nat → Int64 := (if k_X2_timesLength sL bL p1 p2 p3 = 0 then (s_X2_timesLength_sL sL bL p1 p2 p3) else (if k_X2_timesLength sL bL p1 p2 p3 = 1 then sL else (if k_X2_timesLength sL bL p1 p2 p3 = 2 then sL else sL)))
def s_L_timesLength_bL (sL : Nat → Int64) (bL : Nat → Int64) (p1 : Int32) (p2 : Int32) (p3 : Int32) : Nat → Int64 := (if k_X2_timesLength sL bL p1 p2 p3 = 0 then (s_X2_timesLength_bL sL bL p1 p2 p3) else (if k_X2_timesLength sL bL p1 p2 p3 = 1 then bL else (if k_X2_timesLength sL bL p1 p2 p3 = 2 then bL else bL)))
def s_L_timesLength_ou (sL : Nat → Int64) (bL : Nat → Int64) (ou : Nat → Int64) (p1 : Int32) (p2 : Int32) (p3 : Int32) : Nat → Int64 := (if k_X2_timesLength sL bL p1 p2 p3 = 0 then (vp_updL ou 0 (f_X2_timesLength sL bL p1 p2 p3)) else (if k_X2_timesLength sL bL p1 p2 p3 = 1 then ou else (if k_X2_timesLength sL bL p1 p2 p3 = 2 then ou else ou)))
theorem q_L_timesLength : ZYH yL_timesLength wsL_timesLength cL_timesLength 6 (some .int) 5 [(0, 11, 14, 13), (0, 11, 18, 15), (0, 11, 22, 21)] := ⟨⟨_, rfl⟩, by decide +kernel, by decide +kernel, by decide +kernel⟩
set_option maxHeartbeats 4000000 in
set_option maxRecDepth 100000 in
theorem c_L_timesLength (l : Launch) (hfl : l.stackTraces = false) (D : va_G) (cI cJ : ClassId) (X : va_W) (y : Nat → Nat) (o : Nat) (d : Nat → Int64) (sy : Nat → Int32) (sm : Nat → Int32) (sd : Nat → Int32) (mi : Nat → Int32) (ti : Nat → Int64) (sL : Nat → Int64) (bL : Nat → Int64) (mD : Nat → Int64) (mT : Nat → Int64) (ou : Nat → Int64) (p1 : Int32) (p2 : Int32) (p3 : Int32)  : ZM l yL_timesLength wsL_timesLength { frames := 9, cells := 4, slots := 24, locals := 154 } [.ref (y 0), .int p1, .int p2, .int p3, .ref o] D (zTys cI cJ) (wY cI cJ y d sy sm sd mi ti sL bL mD mT ((o, .inl (cJ, 1, .inr (.inl ou))) :: X)) 4 24 (fun v w => v = some (.int (f_L_timesLength sL bL p1 p2 p3)) ∧ w = (wY cI cJ y d sy sm sd mi ti (s_L_timesLength_sL sL bL p1 p2 p3) (s_L_timesLength_bL sL bL p1 p2 p3) mD mT ((o, .inl (cJ, 1, .inr (.inl (s_L_timesLength_ou sL bL ou p1 p2 p3)))) :: X))) (fun _ _ => False) := by
  refine z_openH (own := RL) hfl (cc := cL_timesLength) (maxL := 6) (ret := (some .int)) (hh := [(0, 11, 14, 13), (0, 11, 18, 15), (0, 11, 22, 21)]) (lv := [(0, .ref (y 0)), (1, .int p1), (2, .int p2), (3, .int p3), (4, .ref o)]) rfl (by decide) rfl rfl (Nat.le_of_ble_eq_true rfl) ?_
  intro p e s m args below meth c A C hTab
  have w1 := C.1.2.2.2.2 (.classLink RL 13 "java/lang/IndexOutOfBoundsException") (by decide +kernel)
  have w2 := C.1.2.2.2.2 (.classLink RL 15 "java/lang/IllegalArgumentException") (by decide +kernel)
  have w3 := C.1.2.2.2.2 (.classLink RL 21 "java/lang/UnsupportedOperationException") (by decide +kernel)
  refine z_aload C dL_timesLength_0 4 rfl ?_
  refine z_iconst (v := 0) C dL_timesLength_2 (by decide) ?_
  refine z_aload_n C dL_timesLength_3 rfl 0 rfl ?_
  refine z_iload_n C dL_timesLength_4 rfl 1 rfl ?_
  refine z_iload_n C dL_timesLength_5 rfl 2 rfl ?_
  refine z_iload_n C dL_timesLength_6 rfl 3 rfl ?_
  refine z_xwl (ws' := (wY cI cJ y d sy sm sd mi ti (s_X2_timesLength_sL sL bL p1 p2 p3) (s_X2_timesLength_bL sL bL p1 p2 p3) mD mT ((o, .inl (cJ, 1, .inr (.inl ou))) :: X))) (rest := [.int 0, .ref o]) (ci := 2) (q0 := 0) C (c_X2_timesLength l hfl D cI cJ ((o, .inl (cJ, 1, .inr (.inl ou))) :: X) y d sy sm sd mi ti sL bL mD mT p1 p2 p3 ) q_X2_timesLength rfl rfl rfl gL_timesLength_X2_timesLength ⟨rfl, rfl⟩ rfl rfl (Nat.le_of_ble_eq_true rfl) ⟨Nat.le_of_ble_eq_true rfl, Nat.le_of_ble_eq_true rfl⟩ ⟨Nat.le_of_ble_eq_true rfl, Nat.le_of_ble_eq_true rfl⟩ dL_timesLength_7 (fun h1 => ?_) (fun E h1 h1_E => ?_)
  · refine z_last C 11 1 rfl rfl (zvpl 0 1 (by decide)) (ws' := (wY cI cJ y d sy sm sd mi ti (s_X2_timesLength_sL sL bL p1 p2 p3) (s_X2_timesLength_bL sL bL p1 p2 p3) mD mT ((o, .inl (cJ, 1, .inr (.inl (vp_updL ou 0 (f_X2_timesLength sL bL p1 p2 p3))))) :: X))) rfl dL_timesLength_10 ?_
    refine z_goto (tgt := 26) C dL_timesLength_11 (by decide) ?_
    refine z_iconst (v := 0) C dL_timesLength_26 (by decide) ?_
    exact z_iret C ⟨congrArg (fun v => some (Value.int v)) (by rw [f_L_timesLength, if_pos h1] : (0 : Int32) = (f_L_timesLength sL bL p1 p2 p3)), by rw [s_L_timesLength_sL, if_pos h1, s_L_timesLength_bL, if_pos h1, s_L_timesLength_ou, if_pos h1]⟩ (by decide) (by decide) dL_timesLength_27
  · rcases h1_E with ⟨e1, rfl⟩ | ⟨e2, rfl⟩ | ⟨e3, rfl⟩
    · refine z_catch C hTab [] [(0, 11, 18, 15), (0, 11, 22, 21)] (a := 0) (b := 11) (h := 14) (t := 13) rfl (by decide) (by decide) w1 (C.2.2.2.2.2.1.2.2.1 "java/lang/IndexOutOfBoundsException" (by decide)) (fun _ hq => nomatch hq) (fun q => ?_)
      refine z_astore (lv' := [(5, .ref q), (0, .ref (y 0)), (1, .int p1), (2, .int p2), (3, .int p3), (4, .ref o)]) C dL_timesLength_14 (by decide) rfl ?_
      refine z_iconst (v := 1) C dL_timesLength_16 (by decide) ?_
      exact z_iret C ⟨congrArg (fun v => some (Value.int v)) (by rw [f_L_timesLength, if_neg h1, if_pos e1] : (1 : Int32) = (f_L_timesLength sL bL p1 p2 p3)), by rw [s_L_timesLength_sL, if_neg h1, if_pos e1, s_L_timesLength_bL, if_neg h1, if_pos e1, s_L_timesLength_ou, if_neg h1, if_pos e1]⟩ (by decide) (by decide) dL_timesLength_17
    · refine z_catch C hTab [(0, 11, 14, 13)] [(0, 11, 22, 21)] (a := 0) (b := 11) (h := 18) (t := 15) rfl (by decide) (by decide) w2 (C.2.2.2.2.2.1.2.2.1 "java/lang/IllegalArgumentException" (by decide)) (fun q hq => ((List.mem_cons.mp hq).elim (fun z => by subst z; exact ⟨by decide, "java/lang/IndexOutOfBoundsException", w1, C.2.2.2.2.2.1.2.1 (_, _) (List.mem_of_getElem? (i := 0) rfl)⟩) (fun hq => (nomatch hq)))) (fun q => ?_)
      refine z_astore (lv' := [(5, .ref q), (0, .ref (y 0)), (1, .int p1), (2, .int p2), (3, .int p3), (4, .ref o)]) C dL_timesLength_18 (by decide) rfl ?_
      refine z_iconst (v := 2) C dL_timesLength_20 (by decide) ?_
      exact z_iret C ⟨congrArg (fun v => some (Value.int v)) (by rw [f_L_timesLength, if_neg h1, if_neg (show ¬ k_X2_timesLength sL bL p1 p2 p3 = 1 from by rw [e2]; decide), if_pos e2] : (2 : Int32) = (f_L_timesLength sL bL p1 p2 p3)), by rw [s_L_timesLength_sL, if_neg h1, if_neg (show ¬ k_X2_timesLength sL bL p1 p2 p3 = 1 from by rw [e2]; decide), if_pos e2, s_L_timesLength_bL, if_neg h1, if_neg (show ¬ k_X2_timesLength sL bL p1 p2 p3 = 1 from by rw [e2]; decide), if_pos e2, s_L_timesLength_ou, if_neg h1, if_neg (show ¬ k_X2_timesLength sL bL p1 p2 p3 = 1 from by rw [e2]; decide), if_pos e2]⟩ (by decide) (by decide) dL_timesLength_21
    · refine z_catch C hTab [(0, 11, 14, 13), (0, 11, 18, 15)] [] (a := 0) (b := 11) (h := 22) (t := 21) rfl (by decide) (by decide) w3 (C.2.2.2.2.2.1.2.2.1 "java/lang/UnsupportedOperationException" (by decide)) (fun q hq => ((List.mem_cons.mp hq).elim (fun z => by subst z; exact ⟨by decide, "java/lang/IndexOutOfBoundsException", w1, C.2.2.2.2.2.1.2.1 (_, _) (List.mem_of_getElem? (i := 1) rfl)⟩) (fun hq => ((List.mem_cons.mp hq).elim (fun z => by subst z; exact ⟨by decide, "java/lang/IllegalArgumentException", w2, C.2.2.2.2.2.1.2.1 (_, _) (List.mem_of_getElem? (i := 2) rfl)⟩) (fun hq => (nomatch hq)))))) (fun q => ?_)
      refine z_astore (lv' := [(5, .ref q), (0, .ref (y 0)), (1, .int p1), (2, .int p2), (3, .int p3), (4, .ref o)]) C dL_timesLength_22 (by decide) rfl ?_
      refine z_iconst (v := 3) C dL_timesLength_24 (by decide) ?_
      exact z_iret C ⟨congrArg (fun v => some (Value.int v)) (by rw [f_L_timesLength, if_neg h1, if_neg (show ¬ k_X2_timesLength sL bL p1 p2 p3 = 1 from by rw [e3]; decide), if_neg (show ¬ k_X2_timesLength sL bL p1 p2 p3 = 2 from by rw [e3]; decide)] : (3 : Int32) = (f_L_timesLength sL bL p1 p2 p3)), by rw [s_L_timesLength_sL, if_neg h1, if_neg (show ¬ k_X2_timesLength sL bL p1 p2 p3 = 1 from by rw [e3]; decide), if_neg (show ¬ k_X2_timesLength sL bL p1 p2 p3 = 2 from by rw [e3]; decide), s_L_timesLength_bL, if_neg h1, if_neg (show ¬ k_X2_timesLength sL bL p1 p2 p3 = 1 from by rw [e3]; decide), if_neg (show ¬ k_X2_timesLength sL bL p1 p2 p3 = 2 from by rw [e3]; decide), s_L_timesLength_ou, if_neg h1, if_neg (show ¬ k_X2_timesLength sL bL p1 p2 p3 = 1 from by rw [e3]; decide), if_neg (show ¬ k_X2_timesLength sL bL p1 p2 p3 = 2 from by rw [e3]; decide)]⟩ (by decide) (by decide) dL_timesLength_25
def f_L_lengthOfTimes (ti : Nat → Int64) (p1 : Int32) (p2 : Int32) (p3 : Int32) : Int32 := (if k_X2_lengthOfTimes ti p1 p2 p3 = 0 then 0 else 1)
def s_L_lengthOfTimes_sL (ti : Nat → Int64) (sL : Nat → Int64) (p1 : Int32) (p2 : Int32) (p3 : Int32) : Nat → Int64 := (if k_X2_lengthOfTimes ti p1 p2 p3 = 0 then (s_X2_lengthOfTimes_sL ti sL p1 p2 p3) else sL)
def s_L_lengthOfTimes_bL (ti : Nat → Int64) (bL : Nat → Int64) (p1 : Int32) (p2 : Int32) (p3 : Int32) : Nat → Int64 := (if k_X2_lengthOfTimes ti p1 p2 p3 = 0 then (s_X2_lengthOfTimes_bL ti bL p1 p2 p3) else bL)
def s_L_lengthOfTimes_ou (ti : Nat → Int64) (ou : Nat → Int64) (p1 : Int32) (p2 : Int32) (p3 : Int32) : Nat → Int64 := (if k_X2_lengthOfTimes ti p1 p2 p3 = 0 then (vp_updL ou 0 (f_X2_lengthOfTimes ti p1 p2 p3)) else ou)
def pre_L_lengthOfTimes (ti : Nat → Int64) (p1 : Int32) (p2 : Int32) (p3 : Int32) : Prop := ((¬ k_X2_lengthOfTimes ti p1 p2 p3 = 2)) ∧ ((¬ k_X2_lengthOfTimes ti p1 p2 p3 = 3))
theorem q_L_lengthOfTimes : ZYH yL_lengthOfTimes wsL_lengthOfTimes cL_lengthOfTimes 6 (some .int) 5 [(0, 11, 14, 13)] := ⟨⟨_, rfl⟩, by decide +kernel, by decide +kernel, by decide +kernel⟩
set_option maxHeartbeats 4000000 in
set_option maxRecDepth 100000 in
theorem c_L_lengthOfTimes (l : Launch) (hfl : l.stackTraces = false) (D : va_G) (cI cJ : ClassId) (X : va_W) (y : Nat → Nat) (o : Nat) (d : Nat → Int64) (sy : Nat → Int32) (sm : Nat → Int32) (sd : Nat → Int32) (mi : Nat → Int32) (ti : Nat → Int64) (sL : Nat → Int64) (bL : Nat → Int64) (mD : Nat → Int64) (mT : Nat → Int64) (ou : Nat → Int64) (p1 : Int32) (p2 : Int32) (p3 : Int32)  (h_g : pre_L_lengthOfTimes ti p1 p2 p3) : ZM l yL_lengthOfTimes wsL_lengthOfTimes { frames := 9, cells := 4, slots := 24, locals := 154 } [.ref (y 0), .int p1, .int p2, .int p3, .ref o] D (zTys cI cJ) (wY cI cJ y d sy sm sd mi ti sL bL mD mT ((o, .inl (cJ, 1, .inr (.inl ou))) :: X)) 4 24 (fun v w => v = some (.int (f_L_lengthOfTimes ti p1 p2 p3)) ∧ w = (wY cI cJ y d sy sm sd mi ti (s_L_lengthOfTimes_sL ti sL p1 p2 p3) (s_L_lengthOfTimes_bL ti bL p1 p2 p3) mD mT ((o, .inl (cJ, 1, .inr (.inl (s_L_lengthOfTimes_ou ti ou p1 p2 p3)))) :: X))) (fun _ _ => False) := by
  refine z_openH (own := RL) hfl (cc := cL_lengthOfTimes) (maxL := 6) (ret := (some .int)) (hh := [(0, 11, 14, 13)]) (lv := [(0, .ref (y 0)), (1, .int p1), (2, .int p2), (3, .int p3), (4, .ref o)]) rfl (by decide) rfl rfl (Nat.le_of_ble_eq_true rfl) ?_
  intro p e s m args below meth c A C hTab
  have w1 := C.1.2.2.2.2 (.classLink RL 13 "java/lang/IndexOutOfBoundsException") (by decide +kernel)
  obtain ⟨g_0, g_1⟩ := h_g
  refine z_aload C dL_lengthOfTimes_0 4 rfl ?_
  refine z_iconst (v := 0) C dL_lengthOfTimes_2 (by decide) ?_
  refine z_aload_n C dL_lengthOfTimes_3 rfl 0 rfl ?_
  refine z_iload_n C dL_lengthOfTimes_4 rfl 1 rfl ?_
  refine z_iload_n C dL_lengthOfTimes_5 rfl 2 rfl ?_
  refine z_iload_n C dL_lengthOfTimes_6 rfl 3 rfl ?_
  refine z_xwl (ws' := (wY cI cJ y d sy sm sd mi ti (s_X2_lengthOfTimes_sL ti sL p1 p2 p3) (s_X2_lengthOfTimes_bL ti bL p1 p2 p3) mD mT ((o, .inl (cJ, 1, .inr (.inl ou))) :: X))) (rest := [.int 0, .ref o]) (ci := 2) (q0 := 0) C (c_X2_lengthOfTimes l hfl D cI cJ ((o, .inl (cJ, 1, .inr (.inl ou))) :: X) y d sy sm sd mi ti sL bL mD mT p1 p2 p3 ) q_X2_lengthOfTimes rfl rfl rfl gL_lengthOfTimes_X2_lengthOfTimes ⟨rfl, rfl⟩ rfl rfl (Nat.le_of_ble_eq_true rfl) ⟨Nat.le_of_ble_eq_true rfl, Nat.le_of_ble_eq_true rfl⟩ ⟨Nat.le_of_ble_eq_true rfl, Nat.le_of_ble_eq_true rfl⟩ dL_lengthOfTimes_7 (fun h1 => ?_) (fun E h1 h1_E => ?_)
  · refine z_last C 11 1 rfl rfl (zvpl 0 1 (by decide)) (ws' := (wY cI cJ y d sy sm sd mi ti (s_X2_lengthOfTimes_sL ti sL p1 p2 p3) (s_X2_lengthOfTimes_bL ti bL p1 p2 p3) mD mT ((o, .inl (cJ, 1, .inr (.inl (vp_updL ou 0 (f_X2_lengthOfTimes ti p1 p2 p3))))) :: X))) rfl dL_lengthOfTimes_10 ?_
    refine z_goto (tgt := 18) C dL_lengthOfTimes_11 (by decide) ?_
    refine z_iconst (v := 0) C dL_lengthOfTimes_18 (by decide) ?_
    exact z_iret C ⟨congrArg (fun v => some (Value.int v)) (by rw [f_L_lengthOfTimes, if_pos h1] : (0 : Int32) = (f_L_lengthOfTimes ti p1 p2 p3)), by rw [s_L_lengthOfTimes_sL, if_pos h1, s_L_lengthOfTimes_bL, if_pos h1, s_L_lengthOfTimes_ou, if_pos h1]⟩ (by decide) (by decide) dL_lengthOfTimes_19
  · rcases h1_E with ⟨e1, rfl⟩ | ⟨e2, rfl⟩ | ⟨e3, rfl⟩
    · refine z_catch C hTab [] [] (a := 0) (b := 11) (h := 14) (t := 13) rfl (by decide) (by decide) w1 (C.2.2.2.2.2.1.2.2.1 "java/lang/IndexOutOfBoundsException" (by decide)) (fun _ hq => nomatch hq) (fun q => ?_)
      refine z_astore (lv' := [(5, .ref q), (0, .ref (y 0)), (1, .int p1), (2, .int p2), (3, .int p3), (4, .ref o)]) C dL_lengthOfTimes_14 (by decide) rfl ?_
      refine z_iconst (v := 1) C dL_lengthOfTimes_16 (by decide) ?_
      exact z_iret C ⟨congrArg (fun v => some (Value.int v)) (by rw [f_L_lengthOfTimes, if_neg h1] : (1 : Int32) = (f_L_lengthOfTimes ti p1 p2 p3)), by rw [s_L_lengthOfTimes_sL, if_neg h1, s_L_lengthOfTimes_bL, if_neg h1, s_L_lengthOfTimes_ou, if_neg h1]⟩ (by decide) (by decide) dL_lengthOfTimes_17
    · exact absurd e2 (g_0)
    · exact absurd e3 (g_1)
def f_L_orderLengths (sL : Nat → Int64) (p1 : Int32) (p2 : Int32) : Int32 := (if k_X2_orderLengths sL p1 p2 = 0 then 0 else 1)
def s_L_orderLengths_ou (sL : Nat → Int64) (bL : Nat → Int64) (ou : Nat → Int64) (p1 : Int32) (p2 : Int32) : Nat → Int64 := (if k_X2_orderLengths sL p1 p2 = 0 then (vp_updL ou 0 (((f_X2_orderLengths sL bL p1 p2)).toInt64)) else ou)
def pre_L_orderLengths (sL : Nat → Int64) (p1 : Int32) (p2 : Int32) : Prop := ((¬ k_X2_orderLengths sL p1 p2 = 2)) ∧ ((¬ k_X2_orderLengths sL p1 p2 = 3))
theorem q_L_orderLengths : ZYH yL_orderLengths wsL_orderLengths cL_orderLengths 5 (some .int) 4 [(0, 10, 13, 13)] := ⟨⟨_, rfl⟩, by decide +kernel, by decide +kernel, by decide +kernel⟩
set_option maxHeartbeats 4000000 in
set_option maxRecDepth 100000 in
theorem c_L_orderLengths (l : Launch) (hfl : l.stackTraces = false) (D : va_G) (cI cJ : ClassId) (X : va_W) (y : Nat → Nat) (o : Nat) (d : Nat → Int64) (sy : Nat → Int32) (sm : Nat → Int32) (sd : Nat → Int32) (mi : Nat → Int32) (ti : Nat → Int64) (sL : Nat → Int64) (bL : Nat → Int64) (mD : Nat → Int64) (mT : Nat → Int64) (ou : Nat → Int64) (p1 : Int32) (p2 : Int32)  (h_g : pre_L_orderLengths sL p1 p2) : ZM l yL_orderLengths wsL_orderLengths { frames := 8, cells := 2, slots := 12, locals := 126 } [.ref (y 0), .int p1, .int p2, .ref o] D (zTys cI cJ) (wY cI cJ y d sy sm sd mi ti sL bL mD mT ((o, .inl (cJ, 1, .inr (.inl ou))) :: X)) 2 12 (fun v w => v = some (.int (f_L_orderLengths sL p1 p2)) ∧ w = (wY cI cJ y d sy sm sd mi ti sL bL mD mT ((o, .inl (cJ, 1, .inr (.inl (s_L_orderLengths_ou sL bL ou p1 p2)))) :: X))) (fun _ _ => False) := by
  refine z_openH (own := RL) hfl (cc := cL_orderLengths) (maxL := 5) (ret := (some .int)) (hh := [(0, 10, 13, 13)]) (lv := [(0, .ref (y 0)), (1, .int p1), (2, .int p2), (3, .ref o)]) rfl (by decide) rfl rfl (Nat.le_of_ble_eq_true rfl) ?_
  intro p e s m args below meth c A C hTab
  have w1 := C.1.2.2.2.2 (.classLink RL 13 "java/lang/IndexOutOfBoundsException") (by decide +kernel)
  obtain ⟨g_0, g_1⟩ := h_g
  refine z_aload_n C dL_orderLengths_0 rfl 3 rfl ?_
  refine z_iconst (v := 0) C dL_orderLengths_1 (by decide) ?_
  refine z_aload_n C dL_orderLengths_2 rfl 0 rfl ?_
  refine z_iload_n C dL_orderLengths_3 rfl 1 rfl ?_
  refine z_iload_n C dL_orderLengths_4 rfl 2 rfl ?_
  refine z_xwi (ws' := (wY cI cJ y d sy sm sd mi ti sL bL mD mT ((o, .inl (cJ, 1, .inr (.inl ou))) :: X))) (rest := [.int 0, .ref o]) (ci := 2) (q0 := 0) C (c_X2_orderLengths l hfl D cI cJ ((o, .inl (cJ, 1, .inr (.inl ou))) :: X) y d sy sm sd mi ti sL bL mD mT p1 p2 ) q_X2_orderLengths rfl rfl rfl gL_orderLengths_X2_orderLengths ⟨rfl, rfl⟩ rfl rfl (Nat.le_of_ble_eq_true rfl) ⟨Nat.le_of_ble_eq_true rfl, Nat.le_of_ble_eq_true rfl⟩ ⟨Nat.le_of_ble_eq_true rfl, Nat.le_of_ble_eq_true rfl⟩ dL_orderLengths_5 (fun h1 => ?_) (fun E h1 h1_E => ?_)
  · refine z_i2l (v := ((f_X2_orderLengths sL bL p1 p2)).toInt64) C dL_orderLengths_8 rfl ?_
    refine z_last C 11 1 rfl rfl (zvpl 0 1 (by decide)) (ws' := (wY cI cJ y d sy sm sd mi ti sL bL mD mT ((o, .inl (cJ, 1, .inr (.inl (vp_updL ou 0 (((f_X2_orderLengths sL bL p1 p2)).toInt64))))) :: X))) rfl dL_orderLengths_9 ?_
    refine z_goto (tgt := 17) C dL_orderLengths_10 (by decide) ?_
    refine z_iconst (v := 0) C dL_orderLengths_17 (by decide) ?_
    exact z_iret C ⟨congrArg (fun v => some (Value.int v)) (by rw [f_L_orderLengths, if_pos h1] : (0 : Int32) = (f_L_orderLengths sL p1 p2)), by rw [s_L_orderLengths_ou, if_pos h1]⟩ (by decide) (by decide) dL_orderLengths_18
  · rcases h1_E with ⟨e1, rfl⟩ | ⟨e2, rfl⟩ | ⟨e3, rfl⟩
    · refine z_catch C hTab [] [] (a := 0) (b := 10) (h := 13) (t := 13) rfl (by decide) (by decide) w1 (C.2.2.2.2.2.1.2.2.1 "java/lang/IndexOutOfBoundsException" (by decide)) (fun _ hq => nomatch hq) (fun q => ?_)
      refine z_astore (lv' := [(4, .ref q), (0, .ref (y 0)), (1, .int p1), (2, .int p2), (3, .ref o)]) C dL_orderLengths_13 (by decide) rfl ?_
      refine z_iconst (v := 1) C dL_orderLengths_15 (by decide) ?_
      exact z_iret C ⟨congrArg (fun v => some (Value.int v)) (by rw [f_L_orderLengths, if_neg h1] : (1 : Int32) = (f_L_orderLengths sL p1 p2)), by rw [s_L_orderLengths_ou, if_neg h1]⟩ (by decide) (by decide) dL_orderLengths_16
    · exact absurd e2 (g_0)
    · exact absurd e3 (g_1)
def f_L_moment (d : Nat → Int64) (ti : Nat → Int64) (p1 : Int32) (p2 : Int32) (p3 : Int32) : Int32 := (if k_X2_moment d ti p1 p2 p3 = 0 then 0 else 1)
def s_L_moment_mD (d : Nat → Int64) (ti : Nat → Int64) (mD : Nat → Int64) (p1 : Int32) (p2 : Int32) (p3 : Int32) : Nat → Int64 := (if k_X2_moment d ti p1 p2 p3 = 0 then (s_X2_moment_mD d ti mD p1 p2 p3) else mD)
def s_L_moment_mT (d : Nat → Int64) (ti : Nat → Int64) (mT : Nat → Int64) (p1 : Int32) (p2 : Int32) (p3 : Int32) : Nat → Int64 := (if k_X2_moment d ti p1 p2 p3 = 0 then (s_X2_moment_mT d ti mT p1 p2 p3) else mT)
def s_L_moment_ou (d : Nat → Int64) (ti : Nat → Int64) (ou : Nat → Int64) (p1 : Int32) (p2 : Int32) (p3 : Int32) : Nat → Int64 := (if k_X2_moment d ti p1 p2 p3 = 0 then (vp_updL ou 0 (f_X2_moment d ti p1 p2 p3)) else ou)
def pre_L_moment (d : Nat → Int64) (ti : Nat → Int64) (p1 : Int32) (p2 : Int32) (p3 : Int32) : Prop := ((¬ k_X2_moment d ti p1 p2 p3 = 2)) ∧ ((¬ k_X2_moment d ti p1 p2 p3 = 3))
theorem q_L_moment : ZYH yL_moment wsL_moment cL_moment 6 (some .int) 5 [(0, 11, 14, 13)] := ⟨⟨_, rfl⟩, by decide +kernel, by decide +kernel, by decide +kernel⟩
set_option maxHeartbeats 4000000 in
set_option maxRecDepth 100000 in
theorem c_L_moment (l : Launch) (hfl : l.stackTraces = false) (D : va_G) (cI cJ : ClassId) (X : va_W) (y : Nat → Nat) (o : Nat) (d : Nat → Int64) (sy : Nat → Int32) (sm : Nat → Int32) (sd : Nat → Int32) (mi : Nat → Int32) (ti : Nat → Int64) (sL : Nat → Int64) (bL : Nat → Int64) (mD : Nat → Int64) (mT : Nat → Int64) (ou : Nat → Int64) (p1 : Int32) (p2 : Int32) (p3 : Int32)  (h_g : pre_L_moment d ti p1 p2 p3) : ZM l yL_moment wsL_moment { frames := 9, cells := 4, slots := 24, locals := 152 } [.ref (y 0), .int p1, .int p2, .int p3, .ref o] D (zTys cI cJ) (wY cI cJ y d sy sm sd mi ti sL bL mD mT ((o, .inl (cJ, 1, .inr (.inl ou))) :: X)) 4 24 (fun v w => v = some (.int (f_L_moment d ti p1 p2 p3)) ∧ w = (wY cI cJ y d sy sm sd mi ti sL bL (s_L_moment_mD d ti mD p1 p2 p3) (s_L_moment_mT d ti mT p1 p2 p3) ((o, .inl (cJ, 1, .inr (.inl (s_L_moment_ou d ti ou p1 p2 p3)))) :: X))) (fun _ _ => False) := by
  refine z_openH (own := RL) hfl (cc := cL_moment) (maxL := 6) (ret := (some .int)) (hh := [(0, 11, 14, 13)]) (lv := [(0, .ref (y 0)), (1, .int p1), (2, .int p2), (3, .int p3), (4, .ref o)]) rfl (by decide) rfl rfl (Nat.le_of_ble_eq_true rfl) ?_
  intro p e s m args below meth c A C hTab
  have w1 := C.1.2.2.2.2 (.classLink RL 13 "java/lang/IndexOutOfBoundsException") (by decide +kernel)
  obtain ⟨g_0, g_1⟩ := h_g
  refine z_aload C dL_moment_0 4 rfl ?_
  refine z_iconst (v := 0) C dL_moment_2 (by decide) ?_
  refine z_aload_n C dL_moment_3 rfl 0 rfl ?_
  refine z_iload_n C dL_moment_4 rfl 1 rfl ?_
  refine z_iload_n C dL_moment_5 rfl 2 rfl ?_
  refine z_iload_n C dL_moment_6 rfl 3 rfl ?_
  refine z_xwl (ws' := (wY cI cJ y d sy sm sd mi ti sL bL (s_X2_moment_mD d ti mD p1 p2 p3) (s_X2_moment_mT d ti mT p1 p2 p3) ((o, .inl (cJ, 1, .inr (.inl ou))) :: X))) (rest := [.int 0, .ref o]) (ci := 2) (q0 := 0) C (c_X2_moment l hfl D cI cJ ((o, .inl (cJ, 1, .inr (.inl ou))) :: X) y d sy sm sd mi ti sL bL mD mT p1 p2 p3 ) q_X2_moment rfl rfl rfl gL_moment_X2_moment ⟨rfl, rfl⟩ rfl rfl (Nat.le_of_ble_eq_true rfl) ⟨Nat.le_of_ble_eq_true rfl, Nat.le_of_ble_eq_true rfl⟩ ⟨Nat.le_of_ble_eq_true rfl, Nat.le_of_ble_eq_true rfl⟩ dL_moment_7 (fun h1 => ?_) (fun E h1 h1_E => ?_)
  · refine z_last C 11 1 rfl rfl (zvpl 0 1 (by decide)) (ws' := (wY cI cJ y d sy sm sd mi ti sL bL (s_X2_moment_mD d ti mD p1 p2 p3) (s_X2_moment_mT d ti mT p1 p2 p3) ((o, .inl (cJ, 1, .inr (.inl (vp_updL ou 0 (f_X2_moment d ti p1 p2 p3))))) :: X))) rfl dL_moment_10 ?_
    refine z_goto (tgt := 18) C dL_moment_11 (by decide) ?_
    refine z_iconst (v := 0) C dL_moment_18 (by decide) ?_
    exact z_iret C ⟨congrArg (fun v => some (Value.int v)) (by rw [f_L_moment, if_pos h1] : (0 : Int32) = (f_L_moment d ti p1 p2 p3)), by rw [s_L_moment_mD, if_pos h1, s_L_moment_mT, if_pos h1, s_L_moment_ou, if_pos h1]⟩ (by decide) (by decide) dL_moment_19
  · rcases h1_E with ⟨e1, rfl⟩ | ⟨e2, rfl⟩ | ⟨e3, rfl⟩
    · refine z_catch C hTab [] [] (a := 0) (b := 11) (h := 14) (t := 13) rfl (by decide) (by decide) w1 (C.2.2.2.2.2.1.2.2.1 "java/lang/IndexOutOfBoundsException" (by decide)) (fun _ hq => nomatch hq) (fun q => ?_)
      refine z_astore (lv' := [(5, .ref q), (0, .ref (y 0)), (1, .int p1), (2, .int p2), (3, .int p3), (4, .ref o)]) C dL_moment_14 (by decide) rfl ?_
      refine z_iconst (v := 1) C dL_moment_16 (by decide) ?_
      exact z_iret C ⟨congrArg (fun v => some (Value.int v)) (by rw [f_L_moment, if_neg h1] : (1 : Int32) = (f_L_moment d ti p1 p2 p3)), by rw [s_L_moment_mD, if_neg h1, s_L_moment_mT, if_neg h1, s_L_moment_ou, if_neg h1]⟩ (by decide) (by decide) dL_moment_17
    · exact absurd e2 (g_0)
    · exact absurd e3 (g_1)
def f_L_dateOf (mD : Nat → Int64) (p1 : Int32) (p2 : Int32) : Int32 := (if k_X2_dateOf mD p1 p2 = 0 then 0 else 1)
def s_L_dateOf_d (d : Nat → Int64) (mD : Nat → Int64) (p1 : Int32) (p2 : Int32) : Nat → Int64 := (if k_X2_dateOf mD p1 p2 = 0 then (s_X2_dateOf_d d mD p1 p2) else d)
def s_L_dateOf_ou (mD : Nat → Int64) (ou : Nat → Int64) (p1 : Int32) (p2 : Int32) : Nat → Int64 := (if k_X2_dateOf mD p1 p2 = 0 then (vp_updL ou 0 (f_X2_dateOf mD p1 p2)) else ou)
def pre_L_dateOf (mD : Nat → Int64) (p1 : Int32) (p2 : Int32) : Prop := ((¬ k_X2_dateOf mD p1 p2 = 2)) ∧ ((¬ k_X2_dateOf mD p1 p2 = 3))
theorem q_L_dateOf : ZYH yL_dateOf wsL_dateOf cL_dateOf 5 (some .int) 4 [(0, 9, 12, 13)] := ⟨⟨_, rfl⟩, by decide +kernel, by decide +kernel, by decide +kernel⟩
set_option maxHeartbeats 4000000 in
set_option maxRecDepth 100000 in
theorem c_L_dateOf (l : Launch) (hfl : l.stackTraces = false) (D : va_G) (cI cJ : ClassId) (X : va_W) (y : Nat → Nat) (o : Nat) (d : Nat → Int64) (sy : Nat → Int32) (sm : Nat → Int32) (sd : Nat → Int32) (mi : Nat → Int32) (ti : Nat → Int64) (sL : Nat → Int64) (bL : Nat → Int64) (mD : Nat → Int64) (mT : Nat → Int64) (ou : Nat → Int64) (p1 : Int32) (p2 : Int32)  (h_g : pre_L_dateOf mD p1 p2) : ZM l yL_dateOf wsL_dateOf { frames := 9, cells := 3, slots := 18, locals := 147 } [.ref (y 0), .int p1, .int p2, .ref o] D (zTys cI cJ) (wY cI cJ y d sy sm sd mi ti sL bL mD mT ((o, .inl (cJ, 1, .inr (.inl ou))) :: X)) 3 18 (fun v w => v = some (.int (f_L_dateOf mD p1 p2)) ∧ w = (wY cI cJ y (s_L_dateOf_d d mD p1 p2) sy sm sd mi ti sL bL mD mT ((o, .inl (cJ, 1, .inr (.inl (s_L_dateOf_ou mD ou p1 p2)))) :: X))) (fun _ _ => False) := by
  refine z_openH (own := RL) hfl (cc := cL_dateOf) (maxL := 5) (ret := (some .int)) (hh := [(0, 9, 12, 13)]) (lv := [(0, .ref (y 0)), (1, .int p1), (2, .int p2), (3, .ref o)]) rfl (by decide) rfl rfl (Nat.le_of_ble_eq_true rfl) ?_
  intro p e s m args below meth c A C hTab
  have w1 := C.1.2.2.2.2 (.classLink RL 13 "java/lang/IndexOutOfBoundsException") (by decide +kernel)
  obtain ⟨g_0, g_1⟩ := h_g
  refine z_aload_n C dL_dateOf_0 rfl 3 rfl ?_
  refine z_iconst (v := 0) C dL_dateOf_1 (by decide) ?_
  refine z_aload_n C dL_dateOf_2 rfl 0 rfl ?_
  refine z_iload_n C dL_dateOf_3 rfl 1 rfl ?_
  refine z_iload_n C dL_dateOf_4 rfl 2 rfl ?_
  refine z_xwl (ws' := (wY cI cJ y (s_X2_dateOf_d d mD p1 p2) sy sm sd mi ti sL bL mD mT ((o, .inl (cJ, 1, .inr (.inl ou))) :: X))) (rest := [.int 0, .ref o]) (ci := 2) (q0 := 0) C (c_X2_dateOf l hfl D cI cJ ((o, .inl (cJ, 1, .inr (.inl ou))) :: X) y d sy sm sd mi ti sL bL mD mT p1 p2 ) q_X2_dateOf rfl rfl rfl gL_dateOf_X2_dateOf ⟨rfl, rfl⟩ rfl rfl (Nat.le_of_ble_eq_true rfl) ⟨Nat.le_of_ble_eq_true rfl, Nat.le_of_ble_eq_true rfl⟩ ⟨Nat.le_of_ble_eq_true rfl, Nat.le_of_ble_eq_true rfl⟩ dL_dateOf_5 (fun h1 => ?_) (fun E h1 h1_E => ?_)
  · refine z_last C 11 1 rfl rfl (zvpl 0 1 (by decide)) (ws' := (wY cI cJ y (s_X2_dateOf_d d mD p1 p2) sy sm sd mi ti sL bL mD mT ((o, .inl (cJ, 1, .inr (.inl (vp_updL ou 0 (f_X2_dateOf mD p1 p2))))) :: X))) rfl dL_dateOf_8 ?_
    refine z_goto (tgt := 16) C dL_dateOf_9 (by decide) ?_
    refine z_iconst (v := 0) C dL_dateOf_16 (by decide) ?_
    exact z_iret C ⟨congrArg (fun v => some (Value.int v)) (by rw [f_L_dateOf, if_pos h1] : (0 : Int32) = (f_L_dateOf mD p1 p2)), by rw [s_L_dateOf_d, if_pos h1, s_L_dateOf_ou, if_pos h1]⟩ (by decide) (by decide) dL_dateOf_17
  · rcases h1_E with ⟨e1, rfl⟩ | ⟨e2, rfl⟩ | ⟨e3, rfl⟩
    · refine z_catch C hTab [] [] (a := 0) (b := 9) (h := 12) (t := 13) rfl (by decide) (by decide) w1 (C.2.2.2.2.2.1.2.2.1 "java/lang/IndexOutOfBoundsException" (by decide)) (fun _ hq => nomatch hq) (fun q => ?_)
      refine z_astore (lv' := [(4, .ref q), (0, .ref (y 0)), (1, .int p1), (2, .int p2), (3, .ref o)]) C dL_dateOf_12 (by decide) rfl ?_
      refine z_iconst (v := 1) C dL_dateOf_14 (by decide) ?_
      exact z_iret C ⟨congrArg (fun v => some (Value.int v)) (by rw [f_L_dateOf, if_neg h1] : (1 : Int32) = (f_L_dateOf mD p1 p2)), by rw [s_L_dateOf_d, if_neg h1, s_L_dateOf_ou, if_neg h1]⟩ (by decide) (by decide) dL_dateOf_15
    · exact absurd e2 (g_0)
    · exact absurd e3 (g_1)
def f_L_timeOf (p1 : Int32) (p2 : Int32) : Int32 := (if k_X2_timeOf p1 p2 = 0 then 0 else 1)
def s_L_timeOf_ti (ti : Nat → Int64) (mT : Nat → Int64) (p1 : Int32) (p2 : Int32) : Nat → Int64 := (if k_X2_timeOf p1 p2 = 0 then (s_X2_timeOf_ti ti mT p1 p2) else ti)
def s_L_timeOf_ou (ti : Nat → Int64) (mT : Nat → Int64) (ou : Nat → Int64) (p1 : Int32) (p2 : Int32) : Nat → Int64 := (if k_X2_timeOf p1 p2 = 0 then (vp_updL ou 0 (f_X2_timeOf ti mT p1 p2)) else ou)
def pre_L_timeOf (p1 : Int32) (p2 : Int32) : Prop := ((¬ k_X2_timeOf p1 p2 = 2)) ∧ ((¬ k_X2_timeOf p1 p2 = 3))
theorem q_L_timeOf : ZYH yL_timeOf wsL_timeOf cL_timeOf 5 (some .int) 4 [(0, 9, 12, 13)] := ⟨⟨_, rfl⟩, by decide +kernel, by decide +kernel, by decide +kernel⟩
set_option maxHeartbeats 4000000 in
set_option maxRecDepth 100000 in
theorem c_L_timeOf (l : Launch) (hfl : l.stackTraces = false) (D : va_G) (cI cJ : ClassId) (X : va_W) (y : Nat → Nat) (o : Nat) (d : Nat → Int64) (sy : Nat → Int32) (sm : Nat → Int32) (sd : Nat → Int32) (mi : Nat → Int32) (ti : Nat → Int64) (sL : Nat → Int64) (bL : Nat → Int64) (mD : Nat → Int64) (mT : Nat → Int64) (ou : Nat → Int64) (p1 : Int32) (p2 : Int32)  (h_g : pre_L_timeOf p1 p2) : ZM l yL_timeOf wsL_timeOf { frames := 8, cells := 2, slots := 12, locals := 125 } [.ref (y 0), .int p1, .int p2, .ref o] D (zTys cI cJ) (wY cI cJ y d sy sm sd mi ti sL bL mD mT ((o, .inl (cJ, 1, .inr (.inl ou))) :: X)) 2 12 (fun v w => v = some (.int (f_L_timeOf p1 p2)) ∧ w = (wY cI cJ y d sy sm sd mi (s_L_timeOf_ti ti mT p1 p2) sL bL mD mT ((o, .inl (cJ, 1, .inr (.inl (s_L_timeOf_ou ti mT ou p1 p2)))) :: X))) (fun _ _ => False) := by
  refine z_openH (own := RL) hfl (cc := cL_timeOf) (maxL := 5) (ret := (some .int)) (hh := [(0, 9, 12, 13)]) (lv := [(0, .ref (y 0)), (1, .int p1), (2, .int p2), (3, .ref o)]) rfl (by decide) rfl rfl (Nat.le_of_ble_eq_true rfl) ?_
  intro p e s m args below meth c A C hTab
  have w1 := C.1.2.2.2.2 (.classLink RL 13 "java/lang/IndexOutOfBoundsException") (by decide +kernel)
  obtain ⟨g_0, g_1⟩ := h_g
  refine z_aload_n C dL_timeOf_0 rfl 3 rfl ?_
  refine z_iconst (v := 0) C dL_timeOf_1 (by decide) ?_
  refine z_aload_n C dL_timeOf_2 rfl 0 rfl ?_
  refine z_iload_n C dL_timeOf_3 rfl 1 rfl ?_
  refine z_iload_n C dL_timeOf_4 rfl 2 rfl ?_
  refine z_xwl (ws' := (wY cI cJ y d sy sm sd mi (s_X2_timeOf_ti ti mT p1 p2) sL bL mD mT ((o, .inl (cJ, 1, .inr (.inl ou))) :: X))) (rest := [.int 0, .ref o]) (ci := 2) (q0 := 0) C (c_X2_timeOf l hfl D cI cJ ((o, .inl (cJ, 1, .inr (.inl ou))) :: X) y d sy sm sd mi ti sL bL mD mT p1 p2 ) q_X2_timeOf rfl rfl rfl gL_timeOf_X2_timeOf ⟨rfl, rfl⟩ rfl rfl (Nat.le_of_ble_eq_true rfl) ⟨Nat.le_of_ble_eq_true rfl, Nat.le_of_ble_eq_true rfl⟩ ⟨Nat.le_of_ble_eq_true rfl, Nat.le_of_ble_eq_true rfl⟩ dL_timeOf_5 (fun h1 => ?_) (fun E h1 h1_E => ?_)
  · refine z_last C 11 1 rfl rfl (zvpl 0 1 (by decide)) (ws' := (wY cI cJ y d sy sm sd mi (s_X2_timeOf_ti ti mT p1 p2) sL bL mD mT ((o, .inl (cJ, 1, .inr (.inl (vp_updL ou 0 (f_X2_timeOf ti mT p1 p2))))) :: X))) rfl dL_timeOf_8 ?_
    refine z_goto (tgt := 16) C dL_timeOf_9 (by decide) ?_
    refine z_iconst (v := 0) C dL_timeOf_16 (by decide) ?_
    exact z_iret C ⟨congrArg (fun v => some (Value.int v)) (by rw [f_L_timeOf, if_pos h1] : (0 : Int32) = (f_L_timeOf p1 p2)), by rw [s_L_timeOf_ti, if_pos h1, s_L_timeOf_ou, if_pos h1]⟩ (by decide) (by decide) dL_timeOf_17
  · rcases h1_E with ⟨e1, rfl⟩ | ⟨e2, rfl⟩ | ⟨e3, rfl⟩
    · refine z_catch C hTab [] [] (a := 0) (b := 9) (h := 12) (t := 13) rfl (by decide) (by decide) w1 (C.2.2.2.2.2.1.2.2.1 "java/lang/IndexOutOfBoundsException" (by decide)) (fun _ hq => nomatch hq) (fun q => ?_)
      refine z_astore (lv' := [(4, .ref q), (0, .ref (y 0)), (1, .int p1), (2, .int p2), (3, .ref o)]) C dL_timeOf_12 (by decide) rfl ?_
      refine z_iconst (v := 1) C dL_timeOf_14 (by decide) ?_
      exact z_iret C ⟨congrArg (fun v => some (Value.int v)) (by rw [f_L_timeOf, if_neg h1] : (1 : Int32) = (f_L_timeOf p1 p2)), by rw [s_L_timeOf_ti, if_neg h1, s_L_timeOf_ou, if_neg h1]⟩ (by decide) (by decide) dL_timeOf_15
    · exact absurd e2 (g_0)
    · exact absurd e3 (g_1)
def f_L_moveMoment (mD : Nat → Int64) (mT : Nat → Int64) (p1 : Int32) (p2 : Int32) (p3 : Int64) (p4 : Int32) : Int32 := (if k_X2_moveMoment mD mT p1 p2 p3 p4 = 0 then 0 else (if k_X2_moveMoment mD mT p1 p2 p3 p4 = 1 then 1 else (if k_X2_moveMoment mD mT p1 p2 p3 p4 = 2 then 2 else 3)))
def s_L_moveMoment_mD (mD : Nat → Int64) (mT : Nat → Int64) (p1 : Int32) (p2 : Int32) (p3 : Int64) (p4 : Int32) : Nat → Int64 := (if k_X2_moveMoment mD mT p1 p2 p3 p4 = 0 then (s_X2_moveMoment_mD mD mT p1 p2 p3 p4) else (if k_X2_moveMoment mD mT p1 p2 p3 p4 = 1 then mD else (if k_X2_moveMoment mD mT p1 p2 p3 p4 = 2 then mD else mD)))
def s_L_moveMoment_mT (mD : Nat → Int64) (mT : Nat → Int64) (p1 : Int32) (p2 : Int32) (p3 : Int64) (p4 : Int32) : Nat → Int64 := (if k_X2_moveMoment mD mT p1 p2 p3 p4 = 0 then (s_X2_moveMoment_mT mD mT p1 p2 p3 p4) else (if k_X2_moveMoment mD mT p1 p2 p3 p4 = 1 then mT else (if k_X2_moveMoment mD mT p1 p2 p3 p4 = 2 then mT else mT)))
def s_L_moveMoment_ou (mD : Nat → Int64) (mT : Nat → Int64) (ou : Nat → Int64) (p1 : Int32) (p2 : Int32) (p3 : Int64) (p4 : Int32) : Nat → Int64 := (if k_X2_moveMoment mD mT p1 p2 p3 p4 = 0 then (vp_updL ou 0 (f_X2_moveMoment mD mT p1 p2 p3 p4)) else (if k_X2_moveMoment mD mT p1 p2 p3 p4 = 1 then ou else (if k_X2_moveMoment mD mT p1 p2 p3 p4 = 2 then ou else ou)))
theorem q_L_moveMoment : ZYH yL_moveMoment wsL_moveMoment cL_moveMoment 8 (some .int) 6 [(0, 13, 16, 13), (0, 13, 20, 15), (0, 13, 24, 21)] := ⟨⟨_, rfl⟩, by decide +kernel, by decide +kernel, by decide +kernel⟩
set_option maxHeartbeats 4000000 in
set_option maxRecDepth 100000 in
theorem c_L_moveMoment (l : Launch) (hfl : l.stackTraces = false) (D : va_G) (cI cJ : ClassId) (X : va_W) (y : Nat → Nat) (o : Nat) (d : Nat → Int64) (sy : Nat → Int32) (sm : Nat → Int32) (sd : Nat → Int32) (mi : Nat → Int32) (ti : Nat → Int64) (sL : Nat → Int64) (bL : Nat → Int64) (mD : Nat → Int64) (mT : Nat → Int64) (ou : Nat → Int64) (p1 : Int32) (p2 : Int32) (p3 : Int64) (p4 : Int32)  : ZM l yL_moveMoment wsL_moveMoment { frames := 9, cells := 5, slots := 30, locals := 175 } [.ref (y 0), .int p1, .int p2, .long p3, .int p4, .ref o] D (zTys cI cJ) (wY cI cJ y d sy sm sd mi ti sL bL mD mT ((o, .inl (cJ, 1, .inr (.inl ou))) :: X)) 5 30 (fun v w => v = some (.int (f_L_moveMoment mD mT p1 p2 p3 p4)) ∧ w = (wY cI cJ y d sy sm sd mi ti sL bL (s_L_moveMoment_mD mD mT p1 p2 p3 p4) (s_L_moveMoment_mT mD mT p1 p2 p3 p4) ((o, .inl (cJ, 1, .inr (.inl (s_L_moveMoment_ou mD mT ou p1 p2 p3 p4)))) :: X))) (fun _ _ => False) := by
  refine z_openH (own := RL) hfl (cc := cL_moveMoment) (maxL := 8) (ret := (some .int)) (hh := [(0, 13, 16, 13), (0, 13, 20, 15), (0, 13, 24, 21)]) (lv := [(0, .ref (y 0)), (1, .int p1), (2, .int p2), (3, .long p3), (5, .int p4), (6, .ref o)]) rfl (by decide) rfl rfl (Nat.le_of_ble_eq_true rfl) ?_
  intro p e s m args below meth c A C hTab
  have w1 := C.1.2.2.2.2 (.classLink RL 13 "java/lang/IndexOutOfBoundsException") (by decide +kernel)
  have w2 := C.1.2.2.2.2 (.classLink RL 15 "java/lang/IllegalArgumentException") (by decide +kernel)
  have w3 := C.1.2.2.2.2 (.classLink RL 21 "java/lang/UnsupportedOperationException") (by decide +kernel)
  refine z_aload C dL_moveMoment_0 5 rfl ?_
  refine z_iconst (v := 0) C dL_moveMoment_2 (by decide) ?_
  refine z_aload_n C dL_moveMoment_3 rfl 0 rfl ?_
  refine z_iload_n C dL_moveMoment_4 rfl 1 rfl ?_
  refine z_iload_n C dL_moveMoment_5 rfl 2 rfl ?_
  refine z_lload_n C dL_moveMoment_6 rfl 3 rfl ?_
  refine z_iload C dL_moveMoment_7 4 rfl ?_
  refine z_xwl (ws' := (wY cI cJ y d sy sm sd mi ti sL bL (s_X2_moveMoment_mD mD mT p1 p2 p3 p4) (s_X2_moveMoment_mT mD mT p1 p2 p3 p4) ((o, .inl (cJ, 1, .inr (.inl ou))) :: X))) (rest := [.int 0, .ref o]) (ci := 2) (q0 := 0) C (c_X2_moveMoment l hfl D cI cJ ((o, .inl (cJ, 1, .inr (.inl ou))) :: X) y d sy sm sd mi ti sL bL mD mT p1 p2 p3 p4 ) q_X2_moveMoment rfl rfl rfl gL_moveMoment_X2_moveMoment ⟨rfl, rfl⟩ rfl rfl (Nat.le_of_ble_eq_true rfl) ⟨Nat.le_of_ble_eq_true rfl, Nat.le_of_ble_eq_true rfl⟩ ⟨Nat.le_of_ble_eq_true rfl, Nat.le_of_ble_eq_true rfl⟩ dL_moveMoment_9 (fun h1 => ?_) (fun E h1 h1_E => ?_)
  · refine z_last C 11 1 rfl rfl (zvpl 0 1 (by decide)) (ws' := (wY cI cJ y d sy sm sd mi ti sL bL (s_X2_moveMoment_mD mD mT p1 p2 p3 p4) (s_X2_moveMoment_mT mD mT p1 p2 p3 p4) ((o, .inl (cJ, 1, .inr (.inl (vp_updL ou 0 (f_X2_moveMoment mD mT p1 p2 p3 p4))))) :: X))) rfl dL_moveMoment_12 ?_
    refine z_goto (tgt := 28) C dL_moveMoment_13 (by decide) ?_
    refine z_iconst (v := 0) C dL_moveMoment_28 (by decide) ?_
    exact z_iret C ⟨congrArg (fun v => some (Value.int v)) (by rw [f_L_moveMoment, if_pos h1] : (0 : Int32) = (f_L_moveMoment mD mT p1 p2 p3 p4)), by rw [s_L_moveMoment_mD, if_pos h1, s_L_moveMoment_mT, if_pos h1, s_L_moveMoment_ou, if_pos h1]⟩ (by decide) (by decide) dL_moveMoment_29
  · rcases h1_E with ⟨e1, rfl⟩ | ⟨e2, rfl⟩ | ⟨e3, rfl⟩
    · refine z_catch C hTab [] [(0, 13, 20, 15), (0, 13, 24, 21)] (a := 0) (b := 13) (h := 16) (t := 13) rfl (by decide) (by decide) w1 (C.2.2.2.2.2.1.2.2.1 "java/lang/IndexOutOfBoundsException" (by decide)) (fun _ hq => nomatch hq) (fun q => ?_)
      refine z_astore (lv' := [(7, .ref q), (0, .ref (y 0)), (1, .int p1), (2, .int p2), (3, .long p3), (5, .int p4), (6, .ref o)]) C dL_moveMoment_16 (by decide) rfl ?_
      refine z_iconst (v := 1) C dL_moveMoment_18 (by decide) ?_
      exact z_iret C ⟨congrArg (fun v => some (Value.int v)) (by rw [f_L_moveMoment, if_neg h1, if_pos e1] : (1 : Int32) = (f_L_moveMoment mD mT p1 p2 p3 p4)), by rw [s_L_moveMoment_mD, if_neg h1, if_pos e1, s_L_moveMoment_mT, if_neg h1, if_pos e1, s_L_moveMoment_ou, if_neg h1, if_pos e1]⟩ (by decide) (by decide) dL_moveMoment_19
    · refine z_catch C hTab [(0, 13, 16, 13)] [(0, 13, 24, 21)] (a := 0) (b := 13) (h := 20) (t := 15) rfl (by decide) (by decide) w2 (C.2.2.2.2.2.1.2.2.1 "java/lang/IllegalArgumentException" (by decide)) (fun q hq => ((List.mem_cons.mp hq).elim (fun z => by subst z; exact ⟨by decide, "java/lang/IndexOutOfBoundsException", w1, C.2.2.2.2.2.1.2.1 (_, _) (List.mem_of_getElem? (i := 0) rfl)⟩) (fun hq => (nomatch hq)))) (fun q => ?_)
      refine z_astore (lv' := [(7, .ref q), (0, .ref (y 0)), (1, .int p1), (2, .int p2), (3, .long p3), (5, .int p4), (6, .ref o)]) C dL_moveMoment_20 (by decide) rfl ?_
      refine z_iconst (v := 2) C dL_moveMoment_22 (by decide) ?_
      exact z_iret C ⟨congrArg (fun v => some (Value.int v)) (by rw [f_L_moveMoment, if_neg h1, if_neg (show ¬ k_X2_moveMoment mD mT p1 p2 p3 p4 = 1 from by rw [e2]; decide), if_pos e2] : (2 : Int32) = (f_L_moveMoment mD mT p1 p2 p3 p4)), by rw [s_L_moveMoment_mD, if_neg h1, if_neg (show ¬ k_X2_moveMoment mD mT p1 p2 p3 p4 = 1 from by rw [e2]; decide), if_pos e2, s_L_moveMoment_mT, if_neg h1, if_neg (show ¬ k_X2_moveMoment mD mT p1 p2 p3 p4 = 1 from by rw [e2]; decide), if_pos e2, s_L_moveMoment_ou, if_neg h1, if_neg (show ¬ k_X2_moveMoment mD mT p1 p2 p3 p4 = 1 from by rw [e2]; decide), if_pos e2]⟩ (by decide) (by decide) dL_moveMoment_23
    · refine z_catch C hTab [(0, 13, 16, 13), (0, 13, 20, 15)] [] (a := 0) (b := 13) (h := 24) (t := 21) rfl (by decide) (by decide) w3 (C.2.2.2.2.2.1.2.2.1 "java/lang/UnsupportedOperationException" (by decide)) (fun q hq => ((List.mem_cons.mp hq).elim (fun z => by subst z; exact ⟨by decide, "java/lang/IndexOutOfBoundsException", w1, C.2.2.2.2.2.1.2.1 (_, _) (List.mem_of_getElem? (i := 1) rfl)⟩) (fun hq => ((List.mem_cons.mp hq).elim (fun z => by subst z; exact ⟨by decide, "java/lang/IllegalArgumentException", w2, C.2.2.2.2.2.1.2.1 (_, _) (List.mem_of_getElem? (i := 2) rfl)⟩) (fun hq => (nomatch hq)))))) (fun q => ?_)
      refine z_astore (lv' := [(7, .ref q), (0, .ref (y 0)), (1, .int p1), (2, .int p2), (3, .long p3), (5, .int p4), (6, .ref o)]) C dL_moveMoment_24 (by decide) rfl ?_
      refine z_iconst (v := 3) C dL_moveMoment_26 (by decide) ?_
      exact z_iret C ⟨congrArg (fun v => some (Value.int v)) (by rw [f_L_moveMoment, if_neg h1, if_neg (show ¬ k_X2_moveMoment mD mT p1 p2 p3 p4 = 1 from by rw [e3]; decide), if_neg (show ¬ k_X2_moveMoment mD mT p1 p2 p3 p4 = 2 from by rw [e3]; decide)] : (3 : Int32) = (f_L_moveMoment mD mT p1 p2 p3 p4)), by rw [s_L_moveMoment_mD, if_neg h1, if_neg (show ¬ k_X2_moveMoment mD mT p1 p2 p3 p4 = 1 from by rw [e3]; decide), if_neg (show ¬ k_X2_moveMoment mD mT p1 p2 p3 p4 = 2 from by rw [e3]; decide), s_L_moveMoment_mT, if_neg h1, if_neg (show ¬ k_X2_moveMoment mD mT p1 p2 p3 p4 = 1 from by rw [e3]; decide), if_neg (show ¬ k_X2_moveMoment mD mT p1 p2 p3 p4 = 2 from by rw [e3]; decide), s_L_moveMoment_ou, if_neg h1, if_neg (show ¬ k_X2_moveMoment mD mT p1 p2 p3 p4 = 1 from by rw [e3]; decide), if_neg (show ¬ k_X2_moveMoment mD mT p1 p2 p3 p4 = 2 from by rw [e3]; decide)]⟩ (by decide) (by decide) dL_moveMoment_27
def f_L_goMoment (sL : Nat → Int64) (bL : Nat → Int64) (mD : Nat → Int64) (mT : Nat → Int64) (p1 : Int32) (p2 : Int32) (p3 : Int32) (p4 : Int32) : Int32 := (if k_X2_goMoment sL bL mD mT p1 p2 p3 p4 = 0 then 0 else (if k_X2_goMoment sL bL mD mT p1 p2 p3 p4 = 1 then 1 else 2))
def s_L_goMoment_mD (sL : Nat → Int64) (bL : Nat → Int64) (mD : Nat → Int64) (mT : Nat → Int64) (p1 : Int32) (p2 : Int32) (p3 : Int32) (p4 : Int32) : Nat → Int64 := (if k_X2_goMoment sL bL mD mT p1 p2 p3 p4 = 0 then (s_X2_goMoment_mD sL bL mD mT p1 p2 p3 p4) else (if k_X2_goMoment sL bL mD mT p1 p2 p3 p4 = 1 then mD else mD))
def s_L_goMoment_mT (sL : Nat → Int64) (bL : Nat → Int64) (mD : Nat → Int64) (mT : Nat → Int64) (p1 : Int32) (p2 : Int32) (p3 : Int32) (p4 : Int32) : Nat → Int64 := (if k_X2_goMoment sL bL mD mT p1 p2 p3 p4 = 0 then (s_X2_goMoment_mT sL bL mD mT p1 p2 p3 p4) else (if k_X2_goMoment sL bL mD mT p1 p2 p3 p4 = 1 then mT else mT))
def s_L_goMoment_ou (sL : Nat → Int64) (bL : Nat → Int64) (mD : Nat → Int64) (mT : Nat → Int64) (ou : Nat → Int64) (p1 : Int32) (p2 : Int32) (p3 : Int32) (p4 : Int32) : Nat → Int64 := (if k_X2_goMoment sL bL mD mT p1 p2 p3 p4 = 0 then (vp_updL ou 0 (f_X2_goMoment sL bL mD mT p1 p2 p3 p4)) else (if k_X2_goMoment sL bL mD mT p1 p2 p3 p4 = 1 then ou else ou))
def pre_L_goMoment (sL : Nat → Int64) (bL : Nat → Int64) (mD : Nat → Int64) (mT : Nat → Int64) (p1 : Int32) (p2 : Int32) (p3 : Int32) (p4 : Int32) : Prop := ((¬ k_X2_goMoment sL bL mD mT p1 p2 p3 p4 = 2))
theorem q_L_goMoment : ZYH yL_goMoment wsL_goMoment cL_goMoment 7 (some .int) 6 [(0, 13, 16, 13), (0, 13, 20, 21)] := ⟨⟨_, rfl⟩, by decide +kernel, by decide +kernel, by decide +kernel⟩
set_option maxHeartbeats 4000000 in
set_option maxRecDepth 100000 in
theorem c_L_goMoment (l : Launch) (hfl : l.stackTraces = false) (D : va_G) (cI cJ : ClassId) (X : va_W) (y : Nat → Nat) (o : Nat) (d : Nat → Int64) (sy : Nat → Int32) (sm : Nat → Int32) (sd : Nat → Int32) (mi : Nat → Int32) (ti : Nat → Int64) (sL : Nat → Int64) (bL : Nat → Int64) (mD : Nat → Int64) (mT : Nat → Int64) (ou : Nat → Int64) (p1 : Int32) (p2 : Int32) (p3 : Int32) (p4 : Int32)  (h_g : pre_L_goMoment sL bL mD mT p1 p2 p3 p4) : ZM l yL_goMoment wsL_goMoment { frames := 9, cells := 4, slots := 24, locals := 158 } [.ref (y 0), .int p1, .int p2, .int p3, .int p4, .ref o] D (zTys cI cJ) (wY cI cJ y d sy sm sd mi ti sL bL mD mT ((o, .inl (cJ, 1, .inr (.inl ou))) :: X)) 4 24 (fun v w => v = some (.int (f_L_goMoment sL bL mD mT p1 p2 p3 p4)) ∧ w = (wY cI cJ y d sy sm sd mi ti sL bL (s_L_goMoment_mD sL bL mD mT p1 p2 p3 p4) (s_L_goMoment_mT sL bL mD mT p1 p2 p3 p4) ((o, .inl (cJ, 1, .inr (.inl (s_L_goMoment_ou sL bL mD mT ou p1 p2 p3 p4)))) :: X))) (fun _ _ => False) := by
  refine z_openH (own := RL) hfl (cc := cL_goMoment) (maxL := 7) (ret := (some .int)) (hh := [(0, 13, 16, 13), (0, 13, 20, 21)]) (lv := [(0, .ref (y 0)), (1, .int p1), (2, .int p2), (3, .int p3), (4, .int p4), (5, .ref o)]) rfl (by decide) rfl rfl (Nat.le_of_ble_eq_true rfl) ?_
  intro p e s m args below meth c A C hTab
  have w1 := C.1.2.2.2.2 (.classLink RL 13 "java/lang/IndexOutOfBoundsException") (by decide +kernel)
  have w2 := C.1.2.2.2.2 (.classLink RL 21 "java/lang/UnsupportedOperationException") (by decide +kernel)
  have g_0 := h_g
  refine z_aload C dL_goMoment_0 5 rfl ?_
  refine z_iconst (v := 0) C dL_goMoment_2 (by decide) ?_
  refine z_aload_n C dL_goMoment_3 rfl 0 rfl ?_
  refine z_iload_n C dL_goMoment_4 rfl 1 rfl ?_
  refine z_iload_n C dL_goMoment_5 rfl 2 rfl ?_
  refine z_iload_n C dL_goMoment_6 rfl 3 rfl ?_
  refine z_iload C dL_goMoment_7 4 rfl ?_
  refine z_xwl (ws' := (wY cI cJ y d sy sm sd mi ti sL bL (s_X2_goMoment_mD sL bL mD mT p1 p2 p3 p4) (s_X2_goMoment_mT sL bL mD mT p1 p2 p3 p4) ((o, .inl (cJ, 1, .inr (.inl ou))) :: X))) (rest := [.int 0, .ref o]) (ci := 2) (q0 := 0) C (c_X2_goMoment l hfl D cI cJ ((o, .inl (cJ, 1, .inr (.inl ou))) :: X) y d sy sm sd mi ti sL bL mD mT p1 p2 p3 p4 ) q_X2_goMoment rfl rfl rfl gL_goMoment_X2_goMoment ⟨rfl, rfl⟩ rfl rfl (Nat.le_of_ble_eq_true rfl) ⟨Nat.le_of_ble_eq_true rfl, Nat.le_of_ble_eq_true rfl⟩ ⟨Nat.le_of_ble_eq_true rfl, Nat.le_of_ble_eq_true rfl⟩ dL_goMoment_9 (fun h1 => ?_) (fun E h1 h1_E => ?_)
  · refine z_last C 11 1 rfl rfl (zvpl 0 1 (by decide)) (ws' := (wY cI cJ y d sy sm sd mi ti sL bL (s_X2_goMoment_mD sL bL mD mT p1 p2 p3 p4) (s_X2_goMoment_mT sL bL mD mT p1 p2 p3 p4) ((o, .inl (cJ, 1, .inr (.inl (vp_updL ou 0 (f_X2_goMoment sL bL mD mT p1 p2 p3 p4))))) :: X))) rfl dL_goMoment_12 ?_
    refine z_goto (tgt := 24) C dL_goMoment_13 (by decide) ?_
    refine z_iconst (v := 0) C dL_goMoment_24 (by decide) ?_
    exact z_iret C ⟨congrArg (fun v => some (Value.int v)) (by rw [f_L_goMoment, if_pos h1] : (0 : Int32) = (f_L_goMoment sL bL mD mT p1 p2 p3 p4)), by rw [s_L_goMoment_mD, if_pos h1, s_L_goMoment_mT, if_pos h1, s_L_goMoment_ou, if_pos h1]⟩ (by decide) (by decide) dL_goMoment_25
  · rcases h1_E with ⟨e1, rfl⟩ | ⟨e2, rfl⟩ | ⟨e3, rfl⟩
    · refine z_catch C hTab [] [(0, 13, 20, 21)] (a := 0) (b := 13) (h := 16) (t := 13) rfl (by decide) (by decide) w1 (C.2.2.2.2.2.1.2.2.1 "java/lang/IndexOutOfBoundsException" (by decide)) (fun _ hq => nomatch hq) (fun q => ?_)
      refine z_astore (lv' := [(6, .ref q), (0, .ref (y 0)), (1, .int p1), (2, .int p2), (3, .int p3), (4, .int p4), (5, .ref o)]) C dL_goMoment_16 (by decide) rfl ?_
      refine z_iconst (v := 1) C dL_goMoment_18 (by decide) ?_
      exact z_iret C ⟨congrArg (fun v => some (Value.int v)) (by rw [f_L_goMoment, if_neg h1, if_pos e1] : (1 : Int32) = (f_L_goMoment sL bL mD mT p1 p2 p3 p4)), by rw [s_L_goMoment_mD, if_neg h1, if_pos e1, s_L_goMoment_mT, if_neg h1, if_pos e1, s_L_goMoment_ou, if_neg h1, if_pos e1]⟩ (by decide) (by decide) dL_goMoment_19
    · exact absurd e2 (g_0)
    · refine z_catch C hTab [(0, 13, 16, 13)] [] (a := 0) (b := 13) (h := 20) (t := 21) rfl (by decide) (by decide) w2 (C.2.2.2.2.2.1.2.2.1 "java/lang/UnsupportedOperationException" (by decide)) (fun q hq => ((List.mem_cons.mp hq).elim (fun z => by subst z; exact ⟨by decide, "java/lang/IndexOutOfBoundsException", w1, C.2.2.2.2.2.1.2.1 (_, _) (List.mem_of_getElem? (i := 1) rfl)⟩) (fun hq => (nomatch hq)))) (fun q => ?_)
      refine z_astore (lv' := [(6, .ref q), (0, .ref (y 0)), (1, .int p1), (2, .int p2), (3, .int p3), (4, .int p4), (5, .ref o)]) C dL_goMoment_20 (by decide) rfl ?_
      refine z_iconst (v := 2) C dL_goMoment_22 (by decide) ?_
      exact z_iret C ⟨congrArg (fun v => some (Value.int v)) (by rw [f_L_goMoment, if_neg h1, if_neg (show ¬ k_X2_goMoment sL bL mD mT p1 p2 p3 p4 = 1 from by rw [e3]; decide)] : (2 : Int32) = (f_L_goMoment sL bL mD mT p1 p2 p3 p4)), by rw [s_L_goMoment_mD, if_neg h1, if_neg (show ¬ k_X2_goMoment sL bL mD mT p1 p2 p3 p4 = 1 from by rw [e3]; decide), s_L_goMoment_mT, if_neg h1, if_neg (show ¬ k_X2_goMoment sL bL mD mT p1 p2 p3 p4 = 1 from by rw [e3]; decide), s_L_goMoment_ou, if_neg h1, if_neg (show ¬ k_X2_goMoment sL bL mD mT p1 p2 p3 p4 = 1 from by rw [e3]; decide)]⟩ (by decide) (by decide) dL_goMoment_23
def f_L_lengthOfMoments (mD : Nat → Int64) (mT : Nat → Int64) (p1 : Int32) (p2 : Int32) (p3 : Int32) : Int32 := (if k_X2_lengthOfMoments mD mT p1 p2 p3 = 0 then 0 else 1)
def s_L_lengthOfMoments_sL (sL : Nat → Int64) (mD : Nat → Int64) (mT : Nat → Int64) (p1 : Int32) (p2 : Int32) (p3 : Int32) : Nat → Int64 := (if k_X2_lengthOfMoments mD mT p1 p2 p3 = 0 then (s_X2_lengthOfMoments_sL sL mD mT p1 p2 p3) else sL)
def s_L_lengthOfMoments_bL (bL : Nat → Int64) (mD : Nat → Int64) (mT : Nat → Int64) (p1 : Int32) (p2 : Int32) (p3 : Int32) : Nat → Int64 := (if k_X2_lengthOfMoments mD mT p1 p2 p3 = 0 then (s_X2_lengthOfMoments_bL bL mD mT p1 p2 p3) else bL)
def s_L_lengthOfMoments_ou (mD : Nat → Int64) (mT : Nat → Int64) (ou : Nat → Int64) (p1 : Int32) (p2 : Int32) (p3 : Int32) : Nat → Int64 := (if k_X2_lengthOfMoments mD mT p1 p2 p3 = 0 then (vp_updL ou 0 (f_X2_lengthOfMoments mD mT p1 p2 p3)) else ou)
def pre_L_lengthOfMoments (mD : Nat → Int64) (mT : Nat → Int64) (p1 : Int32) (p2 : Int32) (p3 : Int32) : Prop := ((¬ k_X2_lengthOfMoments mD mT p1 p2 p3 = 2)) ∧ ((¬ k_X2_lengthOfMoments mD mT p1 p2 p3 = 3))
theorem q_L_lengthOfMoments : ZYH yL_lengthOfMoments wsL_lengthOfMoments cL_lengthOfMoments 6 (some .int) 5 [(0, 11, 14, 13)] := ⟨⟨_, rfl⟩, by decide +kernel, by decide +kernel, by decide +kernel⟩
set_option maxHeartbeats 4000000 in
set_option maxRecDepth 100000 in
theorem c_L_lengthOfMoments (l : Launch) (hfl : l.stackTraces = false) (D : va_G) (cI cJ : ClassId) (X : va_W) (y : Nat → Nat) (o : Nat) (d : Nat → Int64) (sy : Nat → Int32) (sm : Nat → Int32) (sd : Nat → Int32) (mi : Nat → Int32) (ti : Nat → Int64) (sL : Nat → Int64) (bL : Nat → Int64) (mD : Nat → Int64) (mT : Nat → Int64) (ou : Nat → Int64) (p1 : Int32) (p2 : Int32) (p3 : Int32)  (h_g : pre_L_lengthOfMoments mD mT p1 p2 p3) : ZM l yL_lengthOfMoments wsL_lengthOfMoments { frames := 9, cells := 4, slots := 24, locals := 156 } [.ref (y 0), .int p1, .int p2, .int p3, .ref o] D (zTys cI cJ) (wY cI cJ y d sy sm sd mi ti sL bL mD mT ((o, .inl (cJ, 1, .inr (.inl ou))) :: X)) 4 24 (fun v w => v = some (.int (f_L_lengthOfMoments mD mT p1 p2 p3)) ∧ w = (wY cI cJ y d sy sm sd mi ti (s_L_lengthOfMoments_sL sL mD mT p1 p2 p3) (s_L_lengthOfMoments_bL bL mD mT p1 p2 p3) mD mT ((o, .inl (cJ, 1, .inr (.inl (s_L_lengthOfMoments_ou mD mT ou p1 p2 p3)))) :: X))) (fun _ _ => False) := by
  refine z_openH (own := RL) hfl (cc := cL_lengthOfMoments) (maxL := 6) (ret := (some .int)) (hh := [(0, 11, 14, 13)]) (lv := [(0, .ref (y 0)), (1, .int p1), (2, .int p2), (3, .int p3), (4, .ref o)]) rfl (by decide) rfl rfl (Nat.le_of_ble_eq_true rfl) ?_
  intro p e s m args below meth c A C hTab
  have w1 := C.1.2.2.2.2 (.classLink RL 13 "java/lang/IndexOutOfBoundsException") (by decide +kernel)
  obtain ⟨g_0, g_1⟩ := h_g
  refine z_aload C dL_lengthOfMoments_0 4 rfl ?_
  refine z_iconst (v := 0) C dL_lengthOfMoments_2 (by decide) ?_
  refine z_aload_n C dL_lengthOfMoments_3 rfl 0 rfl ?_
  refine z_iload_n C dL_lengthOfMoments_4 rfl 1 rfl ?_
  refine z_iload_n C dL_lengthOfMoments_5 rfl 2 rfl ?_
  refine z_iload_n C dL_lengthOfMoments_6 rfl 3 rfl ?_
  refine z_xwl (ws' := (wY cI cJ y d sy sm sd mi ti (s_X2_lengthOfMoments_sL sL mD mT p1 p2 p3) (s_X2_lengthOfMoments_bL bL mD mT p1 p2 p3) mD mT ((o, .inl (cJ, 1, .inr (.inl ou))) :: X))) (rest := [.int 0, .ref o]) (ci := 2) (q0 := 0) C (c_X2_lengthOfMoments l hfl D cI cJ ((o, .inl (cJ, 1, .inr (.inl ou))) :: X) y d sy sm sd mi ti sL bL mD mT p1 p2 p3 ) q_X2_lengthOfMoments rfl rfl rfl gL_lengthOfMoments_X2_lengthOfMoments ⟨rfl, rfl⟩ rfl rfl (Nat.le_of_ble_eq_true rfl) ⟨Nat.le_of_ble_eq_true rfl, Nat.le_of_ble_eq_true rfl⟩ ⟨Nat.le_of_ble_eq_true rfl, Nat.le_of_ble_eq_true rfl⟩ dL_lengthOfMoments_7 (fun h1 => ?_) (fun E h1 h1_E => ?_)
  · refine z_last C 11 1 rfl rfl (zvpl 0 1 (by decide)) (ws' := (wY cI cJ y d sy sm sd mi ti (s_X2_lengthOfMoments_sL sL mD mT p1 p2 p3) (s_X2_lengthOfMoments_bL bL mD mT p1 p2 p3) mD mT ((o, .inl (cJ, 1, .inr (.inl (vp_updL ou 0 (f_X2_lengthOfMoments mD mT p1 p2 p3))))) :: X))) rfl dL_lengthOfMoments_10 ?_
    refine z_goto (tgt := 18) C dL_lengthOfMoments_11 (by decide) ?_
    refine z_iconst (v := 0) C dL_lengthOfMoments_18 (by decide) ?_
    exact z_iret C ⟨congrArg (fun v => some (Value.int v)) (by rw [f_L_lengthOfMoments, if_pos h1] : (0 : Int32) = (f_L_lengthOfMoments mD mT p1 p2 p3)), by rw [s_L_lengthOfMoments_sL, if_pos h1, s_L_lengthOfMoments_bL, if_pos h1, s_L_lengthOfMoments_ou, if_pos h1]⟩ (by decide) (by decide) dL_lengthOfMoments_19
  · rcases h1_E with ⟨e1, rfl⟩ | ⟨e2, rfl⟩ | ⟨e3, rfl⟩
    · refine z_catch C hTab [] [] (a := 0) (b := 11) (h := 14) (t := 13) rfl (by decide) (by decide) w1 (C.2.2.2.2.2.1.2.2.1 "java/lang/IndexOutOfBoundsException" (by decide)) (fun _ hq => nomatch hq) (fun q => ?_)
      refine z_astore (lv' := [(5, .ref q), (0, .ref (y 0)), (1, .int p1), (2, .int p2), (3, .int p3), (4, .ref o)]) C dL_lengthOfMoments_14 (by decide) rfl ?_
      refine z_iconst (v := 1) C dL_lengthOfMoments_16 (by decide) ?_
      exact z_iret C ⟨congrArg (fun v => some (Value.int v)) (by rw [f_L_lengthOfMoments, if_neg h1] : (1 : Int32) = (f_L_lengthOfMoments mD mT p1 p2 p3)), by rw [s_L_lengthOfMoments_sL, if_neg h1, s_L_lengthOfMoments_bL, if_neg h1, s_L_lengthOfMoments_ou, if_neg h1]⟩ (by decide) (by decide) dL_lengthOfMoments_17
    · exact absurd e2 (g_0)
    · exact absurd e3 (g_1)
def f_L_whole (p1 : Int32) (p2 : Int32) (p3 : Int32) : Int32 := (if k_X2_whole p1 p2 p3 = 0 then 0 else (if k_X2_whole p1 p2 p3 = 1 then 1 else 2))
def s_L_whole_ou (mD : Nat → Int64) (mT : Nat → Int64) (ou : Nat → Int64) (p1 : Int32) (p2 : Int32) (p3 : Int32) : Nat → Int64 := (if k_X2_whole p1 p2 p3 = 0 then (vp_updL ou 0 (f_X2_whole mD mT p1 p2 p3)) else (if k_X2_whole p1 p2 p3 = 1 then ou else ou))
def pre_L_whole (p1 : Int32) (p2 : Int32) (p3 : Int32) : Prop := ((¬ k_X2_whole p1 p2 p3 = 3))
theorem q_L_whole : ZYH yL_whole wsL_whole cL_whole 6 (some .int) 5 [(0, 11, 14, 13), (0, 11, 18, 15)] := ⟨⟨_, rfl⟩, by decide +kernel, by decide +kernel, by decide +kernel⟩
set_option maxHeartbeats 4000000 in
set_option maxRecDepth 100000 in
theorem c_L_whole (l : Launch) (hfl : l.stackTraces = false) (D : va_G) (cI cJ : ClassId) (X : va_W) (y : Nat → Nat) (o : Nat) (d : Nat → Int64) (sy : Nat → Int32) (sm : Nat → Int32) (sd : Nat → Int32) (mi : Nat → Int32) (ti : Nat → Int64) (sL : Nat → Int64) (bL : Nat → Int64) (mD : Nat → Int64) (mT : Nat → Int64) (ou : Nat → Int64) (p1 : Int32) (p2 : Int32) (p3 : Int32)  (h_g : pre_L_whole p1 p2 p3) : ZM l yL_whole wsL_whole { frames := 8, cells := 3, slots := 18, locals := 130 } [.ref (y 0), .int p1, .int p2, .int p3, .ref o] D (zTys cI cJ) (wY cI cJ y d sy sm sd mi ti sL bL mD mT ((o, .inl (cJ, 1, .inr (.inl ou))) :: X)) 3 18 (fun v w => v = some (.int (f_L_whole p1 p2 p3)) ∧ w = (wY cI cJ y d sy sm sd mi ti sL bL mD mT ((o, .inl (cJ, 1, .inr (.inl (s_L_whole_ou mD mT ou p1 p2 p3)))) :: X))) (fun _ _ => False) := by
  refine z_openH (own := RL) hfl (cc := cL_whole) (maxL := 6) (ret := (some .int)) (hh := [(0, 11, 14, 13), (0, 11, 18, 15)]) (lv := [(0, .ref (y 0)), (1, .int p1), (2, .int p2), (3, .int p3), (4, .ref o)]) rfl (by decide) rfl rfl (Nat.le_of_ble_eq_true rfl) ?_
  intro p e s m args below meth c A C hTab
  have w1 := C.1.2.2.2.2 (.classLink RL 13 "java/lang/IndexOutOfBoundsException") (by decide +kernel)
  have w2 := C.1.2.2.2.2 (.classLink RL 15 "java/lang/IllegalArgumentException") (by decide +kernel)
  have g_0 := h_g
  refine z_aload C dL_whole_0 4 rfl ?_
  refine z_iconst (v := 0) C dL_whole_2 (by decide) ?_
  refine z_aload_n C dL_whole_3 rfl 0 rfl ?_
  refine z_iload_n C dL_whole_4 rfl 1 rfl ?_
  refine z_iload_n C dL_whole_5 rfl 2 rfl ?_
  refine z_iload_n C dL_whole_6 rfl 3 rfl ?_
  refine z_xwl (ws' := (wY cI cJ y d sy sm sd mi ti sL bL mD mT ((o, .inl (cJ, 1, .inr (.inl ou))) :: X))) (rest := [.int 0, .ref o]) (ci := 2) (q0 := 0) C (c_X2_whole l hfl D cI cJ ((o, .inl (cJ, 1, .inr (.inl ou))) :: X) y d sy sm sd mi ti sL bL mD mT p1 p2 p3 ) q_X2_whole rfl rfl rfl gL_whole_X2_whole ⟨rfl, rfl⟩ rfl rfl (Nat.le_of_ble_eq_true rfl) ⟨Nat.le_of_ble_eq_true rfl, Nat.le_of_ble_eq_true rfl⟩ ⟨Nat.le_of_ble_eq_true rfl, Nat.le_of_ble_eq_true rfl⟩ dL_whole_7 (fun h1 => ?_) (fun E h1 h1_E => ?_)
  · refine z_last C 11 1 rfl rfl (zvpl 0 1 (by decide)) (ws' := (wY cI cJ y d sy sm sd mi ti sL bL mD mT ((o, .inl (cJ, 1, .inr (.inl (vp_updL ou 0 (f_X2_whole mD mT p1 p2 p3))))) :: X))) rfl dL_whole_10 ?_
    refine z_goto (tgt := 22) C dL_whole_11 (by decide) ?_
    refine z_iconst (v := 0) C dL_whole_22 (by decide) ?_
    exact z_iret C ⟨congrArg (fun v => some (Value.int v)) (by rw [f_L_whole, if_pos h1] : (0 : Int32) = (f_L_whole p1 p2 p3)), by rw [s_L_whole_ou, if_pos h1]⟩ (by decide) (by decide) dL_whole_23
  · rcases h1_E with ⟨e1, rfl⟩ | ⟨e2, rfl⟩ | ⟨e3, rfl⟩
    · refine z_catch C hTab [] [(0, 11, 18, 15)] (a := 0) (b := 11) (h := 14) (t := 13) rfl (by decide) (by decide) w1 (C.2.2.2.2.2.1.2.2.1 "java/lang/IndexOutOfBoundsException" (by decide)) (fun _ hq => nomatch hq) (fun q => ?_)
      refine z_astore (lv' := [(5, .ref q), (0, .ref (y 0)), (1, .int p1), (2, .int p2), (3, .int p3), (4, .ref o)]) C dL_whole_14 (by decide) rfl ?_
      refine z_iconst (v := 1) C dL_whole_16 (by decide) ?_
      exact z_iret C ⟨congrArg (fun v => some (Value.int v)) (by rw [f_L_whole, if_neg h1, if_pos e1] : (1 : Int32) = (f_L_whole p1 p2 p3)), by rw [s_L_whole_ou, if_neg h1, if_pos e1]⟩ (by decide) (by decide) dL_whole_17
    · refine z_catch C hTab [(0, 11, 14, 13)] [] (a := 0) (b := 11) (h := 18) (t := 15) rfl (by decide) (by decide) w2 (C.2.2.2.2.2.1.2.2.1 "java/lang/IllegalArgumentException" (by decide)) (fun q hq => ((List.mem_cons.mp hq).elim (fun z => by subst z; exact ⟨by decide, "java/lang/IndexOutOfBoundsException", w1, C.2.2.2.2.2.1.2.1 (_, _) (List.mem_of_getElem? (i := 0) rfl)⟩) (fun hq => (nomatch hq)))) (fun q => ?_)
      refine z_astore (lv' := [(5, .ref q), (0, .ref (y 0)), (1, .int p1), (2, .int p2), (3, .int p3), (4, .ref o)]) C dL_whole_18 (by decide) rfl ?_
      refine z_iconst (v := 2) C dL_whole_20 (by decide) ?_
      exact z_iret C ⟨congrArg (fun v => some (Value.int v)) (by rw [f_L_whole, if_neg h1, if_neg (show ¬ k_X2_whole p1 p2 p3 = 1 from by rw [e2]; decide)] : (2 : Int32) = (f_L_whole p1 p2 p3)), by rw [s_L_whole_ou, if_neg h1, if_neg (show ¬ k_X2_whole p1 p2 p3 = 1 from by rw [e2]; decide)]⟩ (by decide) (by decide) dL_whole_21
    · exact absurd e3 (g_0)
def f_L_orderMoments (mD : Nat → Int64) (p1 : Int32) (p2 : Int32) : Int32 := (if k_X2_orderMoments mD p1 p2 = 0 then 0 else 1)
def s_L_orderMoments_ou (mD : Nat → Int64) (mT : Nat → Int64) (ou : Nat → Int64) (p1 : Int32) (p2 : Int32) : Nat → Int64 := (if k_X2_orderMoments mD p1 p2 = 0 then (vp_updL ou 0 (((f_X2_orderMoments mD mT p1 p2)).toInt64)) else ou)
def pre_L_orderMoments (mD : Nat → Int64) (p1 : Int32) (p2 : Int32) : Prop := ((¬ k_X2_orderMoments mD p1 p2 = 2)) ∧ ((¬ k_X2_orderMoments mD p1 p2 = 3))
theorem q_L_orderMoments : ZYH yL_orderMoments wsL_orderMoments cL_orderMoments 5 (some .int) 4 [(0, 10, 13, 13)] := ⟨⟨_, rfl⟩, by decide +kernel, by decide +kernel, by decide +kernel⟩
set_option maxHeartbeats 4000000 in
set_option maxRecDepth 100000 in
theorem c_L_orderMoments (l : Launch) (hfl : l.stackTraces = false) (D : va_G) (cI cJ : ClassId) (X : va_W) (y : Nat → Nat) (o : Nat) (d : Nat → Int64) (sy : Nat → Int32) (sm : Nat → Int32) (sd : Nat → Int32) (mi : Nat → Int32) (ti : Nat → Int64) (sL : Nat → Int64) (bL : Nat → Int64) (mD : Nat → Int64) (mT : Nat → Int64) (ou : Nat → Int64) (p1 : Int32) (p2 : Int32)  (h_g : pre_L_orderMoments mD p1 p2) : ZM l yL_orderMoments wsL_orderMoments { frames := 8, cells := 2, slots := 12, locals := 126 } [.ref (y 0), .int p1, .int p2, .ref o] D (zTys cI cJ) (wY cI cJ y d sy sm sd mi ti sL bL mD mT ((o, .inl (cJ, 1, .inr (.inl ou))) :: X)) 2 12 (fun v w => v = some (.int (f_L_orderMoments mD p1 p2)) ∧ w = (wY cI cJ y d sy sm sd mi ti sL bL mD mT ((o, .inl (cJ, 1, .inr (.inl (s_L_orderMoments_ou mD mT ou p1 p2)))) :: X))) (fun _ _ => False) := by
  refine z_openH (own := RL) hfl (cc := cL_orderMoments) (maxL := 5) (ret := (some .int)) (hh := [(0, 10, 13, 13)]) (lv := [(0, .ref (y 0)), (1, .int p1), (2, .int p2), (3, .ref o)]) rfl (by decide) rfl rfl (Nat.le_of_ble_eq_true rfl) ?_
  intro p e s m args below meth c A C hTab
  have w1 := C.1.2.2.2.2 (.classLink RL 13 "java/lang/IndexOutOfBoundsException") (by decide +kernel)
  obtain ⟨g_0, g_1⟩ := h_g
  refine z_aload_n C dL_orderMoments_0 rfl 3 rfl ?_
  refine z_iconst (v := 0) C dL_orderMoments_1 (by decide) ?_
  refine z_aload_n C dL_orderMoments_2 rfl 0 rfl ?_
  refine z_iload_n C dL_orderMoments_3 rfl 1 rfl ?_
  refine z_iload_n C dL_orderMoments_4 rfl 2 rfl ?_
  refine z_xwi (ws' := (wY cI cJ y d sy sm sd mi ti sL bL mD mT ((o, .inl (cJ, 1, .inr (.inl ou))) :: X))) (rest := [.int 0, .ref o]) (ci := 2) (q0 := 0) C (c_X2_orderMoments l hfl D cI cJ ((o, .inl (cJ, 1, .inr (.inl ou))) :: X) y d sy sm sd mi ti sL bL mD mT p1 p2 ) q_X2_orderMoments rfl rfl rfl gL_orderMoments_X2_orderMoments ⟨rfl, rfl⟩ rfl rfl (Nat.le_of_ble_eq_true rfl) ⟨Nat.le_of_ble_eq_true rfl, Nat.le_of_ble_eq_true rfl⟩ ⟨Nat.le_of_ble_eq_true rfl, Nat.le_of_ble_eq_true rfl⟩ dL_orderMoments_5 (fun h1 => ?_) (fun E h1 h1_E => ?_)
  · refine z_i2l (v := ((f_X2_orderMoments mD mT p1 p2)).toInt64) C dL_orderMoments_8 rfl ?_
    refine z_last C 11 1 rfl rfl (zvpl 0 1 (by decide)) (ws' := (wY cI cJ y d sy sm sd mi ti sL bL mD mT ((o, .inl (cJ, 1, .inr (.inl (vp_updL ou 0 (((f_X2_orderMoments mD mT p1 p2)).toInt64))))) :: X))) rfl dL_orderMoments_9 ?_
    refine z_goto (tgt := 17) C dL_orderMoments_10 (by decide) ?_
    refine z_iconst (v := 0) C dL_orderMoments_17 (by decide) ?_
    exact z_iret C ⟨congrArg (fun v => some (Value.int v)) (by rw [f_L_orderMoments, if_pos h1] : (0 : Int32) = (f_L_orderMoments mD p1 p2)), by rw [s_L_orderMoments_ou, if_pos h1]⟩ (by decide) (by decide) dL_orderMoments_18
  · rcases h1_E with ⟨e1, rfl⟩ | ⟨e2, rfl⟩ | ⟨e3, rfl⟩
    · refine z_catch C hTab [] [] (a := 0) (b := 10) (h := 13) (t := 13) rfl (by decide) (by decide) w1 (C.2.2.2.2.2.1.2.2.1 "java/lang/IndexOutOfBoundsException" (by decide)) (fun _ hq => nomatch hq) (fun q => ?_)
      refine z_astore (lv' := [(4, .ref q), (0, .ref (y 0)), (1, .int p1), (2, .int p2), (3, .ref o)]) C dL_orderMoments_13 (by decide) rfl ?_
      refine z_iconst (v := 1) C dL_orderMoments_15 (by decide) ?_
      exact z_iret C ⟨congrArg (fun v => some (Value.int v)) (by rw [f_L_orderMoments, if_neg h1] : (1 : Int32) = (f_L_orderMoments mD p1 p2)), by rw [s_L_orderMoments_ou, if_neg h1]⟩ (by decide) (by decide) dL_orderMoments_16
    · exact absurd e2 (g_0)
    · exact absurd e3 (g_1)
