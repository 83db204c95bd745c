def f_X3_moment_j1 (p1 : Int32) (p2 : Int32) (p3 : Int32) : Int32 := (if (f_X3_isSlot p1) = 0 then 1 else (if (f_X3_isDate p2) = 0 then 1 else (if (f_X3_isSlot p3) = 0 then 1 else 0)))
def f_X3_moment (d : Nat → Int64) (mD : Nat → Int64) (p1 : Int32) (p2 : Int32) (p3 : Int32) : Int64 := (if f_X3_moment_j1 p1 p2 p3 = 0 then ((vp_updL mD p1.toNatClampNeg (d p2.toNatClampNeg)) p1.toNatClampNeg) else 0)
def s_X3_moment_co (p1 : Int32) (p2 : Int32) (p3 : Int32) : Int32 := (if f_X3_moment_j1 p1 p2 p3 = 0 then (s_X3_fails_co 0) else (s_X3_fails_co 1))
def s_X3_moment_mD (d : Nat → Int64) (mD : Nat → Int64) (p1 : Int32) (p2 : Int32) (p3 : Int32) : Nat → Int64 := (if f_X3_moment_j1 p1 p2 p3 = 0 then (vp_updL mD p1.toNatClampNeg (d p2.toNatClampNeg)) else mD)
def s_X3_moment_mT (ti : Nat → Int64) (mT : Nat → Int64) (p1 : Int32) (p2 : Int32) (p3 : Int32) : Nat → Int64 := (if f_X3_moment_j1 p1 p2 p3 = 0 then (vp_updL mT p1.toNatClampNeg (ti p3.toNatClampNeg)) else mT)
theorem q_X3_moment : ZY yX3_moment wsX3_moment cX3_moment 4 (some .long) 3 := ⟨⟨_, rfl⟩, by decide +kernel, by decide +kernel, by decide +kernel⟩
set_option maxHeartbeats 4000000 in
set_option maxRecDepth 100000 in
theorem c_X3_moment (l : Launch) (hfl : l.stackTraces = false) (D : va_G) (cI cJ : ClassId) (X : va_W) (z : Nat → Nat) (co : Int32) (d : Nat → Int64) (ti : Nat → Int64) (sL : Nat → Int64) (bL : Nat → Int64) (mD : Nat → Int64) (mT : Nat → Int64) (sy : Nat → Int64) (sm : Nat → Int64) (sd : Nat → Int64) (mi : Nat → Int64) (yr : Int64) (mo : Int32) (dy : Int32) (p1 : Int32) (p2 : Int32) (p3 : Int32)  : ZM l yX3_moment wsX3_moment { frames := 2, cells := 0, slots := 0, locals := 45 } [.ref (z 0), .int p1, .int p2, .int p3] D (zTys cI cJ) (wM cI cJ z co d ti sL bL mD mT sy sm sd mi yr mo dy X) 0 0 (fun v w => v = some (.long (f_X3_moment d mD p1 p2 p3)) ∧ w = (wM cI cJ z (s_X3_moment_co p1 p2 p3) d ti sL bL (s_X3_moment_mD d mD p1 p2 p3) (s_X3_moment_mT ti mT p1 p2 p3) sy sm sd mi yr mo dy X)) (fun _ _ => False) := by
  refine z_open (own := RX3) hfl (cc := cX3_moment) (maxL := 4) (ret := (some .long)) (lv := [(0, .ref (z 0)), (1, .int p1), (2, .int p2), (3, .int p3)]) rfl (by decide) rfl rfl (Nat.le_of_ble_eq_true rfl) ?_
  intro p e s m args below meth c A C hno hnm hargs
  have hin : ∀ w ∈ wsX30, w ∈ wsX3_moment := by decide +kernel
  have w1 := C.1.2.2.2.2 (.fieldLink RX3 26 "YearwheelModel" "days" "[J") (by decide +kernel)
  have w2 := C.1.2.2.2.2 (.fieldLink RX3 13 "YearwheelModel" "dates" "[J") (by decide +kernel)
  have w3 := C.1.2.2.2.2 (.fieldLink RX3 29 "YearwheelModel" "clocks" "[J") (by decide +kernel)
  have w4 := C.1.2.2.2.2 (.fieldLink RX3 17 "YearwheelModel" "times" "[J") (by decide +kernel)
  refine z_aload_n C dX3_moment_0 rfl 0 rfl ?_
  refine z_iload_n C dX3_moment_1 rfl 1 rfl ?_
  refine z_si (rest := [.ref (z 0)]) C (c_X3_isSlot l hfl D cI cJ _ p1 ) q_X3_isSlot gX3_moment_X3_isSlot ⟨rfl, rfl⟩ rfl rfl (Nat.le_of_ble_eq_true rfl) ⟨Nat.le_of_ble_eq_true rfl, Nat.le_of_ble_eq_true rfl⟩ ⟨Nat.le_of_ble_eq_true rfl, Nat.le_of_ble_eq_true rfl⟩ dX3_moment_2 ?_
  have K1_0 : f_X3_moment_j1 p1 p2 p3 = 0 → (¬ (f_X3_isDate p2) = 0) → (¬ (f_X3_isSlot p1) = 0) → (¬ (f_X3_isSlot p3) = 0) → ZW p l e { frames := 2, cells := 0, slots := 0, locals := 45 } s m args below meth c 4 D (zTys cI cJ) A (zE D (zTys cI cJ) A below args s (fun v w => v = some (.long (f_X3_moment d mD p1 p2 p3)) ∧ w = (wM cI cJ z (s_X3_moment_co p1 p2 p3) d ti sL bL (s_X3_moment_mD d mD p1 p2 p3) (s_X3_moment_mT ti mT p1 p2 p3) sy sm sd mi yr mo dy X)) (fun _ _ => False) 0 0) 0 0 (wM cI cJ z co d ti sL bL mD mT sy sm sd mi yr mo dy X) 27 [(0, .ref (z 0)), (1, .int p1), (2, .int p2), (3, .int p3)] [.int 0, .ref (z 0)] := by
    intro h4 h5 h6 h7
    refine z_wi (ws' := (wM cI cJ z (s_X3_fails_co 0) d ti sL bL mD mT sy sm sd mi yr mo dy X)) (rest := []) (ci := 3) (q0 := 0) C (c_X3_fails l hfl D cI cJ X z co d ti sL bL mD mT sy sm sd mi yr mo dy (0 : Int32) ) q_X3_fails rfl rfl rfl gX3_moment_X3_fails ⟨rfl, rfl⟩ rfl rfl (Nat.le_of_ble_eq_true rfl) ⟨Nat.le_of_ble_eq_true rfl, Nat.le_of_ble_eq_true rfl⟩ ⟨Nat.le_of_ble_eq_true rfl, Nat.le_of_ble_eq_true rfl⟩ dX3_moment_27 ?_
    refine z_eqst (st' := [.int 0]) (congrArg (fun v => Value.int v :: _) (by decide : (f_X3_fails 0) = (0 : Int32))) ?_
    refine z_if_eq (tgt := 35) C dX3_moment_30 (by decide) (fun _ => ?_) (fun h => absurd (by decide) h)
    refine z_aload_n C dX3_moment_35 rfl 0 rfl ?_
    refine z_get (CC := RX3) (T := TX3) (N := 14) (ci := 3) C hin 0 rfl rfl 5 (by decide) w1 rfl rfl dX3_moment_36 ?_
    refine z_iload_n C dX3_moment_39 rfl 1 rfl ?_
    refine z_aload_n C dX3_moment_40 rfl 0 rfl ?_
    refine z_get (CC := RX3) (T := TX3) (N := 14) (ci := 3) C hin 0 rfl rfl 1 (by decide) w2 rfl rfl dX3_moment_41 ?_
    refine z_iload_n C dX3_moment_44 rfl 2 rfl ?_
    refine z_lald C 1 1 rfl rfl (vpMDate h5) dX3_moment_45 ?_
    refine z_last C 5 1 rfl rfl (vpMSlot h6) (ws' := (wM cI cJ z (s_X3_fails_co 0) d ti sL bL (vp_updL mD p1.toNatClampNeg (d p2.toNatClampNeg)) mT sy sm sd mi yr mo dy X)) rfl dX3_moment_46 ?_
    refine z_aload_n C dX3_moment_47 rfl 0 rfl ?_
    refine z_get (CC := RX3) (T := TX3) (N := 14) (ci := 3) C hin 0 rfl rfl 6 (by decide) w3 rfl rfl dX3_moment_48 ?_
    refine z_iload_n C dX3_moment_51 rfl 1 rfl ?_
    refine z_aload_n C dX3_moment_52 rfl 0 rfl ?_
    refine z_get (CC := RX3) (T := TX3) (N := 14) (ci := 3) C hin 0 rfl rfl 2 (by decide) w4 rfl rfl dX3_moment_53 ?_
    refine z_iload_n C dX3_moment_56 rfl 3 rfl ?_
    refine z_lald C 2 1 rfl rfl (vpMSlot h7) dX3_moment_57 ?_
    refine z_last C 6 1 rfl rfl (vpMSlot h6) (ws' := (wM cI cJ z (s_X3_fails_co 0) d ti sL bL (vp_updL mD p1.toNatClampNeg (d p2.toNatClampNeg)) (vp_updL mT p1.toNatClampNeg (ti p3.toNatClampNeg)) sy sm sd mi yr mo dy X)) rfl dX3_moment_58 ?_
    refine z_aload_n C dX3_moment_59 rfl 0 rfl ?_
    refine z_get (CC := RX3) (T := TX3) (N := 14) (ci := 3) C hin 0 rfl rfl 5 (by decide) w1 rfl rfl dX3_moment_60 ?_
    refine z_iload_n C dX3_moment_63 rfl 1 rfl ?_
    refine z_lald C 5 1 rfl rfl (vpMSlot h6) dX3_moment_64 ?_
    exact z_lret C ⟨congrArg (fun v => some (Value.long v)) (by rw [f_X3_moment, if_pos h4] : ((vp_updL mD p1.toNatClampNeg (d p2.toNatClampNeg)) p1.toNatClampNeg) = (f_X3_moment d mD p1 p2 p3)), by rw [s_X3_moment_co, if_pos h4, s_X3_moment_mD, if_pos h4, s_X3_moment_mT, if_pos h4]⟩ (by decide) (by decide) dX3_moment_65
  have K1_1 : f_X3_moment_j1 p1 p2 p3 = 1 → ZW p l e { frames := 2, cells := 0, slots := 0, locals := 45 } s m args below meth c 4 D (zTys cI cJ) A (zE D (zTys cI cJ) A below args s (fun v w => v = some (.long (f_X3_moment d mD p1 p2 p3)) ∧ w = (wM cI cJ z (s_X3_moment_co p1 p2 p3) d ti sL bL (s_X3_moment_mD d mD p1 p2 p3) (s_X3_moment_mT ti mT p1 p2 p3) sy sm sd mi yr mo dy X)) (fun _ _ => False) 0 0) 0 0 (wM cI cJ z co d ti sL bL mD mT sy sm sd mi yr mo dy X) 27 [(0, .ref (z 0)), (1, .int p1), (2, .int p2), (3, .int p3)] [.int 1, .ref (z 0)] := by
    intro h8
    refine z_wi (ws' := (wM cI cJ z (s_X3_fails_co 1) d ti sL bL mD mT sy sm sd mi yr mo dy X)) (rest := []) (ci := 3) (q0 := 0) C (c_X3_fails l hfl D cI cJ X z co d ti sL bL mD mT sy sm sd mi yr mo dy (1 : Int32) ) q_X3_fails rfl rfl rfl gX3_moment_X3_fails ⟨rfl, rfl⟩ rfl rfl (Nat.le_of_ble_eq_true rfl) ⟨Nat.le_of_ble_eq_true rfl, Nat.le_of_ble_eq_true rfl⟩ ⟨Nat.le_of_ble_eq_true rfl, Nat.le_of_ble_eq_true rfl⟩ dX3_moment_27 ?_
    refine z_eqst (st' := [.int 1]) (congrArg (fun v => Value.int v :: _) (by decide : (f_X3_fails 1) = (1 : Int32))) ?_
    refine z_if_eq (tgt := 35) C dX3_moment_30 (by decide) (fun h => absurd h (by decide)) (fun _ => ?_)
    refine z_lconst (v := 0) C dX3_moment_33 (by decide) ?_
    exact z_lret C ⟨congrArg (fun v => some (Value.long v)) (by rw [f_X3_moment, if_neg (by rw [h8]; decide : ¬ f_X3_moment_j1 p1 p2 p3 = 0)] : (0 : Int64) = (f_X3_moment d mD p1 p2 p3)), by rw [s_X3_moment_co, if_neg (by rw [h8]; decide : ¬ f_X3_moment_j1 p1 p2 p3 = 0), s_X3_moment_mD, if_neg (by rw [h8]; decide : ¬ f_X3_moment_j1 p1 p2 p3 = 0), s_X3_moment_mT, if_neg (by rw [h8]; decide : ¬ f_X3_moment_j1 p1 p2 p3 = 0)]⟩ (by decide) (by decide) dX3_moment_34
  refine z_if_eq (tgt := 26) C dX3_moment_5 (by decide) (fun h1 => ?_) (fun h1 => ?_)
  · refine z_iconst (v := 1) C dX3_moment_26 (by decide) ?_
    exact K1_1 (by rw [f_X3_moment_j1, if_pos h1]) 
  · refine z_iload_n C dX3_moment_8 rfl 2 rfl ?_
    refine z_si (rest := [.ref (z 0)]) C (c_X3_isDate l hfl D cI cJ _ p2 ) q_X3_isDate gX3_moment_X3_isDate ⟨rfl, rfl⟩ rfl rfl (Nat.le_of_ble_eq_true rfl) ⟨Nat.le_of_ble_eq_true rfl, Nat.le_of_ble_eq_true rfl⟩ ⟨Nat.le_of_ble_eq_true rfl, Nat.le_of_ble_eq_true rfl⟩ dX3_moment_9 ?_
    refine z_if_eq (tgt := 26) C dX3_moment_12 (by decide) (fun h2 => ?_) (fun h2 => ?_)
    · refine z_iconst (v := 1) C dX3_moment_26 (by decide) ?_
      exact K1_1 (by rw [f_X3_moment_j1, if_neg h1, if_pos h2]) 
    · refine z_iload_n C dX3_moment_15 rfl 3 rfl ?_
      refine z_si (rest := [.ref (z 0)]) C (c_X3_isSlot l hfl D cI cJ _ p3 ) q_X3_isSlot gX3_moment_X3_isSlot ⟨rfl, rfl⟩ rfl rfl (Nat.le_of_ble_eq_true rfl) ⟨Nat.le_of_ble_eq_true rfl, Nat.le_of_ble_eq_true rfl⟩ ⟨Nat.le_of_ble_eq_true rfl, Nat.le_of_ble_eq_true rfl⟩ dX3_moment_16 ?_
      refine z_if_eq (tgt := 26) C dX3_moment_19 (by decide) (fun h3 => ?_) (fun h3 => ?_)
      · refine z_iconst (v := 1) C dX3_moment_26 (by decide) ?_
        exact K1_1 (by rw [f_X3_moment_j1, if_neg h1, if_neg h2, if_pos h3]) 
      · refine z_iconst (v := 0) C dX3_moment_22 (by decide) ?_
        refine z_goto (tgt := 27) C dX3_moment_23 (by decide) ?_
        exact K1_0 (by rw [f_X3_moment_j1, if_neg h1, if_neg h2, if_neg h3]) h2 h1 h3
def f_X3_dateOf_j1 (p1 : Int32) (p2 : Int32) : Int32 := (if (f_X3_isSlot p1) = 0 then 1 else (if (f_X3_isDate p2) = 0 then 1 else 0))
def f_X3_dateOf (d : Nat → Int64) (mD : Nat → Int64) (p1 : Int32) (p2 : Int32) : Int64 := (if f_X3_dateOf_j1 p1 p2 = 0 then ((vp_updL d p2.toNatClampNeg (mD p1.toNatClampNeg)) p2.toNatClampNeg) else 0)
def s_X3_dateOf_co (p1 : Int32) (p2 : Int32) : Int32 := (if f_X3_dateOf_j1 p1 p2 = 0 then (s_X3_fails_co 0) else (s_X3_fails_co 1))
def s_X3_dateOf_d (d : Nat → Int64) (mD : Nat → Int64) (p1 : Int32) (p2 : Int32) : Nat → Int64 := (if f_X3_dateOf_j1 p1 p2 = 0 then (vp_updL d p2.toNatClampNeg (mD p1.toNatClampNeg)) else d)
theorem q_X3_dateOf : ZY yX3_dateOf wsX3_dateOf cX3_dateOf 3 (some .long) 2 := ⟨⟨_, rfl⟩, by decide +kernel, by decide +kernel, by decide +kernel⟩
set_option maxHeartbeats 4000000 in
set_option maxRecDepth 100000 in
theorem c_X3_dateOf (l : Launch) (hfl : l.stackTraces = false) (D : va_G) (cI cJ : ClassId) (X : va_W) (z : Nat → Nat) (co : Int32) (d : Nat → Int64) (ti : Nat → Int64) (sL : Nat → Int64) (bL : Nat → Int64) (mD : Nat → Int64) (mT : Nat → Int64) (sy : Nat → Int64) (sm : Nat → Int64) (sd : Nat → Int64) (mi : Nat → Int64) (yr : Int64) (mo : Int32) (dy : Int32) (p1 : Int32) (p2 : Int32)  : ZM l yX3_dateOf wsX3_dateOf { frames := 2, cells := 0, slots := 0, locals := 45 } [.ref (z 0), .int p1, .int p2] D (zTys cI cJ) (wM cI cJ z co d ti sL bL mD mT sy sm sd mi yr mo dy X) 0 0 (fun v w => v = some (.long (f_X3_dateOf d mD p1 p2)) ∧ w = (wM cI cJ z (s_X3_dateOf_co p1 p2) (s_X3_dateOf_d d mD p1 p2) ti sL bL mD mT sy sm sd mi yr mo dy X)) (fun _ _ => False) := by
  refine z_open (own := RX3) hfl (cc := cX3_dateOf) (maxL := 3) (ret := (some .long)) (lv := [(0, .ref (z 0)), (1, .int p1), (2, .int p2)]) rfl (by decide) rfl rfl (Nat.le_of_ble_eq_true rfl) ?_
  intro p e s m args below meth c A C hno hnm hargs
  have hin : ∀ w ∈ wsX30, w ∈ wsX3_dateOf := by decide +kernel
  have w1 := C.1.2.2.2.2 (.fieldLink RX3 13 "YearwheelModel" "dates" "[J") (by decide +kernel)
  have w2 := C.1.2.2.2.2 (.fieldLink RX3 26 "YearwheelModel" "days" "[J") (by decide +kernel)
  refine z_aload_n C dX3_dateOf_0 rfl 0 rfl ?_
  refine z_iload_n C dX3_dateOf_1 rfl 1 rfl ?_
  refine z_si (rest := [.ref (z 0)]) C (c_X3_isSlot l hfl D cI cJ _ p1 ) q_X3_isSlot gX3_dateOf_X3_isSlot ⟨rfl, rfl⟩ rfl rfl (Nat.le_of_ble_eq_true rfl) ⟨Nat.le_of_ble_eq_true rfl, Nat.le_of_ble_eq_true rfl⟩ ⟨Nat.le_of_ble_eq_true rfl, Nat.le_of_ble_eq_true rfl⟩ dX3_dateOf_2 ?_
  have K1_0 : f_X3_dateOf_j1 p1 p2 = 0 → (¬ (f_X3_isDate p2) = 0) → (¬ (f_X3_isSlot p1) = 0) → ZW p l e { frames := 2, cells := 0, slots := 0, locals := 45 } s m args below meth c 3 D (zTys cI cJ) A (zE D (zTys cI cJ) A below args s (fun v w => v = some (.long (f_X3_dateOf d mD p1 p2)) ∧ w = (wM cI cJ z (s_X3_dateOf_co p1 p2) (s_X3_dateOf_d d mD p1 p2) ti sL bL mD mT sy sm sd mi yr mo dy X)) (fun _ _ => False) 0 0) 0 0 (wM cI cJ z co d ti sL bL mD mT sy sm sd mi yr mo dy X) 20 [(0, .ref (z 0)), (1, .int p1), (2, .int p2)] [.int 0, .ref (z 0)] := by
    intro h3 h4 h5
    refine z_wi (ws' := (wM cI cJ z (s_X3_fails_co 0) d ti sL bL mD mT sy sm sd mi yr mo dy X)) (rest := []) (ci := 3) (q0 := 0) C (c_X3_fails l hfl D cI cJ X z co d ti sL bL mD mT sy sm sd mi yr mo dy (0 : Int32) ) q_X3_fails rfl rfl rfl gX3_dateOf_X3_fails ⟨rfl, rfl⟩ rfl rfl (Nat.le_of_ble_eq_true rfl) ⟨Nat.le_of_ble_eq_true rfl, Nat.le_of_ble_eq_true rfl⟩ ⟨Nat.le_of_ble_eq_true rfl, Nat.le_of_ble_eq_true rfl⟩ dX3_dateOf_20 ?_
    refine z_eqst (st' := [.int 0]) (congrArg (fun v => Value.int v :: _) (by decide : (f_X3_fails 0) = (0 : Int32))) ?_
    refine z_if_eq (tgt := 28) C dX3_dateOf_23 (by decide) (fun _ => ?_) (fun h => absurd (by decide) h)
    refine z_aload_n C dX3_dateOf_28 rfl 0 rfl ?_
    refine z_get (CC := RX3) (T := TX3) (N := 14) (ci := 3) C hin 0 rfl rfl 1 (by decide) w1 rfl rfl dX3_dateOf_29 ?_
    refine z_iload_n C dX3_dateOf_32 rfl 2 rfl ?_
    refine z_aload_n C dX3_dateOf_33 rfl 0 rfl ?_
    refine z_get (CC := RX3) (T := TX3) (N := 14) (ci := 3) C hin 0 rfl rfl 5 (by decide) w2 rfl rfl dX3_dateOf_34 ?_
    refine z_iload_n C dX3_dateOf_37 rfl 1 rfl ?_
    refine z_lald C 5 1 rfl rfl (vpMSlot h5) dX3_dateOf_38 ?_
    refine z_last C 1 1 rfl rfl (vpMDate h4) (ws' := (wM cI cJ z (s_X3_fails_co 0) (vp_updL d p2.toNatClampNeg (mD p1.toNatClampNeg)) ti sL bL mD mT sy sm sd mi yr mo dy X)) rfl dX3_dateOf_39 ?_
    refine z_aload_n C dX3_dateOf_40 rfl 0 rfl ?_
    refine z_get (CC := RX3) (T := TX3) (N := 14) (ci := 3) C hin 0 rfl rfl 1 (by decide) w1 rfl rfl dX3_dateOf_41 ?_
    refine z_iload_n C dX3_dateOf_44 rfl 2 rfl ?_
    refine z_lald C 1 1 rfl rfl (vpMDate h4) dX3_dateOf_45 ?_
    exact z_lret C ⟨congrArg (fun v => some (Value.long v)) (by rw [f_X3_dateOf, if_pos h3] : ((vp_updL d p2.toNatClampNeg (mD p1.toNatClampNeg)) p2.toNatClampNeg) = (f_X3_dateOf d mD p1 p2)), by rw [s_X3_dateOf_co, if_pos h3, s_X3_dateOf_d, if_pos h3]⟩ (by decide) (by decide) dX3_dateOf_46
  have K1_1 : f_X3_dateOf_j1 p1 p2 = 1 → ZW p l e { frames := 2, cells := 0, slots := 0, locals := 45 } s m args below meth c 3 D (zTys cI cJ) A (zE D (zTys cI cJ) A below args s (fun v w => v = some (.long (f_X3_dateOf d mD p1 p2)) ∧ w = (wM cI cJ z (s_X3_dateOf_co p1 p2) (s_X3_dateOf_d d mD p1 p2) ti sL bL mD mT sy sm sd mi yr mo dy X)) (fun _ _ => False) 0 0) 0 0 (wM cI cJ z co d ti sL bL mD mT sy sm sd mi yr mo dy X) 20 [(0, .ref (z 0)), (1, .int p1), (2, .int p2)] [.int 1, .ref (z 0)] := by
    intro h6
    refine z_wi (ws' := (wM cI cJ z (s_X3_fails_co 1) d ti sL bL mD mT sy sm sd mi yr mo dy X)) (rest := []) (ci := 3) (q0 := 0) C (c_X3_fails l hfl D cI cJ X z co d ti sL bL mD mT sy sm sd mi yr mo dy (1 : Int32) ) q_X3_fails rfl rfl rfl gX3_dateOf_X3_fails ⟨rfl, rfl⟩ rfl rfl (Nat.le_of_ble_eq_true rfl) ⟨Nat.le_of_ble_eq_true rfl, Nat.le_of_ble_eq_true rfl⟩ ⟨Nat.le_of_ble_eq_true rfl, Nat.le_of_ble_eq_true rfl⟩ dX3_dateOf_20 ?_
    refine z_eqst (st' := [.int 1]) (congrArg (fun v => Value.int v :: _) (by decide : (f_X3_fails 1) = (1 : Int32))) ?_
    refine z_if_eq (tgt := 28) C dX3_dateOf_23 (by decide) (fun h => absurd h (by decide)) (fun _ => ?_)
    refine z_lconst (v := 0) C dX3_dateOf_26 (by decide) ?_
    exact z_lret C ⟨congrArg (fun v => some (Value.long v)) (by rw [f_X3_dateOf, if_neg (by rw [h6]; decide : ¬ f_X3_dateOf_j1 p1 p2 = 0)] : (0 : Int64) = (f_X3_dateOf d mD p1 p2)), by rw [s_X3_dateOf_co, if_neg (by rw [h6]; decide : ¬ f_X3_dateOf_j1 p1 p2 = 0), s_X3_dateOf_d, if_neg (by rw [h6]; decide : ¬ f_X3_dateOf_j1 p1 p2 = 0)]⟩ (by decide) (by decide) dX3_dateOf_27
  refine z_if_eq (tgt := 19) C dX3_dateOf_5 (by decide) (fun h1 => ?_) (fun h1 => ?_)
  · refine z_iconst (v := 1) C dX3_dateOf_19 (by decide) ?_
    exact K1_1 (by rw [f_X3_dateOf_j1, if_pos h1]) 
  · refine z_iload_n C dX3_dateOf_8 rfl 2 rfl ?_
    refine z_si (rest := [.ref (z 0)]) C (c_X3_isDate l hfl D cI cJ _ p2 ) q_X3_isDate gX3_dateOf_X3_isDate ⟨rfl, rfl⟩ rfl rfl (Nat.le_of_ble_eq_true rfl) ⟨Nat.le_of_ble_eq_true rfl, Nat.le_of_ble_eq_true rfl⟩ ⟨Nat.le_of_ble_eq_true rfl, Nat.le_of_ble_eq_true rfl⟩ dX3_dateOf_9 ?_
    refine z_if_eq (tgt := 19) C dX3_dateOf_12 (by decide) (fun h2 => ?_) (fun h2 => ?_)
    · refine z_iconst (v := 1) C dX3_dateOf_19 (by decide) ?_
      exact K1_1 (by rw [f_X3_dateOf_j1, if_neg h1, if_pos h2]) 
    · refine z_iconst (v := 0) C dX3_dateOf_15 (by decide) ?_
      refine z_goto (tgt := 20) C dX3_dateOf_16 (by decide) ?_
      exact K1_0 (by rw [f_X3_dateOf_j1, if_neg h1, if_neg h2]) h2 h1
def f_X3_timeOf_j1 (p1 : Int32) (p2 : Int32) : Int32 := (if (f_X3_isSlot p1) = 0 then 1 else (if (f_X3_isSlot p2) = 0 then 1 else 0))
def f_X3_timeOf (ti : Nat → Int64) (mT : Nat → Int64) (p1 : Int32) (p2 : Int32) : Int64 := (if f_X3_timeOf_j1 p1 p2 = 0 then ((vp_updL ti p2.toNatClampNeg (mT p1.toNatClampNeg)) p2.toNatClampNeg) else 0)
def s_X3_timeOf_co (p1 : Int32) (p2 : Int32) : Int32 := (if f_X3_timeOf_j1 p1 p2 = 0 then (s_X3_fails_co 0) else (s_X3_fails_co 1))
def s_X3_timeOf_ti (ti : Nat → Int64) (mT : Nat → Int64) (p1 : Int32) (p2 : Int32) : Nat → Int64 := (if f_X3_timeOf_j1 p1 p2 = 0 then (vp_updL ti p2.toNatClampNeg (mT p1.toNatClampNeg)) else ti)
theorem q_X3_timeOf : ZY yX3_timeOf wsX3_timeOf cX3_timeOf 3 (some .long) 2 := ⟨⟨_, rfl⟩, by decide +kernel, by decide +kernel, by decide +kernel⟩
set_option maxHeartbeats 4000000 in
set_option maxRecDepth 100000 in
theorem c_X3_timeOf (l : Launch) (hfl : l.stackTraces = false) (D : va_G) (cI cJ : ClassId) (X : va_W) (z : Nat → Nat) (co : Int32) (d : Nat → Int64) (ti : Nat → Int64) (sL : Nat → Int64) (bL : Nat → Int64) (mD : Nat → Int64) (mT : Nat → Int64) (sy : Nat → Int64) (sm : Nat → Int64) (sd : Nat → Int64) (mi : Nat → Int64) (yr : Int64) (mo : Int32) (dy : Int32) (p1 : Int32) (p2 : Int32)  : ZM l yX3_timeOf wsX3_timeOf { frames := 2, cells := 0, slots := 0, locals := 45 } [.ref (z 0), .int p1, .int p2] D (zTys cI cJ) (wM cI cJ z co d ti sL bL mD mT sy sm sd mi yr mo dy X) 0 0 (fun v w => v = some (.long (f_X3_timeOf ti mT p1 p2)) ∧ w = (wM cI cJ z (s_X3_timeOf_co p1 p2) d (s_X3_timeOf_ti ti mT p1 p2) sL bL mD mT sy sm sd mi yr mo dy X)) (fun _ _ => False) := by
  refine z_open (own := RX3) hfl (cc := cX3_timeOf) (maxL := 3) (ret := (some .long)) (lv := [(0, .ref (z 0)), (1, .int p1), (2, .int p2)]) rfl (by decide) rfl rfl (Nat.le_of_ble_eq_true rfl) ?_
  intro p e s m args below meth c A C hno hnm hargs
  have hin : ∀ w ∈ wsX30, w ∈ wsX3_timeOf := by decide +kernel
  have w1 := C.1.2.2.2.2 (.fieldLink RX3 17 "YearwheelModel" "times" "[J") (by decide +kernel)
  have w2 := C.1.2.2.2.2 (.fieldLink RX3 29 "YearwheelModel" "clocks" "[J") (by decide +kernel)
  refine z_aload_n C dX3_timeOf_0 rfl 0 rfl ?_
  refine z_iload_n C dX3_timeOf_1 rfl 1 rfl ?_
  refine z_si (rest := [.ref (z 0)]) C (c_X3_isSlot l hfl D cI cJ _ p1 ) q_X3_isSlot gX3_timeOf_X3_isSlot ⟨rfl, rfl⟩ rfl rfl (Nat.le_of_ble_eq_true rfl) ⟨Nat.le_of_ble_eq_true rfl, Nat.le_of_ble_eq_true rfl⟩ ⟨Nat.le_of_ble_eq_true rfl, Nat.le_of_ble_eq_true rfl⟩ dX3_timeOf_2 ?_
  have K1_0 : f_X3_timeOf_j1 p1 p2 = 0 → (¬ (f_X3_isSlot p1) = 0) → (¬ (f_X3_isSlot p2) = 0) → ZW p l e { frames := 2, cells := 0, slots := 0, locals := 45 } s m args below meth c 3 D (zTys cI cJ) A (zE D (zTys cI cJ) A below args s (fun v w => v = some (.long (f_X3_timeOf ti mT p1 p2)) ∧ w = (wM cI cJ z (s_X3_timeOf_co p1 p2) d (s_X3_timeOf_ti ti mT p1 p2) sL bL mD mT sy sm sd mi yr mo dy X)) (fun _ _ => False) 0 0) 0 0 (wM cI cJ z co d ti sL bL mD mT sy sm sd mi yr mo dy X) 20 [(0, .ref (z 0)), (1, .int p1), (2, .int p2)] [.int 0, .ref (z 0)] := by
    intro h3 h4 h5
    refine z_wi (ws' := (wM cI cJ z (s_X3_fails_co 0) d ti sL bL mD mT sy sm sd mi yr mo dy X)) (rest := []) (ci := 3) (q0 := 0) C (c_X3_fails l hfl D cI cJ X z co d ti sL bL mD mT sy sm sd mi yr mo dy (0 : Int32) ) q_X3_fails rfl rfl rfl gX3_timeOf_X3_fails ⟨rfl, rfl⟩ rfl rfl (Nat.le_of_ble_eq_true rfl) ⟨Nat.le_of_ble_eq_true rfl, Nat.le_of_ble_eq_true rfl⟩ ⟨Nat.le_of_ble_eq_true rfl, Nat.le_of_ble_eq_true rfl⟩ dX3_timeOf_20 ?_
    refine z_eqst (st' := [.int 0]) (congrArg (fun v => Value.int v :: _) (by decide : (f_X3_fails 0) = (0 : Int32))) ?_
    refine z_if_eq (tgt := 28) C dX3_timeOf_23 (by decide) (fun _ => ?_) (fun h => absurd (by decide) h)
    refine z_aload_n C dX3_timeOf_28 rfl 0 rfl ?_
    refine z_get (CC := RX3) (T := TX3) (N := 14) (ci := 3) C hin 0 rfl rfl 2 (by decide) w1 rfl rfl dX3_timeOf_29 ?_
    refine z_iload_n C dX3_timeOf_32 rfl 2 rfl ?_
    refine z_aload_n C dX3_timeOf_33 rfl 0 rfl ?_
    refine z_get (CC := RX3) (T := TX3) (N := 14) (ci := 3) C hin 0 rfl rfl 6 (by decide) w2 rfl rfl dX3_timeOf_34 ?_
    refine z_iload_n C dX3_timeOf_37 rfl 1 rfl ?_
    refine z_lald C 6 1 rfl rfl (vpMSlot h4) dX3_timeOf_38 ?_
    refine z_last C 2 1 rfl rfl (vpMSlot h5) (ws' := (wM cI cJ z (s_X3_fails_co 0) d (vp_updL ti p2.toNatClampNeg (mT p1.toNatClampNeg)) sL bL mD mT sy sm sd mi yr mo dy X)) rfl dX3_timeOf_39 ?_
    refine z_aload_n C dX3_timeOf_40 rfl 0 rfl ?_
    refine z_get (CC := RX3) (T := TX3) (N := 14) (ci := 3) C hin 0 rfl rfl 2 (by decide) w1 rfl rfl dX3_timeOf_41 ?_
    refine z_iload_n C dX3_timeOf_44 rfl 2 rfl ?_
    refine z_lald C 2 1 rfl rfl (vpMSlot h5) dX3_timeOf_45 ?_
    exact z_lret C ⟨congrArg (fun v => some (Value.long v)) (by rw [f_X3_timeOf, if_pos h3] : ((vp_updL ti p2.toNatClampNeg (mT p1.toNatClampNeg)) p2.toNatClampNeg) = (f_X3_timeOf ti mT p1 p2)), by rw [s_X3_timeOf_co, if_pos h3, s_X3_timeOf_ti, if_pos h3]⟩ (by decide) (by decide) dX3_timeOf_46
  have K1_1 : f_X3_timeOf_j1 p1 p2 = 1 → ZW p l e { frames := 2, cells := 0, slots := 0, locals := 45 } s m args below meth c 3 D (zTys cI cJ) A (zE D (zTys cI cJ) A below args s (fun v w => v = some (.long (f_X3_timeOf ti mT p1 p2)) ∧ w = (wM cI cJ z (s_X3_timeOf_co p1 p2) d (s_X3_timeOf_ti ti mT p1 p2) sL bL mD mT sy sm sd mi yr mo dy X)) (fun _ _ => False) 0 0) 0 0 (wM cI cJ z co d ti sL bL mD mT sy sm sd mi yr mo dy X) 20 [(0, .ref (z 0)), (1, .int p1), (2, .int p2)] [.int 1, .ref (z 0)] := by
    intro h6
    refine z_wi (ws' := (wM cI cJ z (s_X3_fails_co 1) d ti sL bL mD mT sy sm sd mi yr mo dy X)) (rest := []) (ci := 3) (q0 := 0) C (c_X3_fails l hfl D cI cJ X z co d ti sL bL mD mT sy sm sd mi yr mo dy (1 : Int32) ) q_X3_fails rfl rfl rfl gX3_timeOf_X3_fails ⟨rfl, rfl⟩ rfl rfl (Nat.le_of_ble_eq_true rfl) ⟨Nat.le_of_ble_eq_true rfl, Nat.le_of_ble_eq_true rfl⟩ ⟨Nat.le_of_ble_eq_true rfl, Nat.le_of_ble_eq_true rfl⟩ dX3_timeOf_20 ?_
    refine z_eqst (st' := [.int 1]) (congrArg (fun v => Value.int v :: _) (by decide : (f_X3_fails 1) = (1 : Int32))) ?_
    refine z_if_eq (tgt := 28) C dX3_timeOf_23 (by decide) (fun h => absurd h (by decide)) (fun _ => ?_)
    refine z_lconst (v := 0) C dX3_timeOf_26 (by decide) ?_
    exact z_lret C ⟨congrArg (fun v => some (Value.long v)) (by rw [f_X3_timeOf, if_neg (by rw [h6]; decide : ¬ f_X3_timeOf_j1 p1 p2 = 0)] : (0 : Int64) = (f_X3_timeOf ti mT p1 p2)), by rw [s_X3_timeOf_co, if_neg (by rw [h6]; decide : ¬ f_X3_timeOf_j1 p1 p2 = 0), s_X3_timeOf_ti, if_neg (by rw [h6]; decide : ¬ f_X3_timeOf_j1 p1 p2 = 0)]⟩ (by decide) (by decide) dX3_timeOf_27
  refine z_if_eq (tgt := 19) C dX3_timeOf_5 (by decide) (fun h1 => ?_) (fun h1 => ?_)
  · refine z_iconst (v := 1) C dX3_timeOf_19 (by decide) ?_
    exact K1_1 (by rw [f_X3_timeOf_j1, if_pos h1]) 
  · refine z_iload_n C dX3_timeOf_8 rfl 2 rfl ?_
    refine z_si (rest := [.ref (z 0)]) C (c_X3_isSlot l hfl D cI cJ _ p2 ) q_X3_isSlot gX3_timeOf_X3_isSlot ⟨rfl, rfl⟩ rfl rfl (Nat.le_of_ble_eq_true rfl) ⟨Nat.le_of_ble_eq_true rfl, Nat.le_of_ble_eq_true rfl⟩ ⟨Nat.le_of_ble_eq_true rfl, Nat.le_of_ble_eq_true rfl⟩ dX3_timeOf_9 ?_
    refine z_if_eq (tgt := 19) C dX3_timeOf_12 (by decide) (fun h2 => ?_) (fun h2 => ?_)
    · refine z_iconst (v := 1) C dX3_timeOf_19 (by decide) ?_
      exact K1_1 (by rw [f_X3_timeOf_j1, if_neg h1, if_pos h2]) 
    · refine z_iconst (v := 0) C dX3_timeOf_15 (by decide) ?_
      refine z_goto (tgt := 20) C dX3_timeOf_16 (by decide) ?_
      exact K1_0 (by rw [f_X3_timeOf_j1, if_neg h1, if_neg h2]) h1 h2
def f_X3_moveMoment_j1 (p2 : Int32) : Int32 := (if p2 = 104 then 1 else (if p2 = 105 then 1 else (if p2 = 115 then 1 else (if p2 = 110 then 1 else 0))))
def f_X3_moveMoment_j2 (p1 : Int32) (p2 : Int32) (p3 : Int64) (p4 : Int32) : Int32 := (if (f_X3_isSlot p1) = 0 then 1 else (if (f_X3_isSlot p4) = 0 then 1 else (if (f_X3_isUnit p2) = 0 then 2 else (if (f_X3_in p3 (-1000000) 1000000) = 0 then 2 else 0))))
def f_X3_moveMoment_j3 (p1 : Int32) (p3 : Int64) (p4 : Int32) : Int32 := (if (f_X3_isSlot p1) = 0 then 1 else (if (f_X3_isSlot p4) = 0 then 1 else (if (f_X3_in p3 (-1000000000000000) 1000000000000000) = 0 then 2 else 0)))
def f_X3_moveMoment_j4 (p2 : Int32) : Int64 := (if p2 = 104 then 3600000000000 else (if p2 = 105 then 60000000000 else (if p2 = 115 then 1000000000 else 1)))
def f_X3_moveMoment (mD : Nat → Int64) (mT : Nat → Int64) (p1 : Int32) (p2 : Int32) (p3 : Int64) (p4 : Int32) : Int64 := (if f_X3_moveMoment_j1 p2 = 0 then (if f_X3_moveMoment_j2 p1 p2 p3 p4 = 0 then (f_X3_comes (f_X3_moved (mD p1.toNatClampNeg) p2 p3) 3) else (if f_X3_moveMoment_j2 p1 p2 p3 p4 = 1 then 0 else 0)) else (if f_X3_moveMoment_j3 p1 p3 p4 = 0 then (if f_X3_moveMoment_j4 p2 = 1 then (f_X3_comes (((mD p1.toNatClampNeg) + (f_X3_floor p3 (86400000000000 / 1))) + (f_X3_floor ((mT p1.toNatClampNeg) + ((f_X3_rest p3 (86400000000000 / 1)) * 1)) 86400000000000)) 3) else (if f_X3_moveMoment_j4 p2 = 1000000000 then (f_X3_comes (((mD p1.toNatClampNeg) + (f_X3_floor p3 (86400000000000 / 1000000000))) + (f_X3_floor ((mT p1.toNatClampNeg) + ((f_X3_rest p3 (86400000000000 / 1000000000)) * 1000000000)) 86400000000000)) 3) else (if f_X3_moveMoment_j4 p2 = 60000000000 then (f_X3_comes (((mD p1.toNatClampNeg) + (f_X3_floor p3 (86400000000000 / 60000000000))) + (f_X3_floor ((mT p1.toNatClampNeg) + ((f_X3_rest p3 (86400000000000 / 60000000000)) * 60000000000)) 86400000000000)) 3) else (f_X3_comes (((mD p1.toNatClampNeg) + (f_X3_floor p3 (86400000000000 / 3600000000000))) + (f_X3_floor ((mT p1.toNatClampNeg) + ((f_X3_rest p3 (86400000000000 / 3600000000000)) * 3600000000000)) 86400000000000)) 3)))) else (if f_X3_moveMoment_j3 p1 p3 p4 = 1 then 0 else 0)))
def s_X3_moveMoment_co (mD : Nat → Int64) (mT : Nat → Int64) (p1 : Int32) (p2 : Int32) (p3 : Int64) (p4 : Int32) : Int32 := (if f_X3_moveMoment_j1 p2 = 0 then (if f_X3_moveMoment_j2 p1 p2 p3 p4 = 0 then (s_X3_comes_co (f_X3_moved (mD p1.toNatClampNeg) p2 p3) 3) else (if f_X3_moveMoment_j2 p1 p2 p3 p4 = 1 then (s_X3_fails_co 1) else (s_X3_fails_co 2))) else (if f_X3_moveMoment_j3 p1 p3 p4 = 0 then (if f_X3_moveMoment_j4 p2 = 1 then (s_X3_comes_co (((mD p1.toNatClampNeg) + (f_X3_floor p3 (86400000000000 / 1))) + (f_X3_floor ((mT p1.toNatClampNeg) + ((f_X3_rest p3 (86400000000000 / 1)) * 1)) 86400000000000)) 3) else (if f_X3_moveMoment_j4 p2 = 1000000000 then (s_X3_comes_co (((mD p1.toNatClampNeg) + (f_X3_floor p3 (86400000000000 / 1000000000))) + (f_X3_floor ((mT p1.toNatClampNeg) + ((f_X3_rest p3 (86400000000000 / 1000000000)) * 1000000000)) 86400000000000)) 3) else (if f_X3_moveMoment_j4 p2 = 60000000000 then (s_X3_comes_co (((mD p1.toNatClampNeg) + (f_X3_floor p3 (86400000000000 / 60000000000))) + (f_X3_floor ((mT p1.toNatClampNeg) + ((f_X3_rest p3 (86400000000000 / 60000000000)) * 60000000000)) 86400000000000)) 3) else (s_X3_comes_co (((mD p1.toNatClampNeg) + (f_X3_floor p3 (86400000000000 / 3600000000000))) + (f_X3_floor ((mT p1.toNatClampNeg) + ((f_X3_rest p3 (86400000000000 / 3600000000000)) * 3600000000000)) 86400000000000)) 3)))) else (if f_X3_moveMoment_j3 p1 p3 p4 = 1 then (s_X3_fails_co 1) else (s_X3_fails_co 2))))
def s_X3_moveMoment_mD (mD : Nat → Int64) (mT : Nat → Int64) (p1 : Int32) (p2 : Int32) (p3 : Int64) (p4 : Int32) : Nat → Int64 := (if f_X3_moveMoment_j1 p2 = 0 then (if f_X3_moveMoment_j2 p1 p2 p3 p4 = 0 then (s_X3_comes_mD mD p4 (f_X3_moved (mD p1.toNatClampNeg) p2 p3) 3) else (if f_X3_moveMoment_j2 p1 p2 p3 p4 = 1 then mD else mD)) else (if f_X3_moveMoment_j3 p1 p3 p4 = 0 then (if f_X3_moveMoment_j4 p2 = 1 then (s_X3_comes_mD mD p4 (((mD p1.toNatClampNeg) + (f_X3_floor p3 (86400000000000 / 1))) + (f_X3_floor ((mT p1.toNatClampNeg) + ((f_X3_rest p3 (86400000000000 / 1)) * 1)) 86400000000000)) 3) else (if f_X3_moveMoment_j4 p2 = 1000000000 then (s_X3_comes_mD mD p4 (((mD p1.toNatClampNeg) + (f_X3_floor p3 (86400000000000 / 1000000000))) + (f_X3_floor ((mT p1.toNatClampNeg) + ((f_X3_rest p3 (86400000000000 / 1000000000)) * 1000000000)) 86400000000000)) 3) else (if f_X3_moveMoment_j4 p2 = 60000000000 then (s_X3_comes_mD mD p4 (((mD p1.toNatClampNeg) + (f_X3_floor p3 (86400000000000 / 60000000000))) + (f_X3_floor ((mT p1.toNatClampNeg) + ((f_X3_rest p3 (86400000000000 / 60000000000)) * 60000000000)) 86400000000000)) 3) else (s_X3_comes_mD mD p4 (((mD p1.toNatClampNeg) + (f_X3_floor p3 (86400000000000 / 3600000000000))) + (f_X3_floor ((mT p1.toNatClampNeg) + ((f_X3_rest p3 (86400000000000 / 3600000000000)) * 3600000000000)) 86400000000000)) 3)))) else (if f_X3_moveMoment_j3 p1 p3 p4 = 1 then mD else mD)))
def s_X3_moveMoment_mT (mD : Nat → Int64) (mT : Nat → Int64) (p1 : Int32) (p2 : Int32) (p3 : Int64) (p4 : Int32) : Nat → Int64 := (if f_X3_moveMoment_j1 p2 = 0 then (if f_X3_moveMoment_j2 p1 p2 p3 p4 = 0 then (s_X3_comes_mT mT p4 (f_X3_moved (mD p1.toNatClampNeg) p2 p3) (mT p1.toNatClampNeg) 3) else (if f_X3_moveMoment_j2 p1 p2 p3 p4 = 1 then mT else mT)) else (if f_X3_moveMoment_j3 p1 p3 p4 = 0 then (if f_X3_moveMoment_j4 p2 = 1 then (s_X3_comes_mT mT p4 (((mD p1.toNatClampNeg) + (f_X3_floor p3 (86400000000000 / 1))) + (f_X3_floor ((mT p1.toNatClampNeg) + ((f_X3_rest p3 (86400000000000 / 1)) * 1)) 86400000000000)) (f_X3_rest ((mT p1.toNatClampNeg) + ((f_X3_rest p3 (86400000000000 / 1)) * 1)) 86400000000000) 3) else (if f_X3_moveMoment_j4 p2 = 1000000000 then (s_X3_comes_mT mT p4 (((mD p1.toNatClampNeg) + (f_X3_floor p3 (86400000000000 / 1000000000))) + (f_X3_floor ((mT p1.toNatClampNeg) + ((f_X3_rest p3 (86400000000000 / 1000000000)) * 1000000000)) 86400000000000)) (f_X3_rest ((mT p1.toNatClampNeg) + ((f_X3_rest p3 (86400000000000 / 1000000000)) * 1000000000)) 86400000000000) 3) else (if f_X3_moveMoment_j4 p2 = 60000000000 then (s_X3_comes_mT mT p4 (((mD p1.toNatClampNeg) + (f_X3_floor p3 (86400000000000 / 60000000000))) + (f_X3_floor ((mT p1.toNatClampNeg) + ((f_X3_rest p3 (86400000000000 / 60000000000)) * 60000000000)) 86400000000000)) (f_X3_rest ((mT p1.toNatClampNeg) + ((f_X3_rest p3 (86400000000000 / 60000000000)) * 60000000000)) 86400000000000) 3) else (s_X3_comes_mT mT p4 (((mD p1.toNatClampNeg) + (f_X3_floor p3 (86400000000000 / 3600000000000))) + (f_X3_floor ((mT p1.toNatClampNeg) + ((f_X3_rest p3 (86400000000000 / 3600000000000)) * 3600000000000)) 86400000000000)) (f_X3_rest ((mT p1.toNatClampNeg) + ((f_X3_rest p3 (86400000000000 / 3600000000000)) * 3600000000000)) 86400000000000) 3)))) else (if f_X3_moveMoment_j3 p1 p3 p4 = 1 then mT else mT)))
def s_X3_moveMoment_yr (mD : Nat → Int64) (yr : Int64) (p1 : Int32) (p2 : Int32) (p3 : Int64) (p4 : Int32) : Int64 := (if f_X3_moveMoment_j1 p2 = 0 then (if f_X3_moveMoment_j2 p1 p2 p3 p4 = 0 then (s_X3_moved_yr yr (mD p1.toNatClampNeg) p2) else (if f_X3_moveMoment_j2 p1 p2 p3 p4 = 1 then yr else yr)) else (if f_X3_moveMoment_j3 p1 p3 p4 = 0 then (if f_X3_moveMoment_j4 p2 = 1 then yr else (if f_X3_moveMoment_j4 p2 = 1000000000 then yr else (if f_X3_moveMoment_j4 p2 = 60000000000 then yr else yr))) else (if f_X3_moveMoment_j3 p1 p3 p4 = 1 then yr else yr)))
def s_X3_moveMoment_mo (mD : Nat → Int64) (mo : Int32) (p1 : Int32) (p2 : Int32) (p3 : Int64) (p4 : Int32) : Int32 := (if f_X3_moveMoment_j1 p2 = 0 then (if f_X3_moveMoment_j2 p1 p2 p3 p4 = 0 then (s_X3_moved_mo mo (mD p1.toNatClampNeg) p2) else (if f_X3_moveMoment_j2 p1 p2 p3 p4 = 1 then mo else mo)) else (if f_X3_moveMoment_j3 p1 p3 p4 = 0 then (if f_X3_moveMoment_j4 p2 = 1 then mo else (if f_X3_moveMoment_j4 p2 = 1000000000 then mo else (if f_X3_moveMoment_j4 p2 = 60000000000 then mo else mo))) else (if f_X3_moveMoment_j3 p1 p3 p4 = 1 then mo else mo)))
def s_X3_moveMoment_dy (mD : Nat → Int64) (dy : Int32) (p1 : Int32) (p2 : Int32) (p3 : Int64) (p4 : Int32) : Int32 := (if f_X3_moveMoment_j1 p2 = 0 then (if f_X3_moveMoment_j2 p1 p2 p3 p4 = 0 then (s_X3_moved_dy dy (mD p1.toNatClampNeg) p2) else (if f_X3_moveMoment_j2 p1 p2 p3 p4 = 1 then dy else dy)) else (if f_X3_moveMoment_j3 p1 p3 p4 = 0 then (if f_X3_moveMoment_j4 p2 = 1 then dy else (if f_X3_moveMoment_j4 p2 = 1000000000 then dy else (if f_X3_moveMoment_j4 p2 = 60000000000 then dy else dy))) else (if f_X3_moveMoment_j3 p1 p3 p4 = 1 then dy else dy)))
def pre_X3_moveMoment (mD : Nat → Int64) (p1 : Int32) (p2 : Int32) (p3 : Int64) (p4 : Int32) : Prop := (((f_X3_moveMoment_j1 p2) = 0) → (¬ p2 = 104) → (¬ p2 = 105) → (¬ p2 = 110) → (¬ p2 = 115) → ((f_X3_moveMoment_j2 p1 p2 p3 p4) = 0) → (¬ (f_X3_in p3 (-1000000) 1000000) = 0) → (¬ (f_X3_isSlot p1) = 0) → (¬ (f_X3_isSlot p4) = 0) → (¬ (f_X3_isUnit p2) = 0) → (pre_X3_moved (mD p1.toNatClampNeg) p2 p3))
theorem q_X3_moveMoment : ZY yX3_moveMoment wsX3_moveMoment cX3_moveMoment 13 (some .long) 4 := ⟨⟨_, rfl⟩, by decide +kernel, by decide +kernel, by decide +kernel⟩
set_option maxHeartbeats 4000000 in
set_option maxRecDepth 100000 in
theorem c_X3_moveMoment (l : Launch) (hfl : l.stackTraces = false) (D : va_G) (cI cJ : ClassId) (X : va_W) (z : Nat → Nat) (co : Int32) (d : Nat → Int64) (ti : Nat → Int64) (sL : Nat → Int64) (bL : Nat → Int64) (mD : Nat → Int64) (mT : Nat → Int64) (sy : Nat → Int64) (sm : Nat → Int64) (sd : Nat → Int64) (mi : Nat → Int64) (yr : Int64) (mo : Int32) (dy : Int32) (p1 : Int32) (p2 : Int32) (p3 : Int64) (p4 : Int32)  (h_g : pre_X3_moveMoment mD p1 p2 p3 p4) : ZM l yX3_moveMoment wsX3_moveMoment { frames := 7, cells := 0, slots := 0, locals := 169 } [.ref (z 0), .int p1, .int p2, .long p3, .int p4] D (zTys cI cJ) (wM cI cJ z co d ti sL bL mD mT sy sm sd mi yr mo dy X) 0 0 (fun v w => v = some (.long (f_X3_moveMoment mD mT p1 p2 p3 p4)) ∧ w = (wM cI cJ z (s_X3_moveMoment_co mD mT p1 p2 p3 p4) d ti sL bL (s_X3_moveMoment_mD mD mT p1 p2 p3 p4) (s_X3_moveMoment_mT mD mT p1 p2 p3 p4) sy sm sd mi (s_X3_moveMoment_yr mD yr p1 p2 p3 p4) (s_X3_moveMoment_mo mD mo p1 p2 p3 p4) (s_X3_moveMoment_dy mD dy p1 p2 p3 p4) X)) (fun _ _ => False) := by
  refine z_open (own := RX3) hfl (cc := cX3_moveMoment) (maxL := 13) (ret := (some .long)) (lv := [(0, .ref (z 0)), (1, .int p1), (2, .int p2), (3, .long p3), (5, .int p4)]) rfl (by decide) rfl rfl (Nat.le_of_ble_eq_true rfl) ?_
  intro p e s m args below meth c A C hno hnm hargs
  have hin : ∀ w ∈ wsX30, w ∈ wsX3_moveMoment := by decide +kernel
  have w1 := C.1.2.2.2.2 (.constantLong RX3 144 (-1000000)) (by decide +kernel)
  have w2 := C.1.2.2.2.2 (.constantLong RX3 146 (1000000)) (by decide +kernel)
  have w3 := C.1.2.2.2.2 (.fieldLink RX3 26 "YearwheelModel" "days" "[J") (by decide +kernel)
  have w4 := C.1.2.2.2.2 (.fieldLink RX3 29 "YearwheelModel" "clocks" "[J") (by decide +kernel)
  have w5 := C.1.2.2.2.2 (.constantLong RX3 207 (-1000000000000000)) (by decide +kernel)
  have w6 := C.1.2.2.2.2 (.constantLong RX3 209 (1000000000000000)) (by decide +kernel)
  have w7 := C.1.2.2.2.2 (.constantLong RX3 199 (1000000000)) (by decide +kernel)
  have w8 := C.1.2.2.2.2 (.constantLong RX3 211 (60000000000)) (by decide +kernel)
  have w9 := C.1.2.2.2.2 (.constantLong RX3 203 (3600000000000)) (by decide +kernel)
  have w10 := C.1.2.2.2.2 (.constantLong RX3 205 (86400000000000)) (by decide +kernel)
  have g_0 := h_g
  refine z_iload_n C dX3_moveMoment_0 rfl 2 rfl ?_
  refine z_bipush (v := 104) C dX3_moveMoment_1 (by decide) ?_
  have K1_0 : f_X3_moveMoment_j1 p2 = 0 → (¬ p2 = 104) → (¬ p2 = 105) → (¬ p2 = 110) → (¬ p2 = 115) → ZW p l e { frames := 7, cells := 0, slots := 0, locals := 169 } s m args below meth c 13 D (zTys cI cJ) A (zE D (zTys cI cJ) A below args s (fun v w => v = some (.long (f_X3_moveMoment mD mT p1 p2 p3 p4)) ∧ w = (wM cI cJ z (s_X3_moveMoment_co mD mT p1 p2 p3 p4) d ti sL bL (s_X3_moveMoment_mD mD mT p1 p2 p3 p4) (s_X3_moveMoment_mT mD mT p1 p2 p3 p4) sy sm sd mi (s_X3_moveMoment_yr mD yr p1 p2 p3 p4) (s_X3_moveMoment_mo mD mo p1 p2 p3 p4) (s_X3_moveMoment_dy mD dy p1 p2 p3 p4) X)) (fun _ _ => False) 0 0) 0 0 (wM cI cJ z co d ti sL bL mD mT sy sm sd mi yr mo dy X) 29 [(0, .ref (z 0)), (1, .int p1), (2, .int p2), (3, .long p3), (5, .int p4)] [.int 0] := by
    intro h5 h6 h7 h8 h9
    refine z_istore (lv' := [(6, .int 0), (0, .ref (z 0)), (1, .int p1), (2, .int p2), (3, .long p3), (5, .int p4)]) C dX3_moveMoment_29 (by decide) rfl ?_
    refine z_aload_n C dX3_moveMoment_31 rfl 1 rfl ?_
    refine z_iload_n C dX3_moveMoment_32 rfl 2 rfl ?_
    refine z_si (rest := [.ref (z 0)]) C (c_X3_isSlot l hfl D cI cJ _ p1 ) q_X3_isSlot gX3_moveMoment_X3_isSlot ⟨rfl, rfl⟩ rfl rfl (Nat.le_of_ble_eq_true rfl) ⟨Nat.le_of_ble_eq_true rfl, Nat.le_of_ble_eq_true rfl⟩ ⟨Nat.le_of_ble_eq_true rfl, Nat.le_of_ble_eq_true rfl⟩ dX3_moveMoment_33 ?_
    have K2_0 : f_X3_moveMoment_j2 p1 p2 p3 p4 = 0 → (¬ (f_X3_in p3 (-1000000) 1000000) = 0) → (¬ (f_X3_isSlot p1) = 0) → (¬ (f_X3_isSlot p4) = 0) → (¬ (f_X3_isUnit p2) = 0) → ZW p l e { frames := 7, cells := 0, slots := 0, locals := 169 } s m args below meth c 13 D (zTys cI cJ) A (zE D (zTys cI cJ) A below args s (fun v w => v = some (.long (f_X3_moveMoment mD mT p1 p2 p3 p4)) ∧ w = (wM cI cJ z (s_X3_moveMoment_co mD mT p1 p2 p3 p4) d ti sL bL (s_X3_moveMoment_mD mD mT p1 p2 p3 p4) (s_X3_moveMoment_mT mD mT p1 p2 p3 p4) sy sm sd mi (s_X3_moveMoment_yr mD yr p1 p2 p3 p4) (s_X3_moveMoment_mo mD mo p1 p2 p3 p4) (s_X3_moveMoment_dy mD dy p1 p2 p3 p4) X)) (fun _ _ => False) 0 0) 0 0 (wM cI cJ z co d ti sL bL mD mT sy sm sd mi yr mo dy X) 103 [(6, .int 0), (0, .ref (z 0)), (1, .int p1), (2, .int p2), (3, .long p3), (5, .int p4)] [.int 0, .ref (z 0)] := by
      intro h14 h15 h16 h17 h18
      refine z_wi (ws' := (wM cI cJ z (s_X3_fails_co 0) d ti sL bL mD mT sy sm sd mi yr mo dy X)) (rest := []) (ci := 3) (q0 := 0) C (c_X3_fails l hfl D cI cJ X z co d ti sL bL mD mT sy sm sd mi yr mo dy (0 : Int32) ) q_X3_fails rfl rfl rfl gX3_moveMoment_X3_fails ⟨rfl, rfl⟩ rfl rfl (Nat.le_of_ble_eq_true rfl) ⟨Nat.le_of_ble_eq_true rfl, Nat.le_of_ble_eq_true rfl⟩ ⟨Nat.le_of_ble_eq_true rfl, Nat.le_of_ble_eq_true rfl⟩ dX3_moveMoment_103 ?_
      refine z_eqst (st' := [.int 0]) (congrArg (fun v => Value.int v :: _) (by decide : (f_X3_fails 0) = (0 : Int32))) ?_
      refine z_if_eq (tgt := 111) C dX3_moveMoment_106 (by decide) (fun _ => ?_) (fun h => absurd (by decide) h)
      refine z_iload C dX3_moveMoment_111 0 rfl ?_
      refine z_if_ne (tgt := 142) C dX3_moveMoment_113 (by decide) (fun h => absurd rfl h) (fun _ => ?_)
      refine z_aload_n C dX3_moveMoment_116 rfl 1 rfl ?_
      refine z_iload C dX3_moveMoment_117 5 rfl ?_
      refine z_aload_n C dX3_moveMoment_119 rfl 1 rfl ?_
      refine z_aload_n C dX3_moveMoment_120 rfl 1 rfl ?_
      refine z_get (CC := RX3) (T := TX3) (N := 14) (ci := 3) C hin 0 rfl rfl 5 (by decide) w3 rfl rfl dX3_moveMoment_121 ?_
      refine z_iload_n C dX3_moveMoment_124 rfl 2 rfl ?_
      refine z_lald C 5 1 rfl rfl (vpMSlot h16) dX3_moveMoment_125 ?_
      refine z_iload_n C dX3_moveMoment_126 rfl 3 rfl ?_
      refine z_lload_n C dX3_moveMoment_127 rfl 4 rfl ?_
      refine z_wl (ws' := (wM cI cJ z (s_X3_fails_co 0) d ti sL bL mD mT sy sm sd mi (s_X3_moved_yr yr (mD p1.toNatClampNeg) p2) (s_X3_moved_mo mo (mD p1.toNatClampNeg) p2) (s_X3_moved_dy dy (mD p1.toNatClampNeg) p2) X)) (rest := [.int p4, .ref (z 0)]) (ci := 3) (q0 := 0) C (c_X3_moved l hfl D cI cJ X z (s_X3_fails_co 0) d ti sL bL mD mT sy sm sd mi yr mo dy (mD p1.toNatClampNeg) p2 p3 (g_0 h5 h6 h7 h8 h9 h14 h15 h16 h17 h18)) q_X3_moved rfl rfl rfl gX3_moveMoment_X3_moved ⟨rfl, rfl⟩ rfl rfl (Nat.le_of_ble_eq_true rfl) ⟨Nat.le_of_ble_eq_true rfl, Nat.le_of_ble_eq_true rfl⟩ ⟨Nat.le_of_ble_eq_true rfl, Nat.le_of_ble_eq_true rfl⟩ dX3_moveMoment_128 ?_
      refine z_aload_n C dX3_moveMoment_131 rfl 1 rfl ?_
      refine z_get (CC := RX3) (T := TX3) (N := 14) (ci := 3) C hin 0 rfl rfl 6 (by decide) w4 rfl rfl dX3_moveMoment_132 ?_
      refine z_iload_n C dX3_moveMoment_135 rfl 2 rfl ?_
      refine z_lald C 6 1 rfl rfl (vpMSlot h16) dX3_moveMoment_136 ?_
      refine z_iconst (v := 3) C dX3_moveMoment_137 (by decide) ?_
      refine z_wl (ws' := (wM cI cJ z (s_X3_comes_co (f_X3_moved (mD p1.toNatClampNeg) p2 p3) 3) d ti sL bL (s_X3_comes_mD mD p4 (f_X3_moved (mD p1.toNatClampNeg) p2 p3) 3) (s_X3_comes_mT mT p4 (f_X3_moved (mD p1.toNatClampNeg) p2 p3) (mT p1.toNatClampNeg) 3) sy sm sd mi (s_X3_moved_yr yr (mD p1.toNatClampNeg) p2) (s_X3_moved_mo mo (mD p1.toNatClampNeg) p2) (s_X3_moved_dy dy (mD p1.toNatClampNeg) p2) X)) (rest := []) (ci := 3) (q0 := 0) C (c_X3_comes l hfl D cI cJ X z (s_X3_fails_co 0) d ti sL bL mD mT sy sm sd mi (s_X3_moved_yr yr (mD p1.toNatClampNeg) p2) (s_X3_moved_mo mo (mD p1.toNatClampNeg) p2) (s_X3_moved_dy dy (mD p1.toNatClampNeg) p2) p4 (f_X3_moved (mD p1.toNatClampNeg) p2 p3) (mT p1.toNatClampNeg) (3 : Int32) (vpMSlot h17)) q_X3_comes rfl rfl rfl gX3_moveMoment_X3_comes ⟨rfl, rfl⟩ rfl rfl (Nat.le_of_ble_eq_true rfl) ⟨Nat.le_of_ble_eq_true rfl, Nat.le_of_ble_eq_true rfl⟩ ⟨Nat.le_of_ble_eq_true rfl, Nat.le_of_ble_eq_true rfl⟩ dX3_moveMoment_138 ?_
      exact z_lret C ⟨congrArg (fun v => some (Value.long v)) (by rw [f_X3_moveMoment, if_pos h5, if_pos h14] : (f_X3_comes (f_X3_moved (mD p1.toNatClampNeg) p2 p3) 3) = (f_X3_moveMoment mD mT p1 p2 p3 p4)), by rw [s_X3_moveMoment_co, if_pos h5, if_pos h14, s_X3_moveMoment_mD, if_pos h5, if_pos h14, s_X3_moveMoment_mT, if_pos h5, if_pos h14, s_X3_moveMoment_yr, if_pos h5, if_pos h14, s_X3_moveMoment_mo, if_pos h5, if_pos h14, s_X3_moveMoment_dy, if_pos h5, if_pos h14]⟩ (by decide) (by decide) dX3_moveMoment_141
    have K2_1 : f_X3_moveMoment_j2 p1 p2 p3 p4 = 1 → ZW p l e { frames := 7, cells := 0, slots := 0, locals := 169 } s m args below meth c 13 D (zTys cI cJ) A (zE D (zTys cI cJ) A below args s (fun v w => v = some (.long (f_X3_moveMoment mD mT p1 p2 p3 p4)) ∧ w = (wM cI cJ z (s_X3_moveMoment_co mD mT p1 p2 p3 p4) d ti sL bL (s_X3_moveMoment_mD mD mT p1 p2 p3 p4) (s_X3_moveMoment_mT mD mT p1 p2 p3 p4) sy sm sd mi (s_X3_moveMoment_yr mD yr p1 p2 p3 p4) (s_X3_moveMoment_mo mD mo p1 p2 p3 p4) (s_X3_moveMoment_dy mD dy p1 p2 p3 p4) X)) (fun _ _ => False) 0 0) 0 0 (wM cI cJ z co d ti sL bL mD mT sy sm sd mi yr mo dy X) 103 [(6, .int 0), (0, .ref (z 0)), (1, .int p1), (2, .int p2), (3, .long p3), (5, .int p4)] [.int 1, .ref (z 0)] := by
      intro h19
      refine z_wi (ws' := (wM cI cJ z (s_X3_fails_co 1) d ti sL bL mD mT sy sm sd mi yr mo dy X)) (rest := []) (ci := 3) (q0 := 0) C (c_X3_fails l hfl D cI cJ X z co d ti sL bL mD mT sy sm sd mi yr mo dy (1 : Int32) ) q_X3_fails rfl rfl rfl gX3_moveMoment_X3_fails ⟨rfl, rfl⟩ rfl rfl (Nat.le_of_ble_eq_true rfl) ⟨Nat.le_of_ble_eq_true rfl, Nat.le_of_ble_eq_true rfl⟩ ⟨Nat.le_of_ble_eq_true rfl, Nat.le_of_ble_eq_true rfl⟩ dX3_moveMoment_103 ?_
      refine z_eqst (st' := [.int 1]) (congrArg (fun v => Value.int v :: _) (by decide : (f_X3_fails 1) = (1 : Int32))) ?_
      refine z_if_eq (tgt := 111) C dX3_moveMoment_106 (by decide) (fun h => absurd h (by decide)) (fun _ => ?_)
      refine z_lconst (v := 0) C dX3_moveMoment_109 (by decide) ?_
      exact z_lret C ⟨congrArg (fun v => some (Value.long v)) (by rw [f_X3_moveMoment, if_pos h5, if_neg (by rw [h19]; decide : ¬ f_X3_moveMoment_j2 p1 p2 p3 p4 = 0), if_pos h19] : (0 : Int64) = (f_X3_moveMoment mD mT p1 p2 p3 p4)), by rw [s_X3_moveMoment_co, if_pos h5, if_neg (by rw [h19]; decide : ¬ f_X3_moveMoment_j2 p1 p2 p3 p4 = 0), if_pos h19, s_X3_moveMoment_mD, if_pos h5, if_neg (by rw [h19]; decide : ¬ f_X3_moveMoment_j2 p1 p2 p3 p4 = 0), if_pos h19, s_X3_moveMoment_mT, if_pos h5, if_neg (by rw [h19]; decide : ¬ f_X3_moveMoment_j2 p1 p2 p3 p4 = 0), if_pos h19, s_X3_moveMoment_yr, if_pos h5, if_neg (by rw [h19]; decide : ¬ f_X3_moveMoment_j2 p1 p2 p3 p4 = 0), if_pos h19, s_X3_moveMoment_mo, if_pos h5, if_neg (by rw [h19]; decide : ¬ f_X3_moveMoment_j2 p1 p2 p3 p4 = 0), if_pos h19, s_X3_moveMoment_dy, if_pos h5, if_neg (by rw [h19]; decide : ¬ f_X3_moveMoment_j2 p1 p2 p3 p4 = 0), if_pos h19]⟩ (by decide) (by decide) dX3_moveMoment_110
    have K2_2 : f_X3_moveMoment_j2 p1 p2 p3 p4 = 2 → (¬ (f_X3_isSlot p1) = 0) → (¬ (f_X3_isSlot p4) = 0) → ZW p l e { frames := 7, cells := 0, slots := 0, locals := 169 } s m args below meth c 13 D (zTys cI cJ) A (zE D (zTys cI cJ) A below args s (fun v w => v = some (.long (f_X3_moveMoment mD mT p1 p2 p3 p4)) ∧ w = (wM cI cJ z (s_X3_moveMoment_co mD mT p1 p2 p3 p4) d ti sL bL (s_X3_moveMoment_mD mD mT p1 p2 p3 p4) (s_X3_moveMoment_mT mD mT p1 p2 p3 p4) sy sm sd mi (s_X3_moveMoment_yr mD yr p1 p2 p3 p4) (s_X3_moveMoment_mo mD mo p1 p2 p3 p4) (s_X3_moveMoment_dy mD dy p1 p2 p3 p4) X)) (fun _ _ => False) 0 0) 0 0 (wM cI cJ z co d ti sL bL mD mT sy sm sd mi yr mo dy X) 103 [(6, .int 0), (0, .ref (z 0)), (1, .int p1), (2, .int p2), (3, .long p3), (5, .int p4)] [.int 2, .ref (z 0)] := by
      intro h20 h21 h22
      refine z_wi (ws' := (wM cI cJ z (s_X3_fails_co 2) d ti sL bL mD mT sy sm sd mi yr mo dy X)) (rest := []) (ci := 3) (q0 := 0) C (c_X3_fails l hfl D cI cJ X z co d ti sL bL mD mT sy sm sd mi yr mo dy (2 : Int32) ) q_X3_fails rfl rfl rfl gX3_moveMoment_X3_fails ⟨rfl, rfl⟩ rfl rfl (Nat.le_of_ble_eq_true rfl) ⟨Nat.le_of_ble_eq_true rfl, Nat.le_of_ble_eq_true rfl⟩ ⟨Nat.le_of_ble_eq_true rfl, Nat.le_of_ble_eq_true rfl⟩ dX3_moveMoment_103 ?_
      refine z_eqst (st' := [.int 1]) (congrArg (fun v => Value.int v :: _) (by decide : (f_X3_fails 2) = (1 : Int32))) ?_
      refine z_if_eq (tgt := 111) C dX3_moveMoment_106 (by decide) (fun h => absurd h (by decide)) (fun _ => ?_)
      refine z_lconst (v := 0) C dX3_moveMoment_109 (by decide) ?_
      exact z_lret C ⟨congrArg (fun v => some (Value.long v)) (by rw [f_X3_moveMoment, if_pos h5, if_neg (by rw [h20]; decide : ¬ f_X3_moveMoment_j2 p1 p2 p3 p4 = 0), if_neg (by rw [h20]; decide : ¬ f_X3_moveMoment_j2 p1 p2 p3 p4 = 1)] : (0 : Int64) = (f_X3_moveMoment mD mT p1 p2 p3 p4)), by rw [s_X3_moveMoment_co, if_pos h5, if_neg (by rw [h20]; decide : ¬ f_X3_moveMoment_j2 p1 p2 p3 p4 = 0), if_neg (by rw [h20]; decide : ¬ f_X3_moveMoment_j2 p1 p2 p3 p4 = 1), s_X3_moveMoment_mD, if_pos h5, if_neg (by rw [h20]; decide : ¬ f_X3_moveMoment_j2 p1 p2 p3 p4 = 0), if_neg (by rw [h20]; decide : ¬ f_X3_moveMoment_j2 p1 p2 p3 p4 = 1), s_X3_moveMoment_mT, if_pos h5, if_neg (by rw [h20]; decide : ¬ f_X3_moveMoment_j2 p1 p2 p3 p4 = 0), if_neg (by rw [h20]; decide : ¬ f_X3_moveMoment_j2 p1 p2 p3 p4 = 1), s_X3_moveMoment_yr, if_pos h5, if_neg (by rw [h20]; decide : ¬ f_X3_moveMoment_j2 p1 p2 p3 p4 = 0), if_neg (by rw [h20]; decide : ¬ f_X3_moveMoment_j2 p1 p2 p3 p4 = 1), s_X3_moveMoment_mo, if_pos h5, if_neg (by rw [h20]; decide : ¬ f_X3_moveMoment_j2 p1 p2 p3 p4 = 0), if_neg (by rw [h20]; decide : ¬ f_X3_moveMoment_j2 p1 p2 p3 p4 = 1), s_X3_moveMoment_dy, if_pos h5, if_neg (by rw [h20]; decide : ¬ f_X3_moveMoment_j2 p1 p2 p3 p4 = 0), if_neg (by rw [h20]; decide : ¬ f_X3_moveMoment_j2 p1 p2 p3 p4 = 1)]⟩ (by decide) (by decide) dX3_moveMoment_110
    refine z_if_eq (tgt := 47) C dX3_moveMoment_36 (by decide) (fun h10 => ?_) (fun h10 => ?_)
    · refine z_iconst (v := 1) C dX3_moveMoment_47 (by decide) ?_
      refine z_goto (tgt := 103) C dX3_moveMoment_48 (by decide) ?_
      exact K2_1 (by rw [f_X3_moveMoment_j2, if_pos h10]) 
    · refine z_iload C dX3_moveMoment_39 5 rfl ?_
      refine z_si (rest := [.ref (z 0)]) C (c_X3_isSlot l hfl D cI cJ _ p4 ) q_X3_isSlot gX3_moveMoment_X3_isSlot ⟨rfl, rfl⟩ rfl rfl (Nat.le_of_ble_eq_true rfl) ⟨Nat.le_of_ble_eq_true rfl, Nat.le_of_ble_eq_true rfl⟩ ⟨Nat.le_of_ble_eq_true rfl, Nat.le_of_ble_eq_true rfl⟩ dX3_moveMoment_41 ?_
      refine z_if_ne (tgt := 51) C dX3_moveMoment_44 (by decide) (fun h11 => ?_) (fun h11 => ?_)
      · refine z_iload C dX3_moveMoment_51 0 rfl ?_
        refine z_if_ne (tgt := 63) C dX3_moveMoment_53 (by decide) (fun h => absurd rfl h) (fun _ => ?_)
        refine z_iload_n C dX3_moveMoment_56 rfl 3 rfl ?_
        refine z_si (rest := [.ref (z 0)]) C (c_X3_isUnit l hfl D cI cJ _ p2 ) q_X3_isUnit gX3_moveMoment_X3_isUnit ⟨rfl, rfl⟩ rfl rfl (Nat.le_of_ble_eq_true rfl) ⟨Nat.le_of_ble_eq_true rfl, Nat.le_of_ble_eq_true rfl⟩ ⟨Nat.le_of_ble_eq_true rfl, Nat.le_of_ble_eq_true rfl⟩ dX3_moveMoment_57 ?_
        refine z_if_eq (tgt := 102) C dX3_moveMoment_60 (by decide) (fun h12 => ?_) (fun h12 => ?_)
        · refine z_iconst (v := 2) C dX3_moveMoment_102 (by decide) ?_
          exact K2_2 (by rw [f_X3_moveMoment_j2, if_neg h10, if_neg h11, if_pos h12]) h10 h11
        · refine z_lload_n C dX3_moveMoment_63 rfl 4 rfl ?_
          refine z_iload C dX3_moveMoment_64 0 rfl ?_
          refine z_if_eq (tgt := 75) C dX3_moveMoment_66 (by decide) (fun _ => ?_) (fun h => absurd (by decide) h)
          refine z_ldc2 (v := (-1000000)) C w1 dX3_moveMoment_75 ?_
          refine z_iload C dX3_moveMoment_78 0 rfl ?_
          refine z_if_eq (tgt := 89) C dX3_moveMoment_80 (by decide) (fun _ => ?_) (fun h => absurd (by decide) h)
          refine z_ldc2 (v := 1000000) C w2 dX3_moveMoment_89 ?_
          refine z_si (rest := [.ref (z 0)]) C (c_X3_in l hfl D cI cJ _ p3 ((-1000000) : Int64) (1000000 : Int64) ) q_X3_in gX3_moveMoment_X3_in ⟨rfl, rfl⟩ rfl rfl (Nat.le_of_ble_eq_true rfl) ⟨Nat.le_of_ble_eq_true rfl, Nat.le_of_ble_eq_true rfl⟩ ⟨Nat.le_of_ble_eq_true rfl, Nat.le_of_ble_eq_true rfl⟩ dX3_moveMoment_92 ?_
          refine z_if_eq (tgt := 102) C dX3_moveMoment_95 (by decide) (fun h13 => ?_) (fun h13 => ?_)
          · refine z_iconst (v := 2) C dX3_moveMoment_102 (by decide) ?_
            exact K2_2 (by rw [f_X3_moveMoment_j2, if_neg h10, if_neg h11, if_neg h12, if_pos h13]) h10 h11
          · refine z_iconst (v := 0) C dX3_moveMoment_98 (by decide) ?_
            refine z_goto (tgt := 103) C dX3_moveMoment_99 (by decide) ?_
            exact K2_0 (by rw [f_X3_moveMoment_j2, if_neg h10, if_neg h11, if_neg h12, if_neg h13]) h13 h10 h11 h12
      · refine z_iconst (v := 1) C dX3_moveMoment_47 (by decide) ?_
        refine z_goto (tgt := 103) C dX3_moveMoment_48 (by decide) ?_
        exact K2_1 (by rw [f_X3_moveMoment_j2, if_neg h10, if_pos h11]) 
  have K1_1 : f_X3_moveMoment_j1 p2 = 1 → ZW p l e { frames := 7, cells := 0, slots := 0, locals := 169 } s m args below meth c 13 D (zTys cI cJ) A (zE D (zTys cI cJ) A below args s (fun v w => v = some (.long (f_X3_moveMoment mD mT p1 p2 p3 p4)) ∧ w = (wM cI cJ z (s_X3_moveMoment_co mD mT p1 p2 p3 p4) d ti sL bL (s_X3_moveMoment_mD mD mT p1 p2 p3 p4) (s_X3_moveMoment_mT mD mT p1 p2 p3 p4) sy sm sd mi (s_X3_moveMoment_yr mD yr p1 p2 p3 p4) (s_X3_moveMoment_mo mD mo p1 p2 p3 p4) (s_X3_moveMoment_dy mD dy p1 p2 p3 p4) X)) (fun _ _ => False) 0 0) 0 0 (wM cI cJ z co d ti sL bL mD mT sy sm sd mi yr mo dy X) 29 [(0, .ref (z 0)), (1, .int p1), (2, .int p2), (3, .long p3), (5, .int p4)] [.int 1] := by
    intro h23
    refine z_istore (lv' := [(6, .int 1), (0, .ref (z 0)), (1, .int p1), (2, .int p2), (3, .long p3), (5, .int p4)]) C dX3_moveMoment_29 (by decide) rfl ?_
    refine z_aload_n C dX3_moveMoment_31 rfl 1 rfl ?_
    refine z_iload_n C dX3_moveMoment_32 rfl 2 rfl ?_
    refine z_si (rest := [.ref (z 0)]) C (c_X3_isSlot l hfl D cI cJ _ p1 ) q_X3_isSlot gX3_moveMoment_X3_isSlot ⟨rfl, rfl⟩ rfl rfl (Nat.le_of_ble_eq_true rfl) ⟨Nat.le_of_ble_eq_true rfl, Nat.le_of_ble_eq_true rfl⟩ ⟨Nat.le_of_ble_eq_true rfl, Nat.le_of_ble_eq_true rfl⟩ dX3_moveMoment_33 ?_
    have K3_0 : f_X3_moveMoment_j3 p1 p3 p4 = 0 → (¬ (f_X3_in p3 (-1000000000000000) 1000000000000000) = 0) → (¬ (f_X3_isSlot p1) = 0) → (¬ (f_X3_isSlot p4) = 0) → ZW p l e { frames := 7, cells := 0, slots := 0, locals := 169 } s m args below meth c 13 D (zTys cI cJ) A (zE D (zTys cI cJ) A below args s (fun v w => v = some (.long (f_X3_moveMoment mD mT p1 p2 p3 p4)) ∧ w = (wM cI cJ z (s_X3_moveMoment_co mD mT p1 p2 p3 p4) d ti sL bL (s_X3_moveMoment_mD mD mT p1 p2 p3 p4) (s_X3_moveMoment_mT mD mT p1 p2 p3 p4) sy sm sd mi (s_X3_moveMoment_yr mD yr p1 p2 p3 p4) (s_X3_moveMoment_mo mD mo p1 p2 p3 p4) (s_X3_moveMoment_dy mD dy p1 p2 p3 p4) X)) (fun _ _ => False) 0 0) 0 0 (wM cI cJ z co d ti sL bL mD mT sy sm sd mi yr mo dy X) 103 [(6, .int 1), (0, .ref (z 0)), (1, .int p1), (2, .int p2), (3, .long p3), (5, .int p4)] [.int 0, .ref (z 0)] := by
      intro h27 h28 h29 h30
      refine z_wi (ws' := (wM cI cJ z (s_X3_fails_co 0) d ti sL bL mD mT sy sm sd mi yr mo dy X)) (rest := []) (ci := 3) (q0 := 0) C (c_X3_fails l hfl D cI cJ X z co d ti sL bL mD mT sy sm sd mi yr mo dy (0 : Int32) ) q_X3_fails rfl rfl rfl gX3_moveMoment_X3_fails ⟨rfl, rfl⟩ rfl rfl (Nat.le_of_ble_eq_true rfl) ⟨Nat.le_of_ble_eq_true rfl, Nat.le_of_ble_eq_true rfl⟩ ⟨Nat.le_of_ble_eq_true rfl, Nat.le_of_ble_eq_true rfl⟩ dX3_moveMoment_103 ?_
      refine z_eqst (st' := [.int 0]) (congrArg (fun v => Value.int v :: _) (by decide : (f_X3_fails 0) = (0 : Int32))) ?_
      refine z_if_eq (tgt := 111) C dX3_moveMoment_106 (by decide) (fun _ => ?_) (fun h => absurd (by decide) h)
      refine z_iload C dX3_moveMoment_111 0 rfl ?_
      refine z_if_ne (tgt := 142) C dX3_moveMoment_113 (by decide) (fun _ => ?_) (fun h => absurd h (by decide))
      refine z_iload_n C dX3_moveMoment_142 rfl 3 rfl ?_
      refine z_bipush (v := 104) C dX3_moveMoment_143 (by decide) ?_
      have K4_1 : f_X3_moveMoment_j4 p2 = 1 → (¬ p2 = 104) → (¬ p2 = 105) → (¬ p2 = 115) → ZW p l e { frames := 7, cells := 0, slots := 0, locals := 169 } s m args below meth c 13 D (zTys cI cJ) A (zE D (zTys cI cJ) A below args s (fun v w => v = some (.long (f_X3_moveMoment mD mT p1 p2 p3 p4)) ∧ w = (wM cI cJ z (s_X3_moveMoment_co mD mT p1 p2 p3 p4) d ti sL bL (s_X3_moveMoment_mD mD mT p1 p2 p3 p4) (s_X3_moveMoment_mT mD mT p1 p2 p3 p4) sy sm sd mi (s_X3_moveMoment_yr mD yr p1 p2 p3 p4) (s_X3_moveMoment_mo mD mo p1 p2 p3 p4) (s_X3_moveMoment_dy mD dy p1 p2 p3 p4) X)) (fun _ _ => False) 0 0) 0 0 (wM cI cJ z (s_X3_fails_co 0) d ti sL bL mD mT sy sm sd mi yr mo dy X) 179 [(6, .int 1), (0, .ref (z 0)), (1, .int p1), (2, .int p2), (3, .long p3), (5, .int p4)] [.long 1] := by
        intro h34 h35 h36 h37
        refine z_lstore (lv' := [(7, .long 1), (6, .int 1), (0, .ref (z 0)), (1, .int p1), (2, .int p2), (3, .long p3), (5, .int p4)]) C dX3_moveMoment_179 (by decide) rfl ?_
        refine z_ldc2 (v := 86400000000000) C w10 dX3_moveMoment_181 ?_
        refine z_lload C dX3_moveMoment_184 0 rfl ?_
        refine z_ldiv C dX3_moveMoment_186 (by decide) ?_
        refine z_lstore (lv' := [(9, .long (86400000000000 / 1)), (7, .long 1), (6, .int 1), (0, .ref (z 0)), (1, .int p1), (2, .int p2), (3, .long p3), (5, .int p4)]) C dX3_moveMoment_187 (by decide) rfl ?_
        refine z_aload_n C dX3_moveMoment_189 rfl 3 rfl ?_
        refine z_get (CC := RX3) (T := TX3) (N := 14) (ci := 3) C hin 0 rfl rfl 6 (by decide) w4 rfl rfl dX3_moveMoment_190 ?_
        refine z_iload_n C dX3_moveMoment_193 rfl 4 rfl ?_
        refine z_lald C 6 1 rfl rfl (vpMSlot h29) dX3_moveMoment_194 ?_
        refine z_lload_n C dX3_moveMoment_195 rfl 6 rfl ?_
        refine z_lload C dX3_moveMoment_196 0 rfl ?_
        refine z_sl (rest := [.long (mT p1.toNatClampNeg)]) C (c_X3_rest l hfl D cI cJ _ p3 (86400000000000 / 1) (by decide)) q_X3_rest gX3_moveMoment_X3_rest ⟨rfl, rfl⟩ rfl rfl (Nat.le_of_ble_eq_true rfl) ⟨Nat.le_of_ble_eq_true rfl, Nat.le_of_ble_eq_true rfl⟩ ⟨Nat.le_of_ble_eq_true rfl, Nat.le_of_ble_eq_true rfl⟩ dX3_moveMoment_198 ?_
        refine z_lload C dX3_moveMoment_201 1 rfl ?_
        refine z_lmul C dX3_moveMoment_203 ?_
        refine z_ladd C dX3_moveMoment_204 ?_
        refine z_lstore (lv' := [(11, .long ((mT p1.toNatClampNeg) + ((f_X3_rest p3 (86400000000000 / 1)) * 1))), (9, .long (86400000000000 / 1)), (7, .long 1), (6, .int 1), (0, .ref (z 0)), (1, .int p1), (2, .int p2), (3, .long p3), (5, .int p4)]) C dX3_moveMoment_205 (by decide) rfl ?_
        refine z_aload_n C dX3_moveMoment_207 rfl 4 rfl ?_
        refine z_iload C dX3_moveMoment_208 8 rfl ?_
        refine z_aload_n C dX3_moveMoment_210 rfl 4 rfl ?_
        refine z_get (CC := RX3) (T := TX3) (N := 14) (ci := 3) C hin 0 rfl rfl 5 (by decide) w3 rfl rfl dX3_moveMoment_211 ?_
        refine z_iload_n C dX3_moveMoment_214 rfl 5 rfl ?_
        refine z_lald C 5 1 rfl rfl (vpMSlot h29) dX3_moveMoment_215 ?_
        refine z_lload_n C dX3_moveMoment_216 rfl 7 rfl ?_
        refine z_lload C dX3_moveMoment_217 1 rfl ?_
        refine z_sl (rest := [.long (mD p1.toNatClampNeg), .int p4, .ref (z 0)]) C (c_X3_floor l hfl D cI cJ _ p3 (86400000000000 / 1) (by decide)) q_X3_floor gX3_moveMoment_X3_floor ⟨rfl, rfl⟩ rfl rfl (Nat.le_of_ble_eq_true rfl) ⟨Nat.le_of_ble_eq_true rfl, Nat.le_of_ble_eq_true rfl⟩ ⟨Nat.le_of_ble_eq_true rfl, Nat.le_of_ble_eq_true rfl⟩ dX3_moveMoment_219 ?_
        refine z_ladd C dX3_moveMoment_222 ?_
        refine z_lload C dX3_moveMoment_223 0 rfl ?_
        refine z_ldc2 (v := 86400000000000) C w10 dX3_moveMoment_225 ?_
        refine z_sl (rest := [.long ((mD p1.toNatClampNeg) + (f_X3_floor p3 (86400000000000 / 1))), .int p4, .ref (z 0)]) C (c_X3_floor l hfl D cI cJ _ ((mT p1.toNatClampNeg) + ((f_X3_rest p3 (86400000000000 / 1)) * 1)) (86400000000000 : Int64) (by decide)) q_X3_floor gX3_moveMoment_X3_floor ⟨rfl, rfl⟩ rfl rfl (Nat.le_of_ble_eq_true rfl) ⟨Nat.le_of_ble_eq_true rfl, Nat.le_of_ble_eq_true rfl⟩ ⟨Nat.le_of_ble_eq_true rfl, Nat.le_of_ble_eq_true rfl⟩ dX3_moveMoment_228 ?_
        refine z_ladd C dX3_moveMoment_231 ?_
        refine z_lload C dX3_moveMoment_232 0 rfl ?_
        refine z_ldc2 (v := 86400000000000) C w10 dX3_moveMoment_234 ?_
        refine z_sl (rest := [.long (((mD p1.toNatClampNeg) + (f_X3_floor p3 (86400000000000 / 1))) + (f_X3_floor ((mT p1.toNatClampNeg) + ((f_X3_rest p3 (86400000000000 / 1)) * 1)) 86400000000000)), .int p4, .ref (z 0)]) C (c_X3_rest l hfl D cI cJ _ ((mT p1.toNatClampNeg) + ((f_X3_rest p3 (86400000000000 / 1)) * 1)) (86400000000000 : Int64) (by decide)) q_X3_rest gX3_moveMoment_X3_rest ⟨rfl, rfl⟩ rfl rfl (Nat.le_of_ble_eq_true rfl) ⟨Nat.le_of_ble_eq_true rfl, Nat.le_of_ble_eq_true rfl⟩ ⟨Nat.le_of_ble_eq_true rfl, Nat.le_of_ble_eq_true rfl⟩ dX3_moveMoment_237 ?_
        refine z_iconst (v := 3) C dX3_moveMoment_240 (by decide) ?_
        refine z_wl (ws' := (wM cI cJ z (s_X3_comes_co (((mD p1.toNatClampNeg) + (f_X3_floor p3 (86400000000000 / 1))) + (f_X3_floor ((mT p1.toNatClampNeg) + ((f_X3_rest p3 (86400000000000 / 1)) * 1)) 86400000000000)) 3) d ti sL bL (s_X3_comes_mD mD p4 (((mD p1.toNatClampNeg) + (f_X3_floor p3 (86400000000000 / 1))) + (f_X3_floor ((mT p1.toNatClampNeg) + ((f_X3_rest p3 (86400000000000 / 1)) * 1)) 86400000000000)) 3) (s_X3_comes_mT mT p4 (((mD p1.toNatClampNeg) + (f_X3_floor p3 (86400000000000 / 1))) + (f_X3_floor ((mT p1.toNatClampNeg) + ((f_X3_rest p3 (86400000000000 / 1)) * 1)) 86400000000000)) (f_X3_rest ((mT p1.toNatClampNeg) + ((f_X3_rest p3 (86400000000000 / 1)) * 1)) 86400000000000) 3) sy sm sd mi yr mo dy X)) (rest := []) (ci := 3) (q0 := 0) C (c_X3_comes l hfl D cI cJ X z (s_X3_fails_co 0) d ti sL bL mD mT sy sm sd mi yr mo dy p4 (((mD p1.toNatClampNeg) + (f_X3_floor p3 (86400000000000 / 1))) + (f_X3_floor ((mT p1.toNatClampNeg) + ((f_X3_rest p3 (86400000000000 / 1)) * 1)) 86400000000000)) (f_X3_rest ((mT p1.toNatClampNeg) + ((f_X3_rest p3 (86400000000000 / 1)) * 1)) 86400000000000) (3 : Int32) (vpMSlot h30)) q_X3_comes rfl rfl rfl gX3_moveMoment_X3_comes ⟨rfl, rfl⟩ rfl rfl (Nat.le_of_ble_eq_true rfl) ⟨Nat.le_of_ble_eq_true rfl, Nat.le_of_ble_eq_true rfl⟩ ⟨Nat.le_of_ble_eq_true rfl, Nat.le_of_ble_eq_true rfl⟩ dX3_moveMoment_241 ?_
        exact z_lret C ⟨congrArg (fun v => some (Value.long v)) (by rw [f_X3_moveMoment, if_neg (by rw [h23]; decide : ¬ f_X3_moveMoment_j1 p2 = 0), if_pos h27, if_pos h34] : (f_X3_comes (((mD p1.toNatClampNeg) + (f_X3_floor p3 (86400000000000 / 1))) + (f_X3_floor ((mT p1.toNatClampNeg) + ((f_X3_rest p3 (86400000000000 / 1)) * 1)) 86400000000000)) 3) = (f_X3_moveMoment mD mT p1 p2 p3 p4)), by rw [s_X3_moveMoment_co, if_neg (by rw [h23]; decide : ¬ f_X3_moveMoment_j1 p2 = 0), if_pos h27, if_pos h34, s_X3_moveMoment_mD, if_neg (by rw [h23]; decide : ¬ f_X3_moveMoment_j1 p2 = 0), if_pos h27, if_pos h34, s_X3_moveMoment_mT, if_neg (by rw [h23]; decide : ¬ f_X3_moveMoment_j1 p2 = 0), if_pos h27, if_pos h34, s_X3_moveMoment_yr, if_neg (by rw [h23]; decide : ¬ f_X3_moveMoment_j1 p2 = 0), if_pos h27, if_pos h34, s_X3_moveMoment_mo, if_neg (by rw [h23]; decide : ¬ f_X3_moveMoment_j1 p2 = 0), if_pos h27, if_pos h34, s_X3_moveMoment_dy, if_neg (by rw [h23]; decide : ¬ f_X3_moveMoment_j1 p2 = 0), if_pos h27, if_pos h34]⟩ (by decide) (by decide) dX3_moveMoment_244
      have K4_1000000000 : f_X3_moveMoment_j4 p2 = 1000000000 → (¬ p2 = 104) → (¬ p2 = 105) → (p2 = 115) → ZW p l e { frames := 7, cells := 0, slots := 0, locals := 169 } s m args below meth c 13 D (zTys cI cJ) A (zE D (zTys cI cJ) A below args s (fun v w => v = some (.long (f_X3_moveMoment mD mT p1 p2 p3 p4)) ∧ w = (wM cI cJ z (s_X3_moveMoment_co mD mT p1 p2 p3 p4) d ti sL bL (s_X3_moveMoment_mD mD mT p1 p2 p3 p4) (s_X3_moveMoment_mT mD mT p1 p2 p3 p4) sy sm sd mi (s_X3_moveMoment_yr mD yr p1 p2 p3 p4) (s_X3_moveMoment_mo mD mo p1 p2 p3 p4) (s_X3_moveMoment_dy mD dy p1 p2 p3 p4) X)) (fun _ _ => False) 0 0) 0 0 (wM cI cJ z (s_X3_fails_co 0) d ti sL bL mD mT sy sm sd mi yr mo dy X) 179 [(6, .int 1), (0, .ref (z 0)), (1, .int p1), (2, .int p2), (3, .long p3), (5, .int p4)] [.long 1000000000] := by
        intro h38 h39 h40 h41
        refine z_lstore (lv' := [(7, .long 1000000000), (6, .int 1), (0, .ref (z 0)), (1, .int p1), (2, .int p2), (3, .long p3), (5, .int p4)]) C dX3_moveMoment_179 (by decide) rfl ?_
        refine z_ldc2 (v := 86400000000000) C w10 dX3_moveMoment_181 ?_
        refine z_lload C dX3_moveMoment_184 0 rfl ?_
        refine z_ldiv C dX3_moveMoment_186 (by decide) ?_
        refine z_lstore (lv' := [(9, .long (86400000000000 / 1000000000)), (7, .long 1000000000), (6, .int 1), (0, .ref (z 0)), (1, .int p1), (2, .int p2), (3, .long p3), (5, .int p4)]) C dX3_moveMoment_187 (by decide) rfl ?_
        refine z_aload_n C dX3_moveMoment_189 rfl 3 rfl ?_
        refine z_get (CC := RX3) (T := TX3) (N := 14) (ci := 3) C hin 0 rfl rfl 6 (by decide) w4 rfl rfl dX3_moveMoment_190 ?_
        refine z_iload_n C dX3_moveMoment_193 rfl 4 rfl ?_
        refine z_lald C 6 1 rfl rfl (vpMSlot h29) dX3_moveMoment_194 ?_
        refine z_lload_n C dX3_moveMoment_195 rfl 6 rfl ?_
        refine z_lload C dX3_moveMoment_196 0 rfl ?_
        refine z_sl (rest := [.long (mT p1.toNatClampNeg)]) C (c_X3_rest l hfl D cI cJ _ p3 (86400000000000 / 1000000000) (by decide)) q_X3_rest gX3_moveMoment_X3_rest ⟨rfl, rfl⟩ rfl rfl (Nat.le_of_ble_eq_true rfl) ⟨Nat.le_of_ble_eq_true rfl, Nat.le_of_ble_eq_true rfl⟩ ⟨Nat.le_of_ble_eq_true rfl, Nat.le_of_ble_eq_true rfl⟩ dX3_moveMoment_198 ?_
        refine z_lload C dX3_moveMoment_201 1 rfl ?_
        refine z_lmul C dX3_moveMoment_203 ?_
        refine z_ladd C dX3_moveMoment_204 ?_
        refine z_lstore (lv' := [(11, .long ((mT p1.toNatClampNeg) + ((f_X3_rest p3 (86400000000000 / 1000000000)) * 1000000000))), (9, .long (86400000000000 / 1000000000)), (7, .long 1000000000), (6, .int 1), (0, .ref (z 0)), (1, .int p1), (2, .int p2), (3, .long p3), (5, .int p4)]) C dX3_moveMoment_205 (by decide) rfl ?_
        refine z_aload_n C dX3_moveMoment_207 rfl 4 rfl ?_
        refine z_iload C dX3_moveMoment_208 8 rfl ?_
        refine z_aload_n C dX3_moveMoment_210 rfl 4 rfl ?_
        refine z_get (CC := RX3) (T := TX3) (N := 14) (ci := 3) C hin 0 rfl rfl 5 (by decide) w3 rfl rfl dX3_moveMoment_211 ?_
        refine z_iload_n C dX3_moveMoment_214 rfl 5 rfl ?_
        refine z_lald C 5 1 rfl rfl (vpMSlot h29) dX3_moveMoment_215 ?_
        refine z_lload_n C dX3_moveMoment_216 rfl 7 rfl ?_
        refine z_lload C dX3_moveMoment_217 1 rfl ?_
        refine z_sl (rest := [.long (mD p1.toNatClampNeg), .int p4, .ref (z 0)]) C (c_X3_floor l hfl D cI cJ _ p3 (86400000000000 / 1000000000) (by decide)) q_X3_floor gX3_moveMoment_X3_floor ⟨rfl, rfl⟩ rfl rfl (Nat.le_of_ble_eq_true rfl) ⟨Nat.le_of_ble_eq_true rfl, Nat.le_of_ble_eq_true rfl⟩ ⟨Nat.le_of_ble_eq_true rfl, Nat.le_of_ble_eq_true rfl⟩ dX3_moveMoment_219 ?_
        refine z_ladd C dX3_moveMoment_222 ?_
        refine z_lload C dX3_moveMoment_223 0 rfl ?_
        refine z_ldc2 (v := 86400000000000) C w10 dX3_moveMoment_225 ?_
        refine z_sl (rest := [.long ((mD p1.toNatClampNeg) + (f_X3_floor p3 (86400000000000 / 1000000000))), .int p4, .ref (z 0)]) C (c_X3_floor l hfl D cI cJ _ ((mT p1.toNatClampNeg) + ((f_X3_rest p3 (86400000000000 / 1000000000)) * 1000000000)) (86400000000000 : Int64) (by decide)) q_X3_floor gX3_moveMoment_X3_floor ⟨rfl, rfl⟩ rfl rfl (Nat.le_of_ble_eq_true rfl) ⟨Nat.le_of_ble_eq_true rfl, Nat.le_of_ble_eq_true rfl⟩ ⟨Nat.le_of_ble_eq_true rfl, Nat.le_of_ble_eq_true rfl⟩ dX3_moveMoment_228 ?_
        refine z_ladd C dX3_moveMoment_231 ?_
        refine z_lload C dX3_moveMoment_232 0 rfl ?_
        refine z_ldc2 (v := 86400000000000) C w10 dX3_moveMoment_234 ?_
        refine z_sl (rest := [.long (((mD p1.toNatClampNeg) + (f_X3_floor p3 (86400000000000 / 1000000000))) + (f_X3_floor ((mT p1.toNatClampNeg) + ((f_X3_rest p3 (86400000000000 / 1000000000)) * 1000000000)) 86400000000000)), .int p4, .ref (z 0)]) C (c_X3_rest l hfl D cI cJ _ ((mT p1.toNatClampNeg) + ((f_X3_rest p3 (86400000000000 / 1000000000)) * 1000000000)) (86400000000000 : Int64) (by decide)) q_X3_rest gX3_moveMoment_X3_rest ⟨rfl, rfl⟩ rfl rfl (Nat.le_of_ble_eq_true rfl) ⟨Nat.le_of_ble_eq_true rfl, Nat.le_of_ble_eq_true rfl⟩ ⟨Nat.le_of_ble_eq_true rfl, Nat.le_of_ble_eq_true rfl⟩ dX3_moveMoment_237 ?_
        refine z_iconst (v := 3) C dX3_moveMoment_240 (by decide) ?_
        refine z_wl (ws' := (wM cI cJ z (s_X3_comes_co (((mD p1.toNatClampNeg) + (f_X3_floor p3 (86400000000000 / 1000000000))) + (f_X3_floor ((mT p1.toNatClampNeg) + ((f_X3_rest p3 (86400000000000 / 1000000000)) * 1000000000)) 86400000000000)) 3) d ti sL bL (s_X3_comes_mD mD p4 (((mD p1.toNatClampNeg) + (f_X3_floor p3 (86400000000000 / 1000000000))) + (f_X3_floor ((mT p1.toNatClampNeg) + ((f_X3_rest p3 (86400000000000 / 1000000000)) * 1000000000)) 86400000000000)) 3) (s_X3_comes_mT mT p4 (((mD p1.toNatClampNeg) + (f_X3_floor p3 (86400000000000 / 1000000000))) + (f_X3_floor ((mT p1.toNatClampNeg) + ((f_X3_rest p3 (86400000000000 / 1000000000)) * 1000000000)) 86400000000000)) (f_X3_rest ((mT p1.toNatClampNeg) + ((f_X3_rest p3 (86400000000000 / 1000000000)) * 1000000000)) 86400000000000) 3) sy sm sd mi yr mo dy X)) (rest := []) (ci := 3) (q0 := 0) C (c_X3_comes l hfl D cI cJ X z (s_X3_fails_co 0) d ti sL bL mD mT sy sm sd mi yr mo dy p4 (((mD p1.toNatClampNeg) + (f_X3_floor p3 (86400000000000 / 1000000000))) + (f_X3_floor ((mT p1.toNatClampNeg) + ((f_X3_rest p3 (86400000000000 / 1000000000)) * 1000000000)) 86400000000000)) (f_X3_rest ((mT p1.toNatClampNeg) + ((f_X3_rest p3 (86400000000000 / 1000000000)) * 1000000000)) 86400000000000) (3 : Int32) (vpMSlot h30)) q_X3_comes rfl rfl rfl gX3_moveMoment_X3_comes ⟨rfl, rfl⟩ rfl rfl (Nat.le_of_ble_eq_true rfl) ⟨Nat.le_of_ble_eq_true rfl, Nat.le_of_ble_eq_true rfl⟩ ⟨Nat.le_of_ble_eq_true rfl, Nat.le_of_ble_eq_true rfl⟩ dX3_moveMoment_241 ?_
        exact z_lret C ⟨congrArg (fun v => some (Value.long v)) (by rw [f_X3_moveMoment, if_neg (by rw [h23]; decide : ¬ f_X3_moveMoment_j1 p2 = 0), if_pos h27, if_neg (by rw [h38]; decide : ¬ f_X3_moveMoment_j4 p2 = 1), if_pos h38] : (f_X3_comes (((mD p1.toNatClampNeg) + (f_X3_floor p3 (86400000000000 / 1000000000))) + (f_X3_floor ((mT p1.toNatClampNeg) + ((f_X3_rest p3 (86400000000000 / 1000000000)) * 1000000000)) 86400000000000)) 3) = (f_X3_moveMoment mD mT p1 p2 p3 p4)), by rw [s_X3_moveMoment_co, if_neg (by rw [h23]; decide : ¬ f_X3_moveMoment_j1 p2 = 0), if_pos h27, if_neg (by rw [h38]; decide : ¬ f_X3_moveMoment_j4 p2 = 1), if_pos h38, s_X3_moveMoment_mD, if_neg (by rw [h23]; decide : ¬ f_X3_moveMoment_j1 p2 = 0), if_pos h27, if_neg (by rw [h38]; decide : ¬ f_X3_moveMoment_j4 p2 = 1), if_pos h38, s_X3_moveMoment_mT, if_neg (by rw [h23]; decide : ¬ f_X3_moveMoment_j1 p2 = 0), if_pos h27, if_neg (by rw [h38]; decide : ¬ f_X3_moveMoment_j4 p2 = 1), if_pos h38, s_X3_moveMoment_yr, if_neg (by rw [h23]; decide : ¬ f_X3_moveMoment_j1 p2 = 0), if_pos h27, if_neg (by rw [h38]; decide : ¬ f_X3_moveMoment_j4 p2 = 1), if_pos h38, s_X3_moveMoment_mo, if_neg (by rw [h23]; decide : ¬ f_X3_moveMoment_j1 p2 = 0), if_pos h27, if_neg (by rw [h38]; decide : ¬ f_X3_moveMoment_j4 p2 = 1), if_pos h38, s_X3_moveMoment_dy, if_neg (by rw [h23]; decide : ¬ f_X3_moveMoment_j1 p2 = 0), if_pos h27, if_neg (by rw [h38]; decide : ¬ f_X3_moveMoment_j4 p2 = 1), if_pos h38]⟩ (by decide) (by decide) dX3_moveMoment_244
      have K4_60000000000 : f_X3_moveMoment_j4 p2 = 60000000000 → (¬ p2 = 104) → (p2 = 105) → ZW p l e { frames := 7, cells := 0, slots := 0, locals := 169 } s m args below meth c 13 D (zTys cI cJ) A (zE D (zTys cI cJ) A below args s (fun v w => v = some (.long (f_X3_moveMoment mD mT p1 p2 p3 p4)) ∧ w = (wM cI cJ z (s_X3_moveMoment_co mD mT p1 p2 p3 p4) d ti sL bL (s_X3_moveMoment_mD mD mT p1 p2 p3 p4) (s_X3_moveMoment_mT mD mT p1 p2 p3 p4) sy sm sd mi (s_X3_moveMoment_yr mD yr p1 p2 p3 p4) (s_X3_moveMoment_mo mD mo p1 p2 p3 p4) (s_X3_moveMoment_dy mD dy p1 p2 p3 p4) X)) (fun _ _ => False) 0 0) 0 0 (wM cI cJ z (s_X3_fails_co 0) d ti sL bL mD mT sy sm sd mi yr mo dy X) 179 [(6, .int 1), (0, .ref (z 0)), (1, .int p1), (2, .int p2), (3, .long p3), (5, .int p4)] [.long 60000000000] := by
        intro h42 h43 h44
        refine z_lstore (lv' := [(7, .long 60000000000), (6, .int 1), (0, .ref (z 0)), (1, .int p1), (2, .int p2), (3, .long p3), (5, .int p4)]) C dX3_moveMoment_179 (by decide) rfl ?_
        refine z_ldc2 (v := 86400000000000) C w10 dX3_moveMoment_181 ?_
        refine z_lload C dX3_moveMoment_184 0 rfl ?_
        refine z_ldiv C dX3_moveMoment_186 (by decide) ?_
        refine z_lstore (lv' := [(9, .long (86400000000000 / 60000000000)), (7, .long 60000000000), (6, .int 1), (0, .ref (z 0)), (1, .int p1), (2, .int p2), (3, .long p3), (5, .int p4)]) C dX3_moveMoment_187 (by decide) rfl ?_
        refine z_aload_n C dX3_moveMoment_189 rfl 3 rfl ?_
        refine z_get (CC := RX3) (T := TX3) (N := 14) (ci := 3) C hin 0 rfl rfl 6 (by decide) w4 rfl rfl dX3_moveMoment_190 ?_
        refine z_iload_n C dX3_moveMoment_193 rfl 4 rfl ?_
        refine z_lald C 6 1 rfl rfl (vpMSlot h29) dX3_moveMoment_194 ?_
        refine z_lload_n C dX3_moveMoment_195 rfl 6 rfl ?_
        refine z_lload C dX3_moveMoment_196 0 rfl ?_
        refine z_sl (rest := [.long (mT p1.toNatClampNeg)]) C (c_X3_rest l hfl D cI cJ _ p3 (86400000000000 / 60000000000) (by decide)) q_X3_rest gX3_moveMoment_X3_rest ⟨rfl, rfl⟩ rfl rfl (Nat.le_of_ble_eq_true rfl) ⟨Nat.le_of_ble_eq_true rfl, Nat.le_of_ble_eq_true rfl⟩ ⟨Nat.le_of_ble_eq_true rfl, Nat.le_of_ble_eq_true rfl⟩ dX3_moveMoment_198 ?_
        refine z_lload C dX3_moveMoment_201 1 rfl ?_
        refine z_lmul C dX3_moveMoment_203 ?_
        refine z_ladd C dX3_moveMoment_204 ?_
        refine z_lstore (lv' := [(11, .long ((mT p1.toNatClampNeg) + ((f_X3_rest p3 (86400000000000 / 60000000000)) * 60000000000))), (9, .long (86400000000000 / 60000000000)), (7, .long 60000000000), (6, .int 1), (0, .ref (z 0)), (1, .int p1), (2, .int p2), (3, .long p3), (5, .int p4)]) C dX3_moveMoment_205 (by decide) rfl ?_
        refine z_aload_n C dX3_moveMoment_207 rfl 4 rfl ?_
        refine z_iload C dX3_moveMoment_208 8 rfl ?_
        refine z_aload_n C dX3_moveMoment_210 rfl 4 rfl ?_
        refine z_get (CC := RX3) (T := TX3) (N := 14) (ci := 3) C hin 0 rfl rfl 5 (by decide) w3 rfl rfl dX3_moveMoment_211 ?_
        refine z_iload_n C dX3_moveMoment_214 rfl 5 rfl ?_
        refine z_lald C 5 1 rfl rfl (vpMSlot h29) dX3_moveMoment_215 ?_
        refine z_lload_n C dX3_moveMoment_216 rfl 7 rfl ?_
        refine z_lload C dX3_moveMoment_217 1 rfl ?_
        refine z_sl (rest := [.long (mD p1.toNatClampNeg), .int p4, .ref (z 0)]) C (c_X3_floor l hfl D cI cJ _ p3 (86400000000000 / 60000000000) (by decide)) q_X3_floor gX3_moveMoment_X3_floor ⟨rfl, rfl⟩ rfl rfl (Nat.le_of_ble_eq_true rfl) ⟨Nat.le_of_ble_eq_true rfl, Nat.le_of_ble_eq_true rfl⟩ ⟨Nat.le_of_ble_eq_true rfl, Nat.le_of_ble_eq_true rfl⟩ dX3_moveMoment_219 ?_
        refine z_ladd C dX3_moveMoment_222 ?_
        refine z_lload C dX3_moveMoment_223 0 rfl ?_
        refine z_ldc2 (v := 86400000000000) C w10 dX3_moveMoment_225 ?_
        refine z_sl (rest := [.long ((mD p1.toNatClampNeg) + (f_X3_floor p3 (86400000000000 / 60000000000))), .int p4, .ref (z 0)]) C (c_X3_floor l hfl D cI cJ _ ((mT p1.toNatClampNeg) + ((f_X3_rest p3 (86400000000000 / 60000000000)) * 60000000000)) (86400000000000 : Int64) (by decide)) q_X3_floor gX3_moveMoment_X3_floor ⟨rfl, rfl⟩ rfl rfl (Nat.le_of_ble_eq_true rfl) ⟨Nat.le_of_ble_eq_true rfl, Nat.le_of_ble_eq_true rfl⟩ ⟨Nat.le_of_ble_eq_true rfl, Nat.le_of_ble_eq_true rfl⟩ dX3_moveMoment_228 ?_
        refine z_ladd C dX3_moveMoment_231 ?_
        refine z_lload C dX3_moveMoment_232 0 rfl ?_
        refine z_ldc2 (v := 86400000000000) C w10 dX3_moveMoment_234 ?_
        refine z_sl (rest := [.long (((mD p1.toNatClampNeg) + (f_X3_floor p3 (86400000000000 / 60000000000))) + (f_X3_floor ((mT p1.toNatClampNeg) + ((f_X3_rest p3 (86400000000000 / 60000000000)) * 60000000000)) 86400000000000)), .int p4, .ref (z 0)]) C (c_X3_rest l hfl D cI cJ _ ((mT p1.toNatClampNeg) + ((f_X3_rest p3 (86400000000000 / 60000000000)) * 60000000000)) (86400000000000 : Int64) (by decide)) q_X3_rest gX3_moveMoment_X3_rest ⟨rfl, rfl⟩ rfl rfl (Nat.le_of_ble_eq_true rfl) ⟨Nat.le_of_ble_eq_true rfl, Nat.le_of_ble_eq_true rfl⟩ ⟨Nat.le_of_ble_eq_true rfl, Nat.le_of_ble_eq_true rfl⟩ dX3_moveMoment_237 ?_
        refine z_iconst (v := 3) C dX3_moveMoment_240 (by decide) ?_
        refine z_wl (ws' := (wM cI cJ z (s_X3_comes_co (((mD p1.toNatClampNeg) + (f_X3_floor p3 (86400000000000 / 60000000000))) + (f_X3_floor ((mT p1.toNatClampNeg) + ((f_X3_rest p3 (86400000000000 / 60000000000)) * 60000000000)) 86400000000000)) 3) d ti sL bL (s_X3_comes_mD mD p4 (((mD p1.toNatClampNeg) + (f_X3_floor p3 (86400000000000 / 60000000000))) + (f_X3_floor ((mT p1.toNatClampNeg) + ((f_X3_rest p3 (86400000000000 / 60000000000)) * 60000000000)) 86400000000000)) 3) (s_X3_comes_mT mT p4 (((mD p1.toNatClampNeg) + (f_X3_floor p3 (86400000000000 / 60000000000))) + (f_X3_floor ((mT p1.toNatClampNeg) + ((f_X3_rest p3 (86400000000000 / 60000000000)) * 60000000000)) 86400000000000)) (f_X3_rest ((mT p1.toNatClampNeg) + ((f_X3_rest p3 (86400000000000 / 60000000000)) * 60000000000)) 86400000000000) 3) sy sm sd mi yr mo dy X)) (rest := []) (ci := 3) (q0 := 0) C (c_X3_comes l hfl D cI cJ X z (s_X3_fails_co 0) d ti sL bL mD mT sy sm sd mi yr mo dy p4 (((mD p1.toNatClampNeg) + (f_X3_floor p3 (86400000000000 / 60000000000))) + (f_X3_floor ((mT p1.toNatClampNeg) + ((f_X3_rest p3 (86400000000000 / 60000000000)) * 60000000000)) 86400000000000)) (f_X3_rest ((mT p1.toNatClampNeg) + ((f_X3_rest p3 (86400000000000 / 60000000000)) * 60000000000)) 86400000000000) (3 : Int32) (vpMSlot h30)) q_X3_comes rfl rfl rfl gX3_moveMoment_X3_comes ⟨rfl, rfl⟩ rfl rfl (Nat.le_of_ble_eq_true rfl) ⟨Nat.le_of_ble_eq_true rfl, Nat.le_of_ble_eq_true rfl⟩ ⟨Nat.le_of_ble_eq_true rfl, Nat.le_of_ble_eq_true rfl⟩ dX3_moveMoment_241 ?_
        exact z_lret C ⟨congrArg (fun v => some (Value.long v)) (by rw [f_X3_moveMoment, if_neg (by rw [h23]; decide : ¬ f_X3_moveMoment_j1 p2 = 0), if_pos h27, if_neg (by rw [h42]; decide : ¬ f_X3_moveMoment_j4 p2 = 1), if_neg (by rw [h42]; decide : ¬ f_X3_moveMoment_j4 p2 = 1000000000), if_pos h42] : (f_X3_comes (((mD p1.toNatClampNeg) + (f_X3_floor p3 (86400000000000 / 60000000000))) + (f_X3_floor ((mT p1.toNatClampNeg) + ((f_X3_rest p3 (86400000000000 / 60000000000)) * 60000000000)) 86400000000000)) 3) = (f_X3_moveMoment mD mT p1 p2 p3 p4)), by rw [s_X3_moveMoment_co, if_neg (by rw [h23]; decide : ¬ f_X3_moveMoment_j1 p2 = 0), if_pos h27, if_neg (by rw [h42]; decide : ¬ f_X3_moveMoment_j4 p2 = 1), if_neg (by rw [h42]; decide : ¬ f_X3_moveMoment_j4 p2 = 1000000000), if_pos h42, s_X3_moveMoment_mD, if_neg (by rw [h23]; decide : ¬ f_X3_moveMoment_j1 p2 = 0), if_pos h27, if_neg (by rw [h42]; decide : ¬ f_X3_moveMoment_j4 p2 = 1), if_neg (by rw [h42]; decide : ¬ f_X3_moveMoment_j4 p2 = 1000000000), if_pos h42, s_X3_moveMoment_mT, if_neg (by rw [h23]; decide : ¬ f_X3_moveMoment_j1 p2 = 0), if_pos h27, if_neg (by rw [h42]; decide : ¬ f_X3_moveMoment_j4 p2 = 1), if_neg (by rw [h42]; decide : ¬ f_X3_moveMoment_j4 p2 = 1000000000), if_pos h42, s_X3_moveMoment_yr, if_neg (by rw [h23]; decide : ¬ f_X3_moveMoment_j1 p2 = 0), if_pos h27, if_neg (by rw [h42]; decide : ¬ f_X3_moveMoment_j4 p2 = 1), if_neg (by rw [h42]; decide : ¬ f_X3_moveMoment_j4 p2 = 1000000000), if_pos h42, s_X3_moveMoment_mo, if_neg (by rw [h23]; decide : ¬ f_X3_moveMoment_j1 p2 = 0), if_pos h27, if_neg (by rw [h42]; decide : ¬ f_X3_moveMoment_j4 p2 = 1), if_neg (by rw [h42]; decide : ¬ f_X3_moveMoment_j4 p2 = 1000000000), if_pos h42, s_X3_moveMoment_dy, if_neg (by rw [h23]; decide : ¬ f_X3_moveMoment_j1 p2 = 0), if_pos h27, if_neg (by rw [h42]; decide : ¬ f_X3_moveMoment_j4 p2 = 1), if_neg (by rw [h42]; decide : ¬ f_X3_moveMoment_j4 p2 = 1000000000), if_pos h42]⟩ (by decide) (by decide) dX3_moveMoment_244
      have K4_3600000000000 : f_X3_moveMoment_j4 p2 = 3600000000000 → (p2 = 104) → ZW p l e { frames := 7, cells := 0, slots := 0, locals := 169 } s m args below meth c 13 D (zTys cI cJ) A (zE D (zTys cI cJ) A below args s (fun v w => v = some (.long (f_X3_moveMoment mD mT p1 p2 p3 p4)) ∧ w = (wM cI cJ z (s_X3_moveMoment_co mD mT p1 p2 p3 p4) d ti sL bL (s_X3_moveMoment_mD mD mT p1 p2 p3 p4) (s_X3_moveMoment_mT mD mT p1 p2 p3 p4) sy sm sd mi (s_X3_moveMoment_yr mD yr p1 p2 p3 p4) (s_X3_moveMoment_mo mD mo p1 p2 p3 p4) (s_X3_moveMoment_dy mD dy p1 p2 p3 p4) X)) (fun _ _ => False) 0 0) 0 0 (wM cI cJ z (s_X3_fails_co 0) d ti sL bL mD mT sy sm sd mi yr mo dy X) 179 [(6, .int 1), (0, .ref (z 0)), (1, .int p1), (2, .int p2), (3, .long p3), (5, .int p4)] [.long 3600000000000] := by
        intro h45 h46
        refine z_lstore (lv' := [(7, .long 3600000000000), (6, .int 1), (0, .ref (z 0)), (1, .int p1), (2, .int p2), (3, .long p3), (5, .int p4)]) C dX3_moveMoment_179 (by decide) rfl ?_
        refine z_ldc2 (v := 86400000000000) C w10 dX3_moveMoment_181 ?_
        refine z_lload C dX3_moveMoment_184 0 rfl ?_
        refine z_ldiv C dX3_moveMoment_186 (by decide) ?_
        refine z_lstore (lv' := [(9, .long (86400000000000 / 3600000000000)), (7, .long 3600000000000), (6, .int 1), (0, .ref (z 0)), (1, .int p1), (2, .int p2), (3, .long p3), (5, .int p4)]) C dX3_moveMoment_187 (by decide) rfl ?_
        refine z_aload_n C dX3_moveMoment_189 rfl 3 rfl ?_
        refine z_get (CC := RX3) (T := TX3) (N := 14) (ci := 3) C hin 0 rfl rfl 6 (by decide) w4 rfl rfl dX3_moveMoment_190 ?_
        refine z_iload_n C dX3_moveMoment_193 rfl 4 rfl ?_
        refine z_lald C 6 1 rfl rfl (vpMSlot h29) dX3_moveMoment_194 ?_
        refine z_lload_n C dX3_moveMoment_195 rfl 6 rfl ?_
        refine z_lload C dX3_moveMoment_196 0 rfl ?_
        refine z_sl (rest := [.long (mT p1.toNatClampNeg)]) C (c_X3_rest l hfl D cI cJ _ p3 (86400000000000 / 3600000000000) (by decide)) q_X3_rest gX3_moveMoment_X3_rest ⟨rfl, rfl⟩ rfl rfl (Nat.le_of_ble_eq_true rfl) ⟨Nat.le_of_ble_eq_true rfl, Nat.le_of_ble_eq_true rfl⟩ ⟨Nat.le_of_ble_eq_true rfl, Nat.le_of_ble_eq_true rfl⟩ dX3_moveMoment_198 ?_
        refine z_lload C dX3_moveMoment_201 1 rfl ?_
        refine z_lmul C dX3_moveMoment_203 ?_
        refine z_ladd C dX3_moveMoment_204 ?_
        refine z_lstore (lv' := [(11, .long ((mT p1.toNatClampNeg) + ((f_X3_rest p3 (86400000000000 / 3600000000000)) * 3600000000000))), (9, .long (86400000000000 / 3600000000000)), (7, .long 3600000000000), (6, .int 1), (0, .ref (z 0)), (1, .int p1), (2, .int p2), (3, .long p3), (5, .int p4)]) C dX3_moveMoment_205 (by decide) rfl ?_
        refine z_aload_n C dX3_moveMoment_207 rfl 4 rfl ?_
        refine z_iload C dX3_moveMoment_208 8 rfl ?_
        refine z_aload_n C dX3_moveMoment_210 rfl 4 rfl ?_
        refine z_get (CC := RX3) (T := TX3) (N := 14) (ci := 3) C hin 0 rfl rfl 5 (by decide) w3 rfl rfl dX3_moveMoment_211 ?_
        refine z_iload_n C dX3_moveMoment_214 rfl 5 rfl ?_
        refine z_lald C 5 1 rfl rfl (vpMSlot h29) dX3_moveMoment_215 ?_
        refine z_lload_n C dX3_moveMoment_216 rfl 7 rfl ?_
        refine z_lload C dX3_moveMoment_217 1 rfl ?_
        refine z_sl (rest := [.long (mD p1.toNatClampNeg), .int p4, .ref (z 0)]) C (c_X3_floor l hfl D cI cJ _ p3 (86400000000000 / 3600000000000) (by decide)) q_X3_floor gX3_moveMoment_X3_floor ⟨rfl, rfl⟩ rfl rfl (Nat.le_of_ble_eq_true rfl) ⟨Nat.le_of_ble_eq_true rfl, Nat.le_of_ble_eq_true rfl⟩ ⟨Nat.le_of_ble_eq_true rfl, Nat.le_of_ble_eq_true rfl⟩ dX3_moveMoment_219 ?_
        refine z_ladd C dX3_moveMoment_222 ?_
        refine z_lload C dX3_moveMoment_223 0 rfl ?_
        refine z_ldc2 (v := 86400000000000) C w10 dX3_moveMoment_225 ?_
        refine z_sl (rest := [.long ((mD p1.toNatClampNeg) + (f_X3_floor p3 (86400000000000 / 3600000000000))), .int p4, .ref (z 0)]) C (c_X3_floor l hfl D cI cJ _ ((mT p1.toNatClampNeg) + ((f_X3_rest p3 (86400000000000 / 3600000000000)) * 3600000000000)) (86400000000000 : Int64) (by decide)) q_X3_floor gX3_moveMoment_X3_floor ⟨rfl, rfl⟩ rfl rfl (Nat.le_of_ble_eq_true rfl) ⟨Nat.le_of_ble_eq_true rfl, Nat.le_of_ble_eq_true rfl⟩ ⟨Nat.le_of_ble_eq_true rfl, Nat.le_of_ble_eq_true rfl⟩ dX3_moveMoment_228 ?_
        refine z_ladd C dX3_moveMoment_231 ?_
        refine z_lload C dX3_moveMoment_232 0 rfl ?_
        refine z_ldc2 (v := 86400000000000) C w10 dX3_moveMoment_234 ?_
        refine z_sl (rest := [.long (((mD p1.toNatClampNeg) + (f_X3_floor p3 (86400000000000 / 3600000000000))) + (f_X3_floor ((mT p1.toNatClampNeg) + ((f_X3_rest p3 (86400000000000 / 3600000000000)) * 3600000000000)) 86400000000000)), .int p4, .ref (z 0)]) C (c_X3_rest l hfl D cI cJ _ ((mT p1.toNatClampNeg) + ((f_X3_rest p3 (86400000000000 / 3600000000000)) * 3600000000000)) (86400000000000 : Int64) (by decide)) q_X3_rest gX3_moveMoment_X3_rest ⟨rfl, rfl⟩ rfl rfl (Nat.le_of_ble_eq_true rfl) ⟨Nat.le_of_ble_eq_true rfl, Nat.le_of_ble_eq_true rfl⟩ ⟨Nat.le_of_ble_eq_true rfl, Nat.le_of_ble_eq_true rfl⟩ dX3_moveMoment_237 ?_
        refine z_iconst (v := 3) C dX3_moveMoment_240 (by decide) ?_
        refine z_wl (ws' := (wM cI cJ z (s_X3_comes_co (((mD p1.toNatClampNeg) + (f_X3_floor p3 (86400000000000 / 3600000000000))) + (f_X3_floor ((mT p1.toNatClampNeg) + ((f_X3_rest p3 (86400000000000 / 3600000000000)) * 3600000000000)) 86400000000000)) 3) d ti sL bL (s_X3_comes_mD mD p4 (((mD p1.toNatClampNeg) + (f_X3_floor p3 (86400000000000 / 3600000000000))) + (f_X3_floor ((mT p1.toNatClampNeg) + ((f_X3_rest p3 (86400000000000 / 3600000000000)) * 3600000000000)) 86400000000000)) 3) (s_X3_comes_mT mT p4 (((mD p1.toNatClampNeg) + (f_X3_floor p3 (86400000000000 / 3600000000000))) + (f_X3_floor ((mT p1.toNatClampNeg) + ((f_X3_rest p3 (86400000000000 / 3600000000000)) * 3600000000000)) 86400000000000)) (f_X3_rest ((mT p1.toNatClampNeg) + ((f_X3_rest p3 (86400000000000 / 3600000000000)) * 3600000000000)) 86400000000000) 3) sy sm sd mi yr mo dy X)) (rest := []) (ci := 3) (q0 := 0) C (c_X3_comes l hfl D cI cJ X z (s_X3_fails_co 0) d ti sL bL mD mT sy sm sd mi yr mo dy p4 (((mD p1.toNatClampNeg) + (f_X3_floor p3 (86400000000000 / 3600000000000))) + (f_X3_floor ((mT p1.toNatClampNeg) + ((f_X3_rest p3 (86400000000000 / 3600000000000)) * 3600000000000)) 86400000000000)) (f_X3_rest ((mT p1.toNatClampNeg) + ((f_X3_rest p3 (86400000000000 / 3600000000000)) * 3600000000000)) 86400000000000) (3 : Int32) (vpMSlot h30)) q_X3_comes rfl rfl rfl gX3_moveMoment_X3_comes ⟨rfl, rfl⟩ rfl rfl (Nat.le_of_ble_eq_true rfl) ⟨Nat.le_of_ble_eq_true rfl, Nat.le_of_ble_eq_true rfl⟩ ⟨Nat.le_of_ble_eq_true rfl, Nat.le_of_ble_eq_true rfl⟩ dX3_moveMoment_241 ?_
        exact z_lret C ⟨congrArg (fun v => some (Value.long v)) (by rw [f_X3_moveMoment, if_neg (by rw [h23]; decide : ¬ f_X3_moveMoment_j1 p2 = 0), if_pos h27, if_neg (by rw [h45]; decide : ¬ f_X3_moveMoment_j4 p2 = 1), if_neg (by rw [h45]; decide : ¬ f_X3_moveMoment_j4 p2 = 1000000000), if_neg (by rw [h45]; decide : ¬ f_X3_moveMoment_j4 p2 = 60000000000)] : (f_X3_comes (((mD p1.toNatClampNeg) + (f_X3_floor p3 (86400000000000 / 3600000000000))) + (f_X3_floor ((mT p1.toNatClampNeg) + ((f_X3_rest p3 (86400000000000 / 3600000000000)) * 3600000000000)) 86400000000000)) 3) = (f_X3_moveMoment mD mT p1 p2 p3 p4)), by rw [s_X3_moveMoment_co, if_neg (by rw [h23]; decide : ¬ f_X3_moveMoment_j1 p2 = 0), if_pos h27, if_neg (by rw [h45]; decide : ¬ f_X3_moveMoment_j4 p2 = 1), if_neg (by rw [h45]; decide : ¬ f_X3_moveMoment_j4 p2 = 1000000000), if_neg (by rw [h45]; decide : ¬ f_X3_moveMoment_j4 p2 = 60000000000), s_X3_moveMoment_mD, if_neg (by rw [h23]; decide : ¬ f_X3_moveMoment_j1 p2 = 0), if_pos h27, if_neg (by rw [h45]; decide : ¬ f_X3_moveMoment_j4 p2 = 1), if_neg (by rw [h45]; decide : ¬ f_X3_moveMoment_j4 p2 = 1000000000), if_neg (by rw [h45]; decide : ¬ f_X3_moveMoment_j4 p2 = 60000000000), s_X3_moveMoment_mT, if_neg (by rw [h23]; decide : ¬ f_X3_moveMoment_j1 p2 = 0), if_pos h27, if_neg (by rw [h45]; decide : ¬ f_X3_moveMoment_j4 p2 = 1), if_neg (by rw [h45]; decide : ¬ f_X3_moveMoment_j4 p2 = 1000000000), if_neg (by rw [h45]; decide : ¬ f_X3_moveMoment_j4 p2 = 60000000000), s_X3_moveMoment_yr, if_neg (by rw [h23]; decide : ¬ f_X3_moveMoment_j1 p2 = 0), if_pos h27, if_neg (by rw [h45]; decide : ¬ f_X3_moveMoment_j4 p2 = 1), if_neg (by rw [h45]; decide : ¬ f_X3_moveMoment_j4 p2 = 1000000000), if_neg (by rw [h45]; decide : ¬ f_X3_moveMoment_j4 p2 = 60000000000), s_X3_moveMoment_mo, if_neg (by rw [h23]; decide : ¬ f_X3_moveMoment_j1 p2 = 0), if_pos h27, if_neg (by rw [h45]; decide : ¬ f_X3_moveMoment_j4 p2 = 1), if_neg (by rw [h45]; decide : ¬ f_X3_moveMoment_j4 p2 = 1000000000), if_neg (by rw [h45]; decide : ¬ f_X3_moveMoment_j4 p2 = 60000000000), s_X3_moveMoment_dy, if_neg (by rw [h23]; decide : ¬ f_X3_moveMoment_j1 p2 = 0), if_pos h27, if_neg (by rw [h45]; decide : ¬ f_X3_moveMoment_j4 p2 = 1), if_neg (by rw [h45]; decide : ¬ f_X3_moveMoment_j4 p2 = 1000000000), if_neg (by rw [h45]; decide : ¬ f_X3_moveMoment_j4 p2 = 60000000000)]⟩ (by decide) (by decide) dX3_moveMoment_244
      refine z_icmp_ne (tgt := 154) C dX3_moveMoment_145 (by decide) (fun h31 => ?_) (fun h31 => ?_)
      · refine z_iload_n C dX3_moveMoment_154 rfl 3 rfl ?_
        refine z_bipush (v := 105) C dX3_moveMoment_155 (by decide) ?_
        refine z_icmp_ne (tgt := 166) C dX3_moveMoment_157 (by decide) (fun h32 => ?_) (fun h32 => ?_)
        · refine z_iload_n C dX3_moveMoment_166 rfl 3 rfl ?_
          refine z_bipush (v := 115) C dX3_moveMoment_167 (by decide) ?_
          refine z_icmp_ne (tgt := 178) C dX3_moveMoment_169 (by decide) (fun h33 => ?_) (fun h33 => ?_)
          · refine z_lconst (v := 1) C dX3_moveMoment_178 (by decide) ?_
            exact K4_1 (by rw [f_X3_moveMoment_j4, if_neg h31, if_neg h32, if_neg h33]) h31 h32 h33
          · refine z_ldc2 (v := 1000000000) C w7 dX3_moveMoment_172 ?_
            refine z_goto (tgt := 179) C dX3_moveMoment_175 (by decide) ?_
            exact K4_1000000000 (by rw [f_X3_moveMoment_j4, if_neg h31, if_neg h32, if_pos h33]) h31 h32 h33
        · refine z_ldc2 (v := 60000000000) C w8 dX3_moveMoment_160 ?_
          refine z_goto (tgt := 179) C dX3_moveMoment_163 (by decide) ?_
          exact K4_60000000000 (by rw [f_X3_moveMoment_j4, if_neg h31, if_pos h32]) h31 h32
      · refine z_ldc2 (v := 3600000000000) C w9 dX3_moveMoment_148 ?_
        refine z_goto (tgt := 179) C dX3_moveMoment_151 (by decide) ?_
        exact K4_3600000000000 (by rw [f_X3_moveMoment_j4, if_pos h31]) h31
    have K3_1 : f_X3_moveMoment_j3 p1 p3 p4 = 1 → ZW p l e { frames := 7, cells := 0, slots := 0, locals := 169 } s m args below meth c 13 D (zTys cI cJ) A (zE D (zTys cI cJ) A below args s (fun v w => v = some (.long (f_X3_moveMoment mD mT p1 p2 p3 p4)) ∧ w = (wM cI cJ z (s_X3_moveMoment_co mD mT p1 p2 p3 p4) d ti sL bL (s_X3_moveMoment_mD mD mT p1 p2 p3 p4) (s_X3_moveMoment_mT mD mT p1 p2 p3 p4) sy sm sd mi (s_X3_moveMoment_yr mD yr p1 p2 p3 p4) (s_X3_moveMoment_mo mD mo p1 p2 p3 p4) (s_X3_moveMoment_dy mD dy p1 p2 p3 p4) X)) (fun _ _ => False) 0 0) 0 0 (wM cI cJ z co d ti sL bL mD mT sy sm sd mi yr mo dy X) 103 [(6, .int 1), (0, .ref (z 0)), (1, .int p1), (2, .int p2), (3, .long p3), (5, .int p4)] [.int 1, .ref (z 0)] := by
      intro h47
      refine z_wi (ws' := (wM cI cJ z (s_X3_fails_co 1) d ti sL bL mD mT sy sm sd mi yr mo dy X)) (rest := []) (ci := 3) (q0 := 0) C (c_X3_fails l hfl D cI cJ X z co d ti sL bL mD mT sy sm sd mi yr mo dy (1 : Int32) ) q_X3_fails rfl rfl rfl gX3_moveMoment_X3_fails ⟨rfl, rfl⟩ rfl rfl (Nat.le_of_ble_eq_true rfl) ⟨Nat.le_of_ble_eq_true rfl, Nat.le_of_ble_eq_true rfl⟩ ⟨Nat.le_of_ble_eq_true rfl, Nat.le_of_ble_eq_true rfl⟩ dX3_moveMoment_103 ?_
      refine z_eqst (st' := [.int 1]) (congrArg (fun v => Value.int v :: _) (by decide : (f_X3_fails 1) = (1 : Int32))) ?_
      refine z_if_eq (tgt := 111) C dX3_moveMoment_106 (by decide) (fun h => absurd h (by decide)) (fun _ => ?_)
      refine z_lconst (v := 0) C dX3_moveMoment_109 (by decide) ?_
      exact z_lret C ⟨congrArg (fun v => some (Value.long v)) (by rw [f_X3_moveMoment, if_neg (by rw [h23]; decide : ¬ f_X3_moveMoment_j1 p2 = 0), if_neg (by rw [h47]; decide : ¬ f_X3_moveMoment_j3 p1 p3 p4 = 0), if_pos h47] : (0 : Int64) = (f_X3_moveMoment mD mT p1 p2 p3 p4)), by rw [s_X3_moveMoment_co, if_neg (by rw [h23]; decide : ¬ f_X3_moveMoment_j1 p2 = 0), if_neg (by rw [h47]; decide : ¬ f_X3_moveMoment_j3 p1 p3 p4 = 0), if_pos h47, s_X3_moveMoment_mD, if_neg (by rw [h23]; decide : ¬ f_X3_moveMoment_j1 p2 = 0), if_neg (by rw [h47]; decide : ¬ f_X3_moveMoment_j3 p1 p3 p4 = 0), if_pos h47, s_X3_moveMoment_mT, if_neg (by rw [h23]; decide : ¬ f_X3_moveMoment_j1 p2 = 0), if_neg (by rw [h47]; decide : ¬ f_X3_moveMoment_j3 p1 p3 p4 = 0), if_pos h47, s_X3_moveMoment_yr, if_neg (by rw [h23]; decide : ¬ f_X3_moveMoment_j1 p2 = 0), if_neg (by rw [h47]; decide : ¬ f_X3_moveMoment_j3 p1 p3 p4 = 0), if_pos h47, s_X3_moveMoment_mo, if_neg (by rw [h23]; decide : ¬ f_X3_moveMoment_j1 p2 = 0), if_neg (by rw [h47]; decide : ¬ f_X3_moveMoment_j3 p1 p3 p4 = 0), if_pos h47, s_X3_moveMoment_dy, if_neg (by rw [h23]; decide : ¬ f_X3_moveMoment_j1 p2 = 0), if_neg (by rw [h47]; decide : ¬ f_X3_moveMoment_j3 p1 p3 p4 = 0), if_pos h47]⟩ (by decide) (by decide) dX3_moveMoment_110
    have K3_2 : f_X3_moveMoment_j3 p1 p3 p4 = 2 → ((f_X3_in p3 (-1000000000000000) 1000000000000000) = 0) → (¬ (f_X3_isSlot p1) = 0) → (¬ (f_X3_isSlot p4) = 0) → ZW p l e { frames := 7, cells := 0, slots := 0, locals := 169 } s m args below meth c 13 D (zTys cI cJ) A (zE D (zTys cI cJ) A below args s (fun v w => v = some (.long (f_X3_moveMoment mD mT p1 p2 p3 p4)) ∧ w = (wM cI cJ z (s_X3_moveMoment_co mD mT p1 p2 p3 p4) d ti sL bL (s_X3_moveMoment_mD mD mT p1 p2 p3 p4) (s_X3_moveMoment_mT mD mT p1 p2 p3 p4) sy sm sd mi (s_X3_moveMoment_yr mD yr p1 p2 p3 p4) (s_X3_moveMoment_mo mD mo p1 p2 p3 p4) (s_X3_moveMoment_dy mD dy p1 p2 p3 p4) X)) (fun _ _ => False) 0 0) 0 0 (wM cI cJ z co d ti sL bL mD mT sy sm sd mi yr mo dy X) 103 [(6, .int 1), (0, .ref (z 0)), (1, .int p1), (2, .int p2), (3, .long p3), (5, .int p4)] [.int 2, .ref (z 0)] := by
      intro h48 h49 h50 h51
      refine z_wi (ws' := (wM cI cJ z (s_X3_fails_co 2) d ti sL bL mD mT sy sm sd mi yr mo dy X)) (rest := []) (ci := 3) (q0 := 0) C (c_X3_fails l hfl D cI cJ X z co d ti sL bL mD mT sy sm sd mi yr mo dy (2 : Int32) ) q_X3_fails rfl rfl rfl gX3_moveMoment_X3_fails ⟨rfl, rfl⟩ rfl rfl (Nat.le_of_ble_eq_true rfl) ⟨Nat.le_of_ble_eq_true rfl, Nat.le_of_ble_eq_true rfl⟩ ⟨Nat.le_of_ble_eq_true rfl, Nat.le_of_ble_eq_true rfl⟩ dX3_moveMoment_103 ?_
      refine z_eqst (st' := [.int 1]) (congrArg (fun v => Value.int v :: _) (by decide : (f_X3_fails 2) = (1 : Int32))) ?_
      refine z_if_eq (tgt := 111) C dX3_moveMoment_106 (by decide) (fun h => absurd h (by decide)) (fun _ => ?_)
      refine z_lconst (v := 0) C dX3_moveMoment_109 (by decide) ?_
      exact z_lret C ⟨congrArg (fun v => some (Value.long v)) (by rw [f_X3_moveMoment, if_neg (by rw [h23]; decide : ¬ f_X3_moveMoment_j1 p2 = 0), if_neg (by rw [h48]; decide : ¬ f_X3_moveMoment_j3 p1 p3 p4 = 0), if_neg (by rw [h48]; decide : ¬ f_X3_moveMoment_j3 p1 p3 p4 = 1)] : (0 : Int64) = (f_X3_moveMoment mD mT p1 p2 p3 p4)), by rw [s_X3_moveMoment_co, if_neg (by rw [h23]; decide : ¬ f_X3_moveMoment_j1 p2 = 0), if_neg (by rw [h48]; decide : ¬ f_X3_moveMoment_j3 p1 p3 p4 = 0), if_neg (by rw [h48]; decide : ¬ f_X3_moveMoment_j3 p1 p3 p4 = 1), s_X3_moveMoment_mD, if_neg (by rw [h23]; decide : ¬ f_X3_moveMoment_j1 p2 = 0), if_neg (by rw [h48]; decide : ¬ f_X3_moveMoment_j3 p1 p3 p4 = 0), if_neg (by rw [h48]; decide : ¬ f_X3_moveMoment_j3 p1 p3 p4 = 1), s_X3_moveMoment_mT, if_neg (by rw [h23]; decide : ¬ f_X3_moveMoment_j1 p2 = 0), if_neg (by rw [h48]; decide : ¬ f_X3_moveMoment_j3 p1 p3 p4 = 0), if_neg (by rw [h48]; decide : ¬ f_X3_moveMoment_j3 p1 p3 p4 = 1), s_X3_moveMoment_yr, if_neg (by rw [h23]; decide : ¬ f_X3_moveMoment_j1 p2 = 0), if_neg (by rw [h48]; decide : ¬ f_X3_moveMoment_j3 p1 p3 p4 = 0), if_neg (by rw [h48]; decide : ¬ f_X3_moveMoment_j3 p1 p3 p4 = 1), s_X3_moveMoment_mo, if_neg (by rw [h23]; decide : ¬ f_X3_moveMoment_j1 p2 = 0), if_neg (by rw [h48]; decide : ¬ f_X3_moveMoment_j3 p1 p3 p4 = 0), if_neg (by rw [h48]; decide : ¬ f_X3_moveMoment_j3 p1 p3 p4 = 1), s_X3_moveMoment_dy, if_neg (by rw [h23]; decide : ¬ f_X3_moveMoment_j1 p2 = 0), if_neg (by rw [h48]; decide : ¬ f_X3_moveMoment_j3 p1 p3 p4 = 0), if_neg (by rw [h48]; decide : ¬ f_X3_moveMoment_j3 p1 p3 p4 = 1)]⟩ (by decide) (by decide) dX3_moveMoment_110
    refine z_if_eq (tgt := 47) C dX3_moveMoment_36 (by decide) (fun h24 => ?_) (fun h24 => ?_)
    · refine z_iconst (v := 1) C dX3_moveMoment_47 (by decide) ?_
      refine z_goto (tgt := 103) C dX3_moveMoment_48 (by decide) ?_
      exact K3_1 (by rw [f_X3_moveMoment_j3, if_pos h24]) 
    · refine z_iload C dX3_moveMoment_39 5 rfl ?_
      refine z_si (rest := [.ref (z 0)]) C (c_X3_isSlot l hfl D cI cJ _ p4 ) q_X3_isSlot gX3_moveMoment_X3_isSlot ⟨rfl, rfl⟩ rfl rfl (Nat.le_of_ble_eq_true rfl) ⟨Nat.le_of_ble_eq_true rfl, Nat.le_of_ble_eq_true rfl⟩ ⟨Nat.le_of_ble_eq_true rfl, Nat.le_of_ble_eq_true rfl⟩ dX3_moveMoment_41 ?_
      refine z_if_ne (tgt := 51) C dX3_moveMoment_44 (by decide) (fun h25 => ?_) (fun h25 => ?_)
      · refine z_iload C dX3_moveMoment_51 0 rfl ?_
        refine z_if_ne (tgt := 63) C dX3_moveMoment_53 (by decide) (fun _ => ?_) (fun h => absurd h (by decide))
        refine z_lload_n C dX3_moveMoment_63 rfl 4 rfl ?_
        refine z_iload C dX3_moveMoment_64 0 rfl ?_
        refine z_if_eq (tgt := 75) C dX3_moveMoment_66 (by decide) (fun h => absurd h (by decide)) (fun _ => ?_)
        refine z_ldc2 (v := (-1000000000000000)) C w5 dX3_moveMoment_69 ?_
        refine z_goto (tgt := 78) C dX3_moveMoment_72 (by decide) ?_
        refine z_iload C dX3_moveMoment_78 0 rfl ?_
        refine z_if_eq (tgt := 89) C dX3_moveMoment_80 (by decide) (fun h => absurd h (by decide)) (fun _ => ?_)
        refine z_ldc2 (v := 1000000000000000) C w6 dX3_moveMoment_83 ?_
        refine z_goto (tgt := 92) C dX3_moveMoment_86 (by decide) ?_
        refine z_si (rest := [.ref (z 0)]) C (c_X3_in l hfl D cI cJ _ p3 ((-1000000000000000) : Int64) (1000000000000000 : Int64) ) q_X3_in gX3_moveMoment_X3_in ⟨rfl, rfl⟩ rfl rfl (Nat.le_of_ble_eq_true rfl) ⟨Nat.le_of_ble_eq_true rfl, Nat.le_of_ble_eq_true rfl⟩ ⟨Nat.le_of_ble_eq_true rfl, Nat.le_of_ble_eq_true rfl⟩ dX3_moveMoment_92 ?_
        refine z_if_eq (tgt := 102) C dX3_moveMoment_95 (by decide) (fun h26 => ?_) (fun h26 => ?_)
        · refine z_iconst (v := 2) C dX3_moveMoment_102 (by decide) ?_
          exact K3_2 (by rw [f_X3_moveMoment_j3, if_neg h24, if_neg h25, if_pos h26]) h26 h24 h25
        · refine z_iconst (v := 0) C dX3_moveMoment_98 (by decide) ?_
          refine z_goto (tgt := 103) C dX3_moveMoment_99 (by decide) ?_
          exact K3_0 (by rw [f_X3_moveMoment_j3, if_neg h24, if_neg h25, if_neg h26]) h26 h24 h25
      · refine z_iconst (v := 1) C dX3_moveMoment_47 (by decide) ?_
        refine z_goto (tgt := 103) C dX3_moveMoment_48 (by decide) ?_
        exact K3_1 (by rw [f_X3_moveMoment_j3, if_neg h24, if_pos h25]) 
  refine z_icmp_eq (tgt := 24) C dX3_moveMoment_3 (by decide) (fun h1 => ?_) (fun h1 => ?_)
  · refine z_iconst (v := 1) C dX3_moveMoment_24 (by decide) ?_
    refine z_goto (tgt := 29) C dX3_moveMoment_25 (by decide) ?_
    exact K1_1 (by rw [f_X3_moveMoment_j1, if_pos h1]) 
  · refine z_iload_n C dX3_moveMoment_6 rfl 2 rfl ?_
    refine z_bipush (v := 105) C dX3_moveMoment_7 (by decide) ?_
    refine z_icmp_eq (tgt := 24) C dX3_moveMoment_9 (by decide) (fun h2 => ?_) (fun h2 => ?_)
    · refine z_iconst (v := 1) C dX3_moveMoment_24 (by decide) ?_
      refine z_goto (tgt := 29) C dX3_moveMoment_25 (by decide) ?_
      exact K1_1 (by rw [f_X3_moveMoment_j1, if_neg h1, if_pos h2]) 
    · refine z_iload_n C dX3_moveMoment_12 rfl 2 rfl ?_
      refine z_bipush (v := 115) C dX3_moveMoment_13 (by decide) ?_
      refine z_icmp_eq (tgt := 24) C dX3_moveMoment_15 (by decide) (fun h3 => ?_) (fun h3 => ?_)
      · refine z_iconst (v := 1) C dX3_moveMoment_24 (by decide) ?_
        refine z_goto (tgt := 29) C dX3_moveMoment_25 (by decide) ?_
        exact K1_1 (by rw [f_X3_moveMoment_j1, if_neg h1, if_neg h2, if_pos h3]) 
      · refine z_iload_n C dX3_moveMoment_18 rfl 2 rfl ?_
        refine z_bipush (v := 110) C dX3_moveMoment_19 (by decide) ?_
        refine z_icmp_ne (tgt := 28) C dX3_moveMoment_21 (by decide) (fun h4 => ?_) (fun h4 => ?_)
        · refine z_iconst (v := 0) C dX3_moveMoment_28 (by decide) ?_
          exact K1_0 (by rw [f_X3_moveMoment_j1, if_neg h1, if_neg h2, if_neg h3, if_neg h4]) h1 h2 h4 h3
        · refine z_iconst (v := 1) C dX3_moveMoment_24 (by decide) ?_
          refine z_goto (tgt := 29) C dX3_moveMoment_25 (by decide) ?_
          exact K1_1 (by rw [f_X3_moveMoment_j1, if_neg h1, if_neg h2, if_neg h3, if_pos h4]) 
def f_X3_goMoment_j1 (p1 : Int32) (p2 : Int32) (p4 : Int32) : Int32 := (if (f_X3_isSlot p1) = 0 then 1 else (if (f_X3_isSlot p2) = 0 then 1 else (if (f_X3_isSlot p4) = 0 then 1 else 0)))
def f_X3_goMoment_j2 (sL : Nat → Int64) (p2 : Int32) (p3 : Int32) : Int64 := (if p3 = 0 then (sL p2.toNatClampNeg) else (-(sL p2.toNatClampNeg)))
def f_X3_goMoment_j3 (bL : Nat → Int64) (p2 : Int32) (p3 : Int32) : Int64 := (if p3 = 0 then (bL p2.toNatClampNeg) else (-(bL p2.toNatClampNeg)))
def f_X3_goMoment (sL : Nat → Int64) (bL : Nat → Int64) (mD : Nat → Int64) (mT : Nat → Int64) (p1 : Int32) (p2 : Int32) (p3 : Int32) (p4 : Int32) : Int64 := (if f_X3_goMoment_j1 p1 p2 p4 = 0 then (f_X3_comes (((mD p1.toNatClampNeg) + (f_X3_floor (f_X3_goMoment_j2 sL p2 p3) 86400)) + (f_X3_floor (((mT p1.toNatClampNeg) + ((f_X3_rest (f_X3_goMoment_j2 sL p2 p3) 86400) * 1000000000)) + (f_X3_goMoment_j3 bL p2 p3)) 86400000000000)) 2) else 0)
def s_X3_goMoment_co (sL : Nat → Int64) (bL : Nat → Int64) (mD : Nat → Int64) (mT : Nat → Int64) (p1 : Int32) (p2 : Int32) (p3 : Int32) (p4 : Int32) : Int32 := (if f_X3_goMoment_j1 p1 p2 p4 = 0 then (s_X3_comes_co (((mD p1.toNatClampNeg) + (f_X3_floor (f_X3_goMoment_j2 sL p2 p3) 86400)) + (f_X3_floor (((mT p1.toNatClampNeg) + ((f_X3_rest (f_X3_goMoment_j2 sL p2 p3) 86400) * 1000000000)) + (f_X3_goMoment_j3 bL p2 p3)) 86400000000000)) 2) else (s_X3_fails_co 1))
def s_X3_goMoment_mD (sL : Nat → Int64) (bL : Nat → Int64) (mD : Nat → Int64) (mT : Nat → Int64) (p1 : Int32) (p2 : Int32) (p3 : Int32) (p4 : Int32) : Nat → Int64 := (if f_X3_goMoment_j1 p1 p2 p4 = 0 then (s_X3_comes_mD mD p4 (((mD p1.toNatClampNeg) + (f_X3_floor (f_X3_goMoment_j2 sL p2 p3) 86400)) + (f_X3_floor (((mT p1.toNatClampNeg) + ((f_X3_rest (f_X3_goMoment_j2 sL p2 p3) 86400) * 1000000000)) + (f_X3_goMoment_j3 bL p2 p3)) 86400000000000)) 2) else mD)
def s_X3_goMoment_mT (sL : Nat → Int64) (bL : Nat → Int64) (mD : Nat → Int64) (mT : Nat → Int64) (p1 : Int32) (p2 : Int32) (p3 : Int32) (p4 : Int32) : Nat → Int64 := (if f_X3_goMoment_j1 p1 p2 p4 = 0 then (s_X3_comes_mT mT p4 (((mD p1.toNatClampNeg) + (f_X3_floor (f_X3_goMoment_j2 sL p2 p3) 86400)) + (f_X3_floor (((mT p1.toNatClampNeg) + ((f_X3_rest (f_X3_goMoment_j2 sL p2 p3) 86400) * 1000000000)) + (f_X3_goMoment_j3 bL p2 p3)) 86400000000000)) (f_X3_rest (((mT p1.toNatClampNeg) + ((f_X3_rest (f_X3_goMoment_j2 sL p2 p3) 86400) * 1000000000)) + (f_X3_goMoment_j3 bL p2 p3)) 86400000000000) 2) else mT)
theorem q_X3_goMoment : ZY yX3_goMoment wsX3_goMoment cX3_goMoment 9 (some .long) 4 := ⟨⟨_, rfl⟩, by decide +kernel, by decide +kernel, by decide +kernel⟩
set_option maxHeartbeats 4000000 in
set_option maxRecDepth 100000 in
theorem c_X3_goMoment (l : Launch) (hfl : l.stackTraces = false) (D : va_G) (cI cJ : ClassId) (X : va_W) (z : Nat → Nat) (co : Int32) (d : Nat → Int64) (ti : Nat → Int64) (sL : Nat → Int64) (bL : Nat → Int64) (mD : Nat → Int64) (mT : Nat → Int64) (sy : Nat → Int64) (sm : Nat → Int64) (sd : Nat → Int64) (mi : Nat → Int64) (yr : Int64) (mo : Int32) (dy : Int32) (p1 : Int32) (p2 : Int32) (p3 : Int32) (p4 : Int32)  : ZM l yX3_goMoment wsX3_goMoment { frames := 4, cells := 0, slots := 0, locals := 91 } [.ref (z 0), .int p1, .int p2, .int p3, .int p4] D (zTys cI cJ) (wM cI cJ z co d ti sL bL mD mT sy sm sd mi yr mo dy X) 0 0 (fun v w => v = some (.long (f_X3_goMoment sL bL mD mT p1 p2 p3 p4)) ∧ w = (wM cI cJ z (s_X3_goMoment_co sL bL mD mT p1 p2 p3 p4) d ti sL bL (s_X3_goMoment_mD sL bL mD mT p1 p2 p3 p4) (s_X3_goMoment_mT sL bL mD mT p1 p2 p3 p4) sy sm sd mi yr mo dy X)) (fun _ _ => False) := by
  refine z_open (own := RX3) hfl (cc := cX3_goMoment) (maxL := 9) (ret := (some .long)) (lv := [(0, .ref (z 0)), (1, .int p1), (2, .int p2), (3, .int p3), (4, .int p4)]) rfl (by decide) rfl rfl (Nat.le_of_ble_eq_true rfl) ?_
  intro p e s m args below meth c A C hno hnm hargs
  have hin : ∀ w ∈ wsX30, w ∈ wsX3_goMoment := by decide +kernel
  have w1 := C.1.2.2.2.2 (.fieldLink RX3 20 "YearwheelModel" "seconds" "[J") (by decide +kernel)
  have w2 := C.1.2.2.2.2 (.fieldLink RX3 29 "YearwheelModel" "clocks" "[J") (by decide +kernel)
  have w3 := C.1.2.2.2.2 (.constantLong RX3 231 (86400)) (by decide +kernel)
  have w4 := C.1.2.2.2.2 (.constantLong RX3 199 (1000000000)) (by decide +kernel)
  have w5 := C.1.2.2.2.2 (.fieldLink RX3 23 "YearwheelModel" "fines" "[J") (by decide +kernel)
  have w6 := C.1.2.2.2.2 (.fieldLink RX3 26 "YearwheelModel" "days" "[J") (by decide +kernel)
  have w7 := C.1.2.2.2.2 (.constantLong RX3 205 (86400000000000)) (by decide +kernel)
  refine z_aload_n C dX3_goMoment_0 rfl 0 rfl ?_
  refine z_iload_n C dX3_goMoment_1 rfl 1 rfl ?_
  refine z_si (rest := [.ref (z 0)]) C (c_X3_isSlot l hfl D cI cJ _ p1 ) q_X3_isSlot gX3_goMoment_X3_isSlot ⟨rfl, rfl⟩ rfl rfl (Nat.le_of_ble_eq_true rfl) ⟨Nat.le_of_ble_eq_true rfl, Nat.le_of_ble_eq_true rfl⟩ ⟨Nat.le_of_ble_eq_true rfl, Nat.le_of_ble_eq_true rfl⟩ dX3_goMoment_2 ?_
  have K1_0 : f_X3_goMoment_j1 p1 p2 p4 = 0 → (¬ (f_X3_isSlot p1) = 0) → (¬ (f_X3_isSlot p2) = 0) → (¬ (f_X3_isSlot p4) = 0) → ZW p l e { frames := 4, cells := 0, slots := 0, locals := 91 } s m args below meth c 9 D (zTys cI cJ) A (zE D (zTys cI cJ) A below args s (fun v w => v = some (.long (f_X3_goMoment sL bL mD mT p1 p2 p3 p4)) ∧ w = (wM cI cJ z (s_X3_goMoment_co sL bL mD mT p1 p2 p3 p4) d ti sL bL (s_X3_goMoment_mD sL bL mD mT p1 p2 p3 p4) (s_X3_goMoment_mT sL bL mD mT p1 p2 p3 p4) sy sm sd mi yr mo dy X)) (fun _ _ => False) 0 0) 0 0 (wM cI cJ z co d ti sL bL mD mT sy sm sd mi yr mo dy X) 28 [(0, .ref (z 0)), (1, .int p1), (2, .int p2), (3, .int p3), (4, .int p4)] [.int 0, .ref (z 0)] := by
    intro h4 h5 h6 h7
    refine z_wi (ws' := (wM cI cJ z (s_X3_fails_co 0) d ti sL bL mD mT sy sm sd mi yr mo dy X)) (rest := []) (ci := 3) (q0 := 0) C (c_X3_fails l hfl D cI cJ X z co d ti sL bL mD mT sy sm sd mi yr mo dy (0 : Int32) ) q_X3_fails rfl rfl rfl gX3_goMoment_X3_fails ⟨rfl, rfl⟩ rfl rfl (Nat.le_of_ble_eq_true rfl) ⟨Nat.le_of_ble_eq_true rfl, Nat.le_of_ble_eq_true rfl⟩ ⟨Nat.le_of_ble_eq_true rfl, Nat.le_of_ble_eq_true rfl⟩ dX3_goMoment_28 ?_
    refine z_eqst (st' := [.int 0]) (congrArg (fun v => Value.int v :: _) (by decide : (f_X3_fails 0) = (0 : Int32))) ?_
    refine z_if_eq (tgt := 36) C dX3_goMoment_31 (by decide) (fun _ => ?_) (fun h => absurd (by decide) h)
    refine z_iload_n C dX3_goMoment_36 rfl 3 rfl ?_
    have K2 : ∀ (v2_0 : Int64), (f_X3_goMoment_j2 sL p2 p3) = v2_0 → ZW p l e { frames := 4, cells := 0, slots := 0, locals := 91 } s m args below meth c 9 D (zTys cI cJ) A (zE D (zTys cI cJ) A below args s (fun v w => v = some (.long (f_X3_goMoment sL bL mD mT p1 p2 p3 p4)) ∧ w = (wM cI cJ z (s_X3_goMoment_co sL bL mD mT p1 p2 p3 p4) d ti sL bL (s_X3_goMoment_mD sL bL mD mT p1 p2 p3 p4) (s_X3_goMoment_mT sL bL mD mT p1 p2 p3 p4) sy sm sd mi yr mo dy X)) (fun _ _ => False) 0 0) 0 0 (wM cI cJ z (s_X3_fails_co 0) d ti sL bL mD mT sy sm sd mi yr mo dy X) 56 [(0, .ref (z 0)), (1, .int p1), (2, .int p2), (3, .int p3), (4, .int p4)] [.long v2_0] := by
      rintro _ rfl
      refine z_lstore (lv' := [(5, .long (f_X3_goMoment_j2 sL p2 p3)), (0, .ref (z 0)), (1, .int p1), (2, .int p2), (3, .int p3), (4, .int p4)]) C dX3_goMoment_56 (by decide) rfl ?_
      refine z_aload_n C dX3_goMoment_58 rfl 1 rfl ?_
      refine z_get (CC := RX3) (T := TX3) (N := 14) (ci := 3) C hin 0 rfl rfl 6 (by decide) w2 rfl rfl dX3_goMoment_59 ?_
      refine z_iload_n C dX3_goMoment_62 rfl 2 rfl ?_
      refine z_lald C 6 1 rfl rfl (vpMSlot h5) dX3_goMoment_63 ?_
      refine z_lload C dX3_goMoment_64 0 rfl ?_
      refine z_ldc2 (v := 86400) C w3 dX3_goMoment_66 ?_
      refine z_sl (rest := [.long (mT p1.toNatClampNeg)]) C (c_X3_rest l hfl D cI cJ _ (f_X3_goMoment_j2 sL p2 p3) (86400 : Int64) (by decide)) q_X3_rest gX3_goMoment_X3_rest ⟨rfl, rfl⟩ rfl rfl (Nat.le_of_ble_eq_true rfl) ⟨Nat.le_of_ble_eq_true rfl, Nat.le_of_ble_eq_true rfl⟩ ⟨Nat.le_of_ble_eq_true rfl, Nat.le_of_ble_eq_true rfl⟩ dX3_goMoment_69 ?_
      refine z_ldc2 (v := 1000000000) C w4 dX3_goMoment_72 ?_
      refine z_lmul C dX3_goMoment_75 ?_
      refine z_ladd C dX3_goMoment_76 ?_
      refine z_iload_n C dX3_goMoment_77 rfl 4 rfl ?_
      have K3 : ∀ (v3_0 : Int64), (f_X3_goMoment_j3 bL p2 p3) = v3_0 → ZW p l e { frames := 4, cells := 0, slots := 0, locals := 91 } s m args below meth c 9 D (zTys cI cJ) A (zE D (zTys cI cJ) A below args s (fun v w => v = some (.long (f_X3_goMoment sL bL mD mT p1 p2 p3 p4)) ∧ w = (wM cI cJ z (s_X3_goMoment_co sL bL mD mT p1 p2 p3 p4) d ti sL bL (s_X3_goMoment_mD sL bL mD mT p1 p2 p3 p4) (s_X3_goMoment_mT sL bL mD mT p1 p2 p3 p4) sy sm sd mi yr mo dy X)) (fun _ _ => False) 0 0) 0 0 (wM cI cJ z (s_X3_fails_co 0) d ti sL bL mD mT sy sm sd mi yr mo dy X) 97 [(5, .long (f_X3_goMoment_j2 sL p2 p3)), (0, .ref (z 0)), (1, .int p1), (2, .int p2), (3, .int p3), (4, .int p4)] [.long v3_0, .long ((mT p1.toNatClampNeg) + ((f_X3_rest (f_X3_goMoment_j2 sL p2 p3) 86400) * 1000000000))] := by
        rintro _ rfl
        refine z_ladd C dX3_goMoment_97 ?_
        refine z_lstore (lv' := [(7, .long (((mT p1.toNatClampNeg) + ((f_X3_rest (f_X3_goMoment_j2 sL p2 p3) 86400) * 1000000000)) + (f_X3_goMoment_j3 bL p2 p3))), (5, .long (f_X3_goMoment_j2 sL p2 p3)), (0, .ref (z 0)), (1, .int p1), (2, .int p2), (3, .int p3), (4, .int p4)]) C dX3_goMoment_98 (by decide) rfl ?_
        refine z_aload_n C dX3_goMoment_100 rfl 2 rfl ?_
        refine z_iload C dX3_goMoment_101 6 rfl ?_
        refine z_aload_n C dX3_goMoment_103 rfl 2 rfl ?_
        refine z_get (CC := RX3) (T := TX3) (N := 14) (ci := 3) C hin 0 rfl rfl 5 (by decide) w6 rfl rfl dX3_goMoment_104 ?_
        refine z_iload_n C dX3_goMoment_107 rfl 3 rfl ?_
        refine z_lald C 5 1 rfl rfl (vpMSlot h5) dX3_goMoment_108 ?_
        refine z_lload C dX3_goMoment_109 1 rfl ?_
        refine z_ldc2 (v := 86400) C w3 dX3_goMoment_111 ?_
        refine z_sl (rest := [.long (mD p1.toNatClampNeg), .int p4, .ref (z 0)]) C (c_X3_floor l hfl D cI cJ _ (f_X3_goMoment_j2 sL p2 p3) (86400 : Int64) (by decide)) q_X3_floor gX3_goMoment_X3_floor ⟨rfl, rfl⟩ rfl rfl (Nat.le_of_ble_eq_true rfl) ⟨Nat.le_of_ble_eq_true rfl, Nat.le_of_ble_eq_true rfl⟩ ⟨Nat.le_of_ble_eq_true rfl, Nat.le_of_ble_eq_true rfl⟩ dX3_goMoment_114 ?_
        refine z_ladd C dX3_goMoment_117 ?_
        refine z_lload C dX3_goMoment_118 0 rfl ?_
        refine z_ldc2 (v := 86400000000000) C w7 dX3_goMoment_120 ?_
        refine z_sl (rest := [.long ((mD p1.toNatClampNeg) + (f_X3_floor (f_X3_goMoment_j2 sL p2 p3) 86400)), .int p4, .ref (z 0)]) C (c_X3_floor l hfl D cI cJ _ (((mT p1.toNatClampNeg) + ((f_X3_rest (f_X3_goMoment_j2 sL p2 p3) 86400) * 1000000000)) + (f_X3_goMoment_j3 bL p2 p3)) (86400000000000 : Int64) (by decide)) q_X3_floor gX3_goMoment_X3_floor ⟨rfl, rfl⟩ rfl rfl (Nat.le_of_ble_eq_true rfl) ⟨Nat.le_of_ble_eq_true rfl, Nat.le_of_ble_eq_true rfl⟩ ⟨Nat.le_of_ble_eq_true rfl, Nat.le_of_ble_eq_true rfl⟩ dX3_goMoment_123 ?_
        refine z_ladd C dX3_goMoment_126 ?_
        refine z_lload C dX3_goMoment_127 0 rfl ?_
        refine z_ldc2 (v := 86400000000000) C w7 dX3_goMoment_129 ?_
        refine z_sl (rest := [.long (((mD p1.toNatClampNeg) + (f_X3_floor (f_X3_goMoment_j2 sL p2 p3) 86400)) + (f_X3_floor (((mT p1.toNatClampNeg) + ((f_X3_rest (f_X3_goMoment_j2 sL p2 p3) 86400) * 1000000000)) + (f_X3_goMoment_j3 bL p2 p3)) 86400000000000)), .int p4, .ref (z 0)]) C (c_X3_rest l hfl D cI cJ _ (((mT p1.toNatClampNeg) + ((f_X3_rest (f_X3_goMoment_j2 sL p2 p3) 86400) * 1000000000)) + (f_X3_goMoment_j3 bL p2 p3)) (86400000000000 : Int64) (by decide)) q_X3_rest gX3_goMoment_X3_rest ⟨rfl, rfl⟩ rfl rfl (Nat.le_of_ble_eq_true rfl) ⟨Nat.le_of_ble_eq_true rfl, Nat.le_of_ble_eq_true rfl⟩ ⟨Nat.le_of_ble_eq_true rfl, Nat.le_of_ble_eq_true rfl⟩ dX3_goMoment_132 ?_
        refine z_iconst (v := 2) C dX3_goMoment_135 (by decide) ?_
        refine z_wl (ws' := (wM cI cJ z (s_X3_comes_co (((mD p1.toNatClampNeg) + (f_X3_floor (f_X3_goMoment_j2 sL p2 p3) 86400)) + (f_X3_floor (((mT p1.toNatClampNeg) + ((f_X3_rest (f_X3_goMoment_j2 sL p2 p3) 86400) * 1000000000)) + (f_X3_goMoment_j3 bL p2 p3)) 86400000000000)) 2) d ti sL bL (s_X3_comes_mD mD p4 (((mD p1.toNatClampNeg) + (f_X3_floor (f_X3_goMoment_j2 sL p2 p3) 86400)) + (f_X3_floor (((mT p1.toNatClampNeg) + ((f_X3_rest (f_X3_goMoment_j2 sL p2 p3) 86400) * 1000000000)) + (f_X3_goMoment_j3 bL p2 p3)) 86400000000000)) 2) (s_X3_comes_mT mT p4 (((mD p1.toNatClampNeg) + (f_X3_floor (f_X3_goMoment_j2 sL p2 p3) 86400)) + (f_X3_floor (((mT p1.toNatClampNeg) + ((f_X3_rest (f_X3_goMoment_j2 sL p2 p3) 86400) * 1000000000)) + (f_X3_goMoment_j3 bL p2 p3)) 86400000000000)) (f_X3_rest (((mT p1.toNatClampNeg) + ((f_X3_rest (f_X3_goMoment_j2 sL p2 p3) 86400) * 1000000000)) + (f_X3_goMoment_j3 bL p2 p3)) 86400000000000) 2) sy sm sd mi yr mo dy X)) (rest := []) (ci := 3) (q0 := 0) C (c_X3_comes l hfl D cI cJ X z (s_X3_fails_co 0) d ti sL bL mD mT sy sm sd mi yr mo dy p4 (((mD p1.toNatClampNeg) + (f_X3_floor (f_X3_goMoment_j2 sL p2 p3) 86400)) + (f_X3_floor (((mT p1.toNatClampNeg) + ((f_X3_rest (f_X3_goMoment_j2 sL p2 p3) 86400) * 1000000000)) + (f_X3_goMoment_j3 bL p2 p3)) 86400000000000)) (f_X3_rest (((mT p1.toNatClampNeg) + ((f_X3_rest (f_X3_goMoment_j2 sL p2 p3) 86400) * 1000000000)) + (f_X3_goMoment_j3 bL p2 p3)) 86400000000000) (2 : Int32) (vpMSlot h7)) q_X3_comes rfl rfl rfl gX3_goMoment_X3_comes ⟨rfl, rfl⟩ rfl rfl (Nat.le_of_ble_eq_true rfl) ⟨Nat.le_of_ble_eq_true rfl, Nat.le_of_ble_eq_true rfl⟩ ⟨Nat.le_of_ble_eq_true rfl, Nat.le_of_ble_eq_true rfl⟩ dX3_goMoment_136 ?_
        exact z_lret C ⟨congrArg (fun v => some (Value.long v)) (by rw [f_X3_goMoment, if_pos h4] : (f_X3_comes (((mD p1.toNatClampNeg) + (f_X3_floor (f_X3_goMoment_j2 sL p2 p3) 86400)) + (f_X3_floor (((mT p1.toNatClampNeg) + ((f_X3_rest (f_X3_goMoment_j2 sL p2 p3) 86400) * 1000000000)) + (f_X3_goMoment_j3 bL p2 p3)) 86400000000000)) 2) = (f_X3_goMoment sL bL mD mT p1 p2 p3 p4)), by rw [s_X3_goMoment_co, if_pos h4, s_X3_goMoment_mD, if_pos h4, s_X3_goMoment_mT, if_pos h4]⟩ (by decide) (by decide) dX3_goMoment_139
      refine z_if_eq (tgt := 91) C dX3_goMoment_78 (by decide) (fun h9 => ?_) (fun h9 => ?_)
      · refine z_aload_n C dX3_goMoment_91 rfl 1 rfl ?_
        refine z_get (CC := RX3) (T := TX3) (N := 14) (ci := 3) C hin 0 rfl rfl 4 (by decide) w5 rfl rfl dX3_goMoment_92 ?_
        refine z_iload_n C dX3_goMoment_95 rfl 3 rfl ?_
        refine z_lald C 4 1 rfl rfl (vpMSlot h6) dX3_goMoment_96 ?_
        exact K3 _ (by rw [f_X3_goMoment_j3, if_pos h9])
      · refine z_aload_n C dX3_goMoment_81 rfl 1 rfl ?_
        refine z_get (CC := RX3) (T := TX3) (N := 14) (ci := 3) C hin 0 rfl rfl 4 (by decide) w5 rfl rfl dX3_goMoment_82 ?_
        refine z_iload_n C dX3_goMoment_85 rfl 3 rfl ?_
        refine z_lald C 4 1 rfl rfl (vpMSlot h6) dX3_goMoment_86 ?_
        refine z_lneg C dX3_goMoment_87 ?_
        refine z_goto (tgt := 97) C dX3_goMoment_88 (by decide) ?_
        exact K3 _ (by rw [f_X3_goMoment_j3, if_neg h9])
    refine z_if_eq (tgt := 50) C dX3_goMoment_37 (by decide) (fun h8 => ?_) (fun h8 => ?_)
    · refine z_aload_n C dX3_goMoment_50 rfl 0 rfl ?_
      refine z_get (CC := RX3) (T := TX3) (N := 14) (ci := 3) C hin 0 rfl rfl 3 (by decide) w1 rfl rfl dX3_goMoment_51 ?_
      refine z_iload_n C dX3_goMoment_54 rfl 2 rfl ?_
      refine z_lald C 3 1 rfl rfl (vpMSlot h6) dX3_goMoment_55 ?_
      exact K2 _ (by rw [f_X3_goMoment_j2, if_pos h8])
    · refine z_aload_n C dX3_goMoment_40 rfl 0 rfl ?_
      refine z_get (CC := RX3) (T := TX3) (N := 14) (ci := 3) C hin 0 rfl rfl 3 (by decide) w1 rfl rfl dX3_goMoment_41 ?_
      refine z_iload_n C dX3_goMoment_44 rfl 2 rfl ?_
      refine z_lald C 3 1 rfl rfl (vpMSlot h6) dX3_goMoment_45 ?_
      refine z_lneg C dX3_goMoment_46 ?_
      refine z_goto (tgt := 56) C dX3_goMoment_47 (by decide) ?_
      exact K2 _ (by rw [f_X3_goMoment_j2, if_neg h8])
  have K1_1 : f_X3_goMoment_j1 p1 p2 p4 = 1 → ZW p l e { frames := 4, cells := 0, slots := 0, locals := 91 } s m args below meth c 9 D (zTys cI cJ) A (zE D (zTys cI cJ) A below args s (fun v w => v = some (.long (f_X3_goMoment sL bL mD mT p1 p2 p3 p4)) ∧ w = (wM cI cJ z (s_X3_goMoment_co sL bL mD mT p1 p2 p3 p4) d ti sL bL (s_X3_goMoment_mD sL bL mD mT p1 p2 p3 p4) (s_X3_goMoment_mT sL bL mD mT p1 p2 p3 p4) sy sm sd mi yr mo dy X)) (fun _ _ => False) 0 0) 0 0 (wM cI cJ z co d ti sL bL mD mT sy sm sd mi yr mo dy X) 28 [(0, .ref (z 0)), (1, .int p1), (2, .int p2), (3, .int p3), (4, .int p4)] [.int 1, .ref (z 0)] := by
    intro h10
    refine z_wi (ws' := (wM cI cJ z (s_X3_fails_co 1) d ti sL bL mD mT sy sm sd mi yr mo dy X)) (rest := []) (ci := 3) (q0 := 0) C (c_X3_fails l hfl D cI cJ X z co d ti sL bL mD mT sy sm sd mi yr mo dy (1 : Int32) ) q_X3_fails rfl rfl rfl gX3_goMoment_X3_fails ⟨rfl, rfl⟩ rfl rfl (Nat.le_of_ble_eq_true rfl) ⟨Nat.le_of_ble_eq_true rfl, Nat.le_of_ble_eq_true rfl⟩ ⟨Nat.le_of_ble_eq_true rfl, Nat.le_of_ble_eq_true rfl⟩ dX3_goMoment_28 ?_
    refine z_eqst (st' := [.int 1]) (congrArg (fun v => Value.int v :: _) (by decide : (f_X3_fails 1) = (1 : Int32))) ?_
    refine z_if_eq (tgt := 36) C dX3_goMoment_31 (by decide) (fun h => absurd h (by decide)) (fun _ => ?_)
    refine z_lconst (v := 0) C dX3_goMoment_34 (by decide) ?_
    exact z_lret C ⟨congrArg (fun v => some (Value.long v)) (by rw [f_X3_goMoment, if_neg (by rw [h10]; decide : ¬ f_X3_goMoment_j1 p1 p2 p4 = 0)] : (0 : Int64) = (f_X3_goMoment sL bL mD mT p1 p2 p3 p4)), by rw [s_X3_goMoment_co, if_neg (by rw [h10]; decide : ¬ f_X3_goMoment_j1 p1 p2 p4 = 0), s_X3_goMoment_mD, if_neg (by rw [h10]; decide : ¬ f_X3_goMoment_j1 p1 p2 p4 = 0), s_X3_goMoment_mT, if_neg (by rw [h10]; decide : ¬ f_X3_goMoment_j1 p1 p2 p4 = 0)]⟩ (by decide) (by decide) dX3_goMoment_35
  refine z_if_eq (tgt := 27) C dX3_goMoment_5 (by decide) (fun h1 => ?_) (fun h1 => ?_)
  · refine z_iconst (v := 1) C dX3_goMoment_27 (by decide) ?_
    exact K1_1 (by rw [f_X3_goMoment_j1, if_pos h1]) 
  · refine z_iload_n C dX3_goMoment_8 rfl 2 rfl ?_
    refine z_si (rest := [.ref (z 0)]) C (c_X3_isSlot l hfl D cI cJ _ p2 ) q_X3_isSlot gX3_goMoment_X3_isSlot ⟨rfl, rfl⟩ rfl rfl (Nat.le_of_ble_eq_true rfl) ⟨Nat.le_of_ble_eq_true rfl, Nat.le_of_ble_eq_true rfl⟩ ⟨Nat.le_of_ble_eq_true rfl, Nat.le_of_ble_eq_true rfl⟩ dX3_goMoment_9 ?_
    refine z_if_eq (tgt := 27) C dX3_goMoment_12 (by decide) (fun h2 => ?_) (fun h2 => ?_)
    · refine z_iconst (v := 1) C dX3_goMoment_27 (by decide) ?_
      exact K1_1 (by rw [f_X3_goMoment_j1, if_neg h1, if_pos h2]) 
    · refine z_iload C dX3_goMoment_15 4 rfl ?_
      refine z_si (rest := [.ref (z 0)]) C (c_X3_isSlot l hfl D cI cJ _ p4 ) q_X3_isSlot gX3_goMoment_X3_isSlot ⟨rfl, rfl⟩ rfl rfl (Nat.le_of_ble_eq_true rfl) ⟨Nat.le_of_ble_eq_true rfl, Nat.le_of_ble_eq_true rfl⟩ ⟨Nat.le_of_ble_eq_true rfl, Nat.le_of_ble_eq_true rfl⟩ dX3_goMoment_17 ?_
      refine z_if_eq (tgt := 27) C dX3_goMoment_20 (by decide) (fun h3 => ?_) (fun h3 => ?_)
      · refine z_iconst (v := 1) C dX3_goMoment_27 (by decide) ?_
        exact K1_1 (by rw [f_X3_goMoment_j1, if_neg h1, if_neg h2, if_pos h3]) 
      · refine z_iconst (v := 0) C dX3_goMoment_23 (by decide) ?_
        refine z_goto (tgt := 28) C dX3_goMoment_24 (by decide) ?_
        exact K1_0 (by rw [f_X3_goMoment_j1, if_neg h1, if_neg h2, if_neg h3]) h1 h2 h3
def f_X3_lengthOfMoments_j1 (p1 : Int32) (p2 : Int32) (p3 : Int32) : Int32 := (if (f_X3_isSlot p1) = 0 then 1 else (if (f_X3_isSlot p2) = 0 then 1 else (if (f_X3_isSlot p3) = 0 then 1 else 0)))
def f_X3_lengthOfMoments (mD : Nat → Int64) (mT : Nat → Int64) (p1 : Int32) (p2 : Int32) (p3 : Int32) : Int64 := (if f_X3_lengthOfMoments_j1 p1 p2 p3 = 0 then (f_X3_lasts (86400 * ((mD p2.toNatClampNeg) - (mD p1.toNatClampNeg))) ((mT p2.toNatClampNeg) - (mT p1.toNatClampNeg)) 2) else 0)
def s_X3_lengthOfMoments_co (mD : Nat → Int64) (mT : Nat → Int64) (p1 : Int32) (p2 : Int32) (p3 : Int32) : Int32 := (if f_X3_lengthOfMoments_j1 p1 p2 p3 = 0 then (s_X3_lasts_co (86400 * ((mD p2.toNatClampNeg) - (mD p1.toNatClampNeg))) ((mT p2.toNatClampNeg) - (mT p1.toNatClampNeg)) 2) else (s_X3_fails_co 1))
def s_X3_lengthOfMoments_sL (sL : Nat → Int64) (mD : Nat → Int64) (mT : Nat → Int64) (p1 : Int32) (p2 : Int32) (p3 : Int32) : Nat → Int64 := (if f_X3_lengthOfMoments_j1 p1 p2 p3 = 0 then (s_X3_lasts_sL sL p3 (86400 * ((mD p2.toNatClampNeg) - (mD p1.toNatClampNeg))) ((mT p2.toNatClampNeg) - (mT p1.toNatClampNeg)) 2) else sL)
def s_X3_lengthOfMoments_bL (bL : Nat → Int64) (mD : Nat → Int64) (mT : Nat → Int64) (p1 : Int32) (p2 : Int32) (p3 : Int32) : Nat → Int64 := (if f_X3_lengthOfMoments_j1 p1 p2 p3 = 0 then (s_X3_lasts_bL bL p3 (86400 * ((mD p2.toNatClampNeg) - (mD p1.toNatClampNeg))) ((mT p2.toNatClampNeg) - (mT p1.toNatClampNeg)) 2) else bL)
theorem q_X3_lengthOfMoments : ZY yX3_lengthOfMoments wsX3_lengthOfMoments cX3_lengthOfMoments 4 (some .long) 3 := ⟨⟨_, rfl⟩, by decide +kernel, by decide +kernel, by decide +kernel⟩
set_option maxHeartbeats 4000000 in
set_option maxRecDepth 100000 in
theorem c_X3_lengthOfMoments (l : Launch) (hfl : l.stackTraces = false) (D : va_G) (cI cJ : ClassId) (X : va_W) (z : Nat → Nat) (co : Int32) (d : Nat → Int64) (ti : Nat → Int64) (sL : Nat → Int64) (bL : Nat → Int64) (mD : Nat → Int64) (mT : Nat → Int64) (sy : Nat → Int64) (sm : Nat → Int64) (sd : Nat → Int64) (mi : Nat → Int64) (yr : Int64) (mo : Int32) (dy : Int32) (p1 : Int32) (p2 : Int32) (p3 : Int32)  : ZM l yX3_lengthOfMoments wsX3_lengthOfMoments { frames := 3, cells := 0, slots := 0, locals := 76 } [.ref (z 0), .int p1, .int p2, .int p3] D (zTys cI cJ) (wM cI cJ z co d ti sL bL mD mT sy sm sd mi yr mo dy X) 0 0 (fun v w => v = some (.long (f_X3_lengthOfMoments mD mT p1 p2 p3)) ∧ w = (wM cI cJ z (s_X3_lengthOfMoments_co mD mT p1 p2 p3) d ti (s_X3_lengthOfMoments_sL sL mD mT p1 p2 p3) (s_X3_lengthOfMoments_bL bL mD mT p1 p2 p3) mD mT sy sm sd mi yr mo dy X)) (fun _ _ => False) := by
  refine z_open (own := RX3) hfl (cc := cX3_lengthOfMoments) (maxL := 4) (ret := (some .long)) (lv := [(0, .ref (z 0)), (1, .int p1), (2, .int p2), (3, .int p3)]) rfl (by decide) rfl rfl (Nat.le_of_ble_eq_true rfl) ?_
  intro p e s m args below meth c A C hno hnm hargs
  have hin : ∀ w ∈ wsX30, w ∈ wsX3_lengthOfMoments := by decide +kernel
  have w1 := C.1.2.2.2.2 (.constantLong RX3 231 (86400)) (by decide +kernel)
  have w2 := C.1.2.2.2.2 (.fieldLink RX3 26 "YearwheelModel" "days" "[J") (by decide +kernel)
  have w3 := C.1.2.2.2.2 (.fieldLink RX3 29 "YearwheelModel" "clocks" "[J") (by decide +kernel)
  refine z_aload_n C dX3_lengthOfMoments_0 rfl 0 rfl ?_
  refine z_iload_n C dX3_lengthOfMoments_1 rfl 1 rfl ?_
  refine z_si (rest := [.ref (z 0)]) C (c_X3_isSlot l hfl D cI cJ _ p1 ) q_X3_isSlot gX3_lengthOfMoments_X3_isSlot ⟨rfl, rfl⟩ rfl rfl (Nat.le_of_ble_eq_true rfl) ⟨Nat.le_of_ble_eq_true rfl, Nat.le_of_ble_eq_true rfl⟩ ⟨Nat.le_of_ble_eq_true rfl, Nat.le_of_ble_eq_true rfl⟩ dX3_lengthOfMoments_2 ?_
  have K1_0 : f_X3_lengthOfMoments_j1 p1 p2 p3 = 0 → (¬ (f_X3_isSlot p1) = 0) → (¬ (f_X3_isSlot p2) = 0) → (¬ (f_X3_isSlot p3) = 0) → ZW p l e { frames := 3, cells := 0, slots := 0, locals := 76 } s m args below meth c 4 D (zTys cI cJ) A (zE D (zTys cI cJ) A below args s (fun v w => v = some (.long (f_X3_lengthOfMoments mD mT p1 p2 p3)) ∧ w = (wM cI cJ z (s_X3_lengthOfMoments_co mD mT p1 p2 p3) d ti (s_X3_lengthOfMoments_sL sL mD mT p1 p2 p3) (s_X3_lengthOfMoments_bL bL mD mT p1 p2 p3) mD mT sy sm sd mi yr mo dy X)) (fun _ _ => False) 0 0) 0 0 (wM cI cJ z co d ti sL bL mD mT sy sm sd mi yr mo dy X) 27 [(0, .ref (z 0)), (1, .int p1), (2, .int p2), (3, .int p3)] [.int 0, .ref (z 0)] := by
    intro h4 h5 h6 h7
    refine z_wi (ws' := (wM cI cJ z (s_X3_fails_co 0) d ti sL bL mD mT sy sm sd mi yr mo dy X)) (rest := []) (ci := 3) (q0 := 0) C (c_X3_fails l hfl D cI cJ X z co d ti sL bL mD mT sy sm sd mi yr mo dy (0 : Int32) ) q_X3_fails rfl rfl rfl gX3_lengthOfMoments_X3_fails ⟨rfl, rfl⟩ rfl rfl (Nat.le_of_ble_eq_true rfl) ⟨Nat.le_of_ble_eq_true rfl, Nat.le_of_ble_eq_true rfl⟩ ⟨Nat.le_of_ble_eq_true rfl, Nat.le_of_ble_eq_true rfl⟩ dX3_lengthOfMoments_27 ?_
    refine z_eqst (st' := [.int 0]) (congrArg (fun v => Value.int v :: _) (by decide : (f_X3_fails 0) = (0 : Int32))) ?_
    refine z_if_eq (tgt := 37) C dX3_lengthOfMoments_30 (by decide) (fun _ => ?_) (fun h => absurd (by decide) h)
    refine z_aload_n C dX3_lengthOfMoments_37 rfl 0 rfl ?_
    refine z_iload_n C dX3_lengthOfMoments_38 rfl 3 rfl ?_
    refine z_ldc2 (v := 86400) C w1 dX3_lengthOfMoments_39 ?_
    refine z_aload_n C dX3_lengthOfMoments_42 rfl 0 rfl ?_
    refine z_get (CC := RX3) (T := TX3) (N := 14) (ci := 3) C hin 0 rfl rfl 5 (by decide) w2 rfl rfl dX3_lengthOfMoments_43 ?_
    refine z_iload_n C dX3_lengthOfMoments_46 rfl 2 rfl ?_
    refine z_lald C 5 1 rfl rfl (vpMSlot h6) dX3_lengthOfMoments_47 ?_
    refine z_aload_n C dX3_lengthOfMoments_48 rfl 0 rfl ?_
    refine z_get (CC := RX3) (T := TX3) (N := 14) (ci := 3) C hin 0 rfl rfl 5 (by decide) w2 rfl rfl dX3_lengthOfMoments_49 ?_
    refine z_iload_n C dX3_lengthOfMoments_52 rfl 1 rfl ?_
    refine z_lald C 5 1 rfl rfl (vpMSlot h5) dX3_lengthOfMoments_53 ?_
    refine z_lsub C dX3_lengthOfMoments_54 ?_
    refine z_lmul C dX3_lengthOfMoments_55 ?_
    refine z_aload_n C dX3_lengthOfMoments_56 rfl 0 rfl ?_
    refine z_get (CC := RX3) (T := TX3) (N := 14) (ci := 3) C hin 0 rfl rfl 6 (by decide) w3 rfl rfl dX3_lengthOfMoments_57 ?_
    refine z_iload_n C dX3_lengthOfMoments_60 rfl 2 rfl ?_
    refine z_lald C 6 1 rfl rfl (vpMSlot h6) dX3_lengthOfMoments_61 ?_
    refine z_aload_n C dX3_lengthOfMoments_62 rfl 0 rfl ?_
    refine z_get (CC := RX3) (T := TX3) (N := 14) (ci := 3) C hin 0 rfl rfl 6 (by decide) w3 rfl rfl dX3_lengthOfMoments_63 ?_
    refine z_iload_n C dX3_lengthOfMoments_66 rfl 1 rfl ?_
    refine z_lald C 6 1 rfl rfl (vpMSlot h5) dX3_lengthOfMoments_67 ?_
    refine z_lsub C dX3_lengthOfMoments_68 ?_
    refine z_iconst (v := 2) C dX3_lengthOfMoments_69 (by decide) ?_
    refine z_wl (ws' := (wM cI cJ z (s_X3_lasts_co (86400 * ((mD p2.toNatClampNeg) - (mD p1.toNatClampNeg))) ((mT p2.toNatClampNeg) - (mT p1.toNatClampNeg)) 2) d ti (s_X3_lasts_sL sL p3 (86400 * ((mD p2.toNatClampNeg) - (mD p1.toNatClampNeg))) ((mT p2.toNatClampNeg) - (mT p1.toNatClampNeg)) 2) (s_X3_lasts_bL bL p3 (86400 * ((mD p2.toNatClampNeg) - (mD p1.toNatClampNeg))) ((mT p2.toNatClampNeg) - (mT p1.toNatClampNeg)) 2) mD mT sy sm sd mi yr mo dy X)) (rest := []) (ci := 3) (q0 := 0) C (c_X3_lasts l hfl D cI cJ X z (s_X3_fails_co 0) d ti sL bL mD mT sy sm sd mi yr mo dy p3 (86400 * ((mD p2.toNatClampNeg) - (mD p1.toNatClampNeg))) ((mT p2.toNatClampNeg) - (mT p1.toNatClampNeg)) (2 : Int32) (vpMSlot h7)) q_X3_lasts rfl rfl rfl gX3_lengthOfMoments_X3_lasts ⟨rfl, rfl⟩ rfl rfl (Nat.le_of_ble_eq_true rfl) ⟨Nat.le_of_ble_eq_true rfl, Nat.le_of_ble_eq_true rfl⟩ ⟨Nat.le_of_ble_eq_true rfl, Nat.le_of_ble_eq_true rfl⟩ dX3_lengthOfMoments_70 ?_
    exact z_lret C ⟨congrArg (fun v => some (Value.long v)) (by rw [f_X3_lengthOfMoments, if_pos h4] : (f_X3_lasts (86400 * ((mD p2.toNatClampNeg) - (mD p1.toNatClampNeg))) ((mT p2.toNatClampNeg) - (mT p1.toNatClampNeg)) 2) = (f_X3_lengthOfMoments mD mT p1 p2 p3)), by rw [s_X3_lengthOfMoments_co, if_pos h4, s_X3_lengthOfMoments_sL, if_pos h4, s_X3_lengthOfMoments_bL, if_pos h4]⟩ (by decide) (by decide) dX3_lengthOfMoments_73
  have K1_1 : f_X3_lengthOfMoments_j1 p1 p2 p3 = 1 → ZW p l e { frames := 3, cells := 0, slots := 0, locals := 76 } s m args below meth c 4 D (zTys cI cJ) A (zE D (zTys cI cJ) A below args s (fun v w => v = some (.long (f_X3_lengthOfMoments mD mT p1 p2 p3)) ∧ w = (wM cI cJ z (s_X3_lengthOfMoments_co mD mT p1 p2 p3) d ti (s_X3_lengthOfMoments_sL sL mD mT p1 p2 p3) (s_X3_lengthOfMoments_bL bL mD mT p1 p2 p3) mD mT sy sm sd mi yr mo dy X)) (fun _ _ => False) 0 0) 0 0 (wM cI cJ z co d ti sL bL mD mT sy sm sd mi yr mo dy X) 27 [(0, .ref (z 0)), (1, .int p1), (2, .int p2), (3, .int p3)] [.int 1, .ref (z 0)] := by
    intro h8
    refine z_wi (ws' := (wM cI cJ z (s_X3_fails_co 1) d ti sL bL mD mT sy sm sd mi yr mo dy X)) (rest := []) (ci := 3) (q0 := 0) C (c_X3_fails l hfl D cI cJ X z co d ti sL bL mD mT sy sm sd mi yr mo dy (1 : Int32) ) q_X3_fails rfl rfl rfl gX3_lengthOfMoments_X3_fails ⟨rfl, rfl⟩ rfl rfl (Nat.le_of_ble_eq_true rfl) ⟨Nat.le_of_ble_eq_true rfl, Nat.le_of_ble_eq_true rfl⟩ ⟨Nat.le_of_ble_eq_true rfl, Nat.le_of_ble_eq_true rfl⟩ dX3_lengthOfMoments_27 ?_
    refine z_eqst (st' := [.int 1]) (congrArg (fun v => Value.int v :: _) (by decide : (f_X3_fails 1) = (1 : Int32))) ?_
    refine z_if_eq (tgt := 37) C dX3_lengthOfMoments_30 (by decide) (fun h => absurd h (by decide)) (fun _ => ?_)
    refine z_lconst (v := 0) C dX3_lengthOfMoments_33 (by decide) ?_
    refine z_goto (tgt := 73) C dX3_lengthOfMoments_34 (by decide) ?_
    exact z_lret C ⟨congrArg (fun v => some (Value.long v)) (by rw [f_X3_lengthOfMoments, if_neg (by rw [h8]; decide : ¬ f_X3_lengthOfMoments_j1 p1 p2 p3 = 0)] : (0 : Int64) = (f_X3_lengthOfMoments mD mT p1 p2 p3)), by rw [s_X3_lengthOfMoments_co, if_neg (by rw [h8]; decide : ¬ f_X3_lengthOfMoments_j1 p1 p2 p3 = 0), s_X3_lengthOfMoments_sL, if_neg (by rw [h8]; decide : ¬ f_X3_lengthOfMoments_j1 p1 p2 p3 = 0), s_X3_lengthOfMoments_bL, if_neg (by rw [h8]; decide : ¬ f_X3_lengthOfMoments_j1 p1 p2 p3 = 0)]⟩ (by decide) (by decide) dX3_lengthOfMoments_73
  refine z_if_eq (tgt := 26) C dX3_lengthOfMoments_5 (by decide) (fun h1 => ?_) (fun h1 => ?_)
  · refine z_iconst (v := 1) C dX3_lengthOfMoments_26 (by decide) ?_
    exact K1_1 (by rw [f_X3_lengthOfMoments_j1, if_pos h1]) 
  · refine z_iload_n C dX3_lengthOfMoments_8 rfl 2 rfl ?_
    refine z_si (rest := [.ref (z 0)]) C (c_X3_isSlot l hfl D cI cJ _ p2 ) q_X3_isSlot gX3_lengthOfMoments_X3_isSlot ⟨rfl, rfl⟩ rfl rfl (Nat.le_of_ble_eq_true rfl) ⟨Nat.le_of_ble_eq_true rfl, Nat.le_of_ble_eq_true rfl⟩ ⟨Nat.le_of_ble_eq_true rfl, Nat.le_of_ble_eq_true rfl⟩ dX3_lengthOfMoments_9 ?_
    refine z_if_eq (tgt := 26) C dX3_lengthOfMoments_12 (by decide) (fun h2 => ?_) (fun h2 => ?_)
    · refine z_iconst (v := 1) C dX3_lengthOfMoments_26 (by decide) ?_
      exact K1_1 (by rw [f_X3_lengthOfMoments_j1, if_neg h1, if_pos h2]) 
    · refine z_iload_n C dX3_lengthOfMoments_15 rfl 3 rfl ?_
      refine z_si (rest := [.ref (z 0)]) C (c_X3_isSlot l hfl D cI cJ _ p3 ) q_X3_isSlot gX3_lengthOfMoments_X3_isSlot ⟨rfl, rfl⟩ rfl rfl (Nat.le_of_ble_eq_true rfl) ⟨Nat.le_of_ble_eq_true rfl, Nat.le_of_ble_eq_true rfl⟩ ⟨Nat.le_of_ble_eq_true rfl, Nat.le_of_ble_eq_true rfl⟩ dX3_lengthOfMoments_16 ?_
      refine z_if_eq (tgt := 26) C dX3_lengthOfMoments_19 (by decide) (fun h3 => ?_) (fun h3 => ?_)
      · refine z_iconst (v := 1) C dX3_lengthOfMoments_26 (by decide) ?_
        exact K1_1 (by rw [f_X3_lengthOfMoments_j1, if_neg h1, if_neg h2, if_pos h3]) 
      · refine z_iconst (v := 0) C dX3_lengthOfMoments_22 (by decide) ?_
        refine z_goto (tgt := 27) C dX3_lengthOfMoments_23 (by decide) ?_
        exact K1_0 (by rw [f_X3_lengthOfMoments_j1, if_neg h1, if_neg h2, if_neg h3]) h1 h2 h3
def f_X3_whole_j1 (p1 : Int32) (p2 : Int32) (p3 : Int32) : Int32 := (if (f_X3_isSlot p1) = 0 then 1 else (if (f_X3_isSlot p2) = 0 then 1 else (if p3 = 100 then 0 else (if p3 = 104 then 0 else (if p3 = 105 then 0 else (if p3 = 115 then 0 else 2))))))
def f_X3_whole_j2 (mD : Nat → Int64) (mT : Nat → Int64) (p1 : Int32) (p2 : Int32) : Int32 := (if (f_X3_isAhead mD mT p2 p1) = 0 then p1 else p2)
def f_X3_whole_j3 (mD : Nat → Int64) (mT : Nat → Int64) (p1 : Int32) (p2 : Int32) : Int32 := (if (f_X3_isAhead mD mT p2 p1) = 0 then p2 else p1)
def f_X3_whole_j4 (mD : Nat → Int64) (mT : Nat → Int64) (p1 : Int32) (p2 : Int32) : Int32 := (if (mT (f_X3_whole_j2 mD mT p1 p2).toNatClampNeg) ≤ (mT (f_X3_whole_j3 mD mT p1 p2).toNatClampNeg) then 0 else 1)
def f_X3_whole_j5 (p3 : Int32) : Int64 := (if p3 = 104 then 3600 else (if p3 = 105 then 60 else 1))
def f_X3_whole_j6 (mD : Nat → Int64) (mT : Nat → Int64) (p1 : Int32) (p2 : Int32) (p3 : Int32) : Int64 := (if p3 = 100 then (((mD (f_X3_whole_j3 mD mT p1 p2).toNatClampNeg) - (mD (f_X3_whole_j2 mD mT p1 p2).toNatClampNeg)) - 0) else (if f_X3_whole_j5 p3 = 1 then (((86400 * (((mD (f_X3_whole_j3 mD mT p1 p2).toNatClampNeg) - (mD (f_X3_whole_j2 mD mT p1 p2).toNatClampNeg)) - 0)) + ((((mT (f_X3_whole_j3 mD mT p1 p2).toNatClampNeg) - (mT (f_X3_whole_j2 mD mT p1 p2).toNatClampNeg)) + 0) / 1000000000)) / 1) else (if f_X3_whole_j5 p3 = 60 then (((86400 * (((mD (f_X3_whole_j3 mD mT p1 p2).toNatClampNeg) - (mD (f_X3_whole_j2 mD mT p1 p2).toNatClampNeg)) - 0)) + ((((mT (f_X3_whole_j3 mD mT p1 p2).toNatClampNeg) - (mT (f_X3_whole_j2 mD mT p1 p2).toNatClampNeg)) + 0) / 1000000000)) / 60) else (((86400 * (((mD (f_X3_whole_j3 mD mT p1 p2).toNatClampNeg) - (mD (f_X3_whole_j2 mD mT p1 p2).toNatClampNeg)) - 0)) + ((((mT (f_X3_whole_j3 mD mT p1 p2).toNatClampNeg) - (mT (f_X3_whole_j2 mD mT p1 p2).toNatClampNeg)) + 0) / 1000000000)) / 3600))))
def f_X3_whole_j8 (mD : Nat → Int64) (mT : Nat → Int64) (p1 : Int32) (p2 : Int32) (p3 : Int32) : Int64 := (if p3 = 100 then (((mD (f_X3_whole_j3 mD mT p1 p2).toNatClampNeg) - (mD (f_X3_whole_j2 mD mT p1 p2).toNatClampNeg)) - 1) else (if f_X3_whole_j5 p3 = 1 then (((86400 * (((mD (f_X3_whole_j3 mD mT p1 p2).toNatClampNeg) - (mD (f_X3_whole_j2 mD mT p1 p2).toNatClampNeg)) - 1)) + ((((mT (f_X3_whole_j3 mD mT p1 p2).toNatClampNeg) - (mT (f_X3_whole_j2 mD mT p1 p2).toNatClampNeg)) + 86400000000000) / 1000000000)) / 1) else (if f_X3_whole_j5 p3 = 60 then (((86400 * (((mD (f_X3_whole_j3 mD mT p1 p2).toNatClampNeg) - (mD (f_X3_whole_j2 mD mT p1 p2).toNatClampNeg)) - 1)) + ((((mT (f_X3_whole_j3 mD mT p1 p2).toNatClampNeg) - (mT (f_X3_whole_j2 mD mT p1 p2).toNatClampNeg)) + 86400000000000) / 1000000000)) / 60) else (((86400 * (((mD (f_X3_whole_j3 mD mT p1 p2).toNatClampNeg) - (mD (f_X3_whole_j2 mD mT p1 p2).toNatClampNeg)) - 1)) + ((((mT (f_X3_whole_j3 mD mT p1 p2).toNatClampNeg) - (mT (f_X3_whole_j2 mD mT p1 p2).toNatClampNeg)) + 86400000000000) / 1000000000)) / 3600))))
def f_X3_whole (mD : Nat → Int64) (mT : Nat → Int64) (p1 : Int32) (p2 : Int32) (p3 : Int32) : Int64 := (if f_X3_whole_j1 p1 p2 p3 = 0 then (if f_X3_whole_j4 mD mT p1 p2 = 0 then (if (f_X3_isAhead mD mT p2 p1) = 0 then (f_X3_whole_j6 mD mT p1 p2 p3) else (-(f_X3_whole_j6 mD mT p1 p2 p3))) else (if (f_X3_isAhead mD mT p2 p1) = 0 then (f_X3_whole_j8 mD mT p1 p2 p3) else (-(f_X3_whole_j8 mD mT p1 p2 p3)))) else (if f_X3_whole_j1 p1 p2 p3 = 1 then 0 else 0))
def s_X3_whole_co (mD : Nat → Int64) (mT : Nat → Int64) (p1 : Int32) (p2 : Int32) (p3 : Int32) : Int32 := (if f_X3_whole_j1 p1 p2 p3 = 0 then (if f_X3_whole_j4 mD mT p1 p2 = 0 then (if (f_X3_isAhead mD mT p2 p1) = 0 then (s_X3_fails_co 0) else (s_X3_fails_co 0)) else (if (f_X3_isAhead mD mT p2 p1) = 0 then (s_X3_fails_co 0) else (s_X3_fails_co 0))) else (if f_X3_whole_j1 p1 p2 p3 = 1 then (s_X3_fails_co 1) else (s_X3_fails_co 2)))
def pre_X3_whole (mD : Nat → Int64) (mT : Nat → Int64) (p1 : Int32) (p2 : Int32) (p3 : Int32) : Prop := (((f_X3_whole_j1 p1 p2 p3) = 0) → (¬ (f_X3_isSlot p1) = 0) → (¬ (f_X3_isSlot p2) = 0) → (vp_in (f_X3_whole_j3 mD mT p1 p2) 4)) ∧ (((f_X3_whole_j1 p1 p2 p3) = 0) → (¬ (f_X3_isSlot p1) = 0) → (¬ (f_X3_isSlot p2) = 0) → (vp_in (f_X3_whole_j2 mD mT p1 p2) 4)) ∧ (((f_X3_whole_j1 p1 p2 p3) = 0) → (¬ (f_X3_isSlot p1) = 0) → (¬ (f_X3_isSlot p2) = 0) → ((f_X3_whole_j4 mD mT p1 p2) = 0) → ((mT (f_X3_whole_j2 mD mT p1 p2).toNatClampNeg) ≤ (mT (f_X3_whole_j3 mD mT p1 p2).toNatClampNeg)) → (vp_in (f_X3_whole_j3 mD mT p1 p2) 4)) ∧ (((f_X3_whole_j1 p1 p2 p3) = 0) → (¬ (f_X3_isSlot p1) = 0) → (¬ (f_X3_isSlot p2) = 0) → ((f_X3_whole_j4 mD mT p1 p2) = 0) → ((mT (f_X3_whole_j2 mD mT p1 p2).toNatClampNeg) ≤ (mT (f_X3_whole_j3 mD mT p1 p2).toNatClampNeg)) → (vp_in (f_X3_whole_j2 mD mT p1 p2) 4)) ∧ (((f_X3_whole_j1 p1 p2 p3) = 0) → (¬ (f_X3_isSlot p1) = 0) → (¬ (f_X3_isSlot p2) = 0) → ((f_X3_whole_j4 mD mT p1 p2) = 1) → (¬ (mT (f_X3_whole_j2 mD mT p1 p2).toNatClampNeg) ≤ (mT (f_X3_whole_j3 mD mT p1 p2).toNatClampNeg)) → (vp_in (f_X3_whole_j3 mD mT p1 p2) 4)) ∧ (((f_X3_whole_j1 p1 p2 p3) = 0) → (¬ (f_X3_isSlot p1) = 0) → (¬ (f_X3_isSlot p2) = 0) → ((f_X3_whole_j4 mD mT p1 p2) = 1) → (¬ (mT (f_X3_whole_j2 mD mT p1 p2).toNatClampNeg) ≤ (mT (f_X3_whole_j3 mD mT p1 p2).toNatClampNeg)) → (vp_in (f_X3_whole_j2 mD mT p1 p2) 4))
theorem q_X3_whole : ZY yX3_whole wsX3_whole cX3_whole 14 (some .long) 3 := ⟨⟨_, rfl⟩, by decide +kernel, by decide +kernel, by decide +kernel⟩
set_option maxHeartbeats 4000000 in
set_option maxRecDepth 100000 in
theorem c_X3_whole (l : Launch) (hfl : l.stackTraces = false) (D : va_G) (cI cJ : ClassId) (X : va_W) (z : Nat → Nat) (co : Int32) (d : Nat → Int64) (ti : Nat → Int64) (sL : Nat → Int64) (bL : Nat → Int64) (mD : Nat → Int64) (mT : Nat → Int64) (sy : Nat → Int64) (sm : Nat → Int64) (sd : Nat → Int64) (mi : Nat → Int64) (yr : Int64) (mo : Int32) (dy : Int32) (p1 : Int32) (p2 : Int32) (p3 : Int32)  (h_g : pre_X3_whole mD mT p1 p2 p3) : ZM l yX3_whole wsX3_whole { frames := 2, cells := 0, slots := 0, locals := 45 } [.ref (z 0), .int p1, .int p2, .int p3] D (zTys cI cJ) (wM cI cJ z co d ti sL bL mD mT sy sm sd mi yr mo dy X) 0 0 (fun v w => v = some (.long (f_X3_whole mD mT p1 p2 p3)) ∧ w = (wM cI cJ z (s_X3_whole_co mD mT p1 p2 p3) d ti sL bL mD mT sy sm sd mi yr mo dy X)) (fun _ _ => False) := by
  refine z_open (own := RX3) hfl (cc := cX3_whole) (maxL := 14) (ret := (some .long)) (lv := [(0, .ref (z 0)), (1, .int p1), (2, .int p2), (3, .int p3)]) rfl (by decide) rfl rfl (Nat.le_of_ble_eq_true rfl) ?_
  intro p e s m args below meth c A C hno hnm hargs
  have hin : ∀ w ∈ wsX30, w ∈ wsX3_whole := by decide +kernel
  have w1 := C.1.2.2.2.2 (.fieldLink RX3 29 "YearwheelModel" "clocks" "[J") (by decide +kernel)
  have w2 := C.1.2.2.2.2 (.fieldLink RX3 26 "YearwheelModel" "days" "[J") (by decide +kernel)
  have w3 := C.1.2.2.2.2 (.constantLong RX3 199 (1000000000)) (by decide +kernel)
  have w4 := C.1.2.2.2.2 (.constantLong RX3 231 (86400)) (by decide +kernel)
  have w5 := C.1.2.2.2.2 (.constantLong RX3 197 (60)) (by decide +kernel)
  have w6 := C.1.2.2.2.2 (.constantLong RX3 195 (3600)) (by decide +kernel)
  have w7 := C.1.2.2.2.2 (.constantLong RX3 205 (86400000000000)) (by decide +kernel)
  obtain ⟨g_0, g_1, g_2, g_3, g_4, g_5⟩ := h_g
  refine z_aload_n C dX3_whole_0 rfl 0 rfl ?_
  refine z_iload_n C dX3_whole_1 rfl 1 rfl ?_
  refine z_si (rest := [.ref (z 0)]) C (c_X3_isSlot l hfl D cI cJ _ p1 ) q_X3_isSlot gX3_whole_X3_isSlot ⟨rfl, rfl⟩ rfl rfl (Nat.le_of_ble_eq_true rfl) ⟨Nat.le_of_ble_eq_true rfl, Nat.le_of_ble_eq_true rfl⟩ ⟨Nat.le_of_ble_eq_true rfl, Nat.le_of_ble_eq_true rfl⟩ dX3_whole_2 ?_
  have K1_0 : f_X3_whole_j1 p1 p2 p3 = 0 → (¬ (f_X3_isSlot p1) = 0) → (¬ (f_X3_isSlot p2) = 0) → ZW p l e { frames := 2, cells := 0, slots := 0, locals := 45 } s m args below meth c 14 D (zTys cI cJ) A (zE D (zTys cI cJ) A below args s (fun v w => v = some (.long (f_X3_whole mD mT p1 p2 p3)) ∧ w = (wM cI cJ z (s_X3_whole_co mD mT p1 p2 p3) d ti sL bL mD mT sy sm sd mi yr mo dy X)) (fun _ _ => False) 0 0) 0 0 (wM cI cJ z co d ti sL bL mD mT sy sm sd mi yr mo dy X) 48 [(0, .ref (z 0)), (1, .int p1), (2, .int p2), (3, .int p3)] [.int 0, .ref (z 0)] := by
    intro h7 h8 h9
    refine z_wi (ws' := (wM cI cJ z (s_X3_fails_co 0) d ti sL bL mD mT sy sm sd mi yr mo dy X)) (rest := []) (ci := 3) (q0 := 0) C (c_X3_fails l hfl D cI cJ X z co d ti sL bL mD mT sy sm sd mi yr mo dy (0 : Int32) ) q_X3_fails rfl rfl rfl gX3_whole_X3_fails ⟨rfl, rfl⟩ rfl rfl (Nat.le_of_ble_eq_true rfl) ⟨Nat.le_of_ble_eq_true rfl, Nat.le_of_ble_eq_true rfl⟩ ⟨Nat.le_of_ble_eq_true rfl, Nat.le_of_ble_eq_true rfl⟩ dX3_whole_48 ?_
    refine z_eqst (st' := [.int 0]) (congrArg (fun v => Value.int v :: _) (by decide : (f_X3_fails 0) = (0 : Int32))) ?_
    refine z_if_eq (tgt := 56) C dX3_whole_51 (by decide) (fun _ => ?_) (fun h => absurd (by decide) h)
    refine z_aload_n C dX3_whole_56 rfl 0 rfl ?_
    refine z_iload_n C dX3_whole_57 rfl 2 rfl ?_
    refine z_iload_n C dX3_whole_58 rfl 1 rfl ?_
    refine z_wi (ws' := (wM cI cJ z (s_X3_fails_co 0) d ti sL bL mD mT sy sm sd mi yr mo dy X)) (rest := []) (ci := 3) (q0 := 0) C (c_X3_isAhead l hfl D cI cJ X z (s_X3_fails_co 0) d ti sL bL mD mT sy sm sd mi yr mo dy p2 p1 (vpMSlot h9) (vpMSlot h8)) q_X3_isAhead rfl rfl rfl gX3_whole_X3_isAhead ⟨rfl, rfl⟩ rfl rfl (Nat.le_of_ble_eq_true rfl) ⟨Nat.le_of_ble_eq_true rfl, Nat.le_of_ble_eq_true rfl⟩ ⟨Nat.le_of_ble_eq_true rfl, Nat.le_of_ble_eq_true rfl⟩ dX3_whole_59 ?_
    refine z_istore (lv' := [(4, .int (f_X3_isAhead mD mT p2 p1)), (0, .ref (z 0)), (1, .int p1), (2, .int p2), (3, .int p3)]) C dX3_whole_62 (by decide) rfl ?_
    refine z_iload C dX3_whole_64 0 rfl ?_
    have K2 : ∀ (v2_0 : Int32), (f_X3_whole_j2 mD mT p1 p2) = v2_0 → ZW p l e { frames := 2, cells := 0, slots := 0, locals := 45 } s m args below meth c 14 D (zTys cI cJ) A (zE D (zTys cI cJ) A below args s (fun v w => v = some (.long (f_X3_whole mD mT p1 p2 p3)) ∧ w = (wM cI cJ z (s_X3_whole_co mD mT p1 p2 p3) d ti sL bL mD mT sy sm sd mi yr mo dy X)) (fun _ _ => False) 0 0) 0 0 (wM cI cJ z (s_X3_fails_co 0) d ti sL bL mD mT sy sm sd mi yr mo dy X) 74 [(4, .int (f_X3_isAhead mD mT p2 p1)), (0, .ref (z 0)), (1, .int p1), (2, .int p2), (3, .int p3)] [.int v2_0] := by
      rintro _ rfl
      refine z_istore (lv' := [(5, .int (f_X3_whole_j2 mD mT p1 p2)), (4, .int (f_X3_isAhead mD mT p2 p1)), (0, .ref (z 0)), (1, .int p1), (2, .int p2), (3, .int p3)]) C dX3_whole_74 (by decide) rfl ?_
      refine z_iload C dX3_whole_76 1 rfl ?_
      have K3 : ∀ (v3_0 : Int32), (f_X3_whole_j3 mD mT p1 p2) = v3_0 → ZW p l e { frames := 2, cells := 0, slots := 0, locals := 45 } s m args below meth c 14 D (zTys cI cJ) A (zE D (zTys cI cJ) A below args s (fun v w => v = some (.long (f_X3_whole mD mT p1 p2 p3)) ∧ w = (wM cI cJ z (s_X3_whole_co mD mT p1 p2 p3) d ti sL bL mD mT sy sm sd mi yr mo dy X)) (fun _ _ => False) 0 0) 0 0 (wM cI cJ z (s_X3_fails_co 0) d ti sL bL mD mT sy sm sd mi yr mo dy X) 86 [(5, .int (f_X3_whole_j2 mD mT p1 p2)), (4, .int (f_X3_isAhead mD mT p2 p1)), (0, .ref (z 0)), (1, .int p1), (2, .int p2), (3, .int p3)] [.int v3_0] := by
        rintro _ rfl
        refine z_istore (lv' := [(6, .int (f_X3_whole_j3 mD mT p1 p2)), (5, .int (f_X3_whole_j2 mD mT p1 p2)), (4, .int (f_X3_isAhead mD mT p2 p1)), (0, .ref (z 0)), (1, .int p1), (2, .int p2), (3, .int p3)]) C dX3_whole_86 (by decide) rfl ?_
        refine z_aload_n C dX3_whole_88 rfl 3 rfl ?_
        refine z_get (CC := RX3) (T := TX3) (N := 14) (ci := 3) C hin 0 rfl rfl 6 (by decide) w1 rfl rfl dX3_whole_89 ?_
        refine z_iload C dX3_whole_92 0 rfl ?_
        refine z_lald C 6 1 rfl rfl (g_0 h7 h8 h9) dX3_whole_94 ?_
        refine z_aload_n C dX3_whole_95 rfl 3 rfl ?_
        refine z_get (CC := RX3) (T := TX3) (N := 14) (ci := 3) C hin 0 rfl rfl 6 (by decide) w1 rfl rfl dX3_whole_96 ?_
        refine z_iload C dX3_whole_99 1 rfl ?_
        refine z_lald C 6 1 rfl rfl (g_1 h7 h8 h9) dX3_whole_101 ?_
        have K4_0 : f_X3_whole_j4 mD mT p1 p2 = 0 → ((mT (f_X3_whole_j2 mD mT p1 p2).toNatClampNeg) ≤ (mT (f_X3_whole_j3 mD mT p1 p2).toNatClampNeg)) → ZW p l e { frames := 2, cells := 0, slots := 0, locals := 45 } s m args below meth c 14 D (zTys cI cJ) A (zE D (zTys cI cJ) A below args s (fun v w => v = some (.long (f_X3_whole mD mT p1 p2 p3)) ∧ w = (wM cI cJ z (s_X3_whole_co mD mT p1 p2 p3) d ti sL bL mD mT sy sm sd mi yr mo dy X)) (fun _ _ => False) 0 0) 0 0 (wM cI cJ z (s_X3_fails_co 0) d ti sL bL mD mT sy sm sd mi yr mo dy X) 111 [(6, .int (f_X3_whole_j3 mD mT p1 p2)), (5, .int (f_X3_whole_j2 mD mT p1 p2)), (4, .int (f_X3_isAhead mD mT p2 p1)), (0, .ref (z 0)), (1, .int p1), (2, .int p2), (3, .int p3)] [.int 0] := by
          intro h13 h14
          refine z_istore (lv' := [(7, .int 0), (6, .int (f_X3_whole_j3 mD mT p1 p2)), (5, .int (f_X3_whole_j2 mD mT p1 p2)), (4, .int (f_X3_isAhead mD mT p2 p1)), (0, .ref (z 0)), (1, .int p1), (2, .int p2), (3, .int p3)]) C dX3_whole_111 (by decide) rfl ?_
          refine z_aload_n C dX3_whole_113 rfl 4 rfl ?_
          refine z_get (CC := RX3) (T := TX3) (N := 14) (ci := 3) C hin 0 rfl rfl 5 (by decide) w2 rfl rfl dX3_whole_114 ?_
          refine z_iload C dX3_whole_117 1 rfl ?_
          refine z_lald C 5 1 rfl rfl (g_2 h7 h8 h9 h13 h14) dX3_whole_119 ?_
          refine z_aload_n C dX3_whole_120 rfl 4 rfl ?_
          refine z_get (CC := RX3) (T := TX3) (N := 14) (ci := 3) C hin 0 rfl rfl 5 (by decide) w2 rfl rfl dX3_whole_121 ?_
          refine z_iload C dX3_whole_124 2 rfl ?_
          refine z_lald C 5 1 rfl rfl (g_3 h7 h8 h9 h13 h14) dX3_whole_126 ?_
          refine z_lsub C dX3_whole_127 ?_
          refine z_iload C dX3_whole_128 0 rfl ?_
          refine z_if_eq (tgt := 137) C dX3_whole_130 (by decide) (fun _ => ?_) (fun h => absurd (by decide) h)
          refine z_lconst (v := 0) C dX3_whole_137 (by decide) ?_
          refine z_lsub C dX3_whole_138 ?_
          refine z_lstore (lv' := [(8, .long (((mD (f_X3_whole_j3 mD mT p1 p2).toNatClampNeg) - (mD (f_X3_whole_j2 mD mT p1 p2).toNatClampNeg)) - 0)), (7, .int 0), (6, .int (f_X3_whole_j3 mD mT p1 p2)), (5, .int (f_X3_whole_j2 mD mT p1 p2)), (4, .int (f_X3_isAhead mD mT p2 p1)), (0, .ref (z 0)), (1, .int p1), (2, .int p2), (3, .int p3)]) C dX3_whole_139 (by decide) rfl ?_
          refine z_aload_n C dX3_whole_141 rfl 5 rfl ?_
          refine z_get (CC := RX3) (T := TX3) (N := 14) (ci := 3) C hin 0 rfl rfl 6 (by decide) w1 rfl rfl dX3_whole_142 ?_
          refine z_iload C dX3_whole_145 2 rfl ?_
          refine z_lald C 6 1 rfl rfl (g_2 h7 h8 h9 h13 h14) dX3_whole_147 ?_
          refine z_aload_n C dX3_whole_148 rfl 5 rfl ?_
          refine z_get (CC := RX3) (T := TX3) (N := 14) (ci := 3) C hin 0 rfl rfl 6 (by decide) w1 rfl rfl dX3_whole_149 ?_
          refine z_iload C dX3_whole_152 3 rfl ?_
          refine z_lald C 6 1 rfl rfl (g_3 h7 h8 h9 h13 h14) dX3_whole_154 ?_
          refine z_lsub C dX3_whole_155 ?_
          refine z_iload C dX3_whole_156 1 rfl ?_
          refine z_if_eq (tgt := 167) C dX3_whole_158 (by decide) (fun _ => ?_) (fun h => absurd (by decide) h)
          refine z_lconst (v := 0) C dX3_whole_167 (by decide) ?_
          refine z_ladd C dX3_whole_168 ?_
          refine z_ldc2 (v := 1000000000) C w3 dX3_whole_169 ?_
          refine z_ldiv C dX3_whole_172 (by decide) ?_
          refine z_lstore (lv' := [(10, .long ((((mT (f_X3_whole_j3 mD mT p1 p2).toNatClampNeg) - (mT (f_X3_whole_j2 mD mT p1 p2).toNatClampNeg)) + 0) / 1000000000)), (8, .long (((mD (f_X3_whole_j3 mD mT p1 p2).toNatClampNeg) - (mD (f_X3_whole_j2 mD mT p1 p2).toNatClampNeg)) - 0)), (7, .int 0), (6, .int (f_X3_whole_j3 mD mT p1 p2)), (5, .int (f_X3_whole_j2 mD mT p1 p2)), (4, .int (f_X3_isAhead mD mT p2 p1)), (0, .ref (z 0)), (1, .int p1), (2, .int p2), (3, .int p3)]) C dX3_whole_173 (by decide) rfl ?_
          refine z_iload_n C dX3_whole_175 rfl 9 rfl ?_
          refine z_bipush (v := 100) C dX3_whole_176 (by decide) ?_
          have K6 : ∀ (v6_0 : Int64), (f_X3_whole_j6 mD mT p1 p2 p3) = v6_0 → ZW p l e { frames := 2, cells := 0, slots := 0, locals := 45 } s m args below meth c 14 D (zTys cI cJ) A (zE D (zTys cI cJ) A below args s (fun v w => v = some (.long (f_X3_whole mD mT p1 p2 p3)) ∧ w = (wM cI cJ z (s_X3_whole_co mD mT p1 p2 p3) d ti sL bL mD mT sy sm sd mi yr mo dy X)) (fun _ _ => False) 0 0) 0 0 (wM cI cJ z (s_X3_fails_co 0) d ti sL bL mD mT sy sm sd mi yr mo dy X) 221 [(10, .long ((((mT (f_X3_whole_j3 mD mT p1 p2).toNatClampNeg) - (mT (f_X3_whole_j2 mD mT p1 p2).toNatClampNeg)) + 0) / 1000000000)), (8, .long (((mD (f_X3_whole_j3 mD mT p1 p2).toNatClampNeg) - (mD (f_X3_whole_j2 mD mT p1 p2).toNatClampNeg)) - 0)), (7, .int 0), (6, .int (f_X3_whole_j3 mD mT p1 p2)), (5, .int (f_X3_whole_j2 mD mT p1 p2)), (4, .int (f_X3_isAhead mD mT p2 p1)), (0, .ref (z 0)), (1, .int p1), (2, .int p2), (3, .int p3)] [.long v6_0] := by
            rintro _ rfl
            refine z_lstore (lv' := [(12, .long (f_X3_whole_j6 mD mT p1 p2 p3)), (10, .long ((((mT (f_X3_whole_j3 mD mT p1 p2).toNatClampNeg) - (mT (f_X3_whole_j2 mD mT p1 p2).toNatClampNeg)) + 0) / 1000000000)), (8, .long (((mD (f_X3_whole_j3 mD mT p1 p2).toNatClampNeg) - (mD (f_X3_whole_j2 mD mT p1 p2).toNatClampNeg)) - 0)), (7, .int 0), (6, .int (f_X3_whole_j3 mD mT p1 p2)), (5, .int (f_X3_whole_j2 mD mT p1 p2)), (4, .int (f_X3_isAhead mD mT p2 p1)), (0, .ref (z 0)), (1, .int p1), (2, .int p2), (3, .int p3)]) C dX3_whole_221 (by decide) rfl ?_
            refine z_iload C dX3_whole_223 6 rfl ?_
            refine z_if_eq (tgt := 234) C dX3_whole_225 (by decide) (fun h26 => ?_) (fun h26 => ?_)
            · refine z_lload C dX3_whole_234 0 rfl ?_
              exact z_lret C ⟨congrArg (fun v => some (Value.long v)) (by rw [f_X3_whole, if_pos h7, if_pos h13, if_pos h26] : (f_X3_whole_j6 mD mT p1 p2 p3) = (f_X3_whole mD mT p1 p2 p3)), by rw [s_X3_whole_co, if_pos h7, if_pos h13, if_pos h26]⟩ (by decide) (by decide) dX3_whole_236
            · refine z_lload C dX3_whole_228 0 rfl ?_
              refine z_lneg C dX3_whole_230 ?_
              refine z_goto (tgt := 236) C dX3_whole_231 (by decide) ?_
              exact z_lret C ⟨congrArg (fun v => some (Value.long v)) (by rw [f_X3_whole, if_pos h7, if_pos h13, if_neg h26] : (-(f_X3_whole_j6 mD mT p1 p2 p3)) = (f_X3_whole mD mT p1 p2 p3)), by rw [s_X3_whole_co, if_pos h7, if_pos h13, if_neg h26]⟩ (by decide) (by decide) dX3_whole_236
          refine z_icmp_ne (tgt := 186) C dX3_whole_178 (by decide) (fun h15 => ?_) (fun h15 => ?_)
          · refine z_ldc2 (v := 86400) C w4 dX3_whole_186 ?_
            refine z_lload C dX3_whole_189 1 rfl ?_
            refine z_lmul C dX3_whole_191 ?_
            refine z_lload C dX3_whole_192 0 rfl ?_
            refine z_ladd C dX3_whole_194 ?_
            refine z_iload_n C dX3_whole_195 rfl 9 rfl ?_
            refine z_bipush (v := 104) C dX3_whole_196 (by decide) ?_
            have K5_1 : f_X3_whole_j5 p3 = 1 → (¬ p3 = 104) → (¬ p3 = 105) → ZW p l e { frames := 2, cells := 0, slots := 0, locals := 45 } s m args below meth c 14 D (zTys cI cJ) A (zE D (zTys cI cJ) A below args s (fun v w => v = some (.long (f_X3_whole mD mT p1 p2 p3)) ∧ w = (wM cI cJ z (s_X3_whole_co mD mT p1 p2 p3) d ti sL bL mD mT sy sm sd mi yr mo dy X)) (fun _ _ => False) 0 0) 0 0 (wM cI cJ z (s_X3_fails_co 0) d ti sL bL mD mT sy sm sd mi yr mo dy X) 220 [(10, .long ((((mT (f_X3_whole_j3 mD mT p1 p2).toNatClampNeg) - (mT (f_X3_whole_j2 mD mT p1 p2).toNatClampNeg)) + 0) / 1000000000)), (8, .long (((mD (f_X3_whole_j3 mD mT p1 p2).toNatClampNeg) - (mD (f_X3_whole_j2 mD mT p1 p2).toNatClampNeg)) - 0)), (7, .int 0), (6, .int (f_X3_whole_j3 mD mT p1 p2)), (5, .int (f_X3_whole_j2 mD mT p1 p2)), (4, .int (f_X3_isAhead mD mT p2 p1)), (0, .ref (z 0)), (1, .int p1), (2, .int p2), (3, .int p3)] [.long 1, .long ((86400 * (((mD (f_X3_whole_j3 mD mT p1 p2).toNatClampNeg) - (mD (f_X3_whole_j2 mD mT p1 p2).toNatClampNeg)) - 0)) + ((((mT (f_X3_whole_j3 mD mT p1 p2).toNatClampNeg) - (mT (f_X3_whole_j2 mD mT p1 p2).toNatClampNeg)) + 0) / 1000000000))] := by
              intro h18 h19 h20
              refine z_ldiv C dX3_whole_220 (by decide) ?_
              exact K6 _ (by rw [f_X3_whole_j6, if_neg h15, if_pos h18])
            have K5_60 : f_X3_whole_j5 p3 = 60 → (¬ p3 = 104) → (p3 = 105) → ZW p l e { frames := 2, cells := 0, slots := 0, locals := 45 } s m args below meth c 14 D (zTys cI cJ) A (zE D (zTys cI cJ) A below args s (fun v w => v = some (.long (f_X3_whole mD mT p1 p2 p3)) ∧ w = (wM cI cJ z (s_X3_whole_co mD mT p1 p2 p3) d ti sL bL mD mT sy sm sd mi yr mo dy X)) (fun _ _ => False) 0 0) 0 0 (wM cI cJ z (s_X3_fails_co 0) d ti sL bL mD mT sy sm sd mi yr mo dy X) 220 [(10, .long ((((mT (f_X3_whole_j3 mD mT p1 p2).toNatClampNeg) - (mT (f_X3_whole_j2 mD mT p1 p2).toNatClampNeg)) + 0) / 1000000000)), (8, .long (((mD (f_X3_whole_j3 mD mT p1 p2).toNatClampNeg) - (mD (f_X3_whole_j2 mD mT p1 p2).toNatClampNeg)) - 0)), (7, .int 0), (6, .int (f_X3_whole_j3 mD mT p1 p2)), (5, .int (f_X3_whole_j2 mD mT p1 p2)), (4, .int (f_X3_isAhead mD mT p2 p1)), (0, .ref (z 0)), (1, .int p1), (2, .int p2), (3, .int p3)] [.long 60, .long ((86400 * (((mD (f_X3_whole_j3 mD mT p1 p2).toNatClampNeg) - (mD (f_X3_whole_j2 mD mT p1 p2).toNatClampNeg)) - 0)) + ((((mT (f_X3_whole_j3 mD mT p1 p2).toNatClampNeg) - (mT (f_X3_whole_j2 mD mT p1 p2).toNatClampNeg)) + 0) / 1000000000))] := by
              intro h21 h22 h23
              refine z_ldiv C dX3_whole_220 (by decide) ?_
              exact K6 _ (by rw [f_X3_whole_j6, if_neg h15, if_neg (by rw [h21]; decide : ¬ f_X3_whole_j5 p3 = 1), if_pos h21])
            have K5_3600 : f_X3_whole_j5 p3 = 3600 → (p3 = 104) → ZW p l e { frames := 2, cells := 0, slots := 0, locals := 45 } s m args below meth c 14 D (zTys cI cJ) A (zE D (zTys cI cJ) A below args s (fun v w => v = some (.long (f_X3_whole mD mT p1 p2 p3)) ∧ w = (wM cI cJ z (s_X3_whole_co mD mT p1 p2 p3) d ti sL bL mD mT sy sm sd mi yr mo dy X)) (fun _ _ => False) 0 0) 0 0 (wM cI cJ z (s_X3_fails_co 0) d ti sL bL mD mT sy sm sd mi yr mo dy X) 220 [(10, .long ((((mT (f_X3_whole_j3 mD mT p1 p2).toNatClampNeg) - (mT (f_X3_whole_j2 mD mT p1 p2).toNatClampNeg)) + 0) / 1000000000)), (8, .long (((mD (f_X3_whole_j3 mD mT p1 p2).toNatClampNeg) - (mD (f_X3_whole_j2 mD mT p1 p2).toNatClampNeg)) - 0)), (7, .int 0), (6, .int (f_X3_whole_j3 mD mT p1 p2)), (5, .int (f_X3_whole_j2 mD mT p1 p2)), (4, .int (f_X3_isAhead mD mT p2 p1)), (0, .ref (z 0)), (1, .int p1), (2, .int p2), (3, .int p3)] [.long 3600, .long ((86400 * (((mD (f_X3_whole_j3 mD mT p1 p2).toNatClampNeg) - (mD (f_X3_whole_j2 mD mT p1 p2).toNatClampNeg)) - 0)) + ((((mT (f_X3_whole_j3 mD mT p1 p2).toNatClampNeg) - (mT (f_X3_whole_j2 mD mT p1 p2).toNatClampNeg)) + 0) / 1000000000))] := by
              intro h24 h25
              refine z_ldiv C dX3_whole_220 (by decide) ?_
              exact K6 _ (by rw [f_X3_whole_j6, if_neg h15, if_neg (by rw [h24]; decide : ¬ f_X3_whole_j5 p3 = 1), if_neg (by rw [h24]; decide : ¬ f_X3_whole_j5 p3 = 60)])
            refine z_icmp_ne (tgt := 207) C dX3_whole_198 (by decide) (fun h16 => ?_) (fun h16 => ?_)
            · refine z_iload_n C dX3_whole_207 rfl 9 rfl ?_
              refine z_bipush (v := 105) C dX3_whole_208 (by decide) ?_
              refine z_icmp_ne (tgt := 219) C dX3_whole_210 (by decide) (fun h17 => ?_) (fun h17 => ?_)
              · refine z_lconst (v := 1) C dX3_whole_219 (by decide) ?_
                exact K5_1 (by rw [f_X3_whole_j5, if_neg h16, if_neg h17]) h16 h17
              · refine z_ldc2 (v := 60) C w5 dX3_whole_213 ?_
                refine z_goto (tgt := 220) C dX3_whole_216 (by decide) ?_
                exact K5_60 (by rw [f_X3_whole_j5, if_neg h16, if_pos h17]) h16 h17
            · refine z_ldc2 (v := 3600) C w6 dX3_whole_201 ?_
              refine z_goto (tgt := 220) C dX3_whole_204 (by decide) ?_
              exact K5_3600 (by rw [f_X3_whole_j5, if_pos h16]) h16
          · refine z_lload C dX3_whole_181 1 rfl ?_
            refine z_goto (tgt := 221) C dX3_whole_183 (by decide) ?_
            exact K6 _ (by rw [f_X3_whole_j6, if_pos h15])
        have K4_1 : f_X3_whole_j4 mD mT p1 p2 = 1 → (¬ (mT (f_X3_whole_j2 mD mT p1 p2).toNatClampNeg) ≤ (mT (f_X3_whole_j3 mD mT p1 p2).toNatClampNeg)) → ZW p l e { frames := 2, cells := 0, slots := 0, locals := 45 } s m args below meth c 14 D (zTys cI cJ) A (zE D (zTys cI cJ) A below args s (fun v w => v = some (.long (f_X3_whole mD mT p1 p2 p3)) ∧ w = (wM cI cJ z (s_X3_whole_co mD mT p1 p2 p3) d ti sL bL mD mT sy sm sd mi yr mo dy X)) (fun _ _ => False) 0 0) 0 0 (wM cI cJ z (s_X3_fails_co 0) d ti sL bL mD mT sy sm sd mi yr mo dy X) 111 [(6, .int (f_X3_whole_j3 mD mT p1 p2)), (5, .int (f_X3_whole_j2 mD mT p1 p2)), (4, .int (f_X3_isAhead mD mT p2 p1)), (0, .ref (z 0)), (1, .int p1), (2, .int p2), (3, .int p3)] [.int 1] := by
          intro h27 h28
          refine z_istore (lv' := [(7, .int 1), (6, .int (f_X3_whole_j3 mD mT p1 p2)), (5, .int (f_X3_whole_j2 mD mT p1 p2)), (4, .int (f_X3_isAhead mD mT p2 p1)), (0, .ref (z 0)), (1, .int p1), (2, .int p2), (3, .int p3)]) C dX3_whole_111 (by decide) rfl ?_
          refine z_aload_n C dX3_whole_113 rfl 4 rfl ?_
          refine z_get (CC := RX3) (T := TX3) (N := 14) (ci := 3) C hin 0 rfl rfl 5 (by decide) w2 rfl rfl dX3_whole_114 ?_
          refine z_iload C dX3_whole_117 1 rfl ?_
          refine z_lald C 5 1 rfl rfl (g_4 h7 h8 h9 h27 h28) dX3_whole_119 ?_
          refine z_aload_n C dX3_whole_120 rfl 4 rfl ?_
          refine z_get (CC := RX3) (T := TX3) (N := 14) (ci := 3) C hin 0 rfl rfl 5 (by decide) w2 rfl rfl dX3_whole_121 ?_
          refine z_iload C dX3_whole_124 2 rfl ?_
          refine z_lald C 5 1 rfl rfl (g_5 h7 h8 h9 h27 h28) dX3_whole_126 ?_
          refine z_lsub C dX3_whole_127 ?_
          refine z_iload C dX3_whole_128 0 rfl ?_
          refine z_if_eq (tgt := 137) C dX3_whole_130 (by decide) (fun h => absurd h (by decide)) (fun _ => ?_)
          refine z_lconst (v := 1) C dX3_whole_133 (by decide) ?_
          refine z_goto (tgt := 138) C dX3_whole_134 (by decide) ?_
          refine z_lsub C dX3_whole_138 ?_
          refine z_lstore (lv' := [(8, .long (((mD (f_X3_whole_j3 mD mT p1 p2).toNatClampNeg) - (mD (f_X3_whole_j2 mD mT p1 p2).toNatClampNeg)) - 1)), (7, .int 1), (6, .int (f_X3_whole_j3 mD mT p1 p2)), (5, .int (f_X3_whole_j2 mD mT p1 p2)), (4, .int (f_X3_isAhead mD mT p2 p1)), (0, .ref (z 0)), (1, .int p1), (2, .int p2), (3, .int p3)]) C dX3_whole_139 (by decide) rfl ?_
          refine z_aload_n C dX3_whole_141 rfl 5 rfl ?_
          refine z_get (CC := RX3) (T := TX3) (N := 14) (ci := 3) C hin 0 rfl rfl 6 (by decide) w1 rfl rfl dX3_whole_142 ?_
          refine z_iload C dX3_whole_145 2 rfl ?_
          refine z_lald C 6 1 rfl rfl (g_4 h7 h8 h9 h27 h28) dX3_whole_147 ?_
          refine z_aload_n C dX3_whole_148 rfl 5 rfl ?_
          refine z_get (CC := RX3) (T := TX3) (N := 14) (ci := 3) C hin 0 rfl rfl 6 (by decide) w1 rfl rfl dX3_whole_149 ?_
          refine z_iload C dX3_whole_152 3 rfl ?_
          refine z_lald C 6 1 rfl rfl (g_5 h7 h8 h9 h27 h28) dX3_whole_154 ?_
          refine z_lsub C dX3_whole_155 ?_
          refine z_iload C dX3_whole_156 1 rfl ?_
          refine z_if_eq (tgt := 167) C dX3_whole_158 (by decide) (fun h => absurd h (by decide)) (fun _ => ?_)
          refine z_ldc2 (v := 86400000000000) C w7 dX3_whole_161 ?_
          refine z_goto (tgt := 168) C dX3_whole_164 (by decide) ?_
          refine z_ladd C dX3_whole_168 ?_
          refine z_ldc2 (v := 1000000000) C w3 dX3_whole_169 ?_
          refine z_ldiv C dX3_whole_172 (by decide) ?_
          refine z_lstore (lv' := [(10, .long ((((mT (f_X3_whole_j3 mD mT p1 p2).toNatClampNeg) - (mT (f_X3_whole_j2 mD mT p1 p2).toNatClampNeg)) + 86400000000000) / 1000000000)), (8, .long (((mD (f_X3_whole_j3 mD mT p1 p2).toNatClampNeg) - (mD (f_X3_whole_j2 mD mT p1 p2).toNatClampNeg)) - 1)), (7, .int 1), (6, .int (f_X3_whole_j3 mD mT p1 p2)), (5, .int (f_X3_whole_j2 mD mT p1 p2)), (4, .int (f_X3_isAhead mD mT p2 p1)), (0, .ref (z 0)), (1, .int p1), (2, .int p2), (3, .int p3)]) C dX3_whole_173 (by decide) rfl ?_
          refine z_iload_n C dX3_whole_175 rfl 9 rfl ?_
          refine z_bipush (v := 100) C dX3_whole_176 (by decide) ?_
          have K8 : ∀ (v8_0 : Int64), (f_X3_whole_j8 mD mT p1 p2 p3) = v8_0 → ZW p l e { frames := 2, cells := 0, slots := 0, locals := 45 } s m args below meth c 14 D (zTys cI cJ) A (zE D (zTys cI cJ) A below args s (fun v w => v = some (.long (f_X3_whole mD mT p1 p2 p3)) ∧ w = (wM cI cJ z (s_X3_whole_co mD mT p1 p2 p3) d ti sL bL mD mT sy sm sd mi yr mo dy X)) (fun _ _ => False) 0 0) 0 0 (wM cI cJ z (s_X3_fails_co 0) d ti sL bL mD mT sy sm sd mi yr mo dy X) 221 [(10, .long ((((mT (f_X3_whole_j3 mD mT p1 p2).toNatClampNeg) - (mT (f_X3_whole_j2 mD mT p1 p2).toNatClampNeg)) + 86400000000000) / 1000000000)), (8, .long (((mD (f_X3_whole_j3 mD mT p1 p2).toNatClampNeg) - (mD (f_X3_whole_j2 mD mT p1 p2).toNatClampNeg)) - 1)), (7, .int 1), (6, .int (f_X3_whole_j3 mD mT p1 p2)), (5, .int (f_X3_whole_j2 mD mT p1 p2)), (4, .int (f_X3_isAhead mD mT p2 p1)), (0, .ref (z 0)), (1, .int p1), (2, .int p2), (3, .int p3)] [.long v8_0] := by
            rintro _ rfl
            refine z_lstore (lv' := [(12, .long (f_X3_whole_j8 mD mT p1 p2 p3)), (10, .long ((((mT (f_X3_whole_j3 mD mT p1 p2).toNatClampNeg) - (mT (f_X3_whole_j2 mD mT p1 p2).toNatClampNeg)) + 86400000000000) / 1000000000)), (8, .long (((mD (f_X3_whole_j3 mD mT p1 p2).toNatClampNeg) - (mD (f_X3_whole_j2 mD mT p1 p2).toNatClampNeg)) - 1)), (7, .int 1), (6, .int (f_X3_whole_j3 mD mT p1 p2)), (5, .int (f_X3_whole_j2 mD mT p1 p2)), (4, .int (f_X3_isAhead mD mT p2 p1)), (0, .ref (z 0)), (1, .int p1), (2, .int p2), (3, .int p3)]) C dX3_whole_221 (by decide) rfl ?_
            refine z_iload C dX3_whole_223 6 rfl ?_
            refine z_if_eq (tgt := 234) C dX3_whole_225 (by decide) (fun h40 => ?_) (fun h40 => ?_)
            · refine z_lload C dX3_whole_234 0 rfl ?_
              exact z_lret C ⟨congrArg (fun v => some (Value.long v)) (by rw [f_X3_whole, if_pos h7, if_neg (by rw [h27]; decide : ¬ f_X3_whole_j4 mD mT p1 p2 = 0), if_pos h40] : (f_X3_whole_j8 mD mT p1 p2 p3) = (f_X3_whole mD mT p1 p2 p3)), by rw [s_X3_whole_co, if_pos h7, if_neg (by rw [h27]; decide : ¬ f_X3_whole_j4 mD mT p1 p2 = 0), if_pos h40]⟩ (by decide) (by decide) dX3_whole_236
            · refine z_lload C dX3_whole_228 0 rfl ?_
              refine z_lneg C dX3_whole_230 ?_
              refine z_goto (tgt := 236) C dX3_whole_231 (by decide) ?_
              exact z_lret C ⟨congrArg (fun v => some (Value.long v)) (by rw [f_X3_whole, if_pos h7, if_neg (by rw [h27]; decide : ¬ f_X3_whole_j4 mD mT p1 p2 = 0), if_neg h40] : (-(f_X3_whole_j8 mD mT p1 p2 p3)) = (f_X3_whole mD mT p1 p2 p3)), by rw [s_X3_whole_co, if_pos h7, if_neg (by rw [h27]; decide : ¬ f_X3_whole_j4 mD mT p1 p2 = 0), if_neg h40]⟩ (by decide) (by decide) dX3_whole_236
          refine z_icmp_ne (tgt := 186) C dX3_whole_178 (by decide) (fun h29 => ?_) (fun h29 => ?_)
          · refine z_ldc2 (v := 86400) C w4 dX3_whole_186 ?_
            refine z_lload C dX3_whole_189 1 rfl ?_
            refine z_lmul C dX3_whole_191 ?_
            refine z_lload C dX3_whole_192 0 rfl ?_
            refine z_ladd C dX3_whole_194 ?_
            refine z_iload_n C dX3_whole_195 rfl 9 rfl ?_
            refine z_bipush (v := 104) C dX3_whole_196 (by decide) ?_
            have K7_1 : f_X3_whole_j5 p3 = 1 → (¬ p3 = 104) → (¬ p3 = 105) → ZW p l e { frames := 2, cells := 0, slots := 0, locals := 45 } s m args below meth c 14 D (zTys cI cJ) A (zE D (zTys cI cJ) A below args s (fun v w => v = some (.long (f_X3_whole mD mT p1 p2 p3)) ∧ w = (wM cI cJ z (s_X3_whole_co mD mT p1 p2 p3) d ti sL bL mD mT sy sm sd mi yr mo dy X)) (fun _ _ => False) 0 0) 0 0 (wM cI cJ z (s_X3_fails_co 0) d ti sL bL mD mT sy sm sd mi yr mo dy X) 220 [(10, .long ((((mT (f_X3_whole_j3 mD mT p1 p2).toNatClampNeg) - (mT (f_X3_whole_j2 mD mT p1 p2).toNatClampNeg)) + 86400000000000) / 1000000000)), (8, .long (((mD (f_X3_whole_j3 mD mT p1 p2).toNatClampNeg) - (mD (f_X3_whole_j2 mD mT p1 p2).toNatClampNeg)) - 1)), (7, .int 1), (6, .int (f_X3_whole_j3 mD mT p1 p2)), (5, .int (f_X3_whole_j2 mD mT p1 p2)), (4, .int (f_X3_isAhead mD mT p2 p1)), (0, .ref (z 0)), (1, .int p1), (2, .int p2), (3, .int p3)] [.long 1, .long ((86400 * (((mD (f_X3_whole_j3 mD mT p1 p2).toNatClampNeg) - (mD (f_X3_whole_j2 mD mT p1 p2).toNatClampNeg)) - 1)) + ((((mT (f_X3_whole_j3 mD mT p1 p2).toNatClampNeg) - (mT (f_X3_whole_j2 mD mT p1 p2).toNatClampNeg)) + 86400000000000) / 1000000000))] := by
              intro h32 h33 h34
              refine z_ldiv C dX3_whole_220 (by decide) ?_
              exact K8 _ (by rw [f_X3_whole_j8, if_neg h29, if_pos h32])
            have K7_60 : f_X3_whole_j5 p3 = 60 → (¬ p3 = 104) → (p3 = 105) → ZW p l e { frames := 2, cells := 0, slots := 0, locals := 45 } s m args below meth c 14 D (zTys cI cJ) A (zE D (zTys cI cJ) A below args s (fun v w => v = some (.long (f_X3_whole mD mT p1 p2 p3)) ∧ w = (wM cI cJ z (s_X3_whole_co mD mT p1 p2 p3) d ti sL bL mD mT sy sm sd mi yr mo dy X)) (fun _ _ => False) 0 0) 0 0 (wM cI cJ z (s_X3_fails_co 0) d ti sL bL mD mT sy sm sd mi yr mo dy X) 220 [(10, .long ((((mT (f_X3_whole_j3 mD mT p1 p2).toNatClampNeg) - (mT (f_X3_whole_j2 mD mT p1 p2).toNatClampNeg)) + 86400000000000) / 1000000000)), (8, .long (((mD (f_X3_whole_j3 mD mT p1 p2).toNatClampNeg) - (mD (f_X3_whole_j2 mD mT p1 p2).toNatClampNeg)) - 1)), (7, .int 1), (6, .int (f_X3_whole_j3 mD mT p1 p2)), (5, .int (f_X3_whole_j2 mD mT p1 p2)), (4, .int (f_X3_isAhead mD mT p2 p1)), (0, .ref (z 0)), (1, .int p1), (2, .int p2), (3, .int p3)] [.long 60, .long ((86400 * (((mD (f_X3_whole_j3 mD mT p1 p2).toNatClampNeg) - (mD (f_X3_whole_j2 mD mT p1 p2).toNatClampNeg)) - 1)) + ((((mT (f_X3_whole_j3 mD mT p1 p2).toNatClampNeg) - (mT (f_X3_whole_j2 mD mT p1 p2).toNatClampNeg)) + 86400000000000) / 1000000000))] := by
              intro h35 h36 h37
              refine z_ldiv C dX3_whole_220 (by decide) ?_
              exact K8 _ (by rw [f_X3_whole_j8, if_neg h29, if_neg (by rw [h35]; decide : ¬ f_X3_whole_j5 p3 = 1), if_pos h35])
            have K7_3600 : f_X3_whole_j5 p3 = 3600 → (p3 = 104) → ZW p l e { frames := 2, cells := 0, slots := 0, locals := 45 } s m args below meth c 14 D (zTys cI cJ) A (zE D (zTys cI cJ) A below args s (fun v w => v = some (.long (f_X3_whole mD mT p1 p2 p3)) ∧ w = (wM cI cJ z (s_X3_whole_co mD mT p1 p2 p3) d ti sL bL mD mT sy sm sd mi yr mo dy X)) (fun _ _ => False) 0 0) 0 0 (wM cI cJ z (s_X3_fails_co 0) d ti sL bL mD mT sy sm sd mi yr mo dy X) 220 [(10, .long ((((mT (f_X3_whole_j3 mD mT p1 p2).toNatClampNeg) - (mT (f_X3_whole_j2 mD mT p1 p2).toNatClampNeg)) + 86400000000000) / 1000000000)), (8, .long (((mD (f_X3_whole_j3 mD mT p1 p2).toNatClampNeg) - (mD (f_X3_whole_j2 mD mT p1 p2).toNatClampNeg)) - 1)), (7, .int 1), (6, .int (f_X3_whole_j3 mD mT p1 p2)), (5, .int (f_X3_whole_j2 mD mT p1 p2)), (4, .int (f_X3_isAhead mD mT p2 p1)), (0, .ref (z 0)), (1, .int p1), (2, .int p2), (3, .int p3)] [.long 3600, .long ((86400 * (((mD (f_X3_whole_j3 mD mT p1 p2).toNatClampNeg) - (mD (f_X3_whole_j2 mD mT p1 p2).toNatClampNeg)) - 1)) + ((((mT (f_X3_whole_j3 mD mT p1 p2).toNatClampNeg) - (mT (f_X3_whole_j2 mD mT p1 p2).toNatClampNeg)) + 86400000000000) / 1000000000))] := by
              intro h38 h39
              refine z_ldiv C dX3_whole_220 (by decide) ?_
              exact K8 _ (by rw [f_X3_whole_j8, if_neg h29, if_neg (by rw [h38]; decide : ¬ f_X3_whole_j5 p3 = 1), if_neg (by rw [h38]; decide : ¬ f_X3_whole_j5 p3 = 60)])
            refine z_icmp_ne (tgt := 207) C dX3_whole_198 (by decide) (fun h30 => ?_) (fun h30 => ?_)
            · refine z_iload_n C dX3_whole_207 rfl 9 rfl ?_
              refine z_bipush (v := 105) C dX3_whole_208 (by decide) ?_
              refine z_icmp_ne (tgt := 219) C dX3_whole_210 (by decide) (fun h31 => ?_) (fun h31 => ?_)
              · refine z_lconst (v := 1) C dX3_whole_219 (by decide) ?_
                exact K7_1 (by rw [f_X3_whole_j5, if_neg h30, if_neg h31]) h30 h31
              · refine z_ldc2 (v := 60) C w5 dX3_whole_213 ?_
                refine z_goto (tgt := 220) C dX3_whole_216 (by decide) ?_
                exact K7_60 (by rw [f_X3_whole_j5, if_neg h30, if_pos h31]) h30 h31
            · refine z_ldc2 (v := 3600) C w6 dX3_whole_201 ?_
              refine z_goto (tgt := 220) C dX3_whole_204 (by decide) ?_
              exact K7_3600 (by rw [f_X3_whole_j5, if_pos h30]) h30
          · refine z_lload C dX3_whole_181 1 rfl ?_
            refine z_goto (tgt := 221) C dX3_whole_183 (by decide) ?_
            exact K8 _ (by rw [f_X3_whole_j8, if_pos h29])
        refine z_lcmp_ge (tgt := 110) C dX3_whole_102 dX3_whole_103 (by decide) (fun h12 => ?_) (fun h12 => ?_)
        · refine z_iconst (v := 0) C dX3_whole_110 (by decide) ?_
          exact K4_0 (by rw [f_X3_whole_j4, if_pos h12]) h12
        · refine z_iconst (v := 1) C dX3_whole_106 (by decide) ?_
          refine z_goto (tgt := 111) C dX3_whole_107 (by decide) ?_
          exact K4_1 (by rw [f_X3_whole_j4, if_neg h12]) h12
      refine z_if_eq (tgt := 85) C dX3_whole_78 (by decide) (fun h11 => ?_) (fun h11 => ?_)
      · refine z_iload_n C dX3_whole_85 rfl 4 rfl ?_
        exact K3 _ (by rw [f_X3_whole_j3, if_pos h11])
      · refine z_iload_n C dX3_whole_81 rfl 3 rfl ?_
        refine z_goto (tgt := 86) C dX3_whole_82 (by decide) ?_
        exact K3 _ (by rw [f_X3_whole_j3, if_neg h11])
    refine z_if_eq (tgt := 73) C dX3_whole_66 (by decide) (fun h10 => ?_) (fun h10 => ?_)
    · refine z_iload_n C dX3_whole_73 rfl 2 rfl ?_
      exact K2 _ (by rw [f_X3_whole_j2, if_pos h10])
    · refine z_iload_n C dX3_whole_69 rfl 3 rfl ?_
      refine z_goto (tgt := 74) C dX3_whole_70 (by decide) ?_
      exact K2 _ (by rw [f_X3_whole_j2, if_neg h10])
  have K1_1 : f_X3_whole_j1 p1 p2 p3 = 1 → ZW p l e { frames := 2, cells := 0, slots := 0, locals := 45 } s m args below meth c 14 D (zTys cI cJ) A (zE D (zTys cI cJ) A below args s (fun v w => v = some (.long (f_X3_whole mD mT p1 p2 p3)) ∧ w = (wM cI cJ z (s_X3_whole_co mD mT p1 p2 p3) d ti sL bL mD mT sy sm sd mi yr mo dy X)) (fun _ _ => False) 0 0) 0 0 (wM cI cJ z co d ti sL bL mD mT sy sm sd mi yr mo dy X) 48 [(0, .ref (z 0)), (1, .int p1), (2, .int p2), (3, .int p3)] [.int 1, .ref (z 0)] := by
    intro h41
    refine z_wi (ws' := (wM cI cJ z (s_X3_fails_co 1) d ti sL bL mD mT sy sm sd mi yr mo dy X)) (rest := []) (ci := 3) (q0 := 0) C (c_X3_fails l hfl D cI cJ X z co d ti sL bL mD mT sy sm sd mi yr mo dy (1 : Int32) ) q_X3_fails rfl rfl rfl gX3_whole_X3_fails ⟨rfl, rfl⟩ rfl rfl (Nat.le_of_ble_eq_true rfl) ⟨Nat.le_of_ble_eq_true rfl, Nat.le_of_ble_eq_true rfl⟩ ⟨Nat.le_of_ble_eq_true rfl, Nat.le_of_ble_eq_true rfl⟩ dX3_whole_48 ?_
    refine z_eqst (st' := [.int 1]) (congrArg (fun v => Value.int v :: _) (by decide : (f_X3_fails 1) = (1 : Int32))) ?_
    refine z_if_eq (tgt := 56) C dX3_whole_51 (by decide) (fun h => absurd h (by decide)) (fun _ => ?_)
    refine z_lconst (v := 0) C dX3_whole_54 (by decide) ?_
    exact z_lret C ⟨congrArg (fun v => some (Value.long v)) (by rw [f_X3_whole, if_neg (by rw [h41]; decide : ¬ f_X3_whole_j1 p1 p2 p3 = 0), if_pos h41] : (0 : Int64) = (f_X3_whole mD mT p1 p2 p3)), by rw [s_X3_whole_co, if_neg (by rw [h41]; decide : ¬ f_X3_whole_j1 p1 p2 p3 = 0), if_pos h41]⟩ (by decide) (by decide) dX3_whole_55
  have K1_2 : f_X3_whole_j1 p1 p2 p3 = 2 → (¬ (f_X3_isSlot p1) = 0) → (¬ (f_X3_isSlot p2) = 0) → (¬ p3 = 100) → (¬ p3 = 104) → (¬ p3 = 105) → (¬ p3 = 115) → ZW p l e { frames := 2, cells := 0, slots := 0, locals := 45 } s m args below meth c 14 D (zTys cI cJ) A (zE D (zTys cI cJ) A below args s (fun v w => v = some (.long (f_X3_whole mD mT p1 p2 p3)) ∧ w = (wM cI cJ z (s_X3_whole_co mD mT p1 p2 p3) d ti sL bL mD mT sy sm sd mi yr mo dy X)) (fun _ _ => False) 0 0) 0 0 (wM cI cJ z co d ti sL bL mD mT sy sm sd mi yr mo dy X) 48 [(0, .ref (z 0)), (1, .int p1), (2, .int p2), (3, .int p3)] [.int 2, .ref (z 0)] := by
    intro h42 h43 h44 h45 h46 h47 h48
    refine z_wi (ws' := (wM cI cJ z (s_X3_fails_co 2) d ti sL bL mD mT sy sm sd mi yr mo dy X)) (rest := []) (ci := 3) (q0 := 0) C (c_X3_fails l hfl D cI cJ X z co d ti sL bL mD mT sy sm sd mi yr mo dy (2 : Int32) ) q_X3_fails rfl rfl rfl gX3_whole_X3_fails ⟨rfl, rfl⟩ rfl rfl (Nat.le_of_ble_eq_true rfl) ⟨Nat.le_of_ble_eq_true rfl, Nat.le_of_ble_eq_true rfl⟩ ⟨Nat.le_of_ble_eq_true rfl, Nat.le_of_ble_eq_true rfl⟩ dX3_whole_48 ?_
    refine z_eqst (st' := [.int 1]) (congrArg (fun v => Value.int v :: _) (by decide : (f_X3_fails 2) = (1 : Int32))) ?_
    refine z_if_eq (tgt := 56) C dX3_whole_51 (by decide) (fun h => absurd h (by decide)) (fun _ => ?_)
    refine z_lconst (v := 0) C dX3_whole_54 (by decide) ?_
    exact z_lret C ⟨congrArg (fun v => some (Value.long v)) (by rw [f_X3_whole, if_neg (by rw [h42]; decide : ¬ f_X3_whole_j1 p1 p2 p3 = 0), if_neg (by rw [h42]; decide : ¬ f_X3_whole_j1 p1 p2 p3 = 1)] : (0 : Int64) = (f_X3_whole mD mT p1 p2 p3)), by rw [s_X3_whole_co, if_neg (by rw [h42]; decide : ¬ f_X3_whole_j1 p1 p2 p3 = 0), if_neg (by rw [h42]; decide : ¬ f_X3_whole_j1 p1 p2 p3 = 1)]⟩ (by decide) (by decide) dX3_whole_55
  refine z_if_eq (tgt := 15) C dX3_whole_5 (by decide) (fun h1 => ?_) (fun h1 => ?_)
  · refine z_iconst (v := 1) C dX3_whole_15 (by decide) ?_
    refine z_goto (tgt := 48) C dX3_whole_16 (by decide) ?_
    exact K1_1 (by rw [f_X3_whole_j1, if_pos h1]) 
  · refine z_iload_n C dX3_whole_8 rfl 2 rfl ?_
    refine z_si (rest := [.ref (z 0)]) C (c_X3_isSlot l hfl D cI cJ _ p2 ) q_X3_isSlot gX3_whole_X3_isSlot ⟨rfl, rfl⟩ rfl rfl (Nat.le_of_ble_eq_true rfl) ⟨Nat.le_of_ble_eq_true rfl, Nat.le_of_ble_eq_true rfl⟩ ⟨Nat.le_of_ble_eq_true rfl, Nat.le_of_ble_eq_true rfl⟩ dX3_whole_9 ?_
    refine z_if_ne (tgt := 19) C dX3_whole_12 (by decide) (fun h2 => ?_) (fun h2 => ?_)
    · refine z_iload_n C dX3_whole_19 rfl 3 rfl ?_
      refine z_bipush (v := 100) C dX3_whole_20 (by decide) ?_
      refine z_icmp_eq (tgt := 43) C dX3_whole_22 (by decide) (fun h3 => ?_) (fun h3 => ?_)
      · refine z_iconst (v := 0) C dX3_whole_43 (by decide) ?_
        refine z_goto (tgt := 48) C dX3_whole_44 (by decide) ?_
        exact K1_0 (by rw [f_X3_whole_j1, if_neg h1, if_neg h2, if_pos h3]) h1 h2
      · refine z_iload_n C dX3_whole_25 rfl 3 rfl ?_
        refine z_bipush (v := 104) C dX3_whole_26 (by decide) ?_
        refine z_icmp_eq (tgt := 43) C dX3_whole_28 (by decide) (fun h4 => ?_) (fun h4 => ?_)
        · refine z_iconst (v := 0) C dX3_whole_43 (by decide) ?_
          refine z_goto (tgt := 48) C dX3_whole_44 (by decide) ?_
          exact K1_0 (by rw [f_X3_whole_j1, if_neg h1, if_neg h2, if_neg h3, if_pos h4]) h1 h2
        · refine z_iload_n C dX3_whole_31 rfl 3 rfl ?_
          refine z_bipush (v := 105) C dX3_whole_32 (by decide) ?_
          refine z_icmp_eq (tgt := 43) C dX3_whole_34 (by decide) (fun h5 => ?_) (fun h5 => ?_)
          · refine z_iconst (v := 0) C dX3_whole_43 (by decide) ?_
            refine z_goto (tgt := 48) C dX3_whole_44 (by decide) ?_
            exact K1_0 (by rw [f_X3_whole_j1, if_neg h1, if_neg h2, if_neg h3, if_neg h4, if_pos h5]) h1 h2
          · refine z_iload_n C dX3_whole_37 rfl 3 rfl ?_
            refine z_bipush (v := 115) C dX3_whole_38 (by decide) ?_
            refine z_icmp_ne (tgt := 47) C dX3_whole_40 (by decide) (fun h6 => ?_) (fun h6 => ?_)
            · refine z_iconst (v := 2) C dX3_whole_47 (by decide) ?_
              exact K1_2 (by rw [f_X3_whole_j1, if_neg h1, if_neg h2, if_neg h3, if_neg h4, if_neg h5, if_neg h6]) h1 h2 h3 h4 h5 h6
            · refine z_iconst (v := 0) C dX3_whole_43 (by decide) ?_
              refine z_goto (tgt := 48) C dX3_whole_44 (by decide) ?_
              exact K1_0 (by rw [f_X3_whole_j1, if_neg h1, if_neg h2, if_neg h3, if_neg h4, if_neg h5, if_pos h6]) h1 h2
    · refine z_iconst (v := 1) C dX3_whole_15 (by decide) ?_
      refine z_goto (tgt := 48) C dX3_whole_16 (by decide) ?_
      exact K1_1 (by rw [f_X3_whole_j1, if_neg h1, if_pos h2]) 
def f_X3_orderMoments_j1 (p1 : Int32) (p2 : Int32) : Int32 := (if (f_X3_isSlot p1) = 0 then 1 else (if (f_X3_isSlot p2) = 0 then 1 else 0))
def f_X3_orderMoments (mD : Nat → Int64) (mT : Nat → Int64) (p1 : Int32) (p2 : Int32) : Int32 := (if f_X3_orderMoments_j1 p1 p2 = 0 then (if (f_X3_isAhead mD mT p1 p2) = 0 then (if (f_X3_isAhead mD mT p2 p1) = 0 then 0 else 1) else (-1)) else 0)
def s_X3_orderMoments_co (mD : Nat → Int64) (mT : Nat → Int64) (p1 : Int32) (p2 : Int32) : Int32 := (if f_X3_orderMoments_j1 p1 p2 = 0 then (if (f_X3_isAhead mD mT p1 p2) = 0 then (if (f_X3_isAhead mD mT p2 p1) = 0 then (s_X3_fails_co 0) else (s_X3_fails_co 0)) else (s_X3_fails_co 0)) else (s_X3_fails_co 1))
theorem q_X3_orderMoments : ZY yX3_orderMoments wsX3_orderMoments cX3_orderMoments 3 (some .int) 2 := ⟨⟨_, rfl⟩, by decide +kernel, by decide +kernel, by decide +kernel⟩
set_option maxHeartbeats 4000000 in
set_option maxRecDepth 100000 in
theorem c_X3_orderMoments (l : Launch) (hfl : l.stackTraces = false) (D : va_G) (cI cJ : ClassId) (X : va_W) (z : Nat → Nat) (co : Int32) (d : Nat → Int64) (ti : Nat → Int64) (sL : Nat → Int64) (bL : Nat → Int64) (mD : Nat → Int64) (mT : Nat → Int64) (sy : Nat → Int64) (sm : Nat → Int64) (sd : Nat → Int64) (mi : Nat → Int64) (yr : Int64) (mo : Int32) (dy : Int32) (p1 : Int32) (p2 : Int32)  : ZM l yX3_orderMoments wsX3_orderMoments { frames := 2, cells := 0, slots := 0, locals := 45 } [.ref (z 0), .int p1, .int p2] D (zTys cI cJ) (wM cI cJ z co d ti sL bL mD mT sy sm sd mi yr mo dy X) 0 0 (fun v w => v = some (.int (f_X3_orderMoments mD mT p1 p2)) ∧ w = (wM cI cJ z (s_X3_orderMoments_co mD mT p1 p2) d ti sL bL mD mT sy sm sd mi yr mo dy X)) (fun _ _ => False) := by
  refine z_open (own := RX3) hfl (cc := cX3_orderMoments) (maxL := 3) (ret := (some .int)) (lv := [(0, .ref (z 0)), (1, .int p1), (2, .int p2)]) rfl (by decide) rfl rfl (Nat.le_of_ble_eq_true rfl) ?_
  intro p e s m args below meth c A C hno hnm hargs
  have hin : ∀ w ∈ wsX30, w ∈ wsX3_orderMoments := by decide +kernel
  refine z_aload_n C dX3_orderMoments_0 rfl 0 rfl ?_
  refine z_iload_n C dX3_orderMoments_1 rfl 1 rfl ?_
  refine z_si (rest := [.ref (z 0)]) C (c_X3_isSlot l hfl D cI cJ _ p1 ) q_X3_isSlot gX3_orderMoments_X3_isSlot ⟨rfl, rfl⟩ rfl rfl (Nat.le_of_ble_eq_true rfl) ⟨Nat.le_of_ble_eq_true rfl, Nat.le_of_ble_eq_true rfl⟩ ⟨Nat.le_of_ble_eq_true rfl, Nat.le_of_ble_eq_true rfl⟩ dX3_orderMoments_2 ?_
  have K1_0 : f_X3_orderMoments_j1 p1 p2 = 0 → (¬ (f_X3_isSlot p1) = 0) → (¬ (f_X3_isSlot p2) = 0) → ZW p l e { frames := 2, cells := 0, slots := 0, locals := 45 } s m args below meth c 3 D (zTys cI cJ) A (zE D (zTys cI cJ) A below args s (fun v w => v = some (.int (f_X3_orderMoments mD mT p1 p2)) ∧ w = (wM cI cJ z (s_X3_orderMoments_co mD mT p1 p2) d ti sL bL mD mT sy sm sd mi yr mo dy X)) (fun _ _ => False) 0 0) 0 0 (wM cI cJ z co d ti sL bL mD mT sy sm sd mi yr mo dy X) 20 [(0, .ref (z 0)), (1, .int p1), (2, .int p2)] [.int 0, .ref (z 0)] := by
    intro h3 h4 h5
    refine z_wi (ws' := (wM cI cJ z (s_X3_fails_co 0) d ti sL bL mD mT sy sm sd mi yr mo dy X)) (rest := []) (ci := 3) (q0 := 0) C (c_X3_fails l hfl D cI cJ X z co d ti sL bL mD mT sy sm sd mi yr mo dy (0 : Int32) ) q_X3_fails rfl rfl rfl gX3_orderMoments_X3_fails ⟨rfl, rfl⟩ rfl rfl (Nat.le_of_ble_eq_true rfl) ⟨Nat.le_of_ble_eq_true rfl, Nat.le_of_ble_eq_true rfl⟩ ⟨Nat.le_of_ble_eq_true rfl, Nat.le_of_ble_eq_true rfl⟩ dX3_orderMoments_20 ?_
    refine z_eqst (st' := [.int 0]) (congrArg (fun v => Value.int v :: _) (by decide : (f_X3_fails 0) = (0 : Int32))) ?_
    refine z_if_eq (tgt := 30) C dX3_orderMoments_23 (by decide) (fun _ => ?_) (fun h => absurd (by decide) h)
    refine z_aload_n C dX3_orderMoments_30 rfl 0 rfl ?_
    refine z_iload_n C dX3_orderMoments_31 rfl 1 rfl ?_
    refine z_iload_n C dX3_orderMoments_32 rfl 2 rfl ?_
    refine z_wi (ws' := (wM cI cJ z (s_X3_fails_co 0) d ti sL bL mD mT sy sm sd mi yr mo dy X)) (rest := []) (ci := 3) (q0 := 0) C (c_X3_isAhead l hfl D cI cJ X z (s_X3_fails_co 0) d ti sL bL mD mT sy sm sd mi yr mo dy p1 p2 (vpMSlot h4) (vpMSlot h5)) q_X3_isAhead rfl rfl rfl gX3_orderMoments_X3_isAhead ⟨rfl, rfl⟩ rfl rfl (Nat.le_of_ble_eq_true rfl) ⟨Nat.le_of_ble_eq_true rfl, Nat.le_of_ble_eq_true rfl⟩ ⟨Nat.le_of_ble_eq_true rfl, Nat.le_of_ble_eq_true rfl⟩ dX3_orderMoments_33 ?_
    refine z_if_eq (tgt := 43) C dX3_orderMoments_36 (by decide) (fun h6 => ?_) (fun h6 => ?_)
    · refine z_aload_n C dX3_orderMoments_43 rfl 0 rfl ?_
      refine z_iload_n C dX3_orderMoments_44 rfl 2 rfl ?_
      refine z_iload_n C dX3_orderMoments_45 rfl 1 rfl ?_
      refine z_wi (ws' := (wM cI cJ z (s_X3_fails_co 0) d ti sL bL mD mT sy sm sd mi yr mo dy X)) (rest := []) (ci := 3) (q0 := 0) C (c_X3_isAhead l hfl D cI cJ X z (s_X3_fails_co 0) d ti sL bL mD mT sy sm sd mi yr mo dy p2 p1 (vpMSlot h5) (vpMSlot h4)) q_X3_isAhead rfl rfl rfl gX3_orderMoments_X3_isAhead ⟨rfl, rfl⟩ rfl rfl (Nat.le_of_ble_eq_true rfl) ⟨Nat.le_of_ble_eq_true rfl, Nat.le_of_ble_eq_true rfl⟩ ⟨Nat.le_of_ble_eq_true rfl, Nat.le_of_ble_eq_true rfl⟩ dX3_orderMoments_46 ?_
      refine z_if_eq (tgt := 56) C dX3_orderMoments_49 (by decide) (fun h7 => ?_) (fun h7 => ?_)
      · refine z_iconst (v := 0) C dX3_orderMoments_56 (by decide) ?_
        exact z_iret C ⟨congrArg (fun v => some (Value.int v)) (by rw [f_X3_orderMoments, if_pos h3, if_pos h6, if_pos h7] : (0 : Int32) = (f_X3_orderMoments mD mT p1 p2)), by rw [s_X3_orderMoments_co, if_pos h3, if_pos h6, if_pos h7]⟩ (by decide) (by decide) dX3_orderMoments_57
      · refine z_iconst (v := 1) C dX3_orderMoments_52 (by decide) ?_
        refine z_goto (tgt := 57) C dX3_orderMoments_53 (by decide) ?_
        exact z_iret C ⟨congrArg (fun v => some (Value.int v)) (by rw [f_X3_orderMoments, if_pos h3, if_pos h6, if_neg h7] : (1 : Int32) = (f_X3_orderMoments mD mT p1 p2)), by rw [s_X3_orderMoments_co, if_pos h3, if_pos h6, if_neg h7]⟩ (by decide) (by decide) dX3_orderMoments_57
    · refine z_iconst (v := (-1)) C dX3_orderMoments_39 (by decide) ?_
      refine z_goto (tgt := 57) C dX3_orderMoments_40 (by decide) ?_
      exact z_iret C ⟨congrArg (fun v => some (Value.int v)) (by rw [f_X3_orderMoments, if_pos h3, if_neg h6] : ((-1) : Int32) = (f_X3_orderMoments mD mT p1 p2)), by rw [s_X3_orderMoments_co, if_pos h3, if_neg h6]⟩ (by decide) (by decide) dX3_orderMoments_57
  have K1_1 : f_X3_orderMoments_j1 p1 p2 = 1 → ZW p l e { frames := 2, cells := 0, slots := 0, locals := 45 } s m args below meth c 3 D (zTys cI cJ) A (zE D (zTys cI cJ) A below args s (fun v w => v = some (.int (f_X3_orderMoments mD mT p1 p2)) ∧ w = (wM cI cJ z (s_X3_orderMoments_co mD mT p1 p2) d ti sL bL mD mT sy sm sd mi yr mo dy X)) (fun _ _ => False) 0 0) 0 0 (wM cI cJ z co d ti sL bL mD mT sy sm sd mi yr mo dy X) 20 [(0, .ref (z 0)), (1, .int p1), (2, .int p2)] [.int 1, .ref (z 0)] := by
    intro h8
    refine z_wi (ws' := (wM cI cJ z (s_X3_fails_co 1) d ti sL bL mD mT sy sm sd mi yr mo dy X)) (rest := []) (ci := 3) (q0 := 0) C (c_X3_fails l hfl D cI cJ X z co d ti sL bL mD mT sy sm sd mi yr mo dy (1 : Int32) ) q_X3_fails rfl rfl rfl gX3_orderMoments_X3_fails ⟨rfl, rfl⟩ rfl rfl (Nat.le_of_ble_eq_true rfl) ⟨Nat.le_of_ble_eq_true rfl, Nat.le_of_ble_eq_true rfl⟩ ⟨Nat.le_of_ble_eq_true rfl, Nat.le_of_ble_eq_true rfl⟩ dX3_orderMoments_20 ?_
    refine z_eqst (st' := [.int 1]) (congrArg (fun v => Value.int v :: _) (by decide : (f_X3_fails 1) = (1 : Int32))) ?_
    refine z_if_eq (tgt := 30) C dX3_orderMoments_23 (by decide) (fun h => absurd h (by decide)) (fun _ => ?_)
    refine z_iconst (v := 0) C dX3_orderMoments_26 (by decide) ?_
    refine z_goto (tgt := 57) C dX3_orderMoments_27 (by decide) ?_
    exact z_iret C ⟨congrArg (fun v => some (Value.int v)) (by rw [f_X3_orderMoments, if_neg (by rw [h8]; decide : ¬ f_X3_orderMoments_j1 p1 p2 = 0)] : (0 : Int32) = (f_X3_orderMoments mD mT p1 p2)), by rw [s_X3_orderMoments_co, if_neg (by rw [h8]; decide : ¬ f_X3_orderMoments_j1 p1 p2 = 0)]⟩ (by decide) (by decide) dX3_orderMoments_57
  refine z_if_eq (tgt := 19) C dX3_orderMoments_5 (by decide) (fun h1 => ?_) (fun h1 => ?_)
  · refine z_iconst (v := 1) C dX3_orderMoments_19 (by decide) ?_
    exact K1_1 (by rw [f_X3_orderMoments_j1, if_pos h1]) 
  · refine z_iload_n C dX3_orderMoments_8 rfl 2 rfl ?_
    refine z_si (rest := [.ref (z 0)]) C (c_X3_isSlot l hfl D cI cJ _ p2 ) q_X3_isSlot gX3_orderMoments_X3_isSlot ⟨rfl, rfl⟩ rfl rfl (Nat.le_of_ble_eq_true rfl) ⟨Nat.le_of_ble_eq_true rfl, Nat.le_of_ble_eq_true rfl⟩ ⟨Nat.le_of_ble_eq_true rfl, Nat.le_of_ble_eq_true rfl⟩ dX3_orderMoments_9 ?_
    refine z_if_eq (tgt := 19) C dX3_orderMoments_12 (by decide) (fun h2 => ?_) (fun h2 => ?_)
    · refine z_iconst (v := 1) C dX3_orderMoments_19 (by decide) ?_
      exact K1_1 (by rw [f_X3_orderMoments_j1, if_neg h1, if_pos h2]) 
    · refine z_iconst (v := 0) C dX3_orderMoments_15 (by decide) ?_
      refine z_goto (tgt := 20) C dX3_orderMoments_16 (by decide) ?_
      exact K1_0 (by rw [f_X3_orderMoments_j1, if_neg h1, if_neg h2]) h1 h2
