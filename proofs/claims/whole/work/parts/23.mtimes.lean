def f_X3_time_j1 (p1 : Int32) (p2 : Int32) (p3 : Int32) (p4 : Int32) (p5 : Int32) : Int32 := (if (f_X3_isSlot p1) = 0 then 1 else (if (f_X3_in ((p2).toInt64) 0 23) = 0 then 2 else (if (f_X3_in ((p3).toInt64) 0 59) = 0 then 2 else (if (f_X3_in ((p4).toInt64) 0 59) = 0 then 2 else (if (f_X3_in ((p5).toInt64) 0 999999999) = 0 then 2 else 0)))))
def f_X3_time (ti : Nat → Int64) (p1 : Int32) (p2 : Int32) (p3 : Int32) (p4 : Int32) (p5 : Int32) : Int64 := (if f_X3_time_j1 p1 p2 p3 p4 p5 = 0 then ((vp_updL ti p1.toNatClampNeg (((((3600 * (p2).toInt64) + (60 * (p3).toInt64)) + (p4).toInt64) * 1000000000) + (p5).toInt64)) p1.toNatClampNeg) else (if f_X3_time_j1 p1 p2 p3 p4 p5 = 1 then 0 else 0))
def s_X3_time_co (p1 : Int32) (p2 : Int32) (p3 : Int32) (p4 : Int32) (p5 : Int32) : Int32 := (if f_X3_time_j1 p1 p2 p3 p4 p5 = 0 then (s_X3_fails_co 0) else (if f_X3_time_j1 p1 p2 p3 p4 p5 = 1 then (s_X3_fails_co 1) else (s_X3_fails_co 2)))
def s_X3_time_ti (ti : Nat → Int64) (p1 : Int32) (p2 : Int32) (p3 : Int32) (p4 : Int32) (p5 : Int32) : Nat → Int64 := (if f_X3_time_j1 p1 p2 p3 p4 p5 = 0 then (vp_updL ti p1.toNatClampNeg (((((3600 * (p2).toInt64) + (60 * (p3).toInt64)) + (p4).toInt64) * 1000000000) + (p5).toInt64)) else (if f_X3_time_j1 p1 p2 p3 p4 p5 = 1 then ti else ti))
theorem q_X3_time : ZY yX3_time wsX3_time cX3_time 6 (some .long) 5 := ⟨⟨_, rfl⟩, by decide +kernel, by decide +kernel, by decide +kernel⟩
set_option maxHeartbeats 4000000 in
set_option maxRecDepth 100000 in
theorem c_X3_time (l : Launch) (hfl : l.stackTraces = false) (D : va_G) (cI cJ : ClassId) (X : va_W) (z : Nat → Nat) (co : Int32) (d : Nat → Int64) (ti : Nat → Int64) (sL : Nat → Int64) (bL : Nat → Int64) (mD : Nat → Int64) (mT : Nat → Int64) (sy : Nat → Int64) (sm : Nat → Int64) (sd : Nat → Int64) (mi : Nat → Int64) (yr : Int64) (mo : Int32) (dy : Int32) (p1 : Int32) (p2 : Int32) (p3 : Int32) (p4 : Int32) (p5 : Int32)  : ZM l yX3_time wsX3_time { frames := 2, cells := 0, slots := 0, locals := 45 } [.ref (z 0), .int p1, .int p2, .int p3, .int p4, .int p5] D (zTys cI cJ) (wM cI cJ z co d ti sL bL mD mT sy sm sd mi yr mo dy X) 0 0 (fun v w => v = some (.long (f_X3_time ti p1 p2 p3 p4 p5)) ∧ w = (wM cI cJ z (s_X3_time_co p1 p2 p3 p4 p5) d (s_X3_time_ti ti p1 p2 p3 p4 p5) sL bL mD mT sy sm sd mi yr mo dy X)) (fun _ _ => False) := by
  refine z_open (own := RX3) hfl (cc := cX3_time) (maxL := 6) (ret := (some .long)) (lv := [(0, .ref (z 0)), (1, .int p1), (2, .int p2), (3, .int p3), (4, .int p4), (5, .int p5)]) rfl (by decide) rfl rfl (Nat.le_of_ble_eq_true rfl) ?_
  intro p e s m args below meth c A C hno hnm hargs
  have hin : ∀ w ∈ wsX30, w ∈ wsX3_time := by decide +kernel
  have w1 := C.1.2.2.2.2 (.constantLong RX3 189 (23)) (by decide +kernel)
  have w2 := C.1.2.2.2.2 (.constantLong RX3 191 (59)) (by decide +kernel)
  have w3 := C.1.2.2.2.2 (.constantLong RX3 193 (999999999)) (by decide +kernel)
  have w4 := C.1.2.2.2.2 (.fieldLink RX3 17 "YearwheelModel" "times" "[J") (by decide +kernel)
  have w5 := C.1.2.2.2.2 (.constantLong RX3 195 (3600)) (by decide +kernel)
  have w6 := C.1.2.2.2.2 (.constantLong RX3 197 (60)) (by decide +kernel)
  have w7 := C.1.2.2.2.2 (.constantLong RX3 199 (1000000000)) (by decide +kernel)
  refine z_aload_n C dX3_time_0 rfl 0 rfl ?_
  refine z_iload_n C dX3_time_1 rfl 1 rfl ?_
  refine z_si (rest := [.ref (z 0)]) C (c_X3_isSlot l hfl D cI cJ _ p1 ) q_X3_isSlot gX3_time_X3_isSlot ⟨rfl, rfl⟩ rfl rfl (Nat.le_of_ble_eq_true rfl) ⟨Nat.le_of_ble_eq_true rfl, Nat.le_of_ble_eq_true rfl⟩ ⟨Nat.le_of_ble_eq_true rfl, Nat.le_of_ble_eq_true rfl⟩ dX3_time_2 ?_
  have K1_0 : f_X3_time_j1 p1 p2 p3 p4 p5 = 0 → (¬ (f_X3_in ((p2).toInt64) 0 23) = 0) → (¬ (f_X3_in ((p3).toInt64) 0 59) = 0) → (¬ (f_X3_in ((p4).toInt64) 0 59) = 0) → (¬ (f_X3_in ((p5).toInt64) 0 999999999) = 0) → (¬ (f_X3_isSlot p1) = 0) → ZW p l e { frames := 2, cells := 0, slots := 0, locals := 45 } s m args below meth c 6 D (zTys cI cJ) A (zE D (zTys cI cJ) A below args s (fun v w => v = some (.long (f_X3_time ti p1 p2 p3 p4 p5)) ∧ w = (wM cI cJ z (s_X3_time_co p1 p2 p3 p4 p5) d (s_X3_time_ti ti p1 p2 p3 p4 p5) sL bL mD mT sy sm sd mi yr mo dy X)) (fun _ _ => False) 0 0) 0 0 (wM cI cJ z co d ti sL bL mD mT sy sm sd mi yr mo dy X) 67 [(0, .ref (z 0)), (1, .int p1), (2, .int p2), (3, .int p3), (4, .int p4), (5, .int p5)] [.int 0, .ref (z 0)] := by
    intro h6 h7 h8 h9 h10 h11
    refine z_wi (ws' := (wM cI cJ z (s_X3_fails_co 0) d ti sL bL mD mT sy sm sd mi yr mo dy X)) (rest := []) (ci := 3) (q0 := 0) C (c_X3_fails l hfl D cI cJ X z co d ti sL bL mD mT sy sm sd mi yr mo dy (0 : Int32) ) q_X3_fails rfl rfl rfl gX3_time_X3_fails ⟨rfl, rfl⟩ rfl rfl (Nat.le_of_ble_eq_true rfl) ⟨Nat.le_of_ble_eq_true rfl, Nat.le_of_ble_eq_true rfl⟩ ⟨Nat.le_of_ble_eq_true rfl, Nat.le_of_ble_eq_true rfl⟩ dX3_time_67 ?_
    refine z_eqst (st' := [.int 0]) (congrArg (fun v => Value.int v :: _) (by decide : (f_X3_fails 0) = (0 : Int32))) ?_
    refine z_if_eq (tgt := 75) C dX3_time_70 (by decide) (fun _ => ?_) (fun h => absurd (by decide) h)
    refine z_aload_n C dX3_time_75 rfl 0 rfl ?_
    refine z_get (CC := RX3) (T := TX3) (N := 14) (ci := 3) C hin 0 rfl rfl 2 (by decide) w4 rfl rfl dX3_time_76 ?_
    refine z_iload_n C dX3_time_79 rfl 1 rfl ?_
    refine z_ldc2 (v := 3600) C w5 dX3_time_80 ?_
    refine z_iload_n C dX3_time_83 rfl 2 rfl ?_
    refine z_i2l (v := (p2).toInt64) C dX3_time_84 rfl ?_
    refine z_lmul C dX3_time_85 ?_
    refine z_ldc2 (v := 60) C w6 dX3_time_86 ?_
    refine z_iload_n C dX3_time_89 rfl 3 rfl ?_
    refine z_i2l (v := (p3).toInt64) C dX3_time_90 rfl ?_
    refine z_lmul C dX3_time_91 ?_
    refine z_ladd C dX3_time_92 ?_
    refine z_iload C dX3_time_93 4 rfl ?_
    refine z_i2l (v := (p4).toInt64) C dX3_time_95 rfl ?_
    refine z_ladd C dX3_time_96 ?_
    refine z_ldc2 (v := 1000000000) C w7 dX3_time_97 ?_
    refine z_lmul C dX3_time_100 ?_
    refine z_iload C dX3_time_101 5 rfl ?_
    refine z_i2l (v := (p5).toInt64) C dX3_time_103 rfl ?_
    refine z_ladd C dX3_time_104 ?_
    refine z_last C 2 1 rfl rfl (vpMSlot h11) (ws' := (wM cI cJ z (s_X3_fails_co 0) d (vp_updL ti p1.toNatClampNeg (((((3600 * (p2).toInt64) + (60 * (p3).toInt64)) + (p4).toInt64) * 1000000000) + (p5).toInt64)) sL bL mD mT sy sm sd mi yr mo dy X)) rfl dX3_time_105 ?_
    refine z_aload_n C dX3_time_106 rfl 0 rfl ?_
    refine z_get (CC := RX3) (T := TX3) (N := 14) (ci := 3) C hin 0 rfl rfl 2 (by decide) w4 rfl rfl dX3_time_107 ?_
    refine z_iload_n C dX3_time_110 rfl 1 rfl ?_
    refine z_lald C 2 1 rfl rfl (vpMSlot h11) dX3_time_111 ?_
    exact z_lret C ⟨congrArg (fun v => some (Value.long v)) (by rw [f_X3_time, if_pos h6] : ((vp_updL ti p1.toNatClampNeg (((((3600 * (p2).toInt64) + (60 * (p3).toInt64)) + (p4).toInt64) * 1000000000) + (p5).toInt64)) p1.toNatClampNeg) = (f_X3_time ti p1 p2 p3 p4 p5)), by rw [s_X3_time_co, if_pos h6, s_X3_time_ti, if_pos h6]⟩ (by decide) (by decide) dX3_time_112
  have K1_1 : f_X3_time_j1 p1 p2 p3 p4 p5 = 1 → ((f_X3_isSlot p1) = 0) → ZW p l e { frames := 2, cells := 0, slots := 0, locals := 45 } s m args below meth c 6 D (zTys cI cJ) A (zE D (zTys cI cJ) A below args s (fun v w => v = some (.long (f_X3_time ti p1 p2 p3 p4 p5)) ∧ w = (wM cI cJ z (s_X3_time_co p1 p2 p3 p4 p5) d (s_X3_time_ti ti p1 p2 p3 p4 p5) sL bL mD mT sy sm sd mi yr mo dy X)) (fun _ _ => False) 0 0) 0 0 (wM cI cJ z co d ti sL bL mD mT sy sm sd mi yr mo dy X) 67 [(0, .ref (z 0)), (1, .int p1), (2, .int p2), (3, .int p3), (4, .int p4), (5, .int p5)] [.int 1, .ref (z 0)] := by
    intro h12 h13
    refine z_wi (ws' := (wM cI cJ z (s_X3_fails_co 1) d ti sL bL mD mT sy sm sd mi yr mo dy X)) (rest := []) (ci := 3) (q0 := 0) C (c_X3_fails l hfl D cI cJ X z co d ti sL bL mD mT sy sm sd mi yr mo dy (1 : Int32) ) q_X3_fails rfl rfl rfl gX3_time_X3_fails ⟨rfl, rfl⟩ rfl rfl (Nat.le_of_ble_eq_true rfl) ⟨Nat.le_of_ble_eq_true rfl, Nat.le_of_ble_eq_true rfl⟩ ⟨Nat.le_of_ble_eq_true rfl, Nat.le_of_ble_eq_true rfl⟩ dX3_time_67 ?_
    refine z_eqst (st' := [.int 1]) (congrArg (fun v => Value.int v :: _) (by decide : (f_X3_fails 1) = (1 : Int32))) ?_
    refine z_if_eq (tgt := 75) C dX3_time_70 (by decide) (fun h => absurd h (by decide)) (fun _ => ?_)
    refine z_lconst (v := 0) C dX3_time_73 (by decide) ?_
    exact z_lret C ⟨congrArg (fun v => some (Value.long v)) (by rw [f_X3_time, if_neg (by rw [h12]; decide : ¬ f_X3_time_j1 p1 p2 p3 p4 p5 = 0), if_pos h12] : (0 : Int64) = (f_X3_time ti p1 p2 p3 p4 p5)), by rw [s_X3_time_co, if_neg (by rw [h12]; decide : ¬ f_X3_time_j1 p1 p2 p3 p4 p5 = 0), if_pos h12, s_X3_time_ti, if_neg (by rw [h12]; decide : ¬ f_X3_time_j1 p1 p2 p3 p4 p5 = 0), if_pos h12]⟩ (by decide) (by decide) dX3_time_74
  have K1_2 : f_X3_time_j1 p1 p2 p3 p4 p5 = 2 → (¬ (f_X3_isSlot p1) = 0) → ZW p l e { frames := 2, cells := 0, slots := 0, locals := 45 } s m args below meth c 6 D (zTys cI cJ) A (zE D (zTys cI cJ) A below args s (fun v w => v = some (.long (f_X3_time ti p1 p2 p3 p4 p5)) ∧ w = (wM cI cJ z (s_X3_time_co p1 p2 p3 p4 p5) d (s_X3_time_ti ti p1 p2 p3 p4 p5) sL bL mD mT sy sm sd mi yr mo dy X)) (fun _ _ => False) 0 0) 0 0 (wM cI cJ z co d ti sL bL mD mT sy sm sd mi yr mo dy X) 67 [(0, .ref (z 0)), (1, .int p1), (2, .int p2), (3, .int p3), (4, .int p4), (5, .int p5)] [.int 2, .ref (z 0)] := by
    intro h14 h15
    refine z_wi (ws' := (wM cI cJ z (s_X3_fails_co 2) d ti sL bL mD mT sy sm sd mi yr mo dy X)) (rest := []) (ci := 3) (q0 := 0) C (c_X3_fails l hfl D cI cJ X z co d ti sL bL mD mT sy sm sd mi yr mo dy (2 : Int32) ) q_X3_fails rfl rfl rfl gX3_time_X3_fails ⟨rfl, rfl⟩ rfl rfl (Nat.le_of_ble_eq_true rfl) ⟨Nat.le_of_ble_eq_true rfl, Nat.le_of_ble_eq_true rfl⟩ ⟨Nat.le_of_ble_eq_true rfl, Nat.le_of_ble_eq_true rfl⟩ dX3_time_67 ?_
    refine z_eqst (st' := [.int 1]) (congrArg (fun v => Value.int v :: _) (by decide : (f_X3_fails 2) = (1 : Int32))) ?_
    refine z_if_eq (tgt := 75) C dX3_time_70 (by decide) (fun h => absurd h (by decide)) (fun _ => ?_)
    refine z_lconst (v := 0) C dX3_time_73 (by decide) ?_
    exact z_lret C ⟨congrArg (fun v => some (Value.long v)) (by rw [f_X3_time, if_neg (by rw [h14]; decide : ¬ f_X3_time_j1 p1 p2 p3 p4 p5 = 0), if_neg (by rw [h14]; decide : ¬ f_X3_time_j1 p1 p2 p3 p4 p5 = 1)] : (0 : Int64) = (f_X3_time ti p1 p2 p3 p4 p5)), by rw [s_X3_time_co, if_neg (by rw [h14]; decide : ¬ f_X3_time_j1 p1 p2 p3 p4 p5 = 0), if_neg (by rw [h14]; decide : ¬ f_X3_time_j1 p1 p2 p3 p4 p5 = 1), s_X3_time_ti, if_neg (by rw [h14]; decide : ¬ f_X3_time_j1 p1 p2 p3 p4 p5 = 0), if_neg (by rw [h14]; decide : ¬ f_X3_time_j1 p1 p2 p3 p4 p5 = 1)]⟩ (by decide) (by decide) dX3_time_74
  refine z_if_ne (tgt := 12) C dX3_time_5 (by decide) (fun h1 => ?_) (fun h1 => ?_)
  · refine z_iload_n C dX3_time_12 rfl 2 rfl ?_
    refine z_i2l (v := (p2).toInt64) C dX3_time_13 rfl ?_
    refine z_lconst (v := 0) C dX3_time_14 (by decide) ?_
    refine z_ldc2 (v := 23) C w1 dX3_time_15 ?_
    refine z_si (rest := [.ref (z 0)]) C (c_X3_in l hfl D cI cJ _ ((p2).toInt64) (0 : Int64) (23 : Int64) ) q_X3_in gX3_time_X3_in ⟨rfl, rfl⟩ rfl rfl (Nat.le_of_ble_eq_true rfl) ⟨Nat.le_of_ble_eq_true rfl, Nat.le_of_ble_eq_true rfl⟩ ⟨Nat.le_of_ble_eq_true rfl, Nat.le_of_ble_eq_true rfl⟩ dX3_time_18 ?_
    refine z_if_eq (tgt := 66) C dX3_time_21 (by decide) (fun h2 => ?_) (fun h2 => ?_)
    · refine z_iconst (v := 2) C dX3_time_66 (by decide) ?_
      exact K1_2 (by rw [f_X3_time_j1, if_neg h1, if_pos h2]) h1
    · refine z_iload_n C dX3_time_24 rfl 3 rfl ?_
      refine z_i2l (v := (p3).toInt64) C dX3_time_25 rfl ?_
      refine z_lconst (v := 0) C dX3_time_26 (by decide) ?_
      refine z_ldc2 (v := 59) C w2 dX3_time_27 ?_
      refine z_si (rest := [.ref (z 0)]) C (c_X3_in l hfl D cI cJ _ ((p3).toInt64) (0 : Int64) (59 : Int64) ) q_X3_in gX3_time_X3_in ⟨rfl, rfl⟩ rfl rfl (Nat.le_of_ble_eq_true rfl) ⟨Nat.le_of_ble_eq_true rfl, Nat.le_of_ble_eq_true rfl⟩ ⟨Nat.le_of_ble_eq_true rfl, Nat.le_of_ble_eq_true rfl⟩ dX3_time_30 ?_
      refine z_if_eq (tgt := 66) C dX3_time_33 (by decide) (fun h3 => ?_) (fun h3 => ?_)
      · refine z_iconst (v := 2) C dX3_time_66 (by decide) ?_
        exact K1_2 (by rw [f_X3_time_j1, if_neg h1, if_neg h2, if_pos h3]) h1
      · refine z_iload C dX3_time_36 4 rfl ?_
        refine z_i2l (v := (p4).toInt64) C dX3_time_38 rfl ?_
        refine z_lconst (v := 0) C dX3_time_39 (by decide) ?_
        refine z_ldc2 (v := 59) C w2 dX3_time_40 ?_
        refine z_si (rest := [.ref (z 0)]) C (c_X3_in l hfl D cI cJ _ ((p4).toInt64) (0 : Int64) (59 : Int64) ) q_X3_in gX3_time_X3_in ⟨rfl, rfl⟩ rfl rfl (Nat.le_of_ble_eq_true rfl) ⟨Nat.le_of_ble_eq_true rfl, Nat.le_of_ble_eq_true rfl⟩ ⟨Nat.le_of_ble_eq_true rfl, Nat.le_of_ble_eq_true rfl⟩ dX3_time_43 ?_
        refine z_if_eq (tgt := 66) C dX3_time_46 (by decide) (fun h4 => ?_) (fun h4 => ?_)
        · refine z_iconst (v := 2) C dX3_time_66 (by decide) ?_
          exact K1_2 (by rw [f_X3_time_j1, if_neg h1, if_neg h2, if_neg h3, if_pos h4]) h1
        · refine z_iload C dX3_time_49 5 rfl ?_
          refine z_i2l (v := (p5).toInt64) C dX3_time_51 rfl ?_
          refine z_lconst (v := 0) C dX3_time_52 (by decide) ?_
          refine z_ldc2 (v := 999999999) C w3 dX3_time_53 ?_
          refine z_si (rest := [.ref (z 0)]) C (c_X3_in l hfl D cI cJ _ ((p5).toInt64) (0 : Int64) (999999999 : Int64) ) q_X3_in gX3_time_X3_in ⟨rfl, rfl⟩ rfl rfl (Nat.le_of_ble_eq_true rfl) ⟨Nat.le_of_ble_eq_true rfl, Nat.le_of_ble_eq_true rfl⟩ ⟨Nat.le_of_ble_eq_true rfl, Nat.le_of_ble_eq_true rfl⟩ dX3_time_56 ?_
          refine z_if_eq (tgt := 66) C dX3_time_59 (by decide) (fun h5 => ?_) (fun h5 => ?_)
          · refine z_iconst (v := 2) C dX3_time_66 (by decide) ?_
            exact K1_2 (by rw [f_X3_time_j1, if_neg h1, if_neg h2, if_neg h3, if_neg h4, if_pos h5]) h1
          · refine z_iconst (v := 0) C dX3_time_62 (by decide) ?_
            refine z_goto (tgt := 67) C dX3_time_63 (by decide) ?_
            exact K1_0 (by rw [f_X3_time_j1, if_neg h1, if_neg h2, if_neg h3, if_neg h4, if_neg h5]) h2 h3 h4 h5 h1
  · refine z_iconst (v := 1) C dX3_time_8 (by decide) ?_
    refine z_goto (tgt := 67) C dX3_time_9 (by decide) ?_
    exact K1_1 (by rw [f_X3_time_j1, if_pos h1]) h1
def f_X3_ofBillionths_j1 (p1 : Int32) (p2 : Int64) : Int32 := (if (f_X3_isSlot p1) = 0 then 1 else (if (f_X3_in p2 0 86399999999999) = 0 then 2 else 0))
def f_X3_ofBillionths (p1 : Int32) (p2 : Int64) : Int32 := (if f_X3_ofBillionths_j1 p1 p2 = 0 then ((p2 / 3600000000000)).toInt32 else (if f_X3_ofBillionths_j1 p1 p2 = 1 then 0 else 0))
def s_X3_ofBillionths_co (p1 : Int32) (p2 : Int64) : Int32 := (if f_X3_ofBillionths_j1 p1 p2 = 0 then (s_X3_fails_co 0) else (if f_X3_ofBillionths_j1 p1 p2 = 1 then (s_X3_fails_co 1) else (s_X3_fails_co 2)))
def s_X3_ofBillionths_ti (ti : Nat → Int64) (p1 : Int32) (p2 : Int64) : Nat → Int64 := (if f_X3_ofBillionths_j1 p1 p2 = 0 then (vp_updL ti p1.toNatClampNeg p2) else (if f_X3_ofBillionths_j1 p1 p2 = 1 then ti else ti))
theorem q_X3_ofBillionths : ZY yX3_ofBillionths wsX3_ofBillionths cX3_ofBillionths 4 (some .int) 2 := ⟨⟨_, rfl⟩, by decide +kernel, by decide +kernel, by decide +kernel⟩
set_option maxHeartbeats 4000000 in
set_option maxRecDepth 100000 in
theorem c_X3_ofBillionths (l : Launch) (hfl : l.stackTraces = false) (D : va_G) (cI cJ : ClassId) (X : va_W) (z : Nat → Nat) (co : Int32) (d : Nat → Int64) (ti : Nat → Int64) (sL : Nat → Int64) (bL : Nat → Int64) (mD : Nat → Int64) (mT : Nat → Int64) (sy : Nat → Int64) (sm : Nat → Int64) (sd : Nat → Int64) (mi : Nat → Int64) (yr : Int64) (mo : Int32) (dy : Int32) (p1 : Int32) (p2 : Int64)  : ZM l yX3_ofBillionths wsX3_ofBillionths { frames := 2, cells := 0, slots := 0, locals := 45 } [.ref (z 0), .int p1, .long p2] D (zTys cI cJ) (wM cI cJ z co d ti sL bL mD mT sy sm sd mi yr mo dy X) 0 0 (fun v w => v = some (.int (f_X3_ofBillionths p1 p2)) ∧ w = (wM cI cJ z (s_X3_ofBillionths_co p1 p2) d (s_X3_ofBillionths_ti ti p1 p2) sL bL mD mT sy sm sd mi yr mo dy X)) (fun _ _ => False) := by
  refine z_open (own := RX3) hfl (cc := cX3_ofBillionths) (maxL := 4) (ret := (some .int)) (lv := [(0, .ref (z 0)), (1, .int p1), (2, .long p2)]) rfl (by decide) rfl rfl (Nat.le_of_ble_eq_true rfl) ?_
  intro p e s m args below meth c A C hno hnm hargs
  have hin : ∀ w ∈ wsX30, w ∈ wsX3_ofBillionths := by decide +kernel
  have w1 := C.1.2.2.2.2 (.constantLong RX3 201 (86399999999999)) (by decide +kernel)
  have w2 := C.1.2.2.2.2 (.fieldLink RX3 17 "YearwheelModel" "times" "[J") (by decide +kernel)
  have w3 := C.1.2.2.2.2 (.constantLong RX3 203 (3600000000000)) (by decide +kernel)
  refine z_aload_n C dX3_ofBillionths_0 rfl 0 rfl ?_
  refine z_iload_n C dX3_ofBillionths_1 rfl 1 rfl ?_
  refine z_si (rest := [.ref (z 0)]) C (c_X3_isSlot l hfl D cI cJ _ p1 ) q_X3_isSlot gX3_ofBillionths_X3_isSlot ⟨rfl, rfl⟩ rfl rfl (Nat.le_of_ble_eq_true rfl) ⟨Nat.le_of_ble_eq_true rfl, Nat.le_of_ble_eq_true rfl⟩ ⟨Nat.le_of_ble_eq_true rfl, Nat.le_of_ble_eq_true rfl⟩ dX3_ofBillionths_2 ?_
  have K1_0 : f_X3_ofBillionths_j1 p1 p2 = 0 → (¬ (f_X3_in p2 0 86399999999999) = 0) → (¬ (f_X3_isSlot p1) = 0) → ZW p l e { frames := 2, cells := 0, slots := 0, locals := 45 } s m args below meth c 4 D (zTys cI cJ) A (zE D (zTys cI cJ) A below args s (fun v w => v = some (.int (f_X3_ofBillionths p1 p2)) ∧ w = (wM cI cJ z (s_X3_ofBillionths_co p1 p2) d (s_X3_ofBillionths_ti ti p1 p2) sL bL mD mT sy sm sd mi yr mo dy X)) (fun _ _ => False) 0 0) 0 0 (wM cI cJ z co d ti sL bL mD mT sy sm sd mi yr mo dy X) 28 [(0, .ref (z 0)), (1, .int p1), (2, .long p2)] [.int 0, .ref (z 0)] := by
    intro h3 h4 h5
    refine z_wi (ws' := (wM cI cJ z (s_X3_fails_co 0) d ti sL bL mD mT sy sm sd mi yr mo dy X)) (rest := []) (ci := 3) (q0 := 0) C (c_X3_fails l hfl D cI cJ X z co d ti sL bL mD mT sy sm sd mi yr mo dy (0 : Int32) ) q_X3_fails rfl rfl rfl gX3_ofBillionths_X3_fails ⟨rfl, rfl⟩ rfl rfl (Nat.le_of_ble_eq_true rfl) ⟨Nat.le_of_ble_eq_true rfl, Nat.le_of_ble_eq_true rfl⟩ ⟨Nat.le_of_ble_eq_true rfl, Nat.le_of_ble_eq_true rfl⟩ dX3_ofBillionths_28 ?_
    refine z_eqst (st' := [.int 0]) (congrArg (fun v => Value.int v :: _) (by decide : (f_X3_fails 0) = (0 : Int32))) ?_
    refine z_if_eq (tgt := 36) C dX3_ofBillionths_31 (by decide) (fun _ => ?_) (fun h => absurd (by decide) h)
    refine z_aload_n C dX3_ofBillionths_36 rfl 0 rfl ?_
    refine z_get (CC := RX3) (T := TX3) (N := 14) (ci := 3) C hin 0 rfl rfl 2 (by decide) w2 rfl rfl dX3_ofBillionths_37 ?_
    refine z_iload_n C dX3_ofBillionths_40 rfl 1 rfl ?_
    refine z_lload_n C dX3_ofBillionths_41 rfl 2 rfl ?_
    refine z_last C 2 1 rfl rfl (vpMSlot h5) (ws' := (wM cI cJ z (s_X3_fails_co 0) d (vp_updL ti p1.toNatClampNeg p2) sL bL mD mT sy sm sd mi yr mo dy X)) rfl dX3_ofBillionths_42 ?_
    refine z_lload_n C dX3_ofBillionths_43 rfl 2 rfl ?_
    refine z_ldc2 (v := 3600000000000) C w3 dX3_ofBillionths_44 ?_
    refine z_ldiv C dX3_ofBillionths_47 (by decide) ?_
    refine z_l2i (v := ((p2 / 3600000000000)).toInt32) C dX3_ofBillionths_48 rfl ?_
    exact z_iret C ⟨congrArg (fun v => some (Value.int v)) (by rw [f_X3_ofBillionths, if_pos h3] : ((p2 / 3600000000000)).toInt32 = (f_X3_ofBillionths p1 p2)), by rw [s_X3_ofBillionths_co, if_pos h3, s_X3_ofBillionths_ti, if_pos h3]⟩ (by decide) (by decide) dX3_ofBillionths_49
  have K1_1 : f_X3_ofBillionths_j1 p1 p2 = 1 → ((f_X3_isSlot p1) = 0) → ZW p l e { frames := 2, cells := 0, slots := 0, locals := 45 } s m args below meth c 4 D (zTys cI cJ) A (zE D (zTys cI cJ) A below args s (fun v w => v = some (.int (f_X3_ofBillionths p1 p2)) ∧ w = (wM cI cJ z (s_X3_ofBillionths_co p1 p2) d (s_X3_ofBillionths_ti ti p1 p2) sL bL mD mT sy sm sd mi yr mo dy X)) (fun _ _ => False) 0 0) 0 0 (wM cI cJ z co d ti sL bL mD mT sy sm sd mi yr mo dy X) 28 [(0, .ref (z 0)), (1, .int p1), (2, .long p2)] [.int 1, .ref (z 0)] := by
    intro h6 h7
    refine z_wi (ws' := (wM cI cJ z (s_X3_fails_co 1) d ti sL bL mD mT sy sm sd mi yr mo dy X)) (rest := []) (ci := 3) (q0 := 0) C (c_X3_fails l hfl D cI cJ X z co d ti sL bL mD mT sy sm sd mi yr mo dy (1 : Int32) ) q_X3_fails rfl rfl rfl gX3_ofBillionths_X3_fails ⟨rfl, rfl⟩ rfl rfl (Nat.le_of_ble_eq_true rfl) ⟨Nat.le_of_ble_eq_true rfl, Nat.le_of_ble_eq_true rfl⟩ ⟨Nat.le_of_ble_eq_true rfl, Nat.le_of_ble_eq_true rfl⟩ dX3_ofBillionths_28 ?_
    refine z_eqst (st' := [.int 1]) (congrArg (fun v => Value.int v :: _) (by decide : (f_X3_fails 1) = (1 : Int32))) ?_
    refine z_if_eq (tgt := 36) C dX3_ofBillionths_31 (by decide) (fun h => absurd h (by decide)) (fun _ => ?_)
    refine z_iconst (v := 0) C dX3_ofBillionths_34 (by decide) ?_
    exact z_iret C ⟨congrArg (fun v => some (Value.int v)) (by rw [f_X3_ofBillionths, if_neg (by rw [h6]; decide : ¬ f_X3_ofBillionths_j1 p1 p2 = 0), if_pos h6] : (0 : Int32) = (f_X3_ofBillionths p1 p2)), by rw [s_X3_ofBillionths_co, if_neg (by rw [h6]; decide : ¬ f_X3_ofBillionths_j1 p1 p2 = 0), if_pos h6, s_X3_ofBillionths_ti, if_neg (by rw [h6]; decide : ¬ f_X3_ofBillionths_j1 p1 p2 = 0), if_pos h6]⟩ (by decide) (by decide) dX3_ofBillionths_35
  have K1_2 : f_X3_ofBillionths_j1 p1 p2 = 2 → ((f_X3_in p2 0 86399999999999) = 0) → (¬ (f_X3_isSlot p1) = 0) → ZW p l e { frames := 2, cells := 0, slots := 0, locals := 45 } s m args below meth c 4 D (zTys cI cJ) A (zE D (zTys cI cJ) A below args s (fun v w => v = some (.int (f_X3_ofBillionths p1 p2)) ∧ w = (wM cI cJ z (s_X3_ofBillionths_co p1 p2) d (s_X3_ofBillionths_ti ti p1 p2) sL bL mD mT sy sm sd mi yr mo dy X)) (fun _ _ => False) 0 0) 0 0 (wM cI cJ z co d ti sL bL mD mT sy sm sd mi yr mo dy X) 28 [(0, .ref (z 0)), (1, .int p1), (2, .long p2)] [.int 2, .ref (z 0)] := by
    intro h8 h9 h10
    refine z_wi (ws' := (wM cI cJ z (s_X3_fails_co 2) d ti sL bL mD mT sy sm sd mi yr mo dy X)) (rest := []) (ci := 3) (q0 := 0) C (c_X3_fails l hfl D cI cJ X z co d ti sL bL mD mT sy sm sd mi yr mo dy (2 : Int32) ) q_X3_fails rfl rfl rfl gX3_ofBillionths_X3_fails ⟨rfl, rfl⟩ rfl rfl (Nat.le_of_ble_eq_true rfl) ⟨Nat.le_of_ble_eq_true rfl, Nat.le_of_ble_eq_true rfl⟩ ⟨Nat.le_of_ble_eq_true rfl, Nat.le_of_ble_eq_true rfl⟩ dX3_ofBillionths_28 ?_
    refine z_eqst (st' := [.int 1]) (congrArg (fun v => Value.int v :: _) (by decide : (f_X3_fails 2) = (1 : Int32))) ?_
    refine z_if_eq (tgt := 36) C dX3_ofBillionths_31 (by decide) (fun h => absurd h (by decide)) (fun _ => ?_)
    refine z_iconst (v := 0) C dX3_ofBillionths_34 (by decide) ?_
    exact z_iret C ⟨congrArg (fun v => some (Value.int v)) (by rw [f_X3_ofBillionths, if_neg (by rw [h8]; decide : ¬ f_X3_ofBillionths_j1 p1 p2 = 0), if_neg (by rw [h8]; decide : ¬ f_X3_ofBillionths_j1 p1 p2 = 1)] : (0 : Int32) = (f_X3_ofBillionths p1 p2)), by rw [s_X3_ofBillionths_co, if_neg (by rw [h8]; decide : ¬ f_X3_ofBillionths_j1 p1 p2 = 0), if_neg (by rw [h8]; decide : ¬ f_X3_ofBillionths_j1 p1 p2 = 1), s_X3_ofBillionths_ti, if_neg (by rw [h8]; decide : ¬ f_X3_ofBillionths_j1 p1 p2 = 0), if_neg (by rw [h8]; decide : ¬ f_X3_ofBillionths_j1 p1 p2 = 1)]⟩ (by decide) (by decide) dX3_ofBillionths_35
  refine z_if_ne (tgt := 12) C dX3_ofBillionths_5 (by decide) (fun h1 => ?_) (fun h1 => ?_)
  · refine z_lload_n C dX3_ofBillionths_12 rfl 2 rfl ?_
    refine z_lconst (v := 0) C dX3_ofBillionths_13 (by decide) ?_
    refine z_ldc2 (v := 86399999999999) C w1 dX3_ofBillionths_14 ?_
    refine z_si (rest := [.ref (z 0)]) C (c_X3_in l hfl D cI cJ _ p2 (0 : Int64) (86399999999999 : Int64) ) q_X3_in gX3_ofBillionths_X3_in ⟨rfl, rfl⟩ rfl rfl (Nat.le_of_ble_eq_true rfl) ⟨Nat.le_of_ble_eq_true rfl, Nat.le_of_ble_eq_true rfl⟩ ⟨Nat.le_of_ble_eq_true rfl, Nat.le_of_ble_eq_true rfl⟩ dX3_ofBillionths_17 ?_
    refine z_if_eq (tgt := 27) C dX3_ofBillionths_20 (by decide) (fun h2 => ?_) (fun h2 => ?_)
    · refine z_iconst (v := 2) C dX3_ofBillionths_27 (by decide) ?_
      exact K1_2 (by rw [f_X3_ofBillionths_j1, if_neg h1, if_pos h2]) h2 h1
    · refine z_iconst (v := 0) C dX3_ofBillionths_23 (by decide) ?_
      refine z_goto (tgt := 28) C dX3_ofBillionths_24 (by decide) ?_
      exact K1_0 (by rw [f_X3_ofBillionths_j1, if_neg h1, if_neg h2]) h2 h1
  · refine z_iconst (v := 1) C dX3_ofBillionths_8 (by decide) ?_
    refine z_goto (tgt := 28) C dX3_ofBillionths_9 (by decide) ?_
    exact K1_1 (by rw [f_X3_ofBillionths_j1, if_pos h1]) h1
def f_X3_timePart_j1 (p1 : Int32) (p2 : Int32) : Int32 := (if (f_X3_isSlot p1) = 0 then 1 else (if p2 = 104 then 0 else (if p2 = 109 then 0 else (if p2 = 115 then 0 else (if p2 = 110 then 0 else 2)))))
def f_X3_timePart (ti : Nat → Int64) (p1 : Int32) (p2 : Int32) : Int32 := (if f_X3_timePart_j1 p1 p2 = 0 then (if p2 = 104 then ((((ti p1.toNatClampNeg) / 1000000000) / 3600)).toInt32 else (if p2 = 109 then (((((ti p1.toNatClampNeg) / 1000000000) / 60) - (((ti p1.toNatClampNeg) / 1000000000) / 60) / 60 * 60)).toInt32 else (if p2 = 115 then ((((ti p1.toNatClampNeg) / 1000000000) - ((ti p1.toNatClampNeg) / 1000000000) / 60 * 60)).toInt32 else (((ti p1.toNatClampNeg) - (ti p1.toNatClampNeg) / 1000000000 * 1000000000)).toInt32))) else (if f_X3_timePart_j1 p1 p2 = 1 then 0 else 0))
def s_X3_timePart_co (p1 : Int32) (p2 : Int32) : Int32 := (if f_X3_timePart_j1 p1 p2 = 0 then (if p2 = 104 then (s_X3_fails_co 0) else (if p2 = 109 then (s_X3_fails_co 0) else (if p2 = 115 then (s_X3_fails_co 0) else (s_X3_fails_co 0)))) else (if f_X3_timePart_j1 p1 p2 = 1 then (s_X3_fails_co 1) else (s_X3_fails_co 2)))
theorem q_X3_timePart : ZY yX3_timePart wsX3_timePart cX3_timePart 5 (some .int) 2 := ⟨⟨_, rfl⟩, by decide +kernel, by decide +kernel, by decide +kernel⟩
set_option maxHeartbeats 4000000 in
set_option maxRecDepth 100000 in
theorem c_X3_timePart (l : Launch) (hfl : l.stackTraces = false) (D : va_G) (cI cJ : ClassId) (X : va_W) (z : Nat → Nat) (co : Int32) (d : Nat → Int64) (ti : Nat → Int64) (sL : Nat → Int64) (bL : Nat → Int64) (mD : Nat → Int64) (mT : Nat → Int64) (sy : Nat → Int64) (sm : Nat → Int64) (sd : Nat → Int64) (mi : Nat → Int64) (yr : Int64) (mo : Int32) (dy : Int32) (p1 : Int32) (p2 : Int32)  : ZM l yX3_timePart wsX3_timePart { frames := 2, cells := 0, slots := 0, locals := 45 } [.ref (z 0), .int p1, .int p2] D (zTys cI cJ) (wM cI cJ z co d ti sL bL mD mT sy sm sd mi yr mo dy X) 0 0 (fun v w => v = some (.int (f_X3_timePart ti p1 p2)) ∧ w = (wM cI cJ z (s_X3_timePart_co p1 p2) d ti sL bL mD mT sy sm sd mi yr mo dy X)) (fun _ _ => False) := by
  refine z_open (own := RX3) hfl (cc := cX3_timePart) (maxL := 5) (ret := (some .int)) (lv := [(0, .ref (z 0)), (1, .int p1), (2, .int p2)]) rfl (by decide) rfl rfl (Nat.le_of_ble_eq_true rfl) ?_
  intro p e s m args below meth c A C hno hnm hargs
  have hin : ∀ w ∈ wsX30, w ∈ wsX3_timePart := by decide +kernel
  have w1 := C.1.2.2.2.2 (.fieldLink RX3 17 "YearwheelModel" "times" "[J") (by decide +kernel)
  have w2 := C.1.2.2.2.2 (.constantLong RX3 199 (1000000000)) (by decide +kernel)
  have w3 := C.1.2.2.2.2 (.constantLong RX3 197 (60)) (by decide +kernel)
  have w4 := C.1.2.2.2.2 (.constantLong RX3 195 (3600)) (by decide +kernel)
  refine z_aload_n C dX3_timePart_0 rfl 0 rfl ?_
  refine z_iload_n C dX3_timePart_1 rfl 1 rfl ?_
  refine z_si (rest := [.ref (z 0)]) C (c_X3_isSlot l hfl D cI cJ _ p1 ) q_X3_isSlot gX3_timePart_X3_isSlot ⟨rfl, rfl⟩ rfl rfl (Nat.le_of_ble_eq_true rfl) ⟨Nat.le_of_ble_eq_true rfl, Nat.le_of_ble_eq_true rfl⟩ ⟨Nat.le_of_ble_eq_true rfl, Nat.le_of_ble_eq_true rfl⟩ dX3_timePart_2 ?_
  have K1_0 : f_X3_timePart_j1 p1 p2 = 0 → (¬ (f_X3_isSlot p1) = 0) → ZW p l e { frames := 2, cells := 0, slots := 0, locals := 45 } s m args below meth c 5 D (zTys cI cJ) A (zE D (zTys cI cJ) A below args s (fun v w => v = some (.int (f_X3_timePart ti p1 p2)) ∧ w = (wM cI cJ z (s_X3_timePart_co p1 p2) d ti sL bL mD mT sy sm sd mi yr mo dy X)) (fun _ _ => False) 0 0) 0 0 (wM cI cJ z co d ti sL bL mD mT sy sm sd mi yr mo dy X) 41 [(0, .ref (z 0)), (1, .int p1), (2, .int p2)] [.int 0, .ref (z 0)] := by
    intro h6 h7
    refine z_wi (ws' := (wM cI cJ z (s_X3_fails_co 0) d ti sL bL mD mT sy sm sd mi yr mo dy X)) (rest := []) (ci := 3) (q0 := 0) C (c_X3_fails l hfl D cI cJ X z co d ti sL bL mD mT sy sm sd mi yr mo dy (0 : Int32) ) q_X3_fails rfl rfl rfl gX3_timePart_X3_fails ⟨rfl, rfl⟩ rfl rfl (Nat.le_of_ble_eq_true rfl) ⟨Nat.le_of_ble_eq_true rfl, Nat.le_of_ble_eq_true rfl⟩ ⟨Nat.le_of_ble_eq_true rfl, Nat.le_of_ble_eq_true rfl⟩ dX3_timePart_41 ?_
    refine z_eqst (st' := [.int 0]) (congrArg (fun v => Value.int v :: _) (by decide : (f_X3_fails 0) = (0 : Int32))) ?_
    refine z_if_eq (tgt := 49) C dX3_timePart_44 (by decide) (fun _ => ?_) (fun h => absurd (by decide) h)
    refine z_aload_n C dX3_timePart_49 rfl 0 rfl ?_
    refine z_get (CC := RX3) (T := TX3) (N := 14) (ci := 3) C hin 0 rfl rfl 2 (by decide) w1 rfl rfl dX3_timePart_50 ?_
    refine z_iload_n C dX3_timePart_53 rfl 1 rfl ?_
    refine z_lald C 2 1 rfl rfl (vpMSlot h7) dX3_timePart_54 ?_
    refine z_ldc2 (v := 1000000000) C w2 dX3_timePart_55 ?_
    refine z_ldiv C dX3_timePart_58 (by decide) ?_
    refine z_lstore_n (lv' := [(3, .long ((ti p1.toNatClampNeg) / 1000000000)), (0, .ref (z 0)), (1, .int p1), (2, .int p2)]) C dX3_timePart_59 rfl (by decide) rfl ?_
    refine z_iload_n C dX3_timePart_60 rfl 3 rfl ?_
    refine z_bipush (v := 104) C dX3_timePart_61 (by decide) ?_
    refine z_icmp_ne (tgt := 74) C dX3_timePart_63 (by decide) (fun h8 => ?_) (fun h8 => ?_)
    · refine z_iload_n C dX3_timePart_74 rfl 3 rfl ?_
      refine z_bipush (v := 109) C dX3_timePart_75 (by decide) ?_
      refine z_icmp_ne (tgt := 92) C dX3_timePart_77 (by decide) (fun h9 => ?_) (fun h9 => ?_)
      · refine z_iload_n C dX3_timePart_92 rfl 3 rfl ?_
        refine z_bipush (v := 115) C dX3_timePart_93 (by decide) ?_
        refine z_icmp_ne (tgt := 106) C dX3_timePart_95 (by decide) (fun h10 => ?_) (fun h10 => ?_)
        · refine z_aload_n C dX3_timePart_106 rfl 1 rfl ?_
          refine z_get (CC := RX3) (T := TX3) (N := 14) (ci := 3) C hin 0 rfl rfl 2 (by decide) w1 rfl rfl dX3_timePart_107 ?_
          refine z_iload_n C dX3_timePart_110 rfl 2 rfl ?_
          refine z_lald C 2 1 rfl rfl (vpMSlot h7) dX3_timePart_111 ?_
          refine z_ldc2 (v := 1000000000) C w2 dX3_timePart_112 ?_
          refine z_lrem C dX3_timePart_115 (by decide) ?_
          refine z_l2i (v := (((ti p1.toNatClampNeg) - (ti p1.toNatClampNeg) / 1000000000 * 1000000000)).toInt32) C dX3_timePart_116 rfl ?_
          exact z_iret C ⟨congrArg (fun v => some (Value.int v)) (by rw [f_X3_timePart, if_pos h6, if_neg h8, if_neg h9, if_neg h10] : (((ti p1.toNatClampNeg) - (ti p1.toNatClampNeg) / 1000000000 * 1000000000)).toInt32 = (f_X3_timePart ti p1 p2)), by rw [s_X3_timePart_co, if_pos h6, if_neg h8, if_neg h9, if_neg h10]⟩ (by decide) (by decide) dX3_timePart_117
        · refine z_lload_n C dX3_timePart_98 rfl 0 rfl ?_
          refine z_ldc2 (v := 60) C w3 dX3_timePart_99 ?_
          refine z_lrem C dX3_timePart_102 (by decide) ?_
          refine z_goto (tgt := 116) C dX3_timePart_103 (by decide) ?_
          refine z_l2i (v := ((((ti p1.toNatClampNeg) / 1000000000) - ((ti p1.toNatClampNeg) / 1000000000) / 60 * 60)).toInt32) C dX3_timePart_116 rfl ?_
          exact z_iret C ⟨congrArg (fun v => some (Value.int v)) (by rw [f_X3_timePart, if_pos h6, if_neg h8, if_neg h9, if_pos h10] : ((((ti p1.toNatClampNeg) / 1000000000) - ((ti p1.toNatClampNeg) / 1000000000) / 60 * 60)).toInt32 = (f_X3_timePart ti p1 p2)), by rw [s_X3_timePart_co, if_pos h6, if_neg h8, if_neg h9, if_pos h10]⟩ (by decide) (by decide) dX3_timePart_117
      · refine z_lload_n C dX3_timePart_80 rfl 0 rfl ?_
        refine z_ldc2 (v := 60) C w3 dX3_timePart_81 ?_
        refine z_ldiv C dX3_timePart_84 (by decide) ?_
        refine z_ldc2 (v := 60) C w3 dX3_timePart_85 ?_
        refine z_lrem C dX3_timePart_88 (by decide) ?_
        refine z_goto (tgt := 116) C dX3_timePart_89 (by decide) ?_
        refine z_l2i (v := (((((ti p1.toNatClampNeg) / 1000000000) / 60) - (((ti p1.toNatClampNeg) / 1000000000) / 60) / 60 * 60)).toInt32) C dX3_timePart_116 rfl ?_
        exact z_iret C ⟨congrArg (fun v => some (Value.int v)) (by rw [f_X3_timePart, if_pos h6, if_neg h8, if_pos h9] : (((((ti p1.toNatClampNeg) / 1000000000) / 60) - (((ti p1.toNatClampNeg) / 1000000000) / 60) / 60 * 60)).toInt32 = (f_X3_timePart ti p1 p2)), by rw [s_X3_timePart_co, if_pos h6, if_neg h8, if_pos h9]⟩ (by decide) (by decide) dX3_timePart_117
    · refine z_lload_n C dX3_timePart_66 rfl 0 rfl ?_
      refine z_ldc2 (v := 3600) C w4 dX3_timePart_67 ?_
      refine z_ldiv C dX3_timePart_70 (by decide) ?_
      refine z_goto (tgt := 116) C dX3_timePart_71 (by decide) ?_
      refine z_l2i (v := ((((ti p1.toNatClampNeg) / 1000000000) / 3600)).toInt32) C dX3_timePart_116 rfl ?_
      exact z_iret C ⟨congrArg (fun v => some (Value.int v)) (by rw [f_X3_timePart, if_pos h6, if_pos h8] : ((((ti p1.toNatClampNeg) / 1000000000) / 3600)).toInt32 = (f_X3_timePart ti p1 p2)), by rw [s_X3_timePart_co, if_pos h6, if_pos h8]⟩ (by decide) (by decide) dX3_timePart_117
  have K1_1 : f_X3_timePart_j1 p1 p2 = 1 → ((f_X3_isSlot p1) = 0) → ZW p l e { frames := 2, cells := 0, slots := 0, locals := 45 } s m args below meth c 5 D (zTys cI cJ) A (zE D (zTys cI cJ) A below args s (fun v w => v = some (.int (f_X3_timePart ti p1 p2)) ∧ w = (wM cI cJ z (s_X3_timePart_co p1 p2) d ti sL bL mD mT sy sm sd mi yr mo dy X)) (fun _ _ => False) 0 0) 0 0 (wM cI cJ z co d ti sL bL mD mT sy sm sd mi yr mo dy X) 41 [(0, .ref (z 0)), (1, .int p1), (2, .int p2)] [.int 1, .ref (z 0)] := by
    intro h11 h12
    refine z_wi (ws' := (wM cI cJ z (s_X3_fails_co 1) d ti sL bL mD mT sy sm sd mi yr mo dy X)) (rest := []) (ci := 3) (q0 := 0) C (c_X3_fails l hfl D cI cJ X z co d ti sL bL mD mT sy sm sd mi yr mo dy (1 : Int32) ) q_X3_fails rfl rfl rfl gX3_timePart_X3_fails ⟨rfl, rfl⟩ rfl rfl (Nat.le_of_ble_eq_true rfl) ⟨Nat.le_of_ble_eq_true rfl, Nat.le_of_ble_eq_true rfl⟩ ⟨Nat.le_of_ble_eq_true rfl, Nat.le_of_ble_eq_true rfl⟩ dX3_timePart_41 ?_
    refine z_eqst (st' := [.int 1]) (congrArg (fun v => Value.int v :: _) (by decide : (f_X3_fails 1) = (1 : Int32))) ?_
    refine z_if_eq (tgt := 49) C dX3_timePart_44 (by decide) (fun h => absurd h (by decide)) (fun _ => ?_)
    refine z_iconst (v := 0) C dX3_timePart_47 (by decide) ?_
    exact z_iret C ⟨congrArg (fun v => some (Value.int v)) (by rw [f_X3_timePart, if_neg (by rw [h11]; decide : ¬ f_X3_timePart_j1 p1 p2 = 0), if_pos h11] : (0 : Int32) = (f_X3_timePart ti p1 p2)), by rw [s_X3_timePart_co, if_neg (by rw [h11]; decide : ¬ f_X3_timePart_j1 p1 p2 = 0), if_pos h11]⟩ (by decide) (by decide) dX3_timePart_48
  have K1_2 : f_X3_timePart_j1 p1 p2 = 2 → (¬ (f_X3_isSlot p1) = 0) → (¬ p2 = 104) → (¬ p2 = 109) → (¬ p2 = 110) → (¬ p2 = 115) → ZW p l e { frames := 2, cells := 0, slots := 0, locals := 45 } s m args below meth c 5 D (zTys cI cJ) A (zE D (zTys cI cJ) A below args s (fun v w => v = some (.int (f_X3_timePart ti p1 p2)) ∧ w = (wM cI cJ z (s_X3_timePart_co p1 p2) d ti sL bL mD mT sy sm sd mi yr mo dy X)) (fun _ _ => False) 0 0) 0 0 (wM cI cJ z co d ti sL bL mD mT sy sm sd mi yr mo dy X) 41 [(0, .ref (z 0)), (1, .int p1), (2, .int p2)] [.int 2, .ref (z 0)] := by
    intro h13 h14 h15 h16 h17 h18
    refine z_wi (ws' := (wM cI cJ z (s_X3_fails_co 2) d ti sL bL mD mT sy sm sd mi yr mo dy X)) (rest := []) (ci := 3) (q0 := 0) C (c_X3_fails l hfl D cI cJ X z co d ti sL bL mD mT sy sm sd mi yr mo dy (2 : Int32) ) q_X3_fails rfl rfl rfl gX3_timePart_X3_fails ⟨rfl, rfl⟩ rfl rfl (Nat.le_of_ble_eq_true rfl) ⟨Nat.le_of_ble_eq_true rfl, Nat.le_of_ble_eq_true rfl⟩ ⟨Nat.le_of_ble_eq_true rfl, Nat.le_of_ble_eq_true rfl⟩ dX3_timePart_41 ?_
    refine z_eqst (st' := [.int 1]) (congrArg (fun v => Value.int v :: _) (by decide : (f_X3_fails 2) = (1 : Int32))) ?_
    refine z_if_eq (tgt := 49) C dX3_timePart_44 (by decide) (fun h => absurd h (by decide)) (fun _ => ?_)
    refine z_iconst (v := 0) C dX3_timePart_47 (by decide) ?_
    exact z_iret C ⟨congrArg (fun v => some (Value.int v)) (by rw [f_X3_timePart, if_neg (by rw [h13]; decide : ¬ f_X3_timePart_j1 p1 p2 = 0), if_neg (by rw [h13]; decide : ¬ f_X3_timePart_j1 p1 p2 = 1)] : (0 : Int32) = (f_X3_timePart ti p1 p2)), by rw [s_X3_timePart_co, if_neg (by rw [h13]; decide : ¬ f_X3_timePart_j1 p1 p2 = 0), if_neg (by rw [h13]; decide : ¬ f_X3_timePart_j1 p1 p2 = 1)]⟩ (by decide) (by decide) dX3_timePart_48
  refine z_if_ne (tgt := 12) C dX3_timePart_5 (by decide) (fun h1 => ?_) (fun h1 => ?_)
  · refine z_iload_n C dX3_timePart_12 rfl 2 rfl ?_
    refine z_bipush (v := 104) C dX3_timePart_13 (by decide) ?_
    refine z_icmp_eq (tgt := 36) C dX3_timePart_15 (by decide) (fun h2 => ?_) (fun h2 => ?_)
    · refine z_iconst (v := 0) C dX3_timePart_36 (by decide) ?_
      refine z_goto (tgt := 41) C dX3_timePart_37 (by decide) ?_
      exact K1_0 (by rw [f_X3_timePart_j1, if_neg h1, if_pos h2]) h1
    · refine z_iload_n C dX3_timePart_18 rfl 2 rfl ?_
      refine z_bipush (v := 109) C dX3_timePart_19 (by decide) ?_
      refine z_icmp_eq (tgt := 36) C dX3_timePart_21 (by decide) (fun h3 => ?_) (fun h3 => ?_)
      · refine z_iconst (v := 0) C dX3_timePart_36 (by decide) ?_
        refine z_goto (tgt := 41) C dX3_timePart_37 (by decide) ?_
        exact K1_0 (by rw [f_X3_timePart_j1, if_neg h1, if_neg h2, if_pos h3]) h1
      · refine z_iload_n C dX3_timePart_24 rfl 2 rfl ?_
        refine z_bipush (v := 115) C dX3_timePart_25 (by decide) ?_
        refine z_icmp_eq (tgt := 36) C dX3_timePart_27 (by decide) (fun h4 => ?_) (fun h4 => ?_)
        · refine z_iconst (v := 0) C dX3_timePart_36 (by decide) ?_
          refine z_goto (tgt := 41) C dX3_timePart_37 (by decide) ?_
          exact K1_0 (by rw [f_X3_timePart_j1, if_neg h1, if_neg h2, if_neg h3, if_pos h4]) h1
        · refine z_iload_n C dX3_timePart_30 rfl 2 rfl ?_
          refine z_bipush (v := 110) C dX3_timePart_31 (by decide) ?_
          refine z_icmp_ne (tgt := 40) C dX3_timePart_33 (by decide) (fun h5 => ?_) (fun h5 => ?_)
          · refine z_iconst (v := 2) C dX3_timePart_40 (by decide) ?_
            exact K1_2 (by rw [f_X3_timePart_j1, if_neg h1, if_neg h2, if_neg h3, if_neg h4, if_neg h5]) h1 h2 h3 h5 h4
          · refine z_iconst (v := 0) C dX3_timePart_36 (by decide) ?_
            refine z_goto (tgt := 41) C dX3_timePart_37 (by decide) ?_
            exact K1_0 (by rw [f_X3_timePart_j1, if_neg h1, if_neg h2, if_neg h3, if_neg h4, if_pos h5]) h1
  · refine z_iconst (v := 1) C dX3_timePart_8 (by decide) ?_
    refine z_goto (tgt := 41) C dX3_timePart_9 (by decide) ?_
    exact K1_1 (by rw [f_X3_timePart_j1, if_pos h1]) h1
def f_X3_moveTime_j1 (p1 : Int32) (p2 : Int32) (p3 : Int64) (p4 : Int32) : Int32 := (if (f_X3_isSlot p1) = 0 then 1 else (if (f_X3_isSlot p4) = 0 then 1 else (if p2 = 104 then (if (f_X3_in p3 (-1000000000000000) 1000000000000000) = 0 then 2 else 0) else (if p2 = 109 then (if (f_X3_in p3 (-1000000000000000) 1000000000000000) = 0 then 2 else 0) else (if p2 = 115 then (if (f_X3_in p3 (-1000000000000000) 1000000000000000) = 0 then 2 else 0) else (if p2 = 110 then (if (f_X3_in p3 (-1000000000000000) 1000000000000000) = 0 then 2 else 0) else 2))))))
def f_X3_moveTime_j2 (p2 : Int32) : Int64 := (if p2 = 104 then 3600000000000 else (if p2 = 109 then 60000000000 else (if p2 = 115 then 1000000000 else 1)))
def f_X3_moveTime (ti : Nat → Int64) (p1 : Int32) (p2 : Int32) (p3 : Int64) (p4 : Int32) : Int64 := (if f_X3_moveTime_j1 p1 p2 p3 p4 = 0 then (if f_X3_moveTime_j2 p2 = 1 then ((vp_updL ti p4.toNatClampNeg (f_X3_rest ((ti p1.toNatClampNeg) + (f_X3_round p3 1)) 86400000000000)) p4.toNatClampNeg) else (if f_X3_moveTime_j2 p2 = 1000000000 then ((vp_updL ti p4.toNatClampNeg (f_X3_rest ((ti p1.toNatClampNeg) + (f_X3_round p3 1000000000)) 86400000000000)) p4.toNatClampNeg) else (if f_X3_moveTime_j2 p2 = 60000000000 then ((vp_updL ti p4.toNatClampNeg (f_X3_rest ((ti p1.toNatClampNeg) + (f_X3_round p3 60000000000)) 86400000000000)) p4.toNatClampNeg) else ((vp_updL ti p4.toNatClampNeg (f_X3_rest ((ti p1.toNatClampNeg) + (f_X3_round p3 3600000000000)) 86400000000000)) p4.toNatClampNeg)))) else (if f_X3_moveTime_j1 p1 p2 p3 p4 = 1 then 0 else 0))
def s_X3_moveTime_co (p1 : Int32) (p2 : Int32) (p3 : Int64) (p4 : Int32) : Int32 := (if f_X3_moveTime_j1 p1 p2 p3 p4 = 0 then (if f_X3_moveTime_j2 p2 = 1 then (s_X3_fails_co 0) else (if f_X3_moveTime_j2 p2 = 1000000000 then (s_X3_fails_co 0) else (if f_X3_moveTime_j2 p2 = 60000000000 then (s_X3_fails_co 0) else (s_X3_fails_co 0)))) else (if f_X3_moveTime_j1 p1 p2 p3 p4 = 1 then (s_X3_fails_co 1) else (s_X3_fails_co 2)))
def s_X3_moveTime_ti (ti : Nat → Int64) (p1 : Int32) (p2 : Int32) (p3 : Int64) (p4 : Int32) : Nat → Int64 := (if f_X3_moveTime_j1 p1 p2 p3 p4 = 0 then (if f_X3_moveTime_j2 p2 = 1 then (vp_updL ti p4.toNatClampNeg (f_X3_rest ((ti p1.toNatClampNeg) + (f_X3_round p3 1)) 86400000000000)) else (if f_X3_moveTime_j2 p2 = 1000000000 then (vp_updL ti p4.toNatClampNeg (f_X3_rest ((ti p1.toNatClampNeg) + (f_X3_round p3 1000000000)) 86400000000000)) else (if f_X3_moveTime_j2 p2 = 60000000000 then (vp_updL ti p4.toNatClampNeg (f_X3_rest ((ti p1.toNatClampNeg) + (f_X3_round p3 60000000000)) 86400000000000)) else (vp_updL ti p4.toNatClampNeg (f_X3_rest ((ti p1.toNatClampNeg) + (f_X3_round p3 3600000000000)) 86400000000000))))) else (if f_X3_moveTime_j1 p1 p2 p3 p4 = 1 then ti else ti))
def pre_X3_moveTime (p1 : Int32) (p2 : Int32) (p3 : Int64) (p4 : Int32) : Prop := (((f_X3_moveTime_j1 p1 p2 p3 p4) = 0) → (¬ (f_X3_in p3 (-1000000000000000) 1000000000000000) = 0) → (¬ (f_X3_isSlot p1) = 0) → (¬ (f_X3_isSlot p4) = 0) → ((f_X3_moveTime_j2 p2) = 1) → (¬ p2 = 104) → (¬ p2 = 109) → (¬ p2 = 115) → (pre_X3_round 1)) ∧ (((f_X3_moveTime_j1 p1 p2 p3 p4) = 0) → (¬ (f_X3_in p3 (-1000000000000000) 1000000000000000) = 0) → (¬ (f_X3_isSlot p1) = 0) → (¬ (f_X3_isSlot p4) = 0) → ((f_X3_moveTime_j2 p2) = 1000000000) → (¬ p2 = 104) → (¬ p2 = 109) → (p2 = 115) → (pre_X3_round 1000000000)) ∧ (((f_X3_moveTime_j1 p1 p2 p3 p4) = 0) → (¬ (f_X3_in p3 (-1000000000000000) 1000000000000000) = 0) → (¬ (f_X3_isSlot p1) = 0) → (¬ (f_X3_isSlot p4) = 0) → ((f_X3_moveTime_j2 p2) = 60000000000) → (¬ p2 = 104) → (p2 = 109) → (pre_X3_round 60000000000)) ∧ (((f_X3_moveTime_j1 p1 p2 p3 p4) = 0) → (¬ (f_X3_in p3 (-1000000000000000) 1000000000000000) = 0) → (¬ (f_X3_isSlot p1) = 0) → (¬ (f_X3_isSlot p4) = 0) → ((f_X3_moveTime_j2 p2) = 3600000000000) → (p2 = 104) → (pre_X3_round 3600000000000))
theorem q_X3_moveTime : ZY yX3_moveTime wsX3_moveTime cX3_moveTime 6 (some .long) 4 := ⟨⟨_, rfl⟩, by decide +kernel, by decide +kernel, by decide +kernel⟩
set_option maxHeartbeats 4000000 in
set_option maxRecDepth 100000 in
theorem c_X3_moveTime (l : Launch) (hfl : l.stackTraces = false) (D : va_G) (cI cJ : ClassId) (X : va_W) (z : Nat → Nat) (co : Int32) (d : Nat → Int64) (ti : Nat → Int64) (sL : Nat → Int64) (bL : Nat → Int64) (mD : Nat → Int64) (mT : Nat → Int64) (sy : Nat → Int64) (sm : Nat → Int64) (sd : Nat → Int64) (mi : Nat → Int64) (yr : Int64) (mo : Int32) (dy : Int32) (p1 : Int32) (p2 : Int32) (p3 : Int64) (p4 : Int32)  (h_g : pre_X3_moveTime p1 p2 p3 p4) : ZM l yX3_moveTime wsX3_moveTime { frames := 3, cells := 0, slots := 0, locals := 69 } [.ref (z 0), .int p1, .int p2, .long p3, .int p4] D (zTys cI cJ) (wM cI cJ z co d ti sL bL mD mT sy sm sd mi yr mo dy X) 0 0 (fun v w => v = some (.long (f_X3_moveTime ti p1 p2 p3 p4)) ∧ w = (wM cI cJ z (s_X3_moveTime_co p1 p2 p3 p4) d (s_X3_moveTime_ti ti p1 p2 p3 p4) sL bL mD mT sy sm sd mi yr mo dy X)) (fun _ _ => False) := by
  refine z_open (own := RX3) hfl (cc := cX3_moveTime) (maxL := 6) (ret := (some .long)) (lv := [(0, .ref (z 0)), (1, .int p1), (2, .int p2), (3, .long p3), (5, .int p4)]) rfl (by decide) rfl rfl (Nat.le_of_ble_eq_true rfl) ?_
  intro p e s m args below meth c A C hno hnm hargs
  have hin : ∀ w ∈ wsX30, w ∈ wsX3_moveTime := by decide +kernel
  have w1 := C.1.2.2.2.2 (.constantLong RX3 207 (-1000000000000000)) (by decide +kernel)
  have w2 := C.1.2.2.2.2 (.constantLong RX3 209 (1000000000000000)) (by decide +kernel)
  have w3 := C.1.2.2.2.2 (.fieldLink RX3 17 "YearwheelModel" "times" "[J") (by decide +kernel)
  have w4 := C.1.2.2.2.2 (.constantLong RX3 199 (1000000000)) (by decide +kernel)
  have w5 := C.1.2.2.2.2 (.constantLong RX3 211 (60000000000)) (by decide +kernel)
  have w6 := C.1.2.2.2.2 (.constantLong RX3 203 (3600000000000)) (by decide +kernel)
  have w7 := C.1.2.2.2.2 (.constantLong RX3 205 (86400000000000)) (by decide +kernel)
  obtain ⟨g_0, g_1, g_2, g_3⟩ := h_g
  refine z_aload_n C dX3_moveTime_0 rfl 0 rfl ?_
  refine z_iload_n C dX3_moveTime_1 rfl 1 rfl ?_
  refine z_si (rest := [.ref (z 0)]) C (c_X3_isSlot l hfl D cI cJ _ p1 ) q_X3_isSlot gX3_moveTime_X3_isSlot ⟨rfl, rfl⟩ rfl rfl (Nat.le_of_ble_eq_true rfl) ⟨Nat.le_of_ble_eq_true rfl, Nat.le_of_ble_eq_true rfl⟩ ⟨Nat.le_of_ble_eq_true rfl, Nat.le_of_ble_eq_true rfl⟩ dX3_moveTime_2 ?_
  have K1_0 : f_X3_moveTime_j1 p1 p2 p3 p4 = 0 → (¬ (f_X3_in p3 (-1000000000000000) 1000000000000000) = 0) → (¬ (f_X3_isSlot p1) = 0) → (¬ (f_X3_isSlot p4) = 0) → ZW p l e { frames := 3, cells := 0, slots := 0, locals := 69 } s m args below meth c 6 D (zTys cI cJ) A (zE D (zTys cI cJ) A below args s (fun v w => v = some (.long (f_X3_moveTime ti p1 p2 p3 p4)) ∧ w = (wM cI cJ z (s_X3_moveTime_co p1 p2 p3 p4) d (s_X3_moveTime_ti ti p1 p2 p3 p4) sL bL mD mT sy sm sd mi yr mo dy X)) (fun _ _ => False) 0 0) 0 0 (wM cI cJ z co d ti sL bL mD mT sy sm sd mi yr mo dy X) 62 [(0, .ref (z 0)), (1, .int p1), (2, .int p2), (3, .long p3), (5, .int p4)] [.int 0, .ref (z 0)] := by
    intro h11 h12 h13 h14
    refine z_wi (ws' := (wM cI cJ z (s_X3_fails_co 0) d ti sL bL mD mT sy sm sd mi yr mo dy X)) (rest := []) (ci := 3) (q0 := 0) C (c_X3_fails l hfl D cI cJ X z co d ti sL bL mD mT sy sm sd mi yr mo dy (0 : Int32) ) q_X3_fails rfl rfl rfl gX3_moveTime_X3_fails ⟨rfl, rfl⟩ rfl rfl (Nat.le_of_ble_eq_true rfl) ⟨Nat.le_of_ble_eq_true rfl, Nat.le_of_ble_eq_true rfl⟩ ⟨Nat.le_of_ble_eq_true rfl, Nat.le_of_ble_eq_true rfl⟩ dX3_moveTime_62 ?_
    refine z_eqst (st' := [.int 0]) (congrArg (fun v => Value.int v :: _) (by decide : (f_X3_fails 0) = (0 : Int32))) ?_
    refine z_if_eq (tgt := 70) C dX3_moveTime_65 (by decide) (fun _ => ?_) (fun h => absurd (by decide) h)
    refine z_aload_n C dX3_moveTime_70 rfl 0 rfl ?_
    refine z_get (CC := RX3) (T := TX3) (N := 14) (ci := 3) C hin 0 rfl rfl 2 (by decide) w3 rfl rfl dX3_moveTime_71 ?_
    refine z_iload C dX3_moveTime_74 4 rfl ?_
    refine z_aload_n C dX3_moveTime_76 rfl 0 rfl ?_
    refine z_get (CC := RX3) (T := TX3) (N := 14) (ci := 3) C hin 0 rfl rfl 2 (by decide) w3 rfl rfl dX3_moveTime_77 ?_
    refine z_iload_n C dX3_moveTime_80 rfl 1 rfl ?_
    refine z_lald C 2 1 rfl rfl (vpMSlot h13) dX3_moveTime_81 ?_
    refine z_lload_n C dX3_moveTime_82 rfl 3 rfl ?_
    refine z_iload_n C dX3_moveTime_83 rfl 2 rfl ?_
    refine z_bipush (v := 104) C dX3_moveTime_84 (by decide) ?_
    have K2_1 : f_X3_moveTime_j2 p2 = 1 → (¬ p2 = 104) → (¬ p2 = 109) → (¬ p2 = 115) → ZW p l e { frames := 3, cells := 0, slots := 0, locals := 69 } s m args below meth c 6 D (zTys cI cJ) A (zE D (zTys cI cJ) A below args s (fun v w => v = some (.long (f_X3_moveTime ti p1 p2 p3 p4)) ∧ w = (wM cI cJ z (s_X3_moveTime_co p1 p2 p3 p4) d (s_X3_moveTime_ti ti p1 p2 p3 p4) sL bL mD mT sy sm sd mi yr mo dy X)) (fun _ _ => False) 0 0) 0 0 (wM cI cJ z (s_X3_fails_co 0) d ti sL bL mD mT sy sm sd mi yr mo dy X) 120 [(0, .ref (z 0)), (1, .int p1), (2, .int p2), (3, .long p3), (5, .int p4)] [.long 1, .long p3, .long (ti p1.toNatClampNeg), .int p4, .ref (z 2)] := by
      intro h18 h19 h20 h21
      refine z_sl (rest := [.long (ti p1.toNatClampNeg), .int p4, .ref (z 2)]) C (c_X3_round l hfl D cI cJ _ p3 (1 : Int64) (by decide) (g_0 h11 h12 h13 h14 h18 h19 h20 h21)) q_X3_round gX3_moveTime_X3_round ⟨rfl, rfl⟩ rfl rfl (Nat.le_of_ble_eq_true rfl) ⟨Nat.le_of_ble_eq_true rfl, Nat.le_of_ble_eq_true rfl⟩ ⟨Nat.le_of_ble_eq_true rfl, Nat.le_of_ble_eq_true rfl⟩ dX3_moveTime_120 ?_
      refine z_ladd C dX3_moveTime_123 ?_
      refine z_ldc2 (v := 86400000000000) C w7 dX3_moveTime_124 ?_
      refine z_sl (rest := [.int p4, .ref (z 2)]) C (c_X3_rest l hfl D cI cJ _ ((ti p1.toNatClampNeg) + (f_X3_round p3 1)) (86400000000000 : Int64) (by decide)) q_X3_rest gX3_moveTime_X3_rest ⟨rfl, rfl⟩ rfl rfl (Nat.le_of_ble_eq_true rfl) ⟨Nat.le_of_ble_eq_true rfl, Nat.le_of_ble_eq_true rfl⟩ ⟨Nat.le_of_ble_eq_true rfl, Nat.le_of_ble_eq_true rfl⟩ dX3_moveTime_127 ?_
      refine z_last C 2 1 rfl rfl (vpMSlot h14) (ws' := (wM cI cJ z (s_X3_fails_co 0) d (vp_updL ti p4.toNatClampNeg (f_X3_rest ((ti p1.toNatClampNeg) + (f_X3_round p3 1)) 86400000000000)) sL bL mD mT sy sm sd mi yr mo dy X)) rfl dX3_moveTime_130 ?_
      refine z_aload_n C dX3_moveTime_131 rfl 0 rfl ?_
      refine z_get (CC := RX3) (T := TX3) (N := 14) (ci := 3) C hin 0 rfl rfl 2 (by decide) w3 rfl rfl dX3_moveTime_132 ?_
      refine z_iload C dX3_moveTime_135 4 rfl ?_
      refine z_lald C 2 1 rfl rfl (vpMSlot h14) dX3_moveTime_137 ?_
      exact z_lret C ⟨congrArg (fun v => some (Value.long v)) (by rw [f_X3_moveTime, if_pos h11, if_pos h18] : ((vp_updL ti p4.toNatClampNeg (f_X3_rest ((ti p1.toNatClampNeg) + (f_X3_round p3 1)) 86400000000000)) p4.toNatClampNeg) = (f_X3_moveTime ti p1 p2 p3 p4)), by rw [s_X3_moveTime_co, if_pos h11, if_pos h18, s_X3_moveTime_ti, if_pos h11, if_pos h18]⟩ (by decide) (by decide) dX3_moveTime_138
    have K2_1000000000 : f_X3_moveTime_j2 p2 = 1000000000 → (¬ p2 = 104) → (¬ p2 = 109) → (p2 = 115) → ZW p l e { frames := 3, cells := 0, slots := 0, locals := 69 } s m args below meth c 6 D (zTys cI cJ) A (zE D (zTys cI cJ) A below args s (fun v w => v = some (.long (f_X3_moveTime ti p1 p2 p3 p4)) ∧ w = (wM cI cJ z (s_X3_moveTime_co p1 p2 p3 p4) d (s_X3_moveTime_ti ti p1 p2 p3 p4) sL bL mD mT sy sm sd mi yr mo dy X)) (fun _ _ => False) 0 0) 0 0 (wM cI cJ z (s_X3_fails_co 0) d ti sL bL mD mT sy sm sd mi yr mo dy X) 120 [(0, .ref (z 0)), (1, .int p1), (2, .int p2), (3, .long p3), (5, .int p4)] [.long 1000000000, .long p3, .long (ti p1.toNatClampNeg), .int p4, .ref (z 2)] := by
      intro h22 h23 h24 h25
      refine z_sl (rest := [.long (ti p1.toNatClampNeg), .int p4, .ref (z 2)]) C (c_X3_round l hfl D cI cJ _ p3 (1000000000 : Int64) (by decide) (g_1 h11 h12 h13 h14 h22 h23 h24 h25)) q_X3_round gX3_moveTime_X3_round ⟨rfl, rfl⟩ rfl rfl (Nat.le_of_ble_eq_true rfl) ⟨Nat.le_of_ble_eq_true rfl, Nat.le_of_ble_eq_true rfl⟩ ⟨Nat.le_of_ble_eq_true rfl, Nat.le_of_ble_eq_true rfl⟩ dX3_moveTime_120 ?_
      refine z_ladd C dX3_moveTime_123 ?_
      refine z_ldc2 (v := 86400000000000) C w7 dX3_moveTime_124 ?_
      refine z_sl (rest := [.int p4, .ref (z 2)]) C (c_X3_rest l hfl D cI cJ _ ((ti p1.toNatClampNeg) + (f_X3_round p3 1000000000)) (86400000000000 : Int64) (by decide)) q_X3_rest gX3_moveTime_X3_rest ⟨rfl, rfl⟩ rfl rfl (Nat.le_of_ble_eq_true rfl) ⟨Nat.le_of_ble_eq_true rfl, Nat.le_of_ble_eq_true rfl⟩ ⟨Nat.le_of_ble_eq_true rfl, Nat.le_of_ble_eq_true rfl⟩ dX3_moveTime_127 ?_
      refine z_last C 2 1 rfl rfl (vpMSlot h14) (ws' := (wM cI cJ z (s_X3_fails_co 0) d (vp_updL ti p4.toNatClampNeg (f_X3_rest ((ti p1.toNatClampNeg) + (f_X3_round p3 1000000000)) 86400000000000)) sL bL mD mT sy sm sd mi yr mo dy X)) rfl dX3_moveTime_130 ?_
      refine z_aload_n C dX3_moveTime_131 rfl 0 rfl ?_
      refine z_get (CC := RX3) (T := TX3) (N := 14) (ci := 3) C hin 0 rfl rfl 2 (by decide) w3 rfl rfl dX3_moveTime_132 ?_
      refine z_iload C dX3_moveTime_135 4 rfl ?_
      refine z_lald C 2 1 rfl rfl (vpMSlot h14) dX3_moveTime_137 ?_
      exact z_lret C ⟨congrArg (fun v => some (Value.long v)) (by rw [f_X3_moveTime, if_pos h11, if_neg (by rw [h22]; decide : ¬ f_X3_moveTime_j2 p2 = 1), if_pos h22] : ((vp_updL ti p4.toNatClampNeg (f_X3_rest ((ti p1.toNatClampNeg) + (f_X3_round p3 1000000000)) 86400000000000)) p4.toNatClampNeg) = (f_X3_moveTime ti p1 p2 p3 p4)), by rw [s_X3_moveTime_co, if_pos h11, if_neg (by rw [h22]; decide : ¬ f_X3_moveTime_j2 p2 = 1), if_pos h22, s_X3_moveTime_ti, if_pos h11, if_neg (by rw [h22]; decide : ¬ f_X3_moveTime_j2 p2 = 1), if_pos h22]⟩ (by decide) (by decide) dX3_moveTime_138
    have K2_60000000000 : f_X3_moveTime_j2 p2 = 60000000000 → (¬ p2 = 104) → (p2 = 109) → ZW p l e { frames := 3, cells := 0, slots := 0, locals := 69 } s m args below meth c 6 D (zTys cI cJ) A (zE D (zTys cI cJ) A below args s (fun v w => v = some (.long (f_X3_moveTime ti p1 p2 p3 p4)) ∧ w = (wM cI cJ z (s_X3_moveTime_co p1 p2 p3 p4) d (s_X3_moveTime_ti ti p1 p2 p3 p4) sL bL mD mT sy sm sd mi yr mo dy X)) (fun _ _ => False) 0 0) 0 0 (wM cI cJ z (s_X3_fails_co 0) d ti sL bL mD mT sy sm sd mi yr mo dy X) 120 [(0, .ref (z 0)), (1, .int p1), (2, .int p2), (3, .long p3), (5, .int p4)] [.long 60000000000, .long p3, .long (ti p1.toNatClampNeg), .int p4, .ref (z 2)] := by
      intro h26 h27 h28
      refine z_sl (rest := [.long (ti p1.toNatClampNeg), .int p4, .ref (z 2)]) C (c_X3_round l hfl D cI cJ _ p3 (60000000000 : Int64) (by decide) (g_2 h11 h12 h13 h14 h26 h27 h28)) q_X3_round gX3_moveTime_X3_round ⟨rfl, rfl⟩ rfl rfl (Nat.le_of_ble_eq_true rfl) ⟨Nat.le_of_ble_eq_true rfl, Nat.le_of_ble_eq_true rfl⟩ ⟨Nat.le_of_ble_eq_true rfl, Nat.le_of_ble_eq_true rfl⟩ dX3_moveTime_120 ?_
      refine z_ladd C dX3_moveTime_123 ?_
      refine z_ldc2 (v := 86400000000000) C w7 dX3_moveTime_124 ?_
      refine z_sl (rest := [.int p4, .ref (z 2)]) C (c_X3_rest l hfl D cI cJ _ ((ti p1.toNatClampNeg) + (f_X3_round p3 60000000000)) (86400000000000 : Int64) (by decide)) q_X3_rest gX3_moveTime_X3_rest ⟨rfl, rfl⟩ rfl rfl (Nat.le_of_ble_eq_true rfl) ⟨Nat.le_of_ble_eq_true rfl, Nat.le_of_ble_eq_true rfl⟩ ⟨Nat.le_of_ble_eq_true rfl, Nat.le_of_ble_eq_true rfl⟩ dX3_moveTime_127 ?_
      refine z_last C 2 1 rfl rfl (vpMSlot h14) (ws' := (wM cI cJ z (s_X3_fails_co 0) d (vp_updL ti p4.toNatClampNeg (f_X3_rest ((ti p1.toNatClampNeg) + (f_X3_round p3 60000000000)) 86400000000000)) sL bL mD mT sy sm sd mi yr mo dy X)) rfl dX3_moveTime_130 ?_
      refine z_aload_n C dX3_moveTime_131 rfl 0 rfl ?_
      refine z_get (CC := RX3) (T := TX3) (N := 14) (ci := 3) C hin 0 rfl rfl 2 (by decide) w3 rfl rfl dX3_moveTime_132 ?_
      refine z_iload C dX3_moveTime_135 4 rfl ?_
      refine z_lald C 2 1 rfl rfl (vpMSlot h14) dX3_moveTime_137 ?_
      exact z_lret C ⟨congrArg (fun v => some (Value.long v)) (by rw [f_X3_moveTime, if_pos h11, if_neg (by rw [h26]; decide : ¬ f_X3_moveTime_j2 p2 = 1), if_neg (by rw [h26]; decide : ¬ f_X3_moveTime_j2 p2 = 1000000000), if_pos h26] : ((vp_updL ti p4.toNatClampNeg (f_X3_rest ((ti p1.toNatClampNeg) + (f_X3_round p3 60000000000)) 86400000000000)) p4.toNatClampNeg) = (f_X3_moveTime ti p1 p2 p3 p4)), by rw [s_X3_moveTime_co, if_pos h11, if_neg (by rw [h26]; decide : ¬ f_X3_moveTime_j2 p2 = 1), if_neg (by rw [h26]; decide : ¬ f_X3_moveTime_j2 p2 = 1000000000), if_pos h26, s_X3_moveTime_ti, if_pos h11, if_neg (by rw [h26]; decide : ¬ f_X3_moveTime_j2 p2 = 1), if_neg (by rw [h26]; decide : ¬ f_X3_moveTime_j2 p2 = 1000000000), if_pos h26]⟩ (by decide) (by decide) dX3_moveTime_138
    have K2_3600000000000 : f_X3_moveTime_j2 p2 = 3600000000000 → (p2 = 104) → ZW p l e { frames := 3, cells := 0, slots := 0, locals := 69 } s m args below meth c 6 D (zTys cI cJ) A (zE D (zTys cI cJ) A below args s (fun v w => v = some (.long (f_X3_moveTime ti p1 p2 p3 p4)) ∧ w = (wM cI cJ z (s_X3_moveTime_co p1 p2 p3 p4) d (s_X3_moveTime_ti ti p1 p2 p3 p4) sL bL mD mT sy sm sd mi yr mo dy X)) (fun _ _ => False) 0 0) 0 0 (wM cI cJ z (s_X3_fails_co 0) d ti sL bL mD mT sy sm sd mi yr mo dy X) 120 [(0, .ref (z 0)), (1, .int p1), (2, .int p2), (3, .long p3), (5, .int p4)] [.long 3600000000000, .long p3, .long (ti p1.toNatClampNeg), .int p4, .ref (z 2)] := by
      intro h29 h30
      refine z_sl (rest := [.long (ti p1.toNatClampNeg), .int p4, .ref (z 2)]) C (c_X3_round l hfl D cI cJ _ p3 (3600000000000 : Int64) (by decide) (g_3 h11 h12 h13 h14 h29 h30)) q_X3_round gX3_moveTime_X3_round ⟨rfl, rfl⟩ rfl rfl (Nat.le_of_ble_eq_true rfl) ⟨Nat.le_of_ble_eq_true rfl, Nat.le_of_ble_eq_true rfl⟩ ⟨Nat.le_of_ble_eq_true rfl, Nat.le_of_ble_eq_true rfl⟩ dX3_moveTime_120 ?_
      refine z_ladd C dX3_moveTime_123 ?_
      refine z_ldc2 (v := 86400000000000) C w7 dX3_moveTime_124 ?_
      refine z_sl (rest := [.int p4, .ref (z 2)]) C (c_X3_rest l hfl D cI cJ _ ((ti p1.toNatClampNeg) + (f_X3_round p3 3600000000000)) (86400000000000 : Int64) (by decide)) q_X3_rest gX3_moveTime_X3_rest ⟨rfl, rfl⟩ rfl rfl (Nat.le_of_ble_eq_true rfl) ⟨Nat.le_of_ble_eq_true rfl, Nat.le_of_ble_eq_true rfl⟩ ⟨Nat.le_of_ble_eq_true rfl, Nat.le_of_ble_eq_true rfl⟩ dX3_moveTime_127 ?_
      refine z_last C 2 1 rfl rfl (vpMSlot h14) (ws' := (wM cI cJ z (s_X3_fails_co 0) d (vp_updL ti p4.toNatClampNeg (f_X3_rest ((ti p1.toNatClampNeg) + (f_X3_round p3 3600000000000)) 86400000000000)) sL bL mD mT sy sm sd mi yr mo dy X)) rfl dX3_moveTime_130 ?_
      refine z_aload_n C dX3_moveTime_131 rfl 0 rfl ?_
      refine z_get (CC := RX3) (T := TX3) (N := 14) (ci := 3) C hin 0 rfl rfl 2 (by decide) w3 rfl rfl dX3_moveTime_132 ?_
      refine z_iload C dX3_moveTime_135 4 rfl ?_
      refine z_lald C 2 1 rfl rfl (vpMSlot h14) dX3_moveTime_137 ?_
      exact z_lret C ⟨congrArg (fun v => some (Value.long v)) (by rw [f_X3_moveTime, if_pos h11, if_neg (by rw [h29]; decide : ¬ f_X3_moveTime_j2 p2 = 1), if_neg (by rw [h29]; decide : ¬ f_X3_moveTime_j2 p2 = 1000000000), if_neg (by rw [h29]; decide : ¬ f_X3_moveTime_j2 p2 = 60000000000)] : ((vp_updL ti p4.toNatClampNeg (f_X3_rest ((ti p1.toNatClampNeg) + (f_X3_round p3 3600000000000)) 86400000000000)) p4.toNatClampNeg) = (f_X3_moveTime ti p1 p2 p3 p4)), by rw [s_X3_moveTime_co, if_pos h11, if_neg (by rw [h29]; decide : ¬ f_X3_moveTime_j2 p2 = 1), if_neg (by rw [h29]; decide : ¬ f_X3_moveTime_j2 p2 = 1000000000), if_neg (by rw [h29]; decide : ¬ f_X3_moveTime_j2 p2 = 60000000000), s_X3_moveTime_ti, if_pos h11, if_neg (by rw [h29]; decide : ¬ f_X3_moveTime_j2 p2 = 1), if_neg (by rw [h29]; decide : ¬ f_X3_moveTime_j2 p2 = 1000000000), if_neg (by rw [h29]; decide : ¬ f_X3_moveTime_j2 p2 = 60000000000)]⟩ (by decide) (by decide) dX3_moveTime_138
    refine z_icmp_ne (tgt := 95) C dX3_moveTime_86 (by decide) (fun h15 => ?_) (fun h15 => ?_)
    · refine z_iload_n C dX3_moveTime_95 rfl 2 rfl ?_
      refine z_bipush (v := 109) C dX3_moveTime_96 (by decide) ?_
      refine z_icmp_ne (tgt := 107) C dX3_moveTime_98 (by decide) (fun h16 => ?_) (fun h16 => ?_)
      · refine z_iload_n C dX3_moveTime_107 rfl 2 rfl ?_
        refine z_bipush (v := 115) C dX3_moveTime_108 (by decide) ?_
        refine z_icmp_ne (tgt := 119) C dX3_moveTime_110 (by decide) (fun h17 => ?_) (fun h17 => ?_)
        · refine z_lconst (v := 1) C dX3_moveTime_119 (by decide) ?_
          exact K2_1 (by rw [f_X3_moveTime_j2, if_neg h15, if_neg h16, if_neg h17]) h15 h16 h17
        · refine z_ldc2 (v := 1000000000) C w4 dX3_moveTime_113 ?_
          refine z_goto (tgt := 120) C dX3_moveTime_116 (by decide) ?_
          exact K2_1000000000 (by rw [f_X3_moveTime_j2, if_neg h15, if_neg h16, if_pos h17]) h15 h16 h17
      · refine z_ldc2 (v := 60000000000) C w5 dX3_moveTime_101 ?_
        refine z_goto (tgt := 120) C dX3_moveTime_104 (by decide) ?_
        exact K2_60000000000 (by rw [f_X3_moveTime_j2, if_neg h15, if_pos h16]) h15 h16
    · refine z_ldc2 (v := 3600000000000) C w6 dX3_moveTime_89 ?_
      refine z_goto (tgt := 120) C dX3_moveTime_92 (by decide) ?_
      exact K2_3600000000000 (by rw [f_X3_moveTime_j2, if_pos h15]) h15
  have K1_1 : f_X3_moveTime_j1 p1 p2 p3 p4 = 1 → ZW p l e { frames := 3, cells := 0, slots := 0, locals := 69 } s m args below meth c 6 D (zTys cI cJ) A (zE D (zTys cI cJ) A below args s (fun v w => v = some (.long (f_X3_moveTime ti p1 p2 p3 p4)) ∧ w = (wM cI cJ z (s_X3_moveTime_co p1 p2 p3 p4) d (s_X3_moveTime_ti ti p1 p2 p3 p4) sL bL mD mT sy sm sd mi yr mo dy X)) (fun _ _ => False) 0 0) 0 0 (wM cI cJ z co d ti sL bL mD mT sy sm sd mi yr mo dy X) 62 [(0, .ref (z 0)), (1, .int p1), (2, .int p2), (3, .long p3), (5, .int p4)] [.int 1, .ref (z 0)] := by
    intro h31
    refine z_wi (ws' := (wM cI cJ z (s_X3_fails_co 1) d ti sL bL mD mT sy sm sd mi yr mo dy X)) (rest := []) (ci := 3) (q0 := 0) C (c_X3_fails l hfl D cI cJ X z co d ti sL bL mD mT sy sm sd mi yr mo dy (1 : Int32) ) q_X3_fails rfl rfl rfl gX3_moveTime_X3_fails ⟨rfl, rfl⟩ rfl rfl (Nat.le_of_ble_eq_true rfl) ⟨Nat.le_of_ble_eq_true rfl, Nat.le_of_ble_eq_true rfl⟩ ⟨Nat.le_of_ble_eq_true rfl, Nat.le_of_ble_eq_true rfl⟩ dX3_moveTime_62 ?_
    refine z_eqst (st' := [.int 1]) (congrArg (fun v => Value.int v :: _) (by decide : (f_X3_fails 1) = (1 : Int32))) ?_
    refine z_if_eq (tgt := 70) C dX3_moveTime_65 (by decide) (fun h => absurd h (by decide)) (fun _ => ?_)
    refine z_lconst (v := 0) C dX3_moveTime_68 (by decide) ?_
    exact z_lret C ⟨congrArg (fun v => some (Value.long v)) (by rw [f_X3_moveTime, if_neg (by rw [h31]; decide : ¬ f_X3_moveTime_j1 p1 p2 p3 p4 = 0), if_pos h31] : (0 : Int64) = (f_X3_moveTime ti p1 p2 p3 p4)), by rw [s_X3_moveTime_co, if_neg (by rw [h31]; decide : ¬ f_X3_moveTime_j1 p1 p2 p3 p4 = 0), if_pos h31, s_X3_moveTime_ti, if_neg (by rw [h31]; decide : ¬ f_X3_moveTime_j1 p1 p2 p3 p4 = 0), if_pos h31]⟩ (by decide) (by decide) dX3_moveTime_69
  have K1_2 : f_X3_moveTime_j1 p1 p2 p3 p4 = 2 → (¬ (f_X3_isSlot p1) = 0) → (¬ (f_X3_isSlot p4) = 0) → ZW p l e { frames := 3, cells := 0, slots := 0, locals := 69 } s m args below meth c 6 D (zTys cI cJ) A (zE D (zTys cI cJ) A below args s (fun v w => v = some (.long (f_X3_moveTime ti p1 p2 p3 p4)) ∧ w = (wM cI cJ z (s_X3_moveTime_co p1 p2 p3 p4) d (s_X3_moveTime_ti ti p1 p2 p3 p4) sL bL mD mT sy sm sd mi yr mo dy X)) (fun _ _ => False) 0 0) 0 0 (wM cI cJ z co d ti sL bL mD mT sy sm sd mi yr mo dy X) 62 [(0, .ref (z 0)), (1, .int p1), (2, .int p2), (3, .long p3), (5, .int p4)] [.int 2, .ref (z 0)] := by
    intro h32 h33 h34
    refine z_wi (ws' := (wM cI cJ z (s_X3_fails_co 2) d ti sL bL mD mT sy sm sd mi yr mo dy X)) (rest := []) (ci := 3) (q0 := 0) C (c_X3_fails l hfl D cI cJ X z co d ti sL bL mD mT sy sm sd mi yr mo dy (2 : Int32) ) q_X3_fails rfl rfl rfl gX3_moveTime_X3_fails ⟨rfl, rfl⟩ rfl rfl (Nat.le_of_ble_eq_true rfl) ⟨Nat.le_of_ble_eq_true rfl, Nat.le_of_ble_eq_true rfl⟩ ⟨Nat.le_of_ble_eq_true rfl, Nat.le_of_ble_eq_true rfl⟩ dX3_moveTime_62 ?_
    refine z_eqst (st' := [.int 1]) (congrArg (fun v => Value.int v :: _) (by decide : (f_X3_fails 2) = (1 : Int32))) ?_
    refine z_if_eq (tgt := 70) C dX3_moveTime_65 (by decide) (fun h => absurd h (by decide)) (fun _ => ?_)
    refine z_lconst (v := 0) C dX3_moveTime_68 (by decide) ?_
    exact z_lret C ⟨congrArg (fun v => some (Value.long v)) (by rw [f_X3_moveTime, if_neg (by rw [h32]; decide : ¬ f_X3_moveTime_j1 p1 p2 p3 p4 = 0), if_neg (by rw [h32]; decide : ¬ f_X3_moveTime_j1 p1 p2 p3 p4 = 1)] : (0 : Int64) = (f_X3_moveTime ti p1 p2 p3 p4)), by rw [s_X3_moveTime_co, if_neg (by rw [h32]; decide : ¬ f_X3_moveTime_j1 p1 p2 p3 p4 = 0), if_neg (by rw [h32]; decide : ¬ f_X3_moveTime_j1 p1 p2 p3 p4 = 1), s_X3_moveTime_ti, if_neg (by rw [h32]; decide : ¬ f_X3_moveTime_j1 p1 p2 p3 p4 = 0), if_neg (by rw [h32]; decide : ¬ f_X3_moveTime_j1 p1 p2 p3 p4 = 1)]⟩ (by decide) (by decide) dX3_moveTime_69
  refine z_if_eq (tgt := 16) C dX3_moveTime_5 (by decide) (fun h1 => ?_) (fun h1 => ?_)
  · refine z_iconst (v := 1) C dX3_moveTime_16 (by decide) ?_
    refine z_goto (tgt := 62) C dX3_moveTime_17 (by decide) ?_
    exact K1_1 (by rw [f_X3_moveTime_j1, if_pos h1]) 
  · refine z_iload C dX3_moveTime_8 4 rfl ?_
    refine z_si (rest := [.ref (z 0)]) C (c_X3_isSlot l hfl D cI cJ _ p4 ) q_X3_isSlot gX3_moveTime_X3_isSlot ⟨rfl, rfl⟩ rfl rfl (Nat.le_of_ble_eq_true rfl) ⟨Nat.le_of_ble_eq_true rfl, Nat.le_of_ble_eq_true rfl⟩ ⟨Nat.le_of_ble_eq_true rfl, Nat.le_of_ble_eq_true rfl⟩ dX3_moveTime_10 ?_
    refine z_if_ne (tgt := 20) C dX3_moveTime_13 (by decide) (fun h2 => ?_) (fun h2 => ?_)
    · refine z_iload_n C dX3_moveTime_20 rfl 2 rfl ?_
      refine z_bipush (v := 104) C dX3_moveTime_21 (by decide) ?_
      refine z_icmp_eq (tgt := 44) C dX3_moveTime_23 (by decide) (fun h3 => ?_) (fun h3 => ?_)
      · refine z_lload_n C dX3_moveTime_44 rfl 3 rfl ?_
        refine z_ldc2 (v := (-1000000000000000)) C w1 dX3_moveTime_45 ?_
        refine z_ldc2 (v := 1000000000000000) C w2 dX3_moveTime_48 ?_
        refine z_si (rest := [.ref (z 0)]) C (c_X3_in l hfl D cI cJ _ p3 ((-1000000000000000) : Int64) (1000000000000000 : Int64) ) q_X3_in gX3_moveTime_X3_in ⟨rfl, rfl⟩ rfl rfl (Nat.le_of_ble_eq_true rfl) ⟨Nat.le_of_ble_eq_true rfl, Nat.le_of_ble_eq_true rfl⟩ ⟨Nat.le_of_ble_eq_true rfl, Nat.le_of_ble_eq_true rfl⟩ dX3_moveTime_51 ?_
        refine z_if_eq (tgt := 61) C dX3_moveTime_54 (by decide) (fun h4 => ?_) (fun h4 => ?_)
        · refine z_iconst (v := 2) C dX3_moveTime_61 (by decide) ?_
          exact K1_2 (by rw [f_X3_moveTime_j1, if_neg h1, if_neg h2, if_pos h3, if_pos h4]) h1 h2
        · refine z_iconst (v := 0) C dX3_moveTime_57 (by decide) ?_
          refine z_goto (tgt := 62) C dX3_moveTime_58 (by decide) ?_
          exact K1_0 (by rw [f_X3_moveTime_j1, if_neg h1, if_neg h2, if_pos h3, if_neg h4]) h4 h1 h2
      · refine z_iload_n C dX3_moveTime_26 rfl 2 rfl ?_
        refine z_bipush (v := 109) C dX3_moveTime_27 (by decide) ?_
        refine z_icmp_eq (tgt := 44) C dX3_moveTime_29 (by decide) (fun h5 => ?_) (fun h5 => ?_)
        · refine z_lload_n C dX3_moveTime_44 rfl 3 rfl ?_
          refine z_ldc2 (v := (-1000000000000000)) C w1 dX3_moveTime_45 ?_
          refine z_ldc2 (v := 1000000000000000) C w2 dX3_moveTime_48 ?_
          refine z_si (rest := [.ref (z 0)]) C (c_X3_in l hfl D cI cJ _ p3 ((-1000000000000000) : Int64) (1000000000000000 : Int64) ) q_X3_in gX3_moveTime_X3_in ⟨rfl, rfl⟩ rfl rfl (Nat.le_of_ble_eq_true rfl) ⟨Nat.le_of_ble_eq_true rfl, Nat.le_of_ble_eq_true rfl⟩ ⟨Nat.le_of_ble_eq_true rfl, Nat.le_of_ble_eq_true rfl⟩ dX3_moveTime_51 ?_
          refine z_if_eq (tgt := 61) C dX3_moveTime_54 (by decide) (fun h6 => ?_) (fun h6 => ?_)
          · refine z_iconst (v := 2) C dX3_moveTime_61 (by decide) ?_
            exact K1_2 (by rw [f_X3_moveTime_j1, if_neg h1, if_neg h2, if_neg h3, if_pos h5, if_pos h6]) h1 h2
          · refine z_iconst (v := 0) C dX3_moveTime_57 (by decide) ?_
            refine z_goto (tgt := 62) C dX3_moveTime_58 (by decide) ?_
            exact K1_0 (by rw [f_X3_moveTime_j1, if_neg h1, if_neg h2, if_neg h3, if_pos h5, if_neg h6]) h6 h1 h2
        · refine z_iload_n C dX3_moveTime_32 rfl 2 rfl ?_
          refine z_bipush (v := 115) C dX3_moveTime_33 (by decide) ?_
          refine z_icmp_eq (tgt := 44) C dX3_moveTime_35 (by decide) (fun h7 => ?_) (fun h7 => ?_)
          · refine z_lload_n C dX3_moveTime_44 rfl 3 rfl ?_
            refine z_ldc2 (v := (-1000000000000000)) C w1 dX3_moveTime_45 ?_
            refine z_ldc2 (v := 1000000000000000) C w2 dX3_moveTime_48 ?_
            refine z_si (rest := [.ref (z 0)]) C (c_X3_in l hfl D cI cJ _ p3 ((-1000000000000000) : Int64) (1000000000000000 : Int64) ) q_X3_in gX3_moveTime_X3_in ⟨rfl, rfl⟩ rfl rfl (Nat.le_of_ble_eq_true rfl) ⟨Nat.le_of_ble_eq_true rfl, Nat.le_of_ble_eq_true rfl⟩ ⟨Nat.le_of_ble_eq_true rfl, Nat.le_of_ble_eq_true rfl⟩ dX3_moveTime_51 ?_
            refine z_if_eq (tgt := 61) C dX3_moveTime_54 (by decide) (fun h8 => ?_) (fun h8 => ?_)
            · refine z_iconst (v := 2) C dX3_moveTime_61 (by decide) ?_
              exact K1_2 (by rw [f_X3_moveTime_j1, if_neg h1, if_neg h2, if_neg h3, if_neg h5, if_pos h7, if_pos h8]) h1 h2
            · refine z_iconst (v := 0) C dX3_moveTime_57 (by decide) ?_
              refine z_goto (tgt := 62) C dX3_moveTime_58 (by decide) ?_
              exact K1_0 (by rw [f_X3_moveTime_j1, if_neg h1, if_neg h2, if_neg h3, if_neg h5, if_pos h7, if_neg h8]) h8 h1 h2
          · refine z_iload_n C dX3_moveTime_38 rfl 2 rfl ?_
            refine z_bipush (v := 110) C dX3_moveTime_39 (by decide) ?_
            refine z_icmp_ne (tgt := 61) C dX3_moveTime_41 (by decide) (fun h9 => ?_) (fun h9 => ?_)
            · refine z_iconst (v := 2) C dX3_moveTime_61 (by decide) ?_
              exact K1_2 (by rw [f_X3_moveTime_j1, if_neg h1, if_neg h2, if_neg h3, if_neg h5, if_neg h7, if_neg h9]) h1 h2
            · refine z_lload_n C dX3_moveTime_44 rfl 3 rfl ?_
              refine z_ldc2 (v := (-1000000000000000)) C w1 dX3_moveTime_45 ?_
              refine z_ldc2 (v := 1000000000000000) C w2 dX3_moveTime_48 ?_
              refine z_si (rest := [.ref (z 0)]) C (c_X3_in l hfl D cI cJ _ p3 ((-1000000000000000) : Int64) (1000000000000000 : Int64) ) q_X3_in gX3_moveTime_X3_in ⟨rfl, rfl⟩ rfl rfl (Nat.le_of_ble_eq_true rfl) ⟨Nat.le_of_ble_eq_true rfl, Nat.le_of_ble_eq_true rfl⟩ ⟨Nat.le_of_ble_eq_true rfl, Nat.le_of_ble_eq_true rfl⟩ dX3_moveTime_51 ?_
              refine z_if_eq (tgt := 61) C dX3_moveTime_54 (by decide) (fun h10 => ?_) (fun h10 => ?_)
              · refine z_iconst (v := 2) C dX3_moveTime_61 (by decide) ?_
                exact K1_2 (by rw [f_X3_moveTime_j1, if_neg h1, if_neg h2, if_neg h3, if_neg h5, if_neg h7, if_pos h9, if_pos h10]) h1 h2
              · refine z_iconst (v := 0) C dX3_moveTime_57 (by decide) ?_
                refine z_goto (tgt := 62) C dX3_moveTime_58 (by decide) ?_
                exact K1_0 (by rw [f_X3_moveTime_j1, if_neg h1, if_neg h2, if_neg h3, if_neg h5, if_neg h7, if_pos h9, if_neg h10]) h10 h1 h2
    · refine z_iconst (v := 1) C dX3_moveTime_16 (by decide) ?_
      refine z_goto (tgt := 62) C dX3_moveTime_17 (by decide) ?_
      exact K1_1 (by rw [f_X3_moveTime_j1, if_neg h1, if_pos h2]) 
def f_X3_cutTime_j1 (p1 : Int32) (p2 : Int32) (p3 : Int32) : Int32 := (if (f_X3_isSlot p1) = 0 then 1 else (if (f_X3_isSlot p3) = 0 then 1 else (if p2 = 104 then 0 else (if p2 = 109 then 0 else (if p2 = 115 then 0 else (if p2 = 100 then 0 else 2))))))
def f_X3_cutTime_j2 (p2 : Int32) : Int64 := (if p2 = 104 then 3600000000000 else (if p2 = 109 then 60000000000 else (if p2 = 115 then 1000000000 else 86400000000000)))
def f_X3_cutTime (ti : Nat → Int64) (p1 : Int32) (p2 : Int32) (p3 : Int32) : Int64 := (if f_X3_cutTime_j1 p1 p2 p3 = 0 then (if f_X3_cutTime_j2 p2 = 1000000000 then ((vp_updL ti p3.toNatClampNeg ((ti p1.toNatClampNeg) - ((ti p1.toNatClampNeg) - (ti p1.toNatClampNeg) / 1000000000 * 1000000000))) p3.toNatClampNeg) else (if f_X3_cutTime_j2 p2 = 60000000000 then ((vp_updL ti p3.toNatClampNeg ((ti p1.toNatClampNeg) - ((ti p1.toNatClampNeg) - (ti p1.toNatClampNeg) / 60000000000 * 60000000000))) p3.toNatClampNeg) else (if f_X3_cutTime_j2 p2 = 3600000000000 then ((vp_updL ti p3.toNatClampNeg ((ti p1.toNatClampNeg) - ((ti p1.toNatClampNeg) - (ti p1.toNatClampNeg) / 3600000000000 * 3600000000000))) p3.toNatClampNeg) else ((vp_updL ti p3.toNatClampNeg ((ti p1.toNatClampNeg) - ((ti p1.toNatClampNeg) - (ti p1.toNatClampNeg) / 86400000000000 * 86400000000000))) p3.toNatClampNeg)))) else (if f_X3_cutTime_j1 p1 p2 p3 = 1 then 0 else 0))
def s_X3_cutTime_co (p1 : Int32) (p2 : Int32) (p3 : Int32) : Int32 := (if f_X3_cutTime_j1 p1 p2 p3 = 0 then (if f_X3_cutTime_j2 p2 = 1000000000 then (s_X3_fails_co 0) else (if f_X3_cutTime_j2 p2 = 60000000000 then (s_X3_fails_co 0) else (if f_X3_cutTime_j2 p2 = 3600000000000 then (s_X3_fails_co 0) else (s_X3_fails_co 0)))) else (if f_X3_cutTime_j1 p1 p2 p3 = 1 then (s_X3_fails_co 1) else (s_X3_fails_co 2)))
def s_X3_cutTime_ti (ti : Nat → Int64) (p1 : Int32) (p2 : Int32) (p3 : Int32) : Nat → Int64 := (if f_X3_cutTime_j1 p1 p2 p3 = 0 then (if f_X3_cutTime_j2 p2 = 1000000000 then (vp_updL ti p3.toNatClampNeg ((ti p1.toNatClampNeg) - ((ti p1.toNatClampNeg) - (ti p1.toNatClampNeg) / 1000000000 * 1000000000))) else (if f_X3_cutTime_j2 p2 = 60000000000 then (vp_updL ti p3.toNatClampNeg ((ti p1.toNatClampNeg) - ((ti p1.toNatClampNeg) - (ti p1.toNatClampNeg) / 60000000000 * 60000000000))) else (if f_X3_cutTime_j2 p2 = 3600000000000 then (vp_updL ti p3.toNatClampNeg ((ti p1.toNatClampNeg) - ((ti p1.toNatClampNeg) - (ti p1.toNatClampNeg) / 3600000000000 * 3600000000000))) else (vp_updL ti p3.toNatClampNeg ((ti p1.toNatClampNeg) - ((ti p1.toNatClampNeg) - (ti p1.toNatClampNeg) / 86400000000000 * 86400000000000)))))) else (if f_X3_cutTime_j1 p1 p2 p3 = 1 then ti else ti))
theorem q_X3_cutTime : ZY yX3_cutTime wsX3_cutTime cX3_cutTime 6 (some .long) 3 := ⟨⟨_, rfl⟩, by decide +kernel, by decide +kernel, by decide +kernel⟩
set_option maxHeartbeats 4000000 in
set_option maxRecDepth 100000 in
theorem c_X3_cutTime (l : Launch) (hfl : l.stackTraces = false) (D : va_G) (cI cJ : ClassId) (X : va_W) (z : Nat → Nat) (co : Int32) (d : Nat → Int64) (ti : Nat → Int64) (sL : Nat → Int64) (bL : Nat → Int64) (mD : Nat → Int64) (mT : Nat → Int64) (sy : Nat → Int64) (sm : Nat → Int64) (sd : Nat → Int64) (mi : Nat → Int64) (yr : Int64) (mo : Int32) (dy : Int32) (p1 : Int32) (p2 : Int32) (p3 : Int32)  : ZM l yX3_cutTime wsX3_cutTime { frames := 2, cells := 0, slots := 0, locals := 45 } [.ref (z 0), .int p1, .int p2, .int p3] D (zTys cI cJ) (wM cI cJ z co d ti sL bL mD mT sy sm sd mi yr mo dy X) 0 0 (fun v w => v = some (.long (f_X3_cutTime ti p1 p2 p3)) ∧ w = (wM cI cJ z (s_X3_cutTime_co p1 p2 p3) d (s_X3_cutTime_ti ti p1 p2 p3) sL bL mD mT sy sm sd mi yr mo dy X)) (fun _ _ => False) := by
  refine z_open (own := RX3) hfl (cc := cX3_cutTime) (maxL := 6) (ret := (some .long)) (lv := [(0, .ref (z 0)), (1, .int p1), (2, .int p2), (3, .int p3)]) rfl (by decide) rfl rfl (Nat.le_of_ble_eq_true rfl) ?_
  intro p e s m args below meth c A C hno hnm hargs
  have hin : ∀ w ∈ wsX30, w ∈ wsX3_cutTime := by decide +kernel
  have w1 := C.1.2.2.2.2 (.constantLong RX3 205 (86400000000000)) (by decide +kernel)
  have w2 := C.1.2.2.2.2 (.constantLong RX3 199 (1000000000)) (by decide +kernel)
  have w3 := C.1.2.2.2.2 (.constantLong RX3 211 (60000000000)) (by decide +kernel)
  have w4 := C.1.2.2.2.2 (.constantLong RX3 203 (3600000000000)) (by decide +kernel)
  have w5 := C.1.2.2.2.2 (.fieldLink RX3 17 "YearwheelModel" "times" "[J") (by decide +kernel)
  refine z_aload_n C dX3_cutTime_0 rfl 0 rfl ?_
  refine z_iload_n C dX3_cutTime_1 rfl 1 rfl ?_
  refine z_si (rest := [.ref (z 0)]) C (c_X3_isSlot l hfl D cI cJ _ p1 ) q_X3_isSlot gX3_cutTime_X3_isSlot ⟨rfl, rfl⟩ rfl rfl (Nat.le_of_ble_eq_true rfl) ⟨Nat.le_of_ble_eq_true rfl, Nat.le_of_ble_eq_true rfl⟩ ⟨Nat.le_of_ble_eq_true rfl, Nat.le_of_ble_eq_true rfl⟩ dX3_cutTime_2 ?_
  have K1_0 : f_X3_cutTime_j1 p1 p2 p3 = 0 → (¬ (f_X3_isSlot p1) = 0) → (¬ (f_X3_isSlot p3) = 0) → ZW p l e { frames := 2, cells := 0, slots := 0, locals := 45 } s m args below meth c 6 D (zTys cI cJ) A (zE D (zTys cI cJ) A below args s (fun v w => v = some (.long (f_X3_cutTime ti p1 p2 p3)) ∧ w = (wM cI cJ z (s_X3_cutTime_co p1 p2 p3) d (s_X3_cutTime_ti ti p1 p2 p3) sL bL mD mT sy sm sd mi yr mo dy X)) (fun _ _ => False) 0 0) 0 0 (wM cI cJ z co d ti sL bL mD mT sy sm sd mi yr mo dy X) 48 [(0, .ref (z 0)), (1, .int p1), (2, .int p2), (3, .int p3)] [.int 0, .ref (z 0)] := by
    intro h7 h8 h9
    refine z_wi (ws' := (wM cI cJ z (s_X3_fails_co 0) d ti sL bL mD mT sy sm sd mi yr mo dy X)) (rest := []) (ci := 3) (q0 := 0) C (c_X3_fails l hfl D cI cJ X z co d ti sL bL mD mT sy sm sd mi yr mo dy (0 : Int32) ) q_X3_fails rfl rfl rfl gX3_cutTime_X3_fails ⟨rfl, rfl⟩ rfl rfl (Nat.le_of_ble_eq_true rfl) ⟨Nat.le_of_ble_eq_true rfl, Nat.le_of_ble_eq_true rfl⟩ ⟨Nat.le_of_ble_eq_true rfl, Nat.le_of_ble_eq_true rfl⟩ dX3_cutTime_48 ?_
    refine z_eqst (st' := [.int 0]) (congrArg (fun v => Value.int v :: _) (by decide : (f_X3_fails 0) = (0 : Int32))) ?_
    refine z_if_eq (tgt := 56) C dX3_cutTime_51 (by decide) (fun _ => ?_) (fun h => absurd (by decide) h)
    refine z_iload_n C dX3_cutTime_56 rfl 2 rfl ?_
    refine z_bipush (v := 104) C dX3_cutTime_57 (by decide) ?_
    have K2_1000000000 : f_X3_cutTime_j2 p2 = 1000000000 → (¬ p2 = 104) → (¬ p2 = 109) → (p2 = 115) → ZW p l e { frames := 2, cells := 0, slots := 0, locals := 45 } s m args below meth c 6 D (zTys cI cJ) A (zE D (zTys cI cJ) A below args s (fun v w => v = some (.long (f_X3_cutTime ti p1 p2 p3)) ∧ w = (wM cI cJ z (s_X3_cutTime_co p1 p2 p3) d (s_X3_cutTime_ti ti p1 p2 p3) sL bL mD mT sy sm sd mi yr mo dy X)) (fun _ _ => False) 0 0) 0 0 (wM cI cJ z (s_X3_fails_co 0) d ti sL bL mD mT sy sm sd mi yr mo dy X) 95 [(0, .ref (z 0)), (1, .int p1), (2, .int p2), (3, .int p3)] [.long 1000000000] := by
      intro h13 h14 h15 h16
      refine z_lstore (lv' := [(4, .long 1000000000), (0, .ref (z 0)), (1, .int p1), (2, .int p2), (3, .int p3)]) C dX3_cutTime_95 (by decide) rfl ?_
      refine z_aload_n C dX3_cutTime_97 rfl 1 rfl ?_
      refine z_get (CC := RX3) (T := TX3) (N := 14) (ci := 3) C hin 0 rfl rfl 2 (by decide) w5 rfl rfl dX3_cutTime_98 ?_
      refine z_iload_n C dX3_cutTime_101 rfl 4 rfl ?_
      refine z_aload_n C dX3_cutTime_102 rfl 1 rfl ?_
      refine z_get (CC := RX3) (T := TX3) (N := 14) (ci := 3) C hin 0 rfl rfl 2 (by decide) w5 rfl rfl dX3_cutTime_103 ?_
      refine z_iload_n C dX3_cutTime_106 rfl 2 rfl ?_
      refine z_lald C 2 1 rfl rfl (vpMSlot h8) dX3_cutTime_107 ?_
      refine z_aload_n C dX3_cutTime_108 rfl 1 rfl ?_
      refine z_get (CC := RX3) (T := TX3) (N := 14) (ci := 3) C hin 0 rfl rfl 2 (by decide) w5 rfl rfl dX3_cutTime_109 ?_
      refine z_iload_n C dX3_cutTime_112 rfl 2 rfl ?_
      refine z_lald C 2 1 rfl rfl (vpMSlot h8) dX3_cutTime_113 ?_
      refine z_lload C dX3_cutTime_114 0 rfl ?_
      refine z_lrem C dX3_cutTime_116 (by decide) ?_
      refine z_lsub C dX3_cutTime_117 ?_
      refine z_last C 2 1 rfl rfl (vpMSlot h9) (ws' := (wM cI cJ z (s_X3_fails_co 0) d (vp_updL ti p3.toNatClampNeg ((ti p1.toNatClampNeg) - ((ti p1.toNatClampNeg) - (ti p1.toNatClampNeg) / 1000000000 * 1000000000))) sL bL mD mT sy sm sd mi yr mo dy X)) rfl dX3_cutTime_118 ?_
      refine z_aload_n C dX3_cutTime_119 rfl 1 rfl ?_
      refine z_get (CC := RX3) (T := TX3) (N := 14) (ci := 3) C hin 0 rfl rfl 2 (by decide) w5 rfl rfl dX3_cutTime_120 ?_
      refine z_iload_n C dX3_cutTime_123 rfl 4 rfl ?_
      refine z_lald C 2 1 rfl rfl (vpMSlot h9) dX3_cutTime_124 ?_
      exact z_lret C ⟨congrArg (fun v => some (Value.long v)) (by rw [f_X3_cutTime, if_pos h7, if_pos h13] : ((vp_updL ti p3.toNatClampNeg ((ti p1.toNatClampNeg) - ((ti p1.toNatClampNeg) - (ti p1.toNatClampNeg) / 1000000000 * 1000000000))) p3.toNatClampNeg) = (f_X3_cutTime ti p1 p2 p3)), by rw [s_X3_cutTime_co, if_pos h7, if_pos h13, s_X3_cutTime_ti, if_pos h7, if_pos h13]⟩ (by decide) (by decide) dX3_cutTime_125
    have K2_60000000000 : f_X3_cutTime_j2 p2 = 60000000000 → (¬ p2 = 104) → (p2 = 109) → ZW p l e { frames := 2, cells := 0, slots := 0, locals := 45 } s m args below meth c 6 D (zTys cI cJ) A (zE D (zTys cI cJ) A below args s (fun v w => v = some (.long (f_X3_cutTime ti p1 p2 p3)) ∧ w = (wM cI cJ z (s_X3_cutTime_co p1 p2 p3) d (s_X3_cutTime_ti ti p1 p2 p3) sL bL mD mT sy sm sd mi yr mo dy X)) (fun _ _ => False) 0 0) 0 0 (wM cI cJ z (s_X3_fails_co 0) d ti sL bL mD mT sy sm sd mi yr mo dy X) 95 [(0, .ref (z 0)), (1, .int p1), (2, .int p2), (3, .int p3)] [.long 60000000000] := by
      intro h17 h18 h19
      refine z_lstore (lv' := [(4, .long 60000000000), (0, .ref (z 0)), (1, .int p1), (2, .int p2), (3, .int p3)]) C dX3_cutTime_95 (by decide) rfl ?_
      refine z_aload_n C dX3_cutTime_97 rfl 1 rfl ?_
      refine z_get (CC := RX3) (T := TX3) (N := 14) (ci := 3) C hin 0 rfl rfl 2 (by decide) w5 rfl rfl dX3_cutTime_98 ?_
      refine z_iload_n C dX3_cutTime_101 rfl 4 rfl ?_
      refine z_aload_n C dX3_cutTime_102 rfl 1 rfl ?_
      refine z_get (CC := RX3) (T := TX3) (N := 14) (ci := 3) C hin 0 rfl rfl 2 (by decide) w5 rfl rfl dX3_cutTime_103 ?_
      refine z_iload_n C dX3_cutTime_106 rfl 2 rfl ?_
      refine z_lald C 2 1 rfl rfl (vpMSlot h8) dX3_cutTime_107 ?_
      refine z_aload_n C dX3_cutTime_108 rfl 1 rfl ?_
      refine z_get (CC := RX3) (T := TX3) (N := 14) (ci := 3) C hin 0 rfl rfl 2 (by decide) w5 rfl rfl dX3_cutTime_109 ?_
      refine z_iload_n C dX3_cutTime_112 rfl 2 rfl ?_
      refine z_lald C 2 1 rfl rfl (vpMSlot h8) dX3_cutTime_113 ?_
      refine z_lload C dX3_cutTime_114 0 rfl ?_
      refine z_lrem C dX3_cutTime_116 (by decide) ?_
      refine z_lsub C dX3_cutTime_117 ?_
      refine z_last C 2 1 rfl rfl (vpMSlot h9) (ws' := (wM cI cJ z (s_X3_fails_co 0) d (vp_updL ti p3.toNatClampNeg ((ti p1.toNatClampNeg) - ((ti p1.toNatClampNeg) - (ti p1.toNatClampNeg) / 60000000000 * 60000000000))) sL bL mD mT sy sm sd mi yr mo dy X)) rfl dX3_cutTime_118 ?_
      refine z_aload_n C dX3_cutTime_119 rfl 1 rfl ?_
      refine z_get (CC := RX3) (T := TX3) (N := 14) (ci := 3) C hin 0 rfl rfl 2 (by decide) w5 rfl rfl dX3_cutTime_120 ?_
      refine z_iload_n C dX3_cutTime_123 rfl 4 rfl ?_
      refine z_lald C 2 1 rfl rfl (vpMSlot h9) dX3_cutTime_124 ?_
      exact z_lret C ⟨congrArg (fun v => some (Value.long v)) (by rw [f_X3_cutTime, if_pos h7, if_neg (by rw [h17]; decide : ¬ f_X3_cutTime_j2 p2 = 1000000000), if_pos h17] : ((vp_updL ti p3.toNatClampNeg ((ti p1.toNatClampNeg) - ((ti p1.toNatClampNeg) - (ti p1.toNatClampNeg) / 60000000000 * 60000000000))) p3.toNatClampNeg) = (f_X3_cutTime ti p1 p2 p3)), by rw [s_X3_cutTime_co, if_pos h7, if_neg (by rw [h17]; decide : ¬ f_X3_cutTime_j2 p2 = 1000000000), if_pos h17, s_X3_cutTime_ti, if_pos h7, if_neg (by rw [h17]; decide : ¬ f_X3_cutTime_j2 p2 = 1000000000), if_pos h17]⟩ (by decide) (by decide) dX3_cutTime_125
    have K2_3600000000000 : f_X3_cutTime_j2 p2 = 3600000000000 → (p2 = 104) → ZW p l e { frames := 2, cells := 0, slots := 0, locals := 45 } s m args below meth c 6 D (zTys cI cJ) A (zE D (zTys cI cJ) A below args s (fun v w => v = some (.long (f_X3_cutTime ti p1 p2 p3)) ∧ w = (wM cI cJ z (s_X3_cutTime_co p1 p2 p3) d (s_X3_cutTime_ti ti p1 p2 p3) sL bL mD mT sy sm sd mi yr mo dy X)) (fun _ _ => False) 0 0) 0 0 (wM cI cJ z (s_X3_fails_co 0) d ti sL bL mD mT sy sm sd mi yr mo dy X) 95 [(0, .ref (z 0)), (1, .int p1), (2, .int p2), (3, .int p3)] [.long 3600000000000] := by
      intro h20 h21
      refine z_lstore (lv' := [(4, .long 3600000000000), (0, .ref (z 0)), (1, .int p1), (2, .int p2), (3, .int p3)]) C dX3_cutTime_95 (by decide) rfl ?_
      refine z_aload_n C dX3_cutTime_97 rfl 1 rfl ?_
      refine z_get (CC := RX3) (T := TX3) (N := 14) (ci := 3) C hin 0 rfl rfl 2 (by decide) w5 rfl rfl dX3_cutTime_98 ?_
      refine z_iload_n C dX3_cutTime_101 rfl 4 rfl ?_
      refine z_aload_n C dX3_cutTime_102 rfl 1 rfl ?_
      refine z_get (CC := RX3) (T := TX3) (N := 14) (ci := 3) C hin 0 rfl rfl 2 (by decide) w5 rfl rfl dX3_cutTime_103 ?_
      refine z_iload_n C dX3_cutTime_106 rfl 2 rfl ?_
      refine z_lald C 2 1 rfl rfl (vpMSlot h8) dX3_cutTime_107 ?_
      refine z_aload_n C dX3_cutTime_108 rfl 1 rfl ?_
      refine z_get (CC := RX3) (T := TX3) (N := 14) (ci := 3) C hin 0 rfl rfl 2 (by decide) w5 rfl rfl dX3_cutTime_109 ?_
      refine z_iload_n C dX3_cutTime_112 rfl 2 rfl ?_
      refine z_lald C 2 1 rfl rfl (vpMSlot h8) dX3_cutTime_113 ?_
      refine z_lload C dX3_cutTime_114 0 rfl ?_
      refine z_lrem C dX3_cutTime_116 (by decide) ?_
      refine z_lsub C dX3_cutTime_117 ?_
      refine z_last C 2 1 rfl rfl (vpMSlot h9) (ws' := (wM cI cJ z (s_X3_fails_co 0) d (vp_updL ti p3.toNatClampNeg ((ti p1.toNatClampNeg) - ((ti p1.toNatClampNeg) - (ti p1.toNatClampNeg) / 3600000000000 * 3600000000000))) sL bL mD mT sy sm sd mi yr mo dy X)) rfl dX3_cutTime_118 ?_
      refine z_aload_n C dX3_cutTime_119 rfl 1 rfl ?_
      refine z_get (CC := RX3) (T := TX3) (N := 14) (ci := 3) C hin 0 rfl rfl 2 (by decide) w5 rfl rfl dX3_cutTime_120 ?_
      refine z_iload_n C dX3_cutTime_123 rfl 4 rfl ?_
      refine z_lald C 2 1 rfl rfl (vpMSlot h9) dX3_cutTime_124 ?_
      exact z_lret C ⟨congrArg (fun v => some (Value.long v)) (by rw [f_X3_cutTime, if_pos h7, if_neg (by rw [h20]; decide : ¬ f_X3_cutTime_j2 p2 = 1000000000), if_neg (by rw [h20]; decide : ¬ f_X3_cutTime_j2 p2 = 60000000000), if_pos h20] : ((vp_updL ti p3.toNatClampNeg ((ti p1.toNatClampNeg) - ((ti p1.toNatClampNeg) - (ti p1.toNatClampNeg) / 3600000000000 * 3600000000000))) p3.toNatClampNeg) = (f_X3_cutTime ti p1 p2 p3)), by rw [s_X3_cutTime_co, if_pos h7, if_neg (by rw [h20]; decide : ¬ f_X3_cutTime_j2 p2 = 1000000000), if_neg (by rw [h20]; decide : ¬ f_X3_cutTime_j2 p2 = 60000000000), if_pos h20, s_X3_cutTime_ti, if_pos h7, if_neg (by rw [h20]; decide : ¬ f_X3_cutTime_j2 p2 = 1000000000), if_neg (by rw [h20]; decide : ¬ f_X3_cutTime_j2 p2 = 60000000000), if_pos h20]⟩ (by decide) (by decide) dX3_cutTime_125
    have K2_86400000000000 : f_X3_cutTime_j2 p2 = 86400000000000 → (¬ p2 = 104) → (¬ p2 = 109) → (¬ p2 = 115) → ZW p l e { frames := 2, cells := 0, slots := 0, locals := 45 } s m args below meth c 6 D (zTys cI cJ) A (zE D (zTys cI cJ) A below args s (fun v w => v = some (.long (f_X3_cutTime ti p1 p2 p3)) ∧ w = (wM cI cJ z (s_X3_cutTime_co p1 p2 p3) d (s_X3_cutTime_ti ti p1 p2 p3) sL bL mD mT sy sm sd mi yr mo dy X)) (fun _ _ => False) 0 0) 0 0 (wM cI cJ z (s_X3_fails_co 0) d ti sL bL mD mT sy sm sd mi yr mo dy X) 95 [(0, .ref (z 0)), (1, .int p1), (2, .int p2), (3, .int p3)] [.long 86400000000000] := by
      intro h22 h23 h24 h25
      refine z_lstore (lv' := [(4, .long 86400000000000), (0, .ref (z 0)), (1, .int p1), (2, .int p2), (3, .int p3)]) C dX3_cutTime_95 (by decide) rfl ?_
      refine z_aload_n C dX3_cutTime_97 rfl 1 rfl ?_
      refine z_get (CC := RX3) (T := TX3) (N := 14) (ci := 3) C hin 0 rfl rfl 2 (by decide) w5 rfl rfl dX3_cutTime_98 ?_
      refine z_iload_n C dX3_cutTime_101 rfl 4 rfl ?_
      refine z_aload_n C dX3_cutTime_102 rfl 1 rfl ?_
      refine z_get (CC := RX3) (T := TX3) (N := 14) (ci := 3) C hin 0 rfl rfl 2 (by decide) w5 rfl rfl dX3_cutTime_103 ?_
      refine z_iload_n C dX3_cutTime_106 rfl 2 rfl ?_
      refine z_lald C 2 1 rfl rfl (vpMSlot h8) dX3_cutTime_107 ?_
      refine z_aload_n C dX3_cutTime_108 rfl 1 rfl ?_
      refine z_get (CC := RX3) (T := TX3) (N := 14) (ci := 3) C hin 0 rfl rfl 2 (by decide) w5 rfl rfl dX3_cutTime_109 ?_
      refine z_iload_n C dX3_cutTime_112 rfl 2 rfl ?_
      refine z_lald C 2 1 rfl rfl (vpMSlot h8) dX3_cutTime_113 ?_
      refine z_lload C dX3_cutTime_114 0 rfl ?_
      refine z_lrem C dX3_cutTime_116 (by decide) ?_
      refine z_lsub C dX3_cutTime_117 ?_
      refine z_last C 2 1 rfl rfl (vpMSlot h9) (ws' := (wM cI cJ z (s_X3_fails_co 0) d (vp_updL ti p3.toNatClampNeg ((ti p1.toNatClampNeg) - ((ti p1.toNatClampNeg) - (ti p1.toNatClampNeg) / 86400000000000 * 86400000000000))) sL bL mD mT sy sm sd mi yr mo dy X)) rfl dX3_cutTime_118 ?_
      refine z_aload_n C dX3_cutTime_119 rfl 1 rfl ?_
      refine z_get (CC := RX3) (T := TX3) (N := 14) (ci := 3) C hin 0 rfl rfl 2 (by decide) w5 rfl rfl dX3_cutTime_120 ?_
      refine z_iload_n C dX3_cutTime_123 rfl 4 rfl ?_
      refine z_lald C 2 1 rfl rfl (vpMSlot h9) dX3_cutTime_124 ?_
      exact z_lret C ⟨congrArg (fun v => some (Value.long v)) (by rw [f_X3_cutTime, if_pos h7, if_neg (by rw [h22]; decide : ¬ f_X3_cutTime_j2 p2 = 1000000000), if_neg (by rw [h22]; decide : ¬ f_X3_cutTime_j2 p2 = 60000000000), if_neg (by rw [h22]; decide : ¬ f_X3_cutTime_j2 p2 = 3600000000000)] : ((vp_updL ti p3.toNatClampNeg ((ti p1.toNatClampNeg) - ((ti p1.toNatClampNeg) - (ti p1.toNatClampNeg) / 86400000000000 * 86400000000000))) p3.toNatClampNeg) = (f_X3_cutTime ti p1 p2 p3)), by rw [s_X3_cutTime_co, if_pos h7, if_neg (by rw [h22]; decide : ¬ f_X3_cutTime_j2 p2 = 1000000000), if_neg (by rw [h22]; decide : ¬ f_X3_cutTime_j2 p2 = 60000000000), if_neg (by rw [h22]; decide : ¬ f_X3_cutTime_j2 p2 = 3600000000000), s_X3_cutTime_ti, if_pos h7, if_neg (by rw [h22]; decide : ¬ f_X3_cutTime_j2 p2 = 1000000000), if_neg (by rw [h22]; decide : ¬ f_X3_cutTime_j2 p2 = 60000000000), if_neg (by rw [h22]; decide : ¬ f_X3_cutTime_j2 p2 = 3600000000000)]⟩ (by decide) (by decide) dX3_cutTime_125
    refine z_icmp_ne (tgt := 68) C dX3_cutTime_59 (by decide) (fun h10 => ?_) (fun h10 => ?_)
    · refine z_iload_n C dX3_cutTime_68 rfl 2 rfl ?_
      refine z_bipush (v := 109) C dX3_cutTime_69 (by decide) ?_
      refine z_icmp_ne (tgt := 80) C dX3_cutTime_71 (by decide) (fun h11 => ?_) (fun h11 => ?_)
      · refine z_iload_n C dX3_cutTime_80 rfl 2 rfl ?_
        refine z_bipush (v := 115) C dX3_cutTime_81 (by decide) ?_
        refine z_icmp_ne (tgt := 92) C dX3_cutTime_83 (by decide) (fun h12 => ?_) (fun h12 => ?_)
        · refine z_ldc2 (v := 86400000000000) C w1 dX3_cutTime_92 ?_
          exact K2_86400000000000 (by rw [f_X3_cutTime_j2, if_neg h10, if_neg h11, if_neg h12]) h10 h11 h12
        · refine z_ldc2 (v := 1000000000) C w2 dX3_cutTime_86 ?_
          refine z_goto (tgt := 95) C dX3_cutTime_89 (by decide) ?_
          exact K2_1000000000 (by rw [f_X3_cutTime_j2, if_neg h10, if_neg h11, if_pos h12]) h10 h11 h12
      · refine z_ldc2 (v := 60000000000) C w3 dX3_cutTime_74 ?_
        refine z_goto (tgt := 95) C dX3_cutTime_77 (by decide) ?_
        exact K2_60000000000 (by rw [f_X3_cutTime_j2, if_neg h10, if_pos h11]) h10 h11
    · refine z_ldc2 (v := 3600000000000) C w4 dX3_cutTime_62 ?_
      refine z_goto (tgt := 95) C dX3_cutTime_65 (by decide) ?_
      exact K2_3600000000000 (by rw [f_X3_cutTime_j2, if_pos h10]) h10
  have K1_1 : f_X3_cutTime_j1 p1 p2 p3 = 1 → ZW p l e { frames := 2, cells := 0, slots := 0, locals := 45 } s m args below meth c 6 D (zTys cI cJ) A (zE D (zTys cI cJ) A below args s (fun v w => v = some (.long (f_X3_cutTime ti p1 p2 p3)) ∧ w = (wM cI cJ z (s_X3_cutTime_co p1 p2 p3) d (s_X3_cutTime_ti ti p1 p2 p3) sL bL mD mT sy sm sd mi yr mo dy X)) (fun _ _ => False) 0 0) 0 0 (wM cI cJ z co d ti sL bL mD mT sy sm sd mi yr mo dy X) 48 [(0, .ref (z 0)), (1, .int p1), (2, .int p2), (3, .int p3)] [.int 1, .ref (z 0)] := by
    intro h26
    refine z_wi (ws' := (wM cI cJ z (s_X3_fails_co 1) d ti sL bL mD mT sy sm sd mi yr mo dy X)) (rest := []) (ci := 3) (q0 := 0) C (c_X3_fails l hfl D cI cJ X z co d ti sL bL mD mT sy sm sd mi yr mo dy (1 : Int32) ) q_X3_fails rfl rfl rfl gX3_cutTime_X3_fails ⟨rfl, rfl⟩ rfl rfl (Nat.le_of_ble_eq_true rfl) ⟨Nat.le_of_ble_eq_true rfl, Nat.le_of_ble_eq_true rfl⟩ ⟨Nat.le_of_ble_eq_true rfl, Nat.le_of_ble_eq_true rfl⟩ dX3_cutTime_48 ?_
    refine z_eqst (st' := [.int 1]) (congrArg (fun v => Value.int v :: _) (by decide : (f_X3_fails 1) = (1 : Int32))) ?_
    refine z_if_eq (tgt := 56) C dX3_cutTime_51 (by decide) (fun h => absurd h (by decide)) (fun _ => ?_)
    refine z_lconst (v := 0) C dX3_cutTime_54 (by decide) ?_
    exact z_lret C ⟨congrArg (fun v => some (Value.long v)) (by rw [f_X3_cutTime, if_neg (by rw [h26]; decide : ¬ f_X3_cutTime_j1 p1 p2 p3 = 0), if_pos h26] : (0 : Int64) = (f_X3_cutTime ti p1 p2 p3)), by rw [s_X3_cutTime_co, if_neg (by rw [h26]; decide : ¬ f_X3_cutTime_j1 p1 p2 p3 = 0), if_pos h26, s_X3_cutTime_ti, if_neg (by rw [h26]; decide : ¬ f_X3_cutTime_j1 p1 p2 p3 = 0), if_pos h26]⟩ (by decide) (by decide) dX3_cutTime_55
  have K1_2 : f_X3_cutTime_j1 p1 p2 p3 = 2 → (¬ (f_X3_isSlot p1) = 0) → (¬ (f_X3_isSlot p3) = 0) → (¬ p2 = 100) → (¬ p2 = 104) → (¬ p2 = 109) → (¬ p2 = 115) → ZW p l e { frames := 2, cells := 0, slots := 0, locals := 45 } s m args below meth c 6 D (zTys cI cJ) A (zE D (zTys cI cJ) A below args s (fun v w => v = some (.long (f_X3_cutTime ti p1 p2 p3)) ∧ w = (wM cI cJ z (s_X3_cutTime_co p1 p2 p3) d (s_X3_cutTime_ti ti p1 p2 p3) sL bL mD mT sy sm sd mi yr mo dy X)) (fun _ _ => False) 0 0) 0 0 (wM cI cJ z co d ti sL bL mD mT sy sm sd mi yr mo dy X) 48 [(0, .ref (z 0)), (1, .int p1), (2, .int p2), (3, .int p3)] [.int 2, .ref (z 0)] := by
    intro h27 h28 h29 h30 h31 h32 h33
    refine z_wi (ws' := (wM cI cJ z (s_X3_fails_co 2) d ti sL bL mD mT sy sm sd mi yr mo dy X)) (rest := []) (ci := 3) (q0 := 0) C (c_X3_fails l hfl D cI cJ X z co d ti sL bL mD mT sy sm sd mi yr mo dy (2 : Int32) ) q_X3_fails rfl rfl rfl gX3_cutTime_X3_fails ⟨rfl, rfl⟩ rfl rfl (Nat.le_of_ble_eq_true rfl) ⟨Nat.le_of_ble_eq_true rfl, Nat.le_of_ble_eq_true rfl⟩ ⟨Nat.le_of_ble_eq_true rfl, Nat.le_of_ble_eq_true rfl⟩ dX3_cutTime_48 ?_
    refine z_eqst (st' := [.int 1]) (congrArg (fun v => Value.int v :: _) (by decide : (f_X3_fails 2) = (1 : Int32))) ?_
    refine z_if_eq (tgt := 56) C dX3_cutTime_51 (by decide) (fun h => absurd h (by decide)) (fun _ => ?_)
    refine z_lconst (v := 0) C dX3_cutTime_54 (by decide) ?_
    exact z_lret C ⟨congrArg (fun v => some (Value.long v)) (by rw [f_X3_cutTime, if_neg (by rw [h27]; decide : ¬ f_X3_cutTime_j1 p1 p2 p3 = 0), if_neg (by rw [h27]; decide : ¬ f_X3_cutTime_j1 p1 p2 p3 = 1)] : (0 : Int64) = (f_X3_cutTime ti p1 p2 p3)), by rw [s_X3_cutTime_co, if_neg (by rw [h27]; decide : ¬ f_X3_cutTime_j1 p1 p2 p3 = 0), if_neg (by rw [h27]; decide : ¬ f_X3_cutTime_j1 p1 p2 p3 = 1), s_X3_cutTime_ti, if_neg (by rw [h27]; decide : ¬ f_X3_cutTime_j1 p1 p2 p3 = 0), if_neg (by rw [h27]; decide : ¬ f_X3_cutTime_j1 p1 p2 p3 = 1)]⟩ (by decide) (by decide) dX3_cutTime_55
  refine z_if_eq (tgt := 15) C dX3_cutTime_5 (by decide) (fun h1 => ?_) (fun h1 => ?_)
  · refine z_iconst (v := 1) C dX3_cutTime_15 (by decide) ?_
    refine z_goto (tgt := 48) C dX3_cutTime_16 (by decide) ?_
    exact K1_1 (by rw [f_X3_cutTime_j1, if_pos h1]) 
  · refine z_iload_n C dX3_cutTime_8 rfl 3 rfl ?_
    refine z_si (rest := [.ref (z 0)]) C (c_X3_isSlot l hfl D cI cJ _ p3 ) q_X3_isSlot gX3_cutTime_X3_isSlot ⟨rfl, rfl⟩ rfl rfl (Nat.le_of_ble_eq_true rfl) ⟨Nat.le_of_ble_eq_true rfl, Nat.le_of_ble_eq_true rfl⟩ ⟨Nat.le_of_ble_eq_true rfl, Nat.le_of_ble_eq_true rfl⟩ dX3_cutTime_9 ?_
    refine z_if_ne (tgt := 19) C dX3_cutTime_12 (by decide) (fun h2 => ?_) (fun h2 => ?_)
    · refine z_iload_n C dX3_cutTime_19 rfl 2 rfl ?_
      refine z_bipush (v := 104) C dX3_cutTime_20 (by decide) ?_
      refine z_icmp_eq (tgt := 43) C dX3_cutTime_22 (by decide) (fun h3 => ?_) (fun h3 => ?_)
      · refine z_iconst (v := 0) C dX3_cutTime_43 (by decide) ?_
        refine z_goto (tgt := 48) C dX3_cutTime_44 (by decide) ?_
        exact K1_0 (by rw [f_X3_cutTime_j1, if_neg h1, if_neg h2, if_pos h3]) h1 h2
      · refine z_iload_n C dX3_cutTime_25 rfl 2 rfl ?_
        refine z_bipush (v := 109) C dX3_cutTime_26 (by decide) ?_
        refine z_icmp_eq (tgt := 43) C dX3_cutTime_28 (by decide) (fun h4 => ?_) (fun h4 => ?_)
        · refine z_iconst (v := 0) C dX3_cutTime_43 (by decide) ?_
          refine z_goto (tgt := 48) C dX3_cutTime_44 (by decide) ?_
          exact K1_0 (by rw [f_X3_cutTime_j1, if_neg h1, if_neg h2, if_neg h3, if_pos h4]) h1 h2
        · refine z_iload_n C dX3_cutTime_31 rfl 2 rfl ?_
          refine z_bipush (v := 115) C dX3_cutTime_32 (by decide) ?_
          refine z_icmp_eq (tgt := 43) C dX3_cutTime_34 (by decide) (fun h5 => ?_) (fun h5 => ?_)
          · refine z_iconst (v := 0) C dX3_cutTime_43 (by decide) ?_
            refine z_goto (tgt := 48) C dX3_cutTime_44 (by decide) ?_
            exact K1_0 (by rw [f_X3_cutTime_j1, if_neg h1, if_neg h2, if_neg h3, if_neg h4, if_pos h5]) h1 h2
          · refine z_iload_n C dX3_cutTime_37 rfl 2 rfl ?_
            refine z_bipush (v := 100) C dX3_cutTime_38 (by decide) ?_
            refine z_icmp_ne (tgt := 47) C dX3_cutTime_40 (by decide) (fun h6 => ?_) (fun h6 => ?_)
            · refine z_iconst (v := 2) C dX3_cutTime_47 (by decide) ?_
              exact K1_2 (by rw [f_X3_cutTime_j1, if_neg h1, if_neg h2, if_neg h3, if_neg h4, if_neg h5, if_neg h6]) h1 h2 h6 h3 h4 h5
            · refine z_iconst (v := 0) C dX3_cutTime_43 (by decide) ?_
              refine z_goto (tgt := 48) C dX3_cutTime_44 (by decide) ?_
              exact K1_0 (by rw [f_X3_cutTime_j1, if_neg h1, if_neg h2, if_neg h3, if_neg h4, if_neg h5, if_pos h6]) h1 h2
    · refine z_iconst (v := 1) C dX3_cutTime_15 (by decide) ?_
      refine z_goto (tgt := 48) C dX3_cutTime_16 (by decide) ?_
      exact K1_1 (by rw [f_X3_cutTime_j1, if_neg h1, if_pos h2]) 
def f_X3_goTime_j1 (p1 : Int32) (p2 : Int32) (p4 : Int32) : Int32 := (if (f_X3_isSlot p1) = 0 then 1 else (if (f_X3_isSlot p2) = 0 then 1 else (if (f_X3_isSlot p4) = 0 then 1 else 0)))
def f_X3_goTime_j2 (sL : Nat → Int64) (bL : Nat → Int64) (p2 : Int32) (p3 : Int32) : Int64 := (if p3 = 0 then ((f_X3_round (sL p2.toNatClampNeg) 1000000000) + (bL p2.toNatClampNeg)) else (-((f_X3_round (sL p2.toNatClampNeg) 1000000000) + (bL p2.toNatClampNeg))))
def f_X3_goTime (ti : Nat → Int64) (sL : Nat → Int64) (bL : Nat → Int64) (p1 : Int32) (p2 : Int32) (p3 : Int32) (p4 : Int32) : Int64 := (if f_X3_goTime_j1 p1 p2 p4 = 0 then ((vp_updL ti p4.toNatClampNeg (f_X3_rest ((ti p1.toNatClampNeg) + (f_X3_goTime_j2 sL bL p2 p3)) 86400000000000)) p4.toNatClampNeg) else 0)
def s_X3_goTime_co (p1 : Int32) (p2 : Int32) (p4 : Int32) : Int32 := (if f_X3_goTime_j1 p1 p2 p4 = 0 then (s_X3_fails_co 0) else (s_X3_fails_co 1))
def s_X3_goTime_ti (ti : Nat → Int64) (sL : Nat → Int64) (bL : Nat → Int64) (p1 : Int32) (p2 : Int32) (p3 : Int32) (p4 : Int32) : Nat → Int64 := (if f_X3_goTime_j1 p1 p2 p4 = 0 then (vp_updL ti p4.toNatClampNeg (f_X3_rest ((ti p1.toNatClampNeg) + (f_X3_goTime_j2 sL bL p2 p3)) 86400000000000)) else ti)
def pre_X3_goTime (p1 : Int32) (p2 : Int32) (p4 : Int32) : Prop := (((f_X3_goTime_j1 p1 p2 p4) = 0) → (¬ (f_X3_isSlot p1) = 0) → (¬ (f_X3_isSlot p2) = 0) → (¬ (f_X3_isSlot p4) = 0) → (pre_X3_round 1000000000))
theorem q_X3_goTime : ZY yX3_goTime wsX3_goTime cX3_goTime 7 (some .long) 4 := ⟨⟨_, rfl⟩, by decide +kernel, by decide +kernel, by decide +kernel⟩
set_option maxHeartbeats 4000000 in
set_option maxRecDepth 100000 in
theorem c_X3_goTime (l : Launch) (hfl : l.stackTraces = false) (D : va_G) (cI cJ : ClassId) (X : va_W) (z : Nat → Nat) (co : Int32) (d : Nat → Int64) (ti : Nat → Int64) (sL : Nat → Int64) (bL : Nat → Int64) (mD : Nat → Int64) (mT : Nat → Int64) (sy : Nat → Int64) (sm : Nat → Int64) (sd : Nat → Int64) (mi : Nat → Int64) (yr : Int64) (mo : Int32) (dy : Int32) (p1 : Int32) (p2 : Int32) (p3 : Int32) (p4 : Int32)  (h_g : pre_X3_goTime p1 p2 p4) : ZM l yX3_goTime wsX3_goTime { frames := 3, cells := 0, slots := 0, locals := 69 } [.ref (z 0), .int p1, .int p2, .int p3, .int p4] D (zTys cI cJ) (wM cI cJ z co d ti sL bL mD mT sy sm sd mi yr mo dy X) 0 0 (fun v w => v = some (.long (f_X3_goTime ti sL bL p1 p2 p3 p4)) ∧ w = (wM cI cJ z (s_X3_goTime_co p1 p2 p4) d (s_X3_goTime_ti ti sL bL p1 p2 p3 p4) sL bL mD mT sy sm sd mi yr mo dy X)) (fun _ _ => False) := by
  refine z_open (own := RX3) hfl (cc := cX3_goTime) (maxL := 7) (ret := (some .long)) (lv := [(0, .ref (z 0)), (1, .int p1), (2, .int p2), (3, .int p3), (4, .int p4)]) rfl (by decide) rfl rfl (Nat.le_of_ble_eq_true rfl) ?_
  intro p e s m args below meth c A C hno hnm hargs
  have hin : ∀ w ∈ wsX30, w ∈ wsX3_goTime := by decide +kernel
  have w1 := C.1.2.2.2.2 (.fieldLink RX3 20 "YearwheelModel" "seconds" "[J") (by decide +kernel)
  have w2 := C.1.2.2.2.2 (.constantLong RX3 199 (1000000000)) (by decide +kernel)
  have w3 := C.1.2.2.2.2 (.fieldLink RX3 23 "YearwheelModel" "fines" "[J") (by decide +kernel)
  have w4 := C.1.2.2.2.2 (.fieldLink RX3 17 "YearwheelModel" "times" "[J") (by decide +kernel)
  have w5 := C.1.2.2.2.2 (.constantLong RX3 205 (86400000000000)) (by decide +kernel)
  have g_0 := h_g
  refine z_aload_n C dX3_goTime_0 rfl 0 rfl ?_
  refine z_iload_n C dX3_goTime_1 rfl 1 rfl ?_
  refine z_si (rest := [.ref (z 0)]) C (c_X3_isSlot l hfl D cI cJ _ p1 ) q_X3_isSlot gX3_goTime_X3_isSlot ⟨rfl, rfl⟩ rfl rfl (Nat.le_of_ble_eq_true rfl) ⟨Nat.le_of_ble_eq_true rfl, Nat.le_of_ble_eq_true rfl⟩ ⟨Nat.le_of_ble_eq_true rfl, Nat.le_of_ble_eq_true rfl⟩ dX3_goTime_2 ?_
  have K1_0 : f_X3_goTime_j1 p1 p2 p4 = 0 → (¬ (f_X3_isSlot p1) = 0) → (¬ (f_X3_isSlot p2) = 0) → (¬ (f_X3_isSlot p4) = 0) → ZW p l e { frames := 3, cells := 0, slots := 0, locals := 69 } s m args below meth c 7 D (zTys cI cJ) A (zE D (zTys cI cJ) A below args s (fun v w => v = some (.long (f_X3_goTime ti sL bL p1 p2 p3 p4)) ∧ w = (wM cI cJ z (s_X3_goTime_co p1 p2 p4) d (s_X3_goTime_ti ti sL bL p1 p2 p3 p4) sL bL mD mT sy sm sd mi yr mo dy X)) (fun _ _ => False) 0 0) 0 0 (wM cI cJ z co d ti sL bL mD mT sy sm sd mi yr mo dy X) 28 [(0, .ref (z 0)), (1, .int p1), (2, .int p2), (3, .int p3), (4, .int p4)] [.int 0, .ref (z 0)] := by
    intro h4 h5 h6 h7
    refine z_wi (ws' := (wM cI cJ z (s_X3_fails_co 0) d ti sL bL mD mT sy sm sd mi yr mo dy X)) (rest := []) (ci := 3) (q0 := 0) C (c_X3_fails l hfl D cI cJ X z co d ti sL bL mD mT sy sm sd mi yr mo dy (0 : Int32) ) q_X3_fails rfl rfl rfl gX3_goTime_X3_fails ⟨rfl, rfl⟩ rfl rfl (Nat.le_of_ble_eq_true rfl) ⟨Nat.le_of_ble_eq_true rfl, Nat.le_of_ble_eq_true rfl⟩ ⟨Nat.le_of_ble_eq_true rfl, Nat.le_of_ble_eq_true rfl⟩ dX3_goTime_28 ?_
    refine z_eqst (st' := [.int 0]) (congrArg (fun v => Value.int v :: _) (by decide : (f_X3_fails 0) = (0 : Int32))) ?_
    refine z_if_eq (tgt := 36) C dX3_goTime_31 (by decide) (fun _ => ?_) (fun h => absurd (by decide) h)
    refine z_aload_n C dX3_goTime_36 rfl 0 rfl ?_
    refine z_get (CC := RX3) (T := TX3) (N := 14) (ci := 3) C hin 0 rfl rfl 3 (by decide) w1 rfl rfl dX3_goTime_37 ?_
    refine z_iload_n C dX3_goTime_40 rfl 2 rfl ?_
    refine z_lald C 3 1 rfl rfl (vpMSlot h6) dX3_goTime_41 ?_
    refine z_ldc2 (v := 1000000000) C w2 dX3_goTime_42 ?_
    refine z_sl (rest := []) C (c_X3_round l hfl D cI cJ _ (sL p2.toNatClampNeg) (1000000000 : Int64) (by decide) (g_0 h4 h5 h6 h7)) q_X3_round gX3_goTime_X3_round ⟨rfl, rfl⟩ rfl rfl (Nat.le_of_ble_eq_true rfl) ⟨Nat.le_of_ble_eq_true rfl, Nat.le_of_ble_eq_true rfl⟩ ⟨Nat.le_of_ble_eq_true rfl, Nat.le_of_ble_eq_true rfl⟩ dX3_goTime_45 ?_
    refine z_aload_n C dX3_goTime_48 rfl 0 rfl ?_
    refine z_get (CC := RX3) (T := TX3) (N := 14) (ci := 3) C hin 0 rfl rfl 4 (by decide) w3 rfl rfl dX3_goTime_49 ?_
    refine z_iload_n C dX3_goTime_52 rfl 2 rfl ?_
    refine z_lald C 4 1 rfl rfl (vpMSlot h6) dX3_goTime_53 ?_
    refine z_ladd C dX3_goTime_54 ?_
    refine z_lstore (lv' := [(5, .long ((f_X3_round (sL p2.toNatClampNeg) 1000000000) + (bL p2.toNatClampNeg))), (0, .ref (z 0)), (1, .int p1), (2, .int p2), (3, .int p3), (4, .int p4)]) C dX3_goTime_55 (by decide) rfl ?_
    refine z_aload_n C dX3_goTime_57 rfl 1 rfl ?_
    refine z_get (CC := RX3) (T := TX3) (N := 14) (ci := 3) C hin 0 rfl rfl 2 (by decide) w4 rfl rfl dX3_goTime_58 ?_
    refine z_iload C dX3_goTime_61 5 rfl ?_
    refine z_aload_n C dX3_goTime_63 rfl 1 rfl ?_
    refine z_get (CC := RX3) (T := TX3) (N := 14) (ci := 3) C hin 0 rfl rfl 2 (by decide) w4 rfl rfl dX3_goTime_64 ?_
    refine z_iload_n C dX3_goTime_67 rfl 2 rfl ?_
    refine z_lald C 2 1 rfl rfl (vpMSlot h5) dX3_goTime_68 ?_
    refine z_iload_n C dX3_goTime_69 rfl 4 rfl ?_
    have K2 : ∀ (v2_0 : Int64), (f_X3_goTime_j2 sL bL p2 p3) = v2_0 → ZW p l e { frames := 3, cells := 0, slots := 0, locals := 69 } s m args below meth c 7 D (zTys cI cJ) A (zE D (zTys cI cJ) A below args s (fun v w => v = some (.long (f_X3_goTime ti sL bL p1 p2 p3 p4)) ∧ w = (wM cI cJ z (s_X3_goTime_co p1 p2 p4) d (s_X3_goTime_ti ti sL bL p1 p2 p3 p4) sL bL mD mT sy sm sd mi yr mo dy X)) (fun _ _ => False) 0 0) 0 0 (wM cI cJ z (s_X3_fails_co 0) d ti sL bL mD mT sy sm sd mi yr mo dy X) 81 [(5, .long ((f_X3_round (sL p2.toNatClampNeg) 1000000000) + (bL p2.toNatClampNeg))), (0, .ref (z 0)), (1, .int p1), (2, .int p2), (3, .int p3), (4, .int p4)] [.long v2_0, .long (ti p1.toNatClampNeg), .int p4, .ref (z 2)] := by
      rintro _ rfl
      refine z_ladd C dX3_goTime_81 ?_
      refine z_ldc2 (v := 86400000000000) C w5 dX3_goTime_82 ?_
      refine z_sl (rest := [.int p4, .ref (z 2)]) C (c_X3_rest l hfl D cI cJ _ ((ti p1.toNatClampNeg) + (f_X3_goTime_j2 sL bL p2 p3)) (86400000000000 : Int64) (by decide)) q_X3_rest gX3_goTime_X3_rest ⟨rfl, rfl⟩ rfl rfl (Nat.le_of_ble_eq_true rfl) ⟨Nat.le_of_ble_eq_true rfl, Nat.le_of_ble_eq_true rfl⟩ ⟨Nat.le_of_ble_eq_true rfl, Nat.le_of_ble_eq_true rfl⟩ dX3_goTime_85 ?_
      refine z_last C 2 1 rfl rfl (vpMSlot h7) (ws' := (wM cI cJ z (s_X3_fails_co 0) d (vp_updL ti p4.toNatClampNeg (f_X3_rest ((ti p1.toNatClampNeg) + (f_X3_goTime_j2 sL bL p2 p3)) 86400000000000)) sL bL mD mT sy sm sd mi yr mo dy X)) rfl dX3_goTime_88 ?_
      refine z_aload_n C dX3_goTime_89 rfl 1 rfl ?_
      refine z_get (CC := RX3) (T := TX3) (N := 14) (ci := 3) C hin 0 rfl rfl 2 (by decide) w4 rfl rfl dX3_goTime_90 ?_
      refine z_iload C dX3_goTime_93 5 rfl ?_
      refine z_lald C 2 1 rfl rfl (vpMSlot h7) dX3_goTime_95 ?_
      exact z_lret C ⟨congrArg (fun v => some (Value.long v)) (by rw [f_X3_goTime, if_pos h4] : ((vp_updL ti p4.toNatClampNeg (f_X3_rest ((ti p1.toNatClampNeg) + (f_X3_goTime_j2 sL bL p2 p3)) 86400000000000)) p4.toNatClampNeg) = (f_X3_goTime ti sL bL p1 p2 p3 p4)), by rw [s_X3_goTime_co, if_pos h4, s_X3_goTime_ti, if_pos h4]⟩ (by decide) (by decide) dX3_goTime_96
    refine z_if_eq (tgt := 79) C dX3_goTime_70 (by decide) (fun h8 => ?_) (fun h8 => ?_)
    · refine z_lload C dX3_goTime_79 0 rfl ?_
      exact K2 _ (by rw [f_X3_goTime_j2, if_pos h8])
    · refine z_lload C dX3_goTime_73 0 rfl ?_
      refine z_lneg C dX3_goTime_75 ?_
      refine z_goto (tgt := 81) C dX3_goTime_76 (by decide) ?_
      exact K2 _ (by rw [f_X3_goTime_j2, if_neg h8])
  have K1_1 : f_X3_goTime_j1 p1 p2 p4 = 1 → ZW p l e { frames := 3, cells := 0, slots := 0, locals := 69 } s m args below meth c 7 D (zTys cI cJ) A (zE D (zTys cI cJ) A below args s (fun v w => v = some (.long (f_X3_goTime ti sL bL p1 p2 p3 p4)) ∧ w = (wM cI cJ z (s_X3_goTime_co p1 p2 p4) d (s_X3_goTime_ti ti sL bL p1 p2 p3 p4) sL bL mD mT sy sm sd mi yr mo dy X)) (fun _ _ => False) 0 0) 0 0 (wM cI cJ z co d ti sL bL mD mT sy sm sd mi yr mo dy X) 28 [(0, .ref (z 0)), (1, .int p1), (2, .int p2), (3, .int p3), (4, .int p4)] [.int 1, .ref (z 0)] := by
    intro h9
    refine z_wi (ws' := (wM cI cJ z (s_X3_fails_co 1) d ti sL bL mD mT sy sm sd mi yr mo dy X)) (rest := []) (ci := 3) (q0 := 0) C (c_X3_fails l hfl D cI cJ X z co d ti sL bL mD mT sy sm sd mi yr mo dy (1 : Int32) ) q_X3_fails rfl rfl rfl gX3_goTime_X3_fails ⟨rfl, rfl⟩ rfl rfl (Nat.le_of_ble_eq_true rfl) ⟨Nat.le_of_ble_eq_true rfl, Nat.le_of_ble_eq_true rfl⟩ ⟨Nat.le_of_ble_eq_true rfl, Nat.le_of_ble_eq_true rfl⟩ dX3_goTime_28 ?_
    refine z_eqst (st' := [.int 1]) (congrArg (fun v => Value.int v :: _) (by decide : (f_X3_fails 1) = (1 : Int32))) ?_
    refine z_if_eq (tgt := 36) C dX3_goTime_31 (by decide) (fun h => absurd h (by decide)) (fun _ => ?_)
    refine z_lconst (v := 0) C dX3_goTime_34 (by decide) ?_
    exact z_lret C ⟨congrArg (fun v => some (Value.long v)) (by rw [f_X3_goTime, if_neg (by rw [h9]; decide : ¬ f_X3_goTime_j1 p1 p2 p4 = 0)] : (0 : Int64) = (f_X3_goTime ti sL bL p1 p2 p3 p4)), by rw [s_X3_goTime_co, if_neg (by rw [h9]; decide : ¬ f_X3_goTime_j1 p1 p2 p4 = 0), s_X3_goTime_ti, if_neg (by rw [h9]; decide : ¬ f_X3_goTime_j1 p1 p2 p4 = 0)]⟩ (by decide) (by decide) dX3_goTime_35
  refine z_if_eq (tgt := 27) C dX3_goTime_5 (by decide) (fun h1 => ?_) (fun h1 => ?_)
  · refine z_iconst (v := 1) C dX3_goTime_27 (by decide) ?_
    exact K1_1 (by rw [f_X3_goTime_j1, if_pos h1]) 
  · refine z_iload_n C dX3_goTime_8 rfl 2 rfl ?_
    refine z_si (rest := [.ref (z 0)]) C (c_X3_isSlot l hfl D cI cJ _ p2 ) q_X3_isSlot gX3_goTime_X3_isSlot ⟨rfl, rfl⟩ rfl rfl (Nat.le_of_ble_eq_true rfl) ⟨Nat.le_of_ble_eq_true rfl, Nat.le_of_ble_eq_true rfl⟩ ⟨Nat.le_of_ble_eq_true rfl, Nat.le_of_ble_eq_true rfl⟩ dX3_goTime_9 ?_
    refine z_if_eq (tgt := 27) C dX3_goTime_12 (by decide) (fun h2 => ?_) (fun h2 => ?_)
    · refine z_iconst (v := 1) C dX3_goTime_27 (by decide) ?_
      exact K1_1 (by rw [f_X3_goTime_j1, if_neg h1, if_pos h2]) 
    · refine z_iload C dX3_goTime_15 4 rfl ?_
      refine z_si (rest := [.ref (z 0)]) C (c_X3_isSlot l hfl D cI cJ _ p4 ) q_X3_isSlot gX3_goTime_X3_isSlot ⟨rfl, rfl⟩ rfl rfl (Nat.le_of_ble_eq_true rfl) ⟨Nat.le_of_ble_eq_true rfl, Nat.le_of_ble_eq_true rfl⟩ ⟨Nat.le_of_ble_eq_true rfl, Nat.le_of_ble_eq_true rfl⟩ dX3_goTime_17 ?_
      refine z_if_eq (tgt := 27) C dX3_goTime_20 (by decide) (fun h3 => ?_) (fun h3 => ?_)
      · refine z_iconst (v := 1) C dX3_goTime_27 (by decide) ?_
        exact K1_1 (by rw [f_X3_goTime_j1, if_neg h1, if_neg h2, if_pos h3]) 
      · refine z_iconst (v := 0) C dX3_goTime_23 (by decide) ?_
        refine z_goto (tgt := 28) C dX3_goTime_24 (by decide) ?_
        exact K1_0 (by rw [f_X3_goTime_j1, if_neg h1, if_neg h2, if_neg h3]) h1 h2 h3
def f_X3_orderTimes_j1 (p1 : Int32) (p2 : Int32) : Int32 := (if (f_X3_isSlot p1) = 0 then 1 else (if (f_X3_isSlot p2) = 0 then 1 else 0))
def f_X3_orderTimes (ti : Nat → Int64) (p1 : Int32) (p2 : Int32) : Int32 := (if f_X3_orderTimes_j1 p1 p2 = 0 then (f_X3_ordered (ti p1.toNatClampNeg) (ti p2.toNatClampNeg)) else 0)
def s_X3_orderTimes_co (p1 : Int32) (p2 : Int32) : Int32 := (if f_X3_orderTimes_j1 p1 p2 = 0 then (s_X3_fails_co 0) else (s_X3_fails_co 1))
theorem q_X3_orderTimes : ZY yX3_orderTimes wsX3_orderTimes cX3_orderTimes 3 (some .int) 2 := ⟨⟨_, rfl⟩, by decide +kernel, by decide +kernel, by decide +kernel⟩
set_option maxHeartbeats 4000000 in
set_option maxRecDepth 100000 in
theorem c_X3_orderTimes (l : Launch) (hfl : l.stackTraces = false) (D : va_G) (cI cJ : ClassId) (X : va_W) (z : Nat → Nat) (co : Int32) (d : Nat → Int64) (ti : Nat → Int64) (sL : Nat → Int64) (bL : Nat → Int64) (mD : Nat → Int64) (mT : Nat → Int64) (sy : Nat → Int64) (sm : Nat → Int64) (sd : Nat → Int64) (mi : Nat → Int64) (yr : Int64) (mo : Int32) (dy : Int32) (p1 : Int32) (p2 : Int32)  : ZM l yX3_orderTimes wsX3_orderTimes { frames := 2, cells := 0, slots := 0, locals := 45 } [.ref (z 0), .int p1, .int p2] D (zTys cI cJ) (wM cI cJ z co d ti sL bL mD mT sy sm sd mi yr mo dy X) 0 0 (fun v w => v = some (.int (f_X3_orderTimes ti p1 p2)) ∧ w = (wM cI cJ z (s_X3_orderTimes_co p1 p2) d ti sL bL mD mT sy sm sd mi yr mo dy X)) (fun _ _ => False) := by
  refine z_open (own := RX3) hfl (cc := cX3_orderTimes) (maxL := 3) (ret := (some .int)) (lv := [(0, .ref (z 0)), (1, .int p1), (2, .int p2)]) rfl (by decide) rfl rfl (Nat.le_of_ble_eq_true rfl) ?_
  intro p e s m args below meth c A C hno hnm hargs
  have hin : ∀ w ∈ wsX30, w ∈ wsX3_orderTimes := by decide +kernel
  have w1 := C.1.2.2.2.2 (.fieldLink RX3 17 "YearwheelModel" "times" "[J") (by decide +kernel)
  refine z_aload_n C dX3_orderTimes_0 rfl 0 rfl ?_
  refine z_iload_n C dX3_orderTimes_1 rfl 1 rfl ?_
  refine z_si (rest := [.ref (z 0)]) C (c_X3_isSlot l hfl D cI cJ _ p1 ) q_X3_isSlot gX3_orderTimes_X3_isSlot ⟨rfl, rfl⟩ rfl rfl (Nat.le_of_ble_eq_true rfl) ⟨Nat.le_of_ble_eq_true rfl, Nat.le_of_ble_eq_true rfl⟩ ⟨Nat.le_of_ble_eq_true rfl, Nat.le_of_ble_eq_true rfl⟩ dX3_orderTimes_2 ?_
  have K1_0 : f_X3_orderTimes_j1 p1 p2 = 0 → (¬ (f_X3_isSlot p1) = 0) → (¬ (f_X3_isSlot p2) = 0) → ZW p l e { frames := 2, cells := 0, slots := 0, locals := 45 } s m args below meth c 3 D (zTys cI cJ) A (zE D (zTys cI cJ) A below args s (fun v w => v = some (.int (f_X3_orderTimes ti p1 p2)) ∧ w = (wM cI cJ z (s_X3_orderTimes_co p1 p2) d ti sL bL mD mT sy sm sd mi yr mo dy X)) (fun _ _ => False) 0 0) 0 0 (wM cI cJ z co d ti sL bL mD mT sy sm sd mi yr mo dy X) 20 [(0, .ref (z 0)), (1, .int p1), (2, .int p2)] [.int 0, .ref (z 0)] := by
    intro h3 h4 h5
    refine z_wi (ws' := (wM cI cJ z (s_X3_fails_co 0) d ti sL bL mD mT sy sm sd mi yr mo dy X)) (rest := []) (ci := 3) (q0 := 0) C (c_X3_fails l hfl D cI cJ X z co d ti sL bL mD mT sy sm sd mi yr mo dy (0 : Int32) ) q_X3_fails rfl rfl rfl gX3_orderTimes_X3_fails ⟨rfl, rfl⟩ rfl rfl (Nat.le_of_ble_eq_true rfl) ⟨Nat.le_of_ble_eq_true rfl, Nat.le_of_ble_eq_true rfl⟩ ⟨Nat.le_of_ble_eq_true rfl, Nat.le_of_ble_eq_true rfl⟩ dX3_orderTimes_20 ?_
    refine z_eqst (st' := [.int 0]) (congrArg (fun v => Value.int v :: _) (by decide : (f_X3_fails 0) = (0 : Int32))) ?_
    refine z_if_eq (tgt := 30) C dX3_orderTimes_23 (by decide) (fun _ => ?_) (fun h => absurd (by decide) h)
    refine z_aload_n C dX3_orderTimes_30 rfl 0 rfl ?_
    refine z_get (CC := RX3) (T := TX3) (N := 14) (ci := 3) C hin 0 rfl rfl 2 (by decide) w1 rfl rfl dX3_orderTimes_31 ?_
    refine z_iload_n C dX3_orderTimes_34 rfl 1 rfl ?_
    refine z_lald C 2 1 rfl rfl (vpMSlot h4) dX3_orderTimes_35 ?_
    refine z_aload_n C dX3_orderTimes_36 rfl 0 rfl ?_
    refine z_get (CC := RX3) (T := TX3) (N := 14) (ci := 3) C hin 0 rfl rfl 2 (by decide) w1 rfl rfl dX3_orderTimes_37 ?_
    refine z_iload_n C dX3_orderTimes_40 rfl 2 rfl ?_
    refine z_lald C 2 1 rfl rfl (vpMSlot h5) dX3_orderTimes_41 ?_
    refine z_si (rest := []) C (c_X3_ordered l hfl D cI cJ _ (ti p1.toNatClampNeg) (ti p2.toNatClampNeg) ) q_X3_ordered gX3_orderTimes_X3_ordered ⟨rfl, rfl⟩ rfl rfl (Nat.le_of_ble_eq_true rfl) ⟨Nat.le_of_ble_eq_true rfl, Nat.le_of_ble_eq_true rfl⟩ ⟨Nat.le_of_ble_eq_true rfl, Nat.le_of_ble_eq_true rfl⟩ dX3_orderTimes_42 ?_
    exact z_iret C ⟨congrArg (fun v => some (Value.int v)) (by rw [f_X3_orderTimes, if_pos h3] : (f_X3_ordered (ti p1.toNatClampNeg) (ti p2.toNatClampNeg)) = (f_X3_orderTimes ti p1 p2)), by rw [s_X3_orderTimes_co, if_pos h3]⟩ (by decide) (by decide) dX3_orderTimes_45
  have K1_1 : f_X3_orderTimes_j1 p1 p2 = 1 → ZW p l e { frames := 2, cells := 0, slots := 0, locals := 45 } s m args below meth c 3 D (zTys cI cJ) A (zE D (zTys cI cJ) A below args s (fun v w => v = some (.int (f_X3_orderTimes ti p1 p2)) ∧ w = (wM cI cJ z (s_X3_orderTimes_co p1 p2) d ti sL bL mD mT sy sm sd mi yr mo dy X)) (fun _ _ => False) 0 0) 0 0 (wM cI cJ z co d ti sL bL mD mT sy sm sd mi yr mo dy X) 20 [(0, .ref (z 0)), (1, .int p1), (2, .int p2)] [.int 1, .ref (z 0)] := by
    intro h6
    refine z_wi (ws' := (wM cI cJ z (s_X3_fails_co 1) d ti sL bL mD mT sy sm sd mi yr mo dy X)) (rest := []) (ci := 3) (q0 := 0) C (c_X3_fails l hfl D cI cJ X z co d ti sL bL mD mT sy sm sd mi yr mo dy (1 : Int32) ) q_X3_fails rfl rfl rfl gX3_orderTimes_X3_fails ⟨rfl, rfl⟩ rfl rfl (Nat.le_of_ble_eq_true rfl) ⟨Nat.le_of_ble_eq_true rfl, Nat.le_of_ble_eq_true rfl⟩ ⟨Nat.le_of_ble_eq_true rfl, Nat.le_of_ble_eq_true rfl⟩ dX3_orderTimes_20 ?_
    refine z_eqst (st' := [.int 1]) (congrArg (fun v => Value.int v :: _) (by decide : (f_X3_fails 1) = (1 : Int32))) ?_
    refine z_if_eq (tgt := 30) C dX3_orderTimes_23 (by decide) (fun h => absurd h (by decide)) (fun _ => ?_)
    refine z_iconst (v := 0) C dX3_orderTimes_26 (by decide) ?_
    refine z_goto (tgt := 45) C dX3_orderTimes_27 (by decide) ?_
    exact z_iret C ⟨congrArg (fun v => some (Value.int v)) (by rw [f_X3_orderTimes, if_neg (by rw [h6]; decide : ¬ f_X3_orderTimes_j1 p1 p2 = 0)] : (0 : Int32) = (f_X3_orderTimes ti p1 p2)), by rw [s_X3_orderTimes_co, if_neg (by rw [h6]; decide : ¬ f_X3_orderTimes_j1 p1 p2 = 0)]⟩ (by decide) (by decide) dX3_orderTimes_45
  refine z_if_eq (tgt := 19) C dX3_orderTimes_5 (by decide) (fun h1 => ?_) (fun h1 => ?_)
  · refine z_iconst (v := 1) C dX3_orderTimes_19 (by decide) ?_
    exact K1_1 (by rw [f_X3_orderTimes_j1, if_pos h1]) 
  · refine z_iload_n C dX3_orderTimes_8 rfl 2 rfl ?_
    refine z_si (rest := [.ref (z 0)]) C (c_X3_isSlot l hfl D cI cJ _ p2 ) q_X3_isSlot gX3_orderTimes_X3_isSlot ⟨rfl, rfl⟩ rfl rfl (Nat.le_of_ble_eq_true rfl) ⟨Nat.le_of_ble_eq_true rfl, Nat.le_of_ble_eq_true rfl⟩ ⟨Nat.le_of_ble_eq_true rfl, Nat.le_of_ble_eq_true rfl⟩ dX3_orderTimes_9 ?_
    refine z_if_eq (tgt := 19) C dX3_orderTimes_12 (by decide) (fun h2 => ?_) (fun h2 => ?_)
    · refine z_iconst (v := 1) C dX3_orderTimes_19 (by decide) ?_
      exact K1_1 (by rw [f_X3_orderTimes_j1, if_neg h1, if_pos h2]) 
    · refine z_iconst (v := 0) C dX3_orderTimes_15 (by decide) ?_
      refine z_goto (tgt := 20) C dX3_orderTimes_16 (by decide) ?_
      exact K1_0 (by rw [f_X3_orderTimes_j1, if_neg h1, if_neg h2]) h1 h2
def f_X3_length_j1 (p1 : Int32) (p2 : Int64) (p3 : Int64) : Int32 := (if (f_X3_isSlot p1) = 0 then 1 else (if (f_X3_in p2 (-1000000000000) 1000000000000) = 0 then 2 else (if (f_X3_in p3 (-1000000000000000) 1000000000000000) = 0 then 2 else 0)))
def f_X3_length (p1 : Int32) (p2 : Int64) (p3 : Int64) : Int64 := (if f_X3_length_j1 p1 p2 p3 = 0 then (f_X3_lasts p2 p3 3) else (if f_X3_length_j1 p1 p2 p3 = 1 then 0 else 0))
def s_X3_length_co (p1 : Int32) (p2 : Int64) (p3 : Int64) : Int32 := (if f_X3_length_j1 p1 p2 p3 = 0 then (s_X3_lasts_co p2 p3 3) else (if f_X3_length_j1 p1 p2 p3 = 1 then (s_X3_fails_co 1) else (s_X3_fails_co 2)))
def s_X3_length_sL (sL : Nat → Int64) (p1 : Int32) (p2 : Int64) (p3 : Int64) : Nat → Int64 := (if f_X3_length_j1 p1 p2 p3 = 0 then (s_X3_lasts_sL sL p1 p2 p3 3) else (if f_X3_length_j1 p1 p2 p3 = 1 then sL else sL))
def s_X3_length_bL (bL : Nat → Int64) (p1 : Int32) (p2 : Int64) (p3 : Int64) : Nat → Int64 := (if f_X3_length_j1 p1 p2 p3 = 0 then (s_X3_lasts_bL bL p1 p2 p3 3) else (if f_X3_length_j1 p1 p2 p3 = 1 then bL else bL))
theorem q_X3_length : ZY yX3_length wsX3_length cX3_length 6 (some .long) 3 := ⟨⟨_, rfl⟩, by decide +kernel, by decide +kernel, by decide +kernel⟩
set_option maxHeartbeats 4000000 in
set_option maxRecDepth 100000 in
theorem c_X3_length (l : Launch) (hfl : l.stackTraces = false) (D : va_G) (cI cJ : ClassId) (X : va_W) (z : Nat → Nat) (co : Int32) (d : Nat → Int64) (ti : Nat → Int64) (sL : Nat → Int64) (bL : Nat → Int64) (mD : Nat → Int64) (mT : Nat → Int64) (sy : Nat → Int64) (sm : Nat → Int64) (sd : Nat → Int64) (mi : Nat → Int64) (yr : Int64) (mo : Int32) (dy : Int32) (p1 : Int32) (p2 : Int64) (p3 : Int64)  : ZM l yX3_length wsX3_length { frames := 3, cells := 0, slots := 0, locals := 76 } [.ref (z 0), .int p1, .long p2, .long p3] D (zTys cI cJ) (wM cI cJ z co d ti sL bL mD mT sy sm sd mi yr mo dy X) 0 0 (fun v w => v = some (.long (f_X3_length p1 p2 p3)) ∧ w = (wM cI cJ z (s_X3_length_co p1 p2 p3) d ti (s_X3_length_sL sL p1 p2 p3) (s_X3_length_bL bL p1 p2 p3) mD mT sy sm sd mi yr mo dy X)) (fun _ _ => False) := by
  refine z_open (own := RX3) hfl (cc := cX3_length) (maxL := 6) (ret := (some .long)) (lv := [(0, .ref (z 0)), (1, .int p1), (2, .long p2), (4, .long p3)]) rfl (by decide) rfl rfl (Nat.le_of_ble_eq_true rfl) ?_
  intro p e s m args below meth c A C hno hnm hargs
  have hin : ∀ w ∈ wsX30, w ∈ wsX3_length := by decide +kernel
  have w1 := C.1.2.2.2.2 (.constantLong RX3 216 (-1000000000000)) (by decide +kernel)
  have w2 := C.1.2.2.2.2 (.constantLong RX3 218 (1000000000000)) (by decide +kernel)
  have w3 := C.1.2.2.2.2 (.constantLong RX3 207 (-1000000000000000)) (by decide +kernel)
  have w4 := C.1.2.2.2.2 (.constantLong RX3 209 (1000000000000000)) (by decide +kernel)
  refine z_aload_n C dX3_length_0 rfl 0 rfl ?_
  refine z_iload_n C dX3_length_1 rfl 1 rfl ?_
  refine z_si (rest := [.ref (z 0)]) C (c_X3_isSlot l hfl D cI cJ _ p1 ) q_X3_isSlot gX3_length_X3_isSlot ⟨rfl, rfl⟩ rfl rfl (Nat.le_of_ble_eq_true rfl) ⟨Nat.le_of_ble_eq_true rfl, Nat.le_of_ble_eq_true rfl⟩ ⟨Nat.le_of_ble_eq_true rfl, Nat.le_of_ble_eq_true rfl⟩ dX3_length_2 ?_
  have K1_0 : f_X3_length_j1 p1 p2 p3 = 0 → (¬ (f_X3_in p2 (-1000000000000) 1000000000000) = 0) → (¬ (f_X3_in p3 (-1000000000000000) 1000000000000000) = 0) → (¬ (f_X3_isSlot p1) = 0) → ZW p l e { frames := 3, cells := 0, slots := 0, locals := 76 } s m args below meth c 6 D (zTys cI cJ) A (zE D (zTys cI cJ) A below args s (fun v w => v = some (.long (f_X3_length p1 p2 p3)) ∧ w = (wM cI cJ z (s_X3_length_co p1 p2 p3) d ti (s_X3_length_sL sL p1 p2 p3) (s_X3_length_bL bL p1 p2 p3) mD mT sy sm sd mi yr mo dy X)) (fun _ _ => False) 0 0) 0 0 (wM cI cJ z co d ti sL bL mD mT sy sm sd mi yr mo dy X) 44 [(0, .ref (z 0)), (1, .int p1), (2, .long p2), (4, .long p3)] [.int 0, .ref (z 0)] := by
    intro h4 h5 h6 h7
    refine z_wi (ws' := (wM cI cJ z (s_X3_fails_co 0) d ti sL bL mD mT sy sm sd mi yr mo dy X)) (rest := []) (ci := 3) (q0 := 0) C (c_X3_fails l hfl D cI cJ X z co d ti sL bL mD mT sy sm sd mi yr mo dy (0 : Int32) ) q_X3_fails rfl rfl rfl gX3_length_X3_fails ⟨rfl, rfl⟩ rfl rfl (Nat.le_of_ble_eq_true rfl) ⟨Nat.le_of_ble_eq_true rfl, Nat.le_of_ble_eq_true rfl⟩ ⟨Nat.le_of_ble_eq_true rfl, Nat.le_of_ble_eq_true rfl⟩ dX3_length_44 ?_
    refine z_eqst (st' := [.int 0]) (congrArg (fun v => Value.int v :: _) (by decide : (f_X3_fails 0) = (0 : Int32))) ?_
    refine z_if_eq (tgt := 52) C dX3_length_47 (by decide) (fun _ => ?_) (fun h => absurd (by decide) h)
    refine z_aload_n C dX3_length_52 rfl 0 rfl ?_
    refine z_iload_n C dX3_length_53 rfl 1 rfl ?_
    refine z_lload_n C dX3_length_54 rfl 2 rfl ?_
    refine z_lload C dX3_length_55 3 rfl ?_
    refine z_iconst (v := 3) C dX3_length_57 (by decide) ?_
    refine z_wl (ws' := (wM cI cJ z (s_X3_lasts_co p2 p3 3) d ti (s_X3_lasts_sL sL p1 p2 p3 3) (s_X3_lasts_bL bL p1 p2 p3 3) mD mT sy sm sd mi yr mo dy X)) (rest := []) (ci := 3) (q0 := 0) C (c_X3_lasts l hfl D cI cJ X z (s_X3_fails_co 0) d ti sL bL mD mT sy sm sd mi yr mo dy p1 p2 p3 (3 : Int32) (vpMSlot h7)) q_X3_lasts rfl rfl rfl gX3_length_X3_lasts ⟨rfl, rfl⟩ rfl rfl (Nat.le_of_ble_eq_true rfl) ⟨Nat.le_of_ble_eq_true rfl, Nat.le_of_ble_eq_true rfl⟩ ⟨Nat.le_of_ble_eq_true rfl, Nat.le_of_ble_eq_true rfl⟩ dX3_length_58 ?_
    exact z_lret C ⟨congrArg (fun v => some (Value.long v)) (by rw [f_X3_length, if_pos h4] : (f_X3_lasts p2 p3 3) = (f_X3_length p1 p2 p3)), by rw [s_X3_length_co, if_pos h4, s_X3_length_sL, if_pos h4, s_X3_length_bL, if_pos h4]⟩ (by decide) (by decide) dX3_length_61
  have K1_1 : f_X3_length_j1 p1 p2 p3 = 1 → ((f_X3_isSlot p1) = 0) → ZW p l e { frames := 3, cells := 0, slots := 0, locals := 76 } s m args below meth c 6 D (zTys cI cJ) A (zE D (zTys cI cJ) A below args s (fun v w => v = some (.long (f_X3_length p1 p2 p3)) ∧ w = (wM cI cJ z (s_X3_length_co p1 p2 p3) d ti (s_X3_length_sL sL p1 p2 p3) (s_X3_length_bL bL p1 p2 p3) mD mT sy sm sd mi yr mo dy X)) (fun _ _ => False) 0 0) 0 0 (wM cI cJ z co d ti sL bL mD mT sy sm sd mi yr mo dy X) 44 [(0, .ref (z 0)), (1, .int p1), (2, .long p2), (4, .long p3)] [.int 1, .ref (z 0)] := by
    intro h8 h9
    refine z_wi (ws' := (wM cI cJ z (s_X3_fails_co 1) d ti sL bL mD mT sy sm sd mi yr mo dy X)) (rest := []) (ci := 3) (q0 := 0) C (c_X3_fails l hfl D cI cJ X z co d ti sL bL mD mT sy sm sd mi yr mo dy (1 : Int32) ) q_X3_fails rfl rfl rfl gX3_length_X3_fails ⟨rfl, rfl⟩ rfl rfl (Nat.le_of_ble_eq_true rfl) ⟨Nat.le_of_ble_eq_true rfl, Nat.le_of_ble_eq_true rfl⟩ ⟨Nat.le_of_ble_eq_true rfl, Nat.le_of_ble_eq_true rfl⟩ dX3_length_44 ?_
    refine z_eqst (st' := [.int 1]) (congrArg (fun v => Value.int v :: _) (by decide : (f_X3_fails 1) = (1 : Int32))) ?_
    refine z_if_eq (tgt := 52) C dX3_length_47 (by decide) (fun h => absurd h (by decide)) (fun _ => ?_)
    refine z_lconst (v := 0) C dX3_length_50 (by decide) ?_
    exact z_lret C ⟨congrArg (fun v => some (Value.long v)) (by rw [f_X3_length, if_neg (by rw [h8]; decide : ¬ f_X3_length_j1 p1 p2 p3 = 0), if_pos h8] : (0 : Int64) = (f_X3_length p1 p2 p3)), by rw [s_X3_length_co, if_neg (by rw [h8]; decide : ¬ f_X3_length_j1 p1 p2 p3 = 0), if_pos h8, s_X3_length_sL, if_neg (by rw [h8]; decide : ¬ f_X3_length_j1 p1 p2 p3 = 0), if_pos h8, s_X3_length_bL, if_neg (by rw [h8]; decide : ¬ f_X3_length_j1 p1 p2 p3 = 0), if_pos h8]⟩ (by decide) (by decide) dX3_length_51
  have K1_2 : f_X3_length_j1 p1 p2 p3 = 2 → (¬ (f_X3_isSlot p1) = 0) → ZW p l e { frames := 3, cells := 0, slots := 0, locals := 76 } s m args below meth c 6 D (zTys cI cJ) A (zE D (zTys cI cJ) A below args s (fun v w => v = some (.long (f_X3_length p1 p2 p3)) ∧ w = (wM cI cJ z (s_X3_length_co p1 p2 p3) d ti (s_X3_length_sL sL p1 p2 p3) (s_X3_length_bL bL p1 p2 p3) mD mT sy sm sd mi yr mo dy X)) (fun _ _ => False) 0 0) 0 0 (wM cI cJ z co d ti sL bL mD mT sy sm sd mi yr mo dy X) 44 [(0, .ref (z 0)), (1, .int p1), (2, .long p2), (4, .long p3)] [.int 2, .ref (z 0)] := by
    intro h10 h11
    refine z_wi (ws' := (wM cI cJ z (s_X3_fails_co 2) d ti sL bL mD mT sy sm sd mi yr mo dy X)) (rest := []) (ci := 3) (q0 := 0) C (c_X3_fails l hfl D cI cJ X z co d ti sL bL mD mT sy sm sd mi yr mo dy (2 : Int32) ) q_X3_fails rfl rfl rfl gX3_length_X3_fails ⟨rfl, rfl⟩ rfl rfl (Nat.le_of_ble_eq_true rfl) ⟨Nat.le_of_ble_eq_true rfl, Nat.le_of_ble_eq_true rfl⟩ ⟨Nat.le_of_ble_eq_true rfl, Nat.le_of_ble_eq_true rfl⟩ dX3_length_44 ?_
    refine z_eqst (st' := [.int 1]) (congrArg (fun v => Value.int v :: _) (by decide : (f_X3_fails 2) = (1 : Int32))) ?_
    refine z_if_eq (tgt := 52) C dX3_length_47 (by decide) (fun h => absurd h (by decide)) (fun _ => ?_)
    refine z_lconst (v := 0) C dX3_length_50 (by decide) ?_
    exact z_lret C ⟨congrArg (fun v => some (Value.long v)) (by rw [f_X3_length, if_neg (by rw [h10]; decide : ¬ f_X3_length_j1 p1 p2 p3 = 0), if_neg (by rw [h10]; decide : ¬ f_X3_length_j1 p1 p2 p3 = 1)] : (0 : Int64) = (f_X3_length p1 p2 p3)), by rw [s_X3_length_co, if_neg (by rw [h10]; decide : ¬ f_X3_length_j1 p1 p2 p3 = 0), if_neg (by rw [h10]; decide : ¬ f_X3_length_j1 p1 p2 p3 = 1), s_X3_length_sL, if_neg (by rw [h10]; decide : ¬ f_X3_length_j1 p1 p2 p3 = 0), if_neg (by rw [h10]; decide : ¬ f_X3_length_j1 p1 p2 p3 = 1), s_X3_length_bL, if_neg (by rw [h10]; decide : ¬ f_X3_length_j1 p1 p2 p3 = 0), if_neg (by rw [h10]; decide : ¬ f_X3_length_j1 p1 p2 p3 = 1)]⟩ (by decide) (by decide) dX3_length_51
  refine z_if_ne (tgt := 12) C dX3_length_5 (by decide) (fun h1 => ?_) (fun h1 => ?_)
  · refine z_lload_n C dX3_length_12 rfl 2 rfl ?_
    refine z_ldc2 (v := (-1000000000000)) C w1 dX3_length_13 ?_
    refine z_ldc2 (v := 1000000000000) C w2 dX3_length_16 ?_
    refine z_si (rest := [.ref (z 0)]) C (c_X3_in l hfl D cI cJ _ p2 ((-1000000000000) : Int64) (1000000000000 : Int64) ) q_X3_in gX3_length_X3_in ⟨rfl, rfl⟩ rfl rfl (Nat.le_of_ble_eq_true rfl) ⟨Nat.le_of_ble_eq_true rfl, Nat.le_of_ble_eq_true rfl⟩ ⟨Nat.le_of_ble_eq_true rfl, Nat.le_of_ble_eq_true rfl⟩ dX3_length_19 ?_
    refine z_if_eq (tgt := 43) C dX3_length_22 (by decide) (fun h2 => ?_) (fun h2 => ?_)
    · refine z_iconst (v := 2) C dX3_length_43 (by decide) ?_
      exact K1_2 (by rw [f_X3_length_j1, if_neg h1, if_pos h2]) h1
    · refine z_lload C dX3_length_25 3 rfl ?_
      refine z_ldc2 (v := (-1000000000000000)) C w3 dX3_length_27 ?_
      refine z_ldc2 (v := 1000000000000000) C w4 dX3_length_30 ?_
      refine z_si (rest := [.ref (z 0)]) C (c_X3_in l hfl D cI cJ _ p3 ((-1000000000000000) : Int64) (1000000000000000 : Int64) ) q_X3_in gX3_length_X3_in ⟨rfl, rfl⟩ rfl rfl (Nat.le_of_ble_eq_true rfl) ⟨Nat.le_of_ble_eq_true rfl, Nat.le_of_ble_eq_true rfl⟩ ⟨Nat.le_of_ble_eq_true rfl, Nat.le_of_ble_eq_true rfl⟩ dX3_length_33 ?_
      refine z_if_eq (tgt := 43) C dX3_length_36 (by decide) (fun h3 => ?_) (fun h3 => ?_)
      · refine z_iconst (v := 2) C dX3_length_43 (by decide) ?_
        exact K1_2 (by rw [f_X3_length_j1, if_neg h1, if_neg h2, if_pos h3]) h1
      · refine z_iconst (v := 0) C dX3_length_39 (by decide) ?_
        refine z_goto (tgt := 44) C dX3_length_40 (by decide) ?_
        exact K1_0 (by rw [f_X3_length_j1, if_neg h1, if_neg h2, if_neg h3]) h2 h3 h1
  · refine z_iconst (v := 1) C dX3_length_8 (by decide) ?_
    refine z_goto (tgt := 44) C dX3_length_9 (by decide) ?_
    exact K1_1 (by rw [f_X3_length_j1, if_pos h1]) h1
def f_X3_lengthPart_j1 (p1 : Int32) (p2 : Int32) : Int32 := (if (f_X3_isSlot p1) = 0 then 1 else (if p2 = 115 then 0 else (if p2 = 110 then 0 else 2)))
def f_X3_lengthPart (sL : Nat → Int64) (bL : Nat → Int64) (p1 : Int32) (p2 : Int32) : Int64 := (if f_X3_lengthPart_j1 p1 p2 = 0 then (if p2 = 115 then (sL p1.toNatClampNeg) else (bL p1.toNatClampNeg)) else (if f_X3_lengthPart_j1 p1 p2 = 1 then 0 else 0))
def s_X3_lengthPart_co (p1 : Int32) (p2 : Int32) : Int32 := (if f_X3_lengthPart_j1 p1 p2 = 0 then (if p2 = 115 then (s_X3_fails_co 0) else (s_X3_fails_co 0)) else (if f_X3_lengthPart_j1 p1 p2 = 1 then (s_X3_fails_co 1) else (s_X3_fails_co 2)))
theorem q_X3_lengthPart : ZY yX3_lengthPart wsX3_lengthPart cX3_lengthPart 3 (some .long) 2 := ⟨⟨_, rfl⟩, by decide +kernel, by decide +kernel, by decide +kernel⟩
set_option maxHeartbeats 4000000 in
set_option maxRecDepth 100000 in
theorem c_X3_lengthPart (l : Launch) (hfl : l.stackTraces = false) (D : va_G) (cI cJ : ClassId) (X : va_W) (z : Nat → Nat) (co : Int32) (d : Nat → Int64) (ti : Nat → Int64) (sL : Nat → Int64) (bL : Nat → Int64) (mD : Nat → Int64) (mT : Nat → Int64) (sy : Nat → Int64) (sm : Nat → Int64) (sd : Nat → Int64) (mi : Nat → Int64) (yr : Int64) (mo : Int32) (dy : Int32) (p1 : Int32) (p2 : Int32)  : ZM l yX3_lengthPart wsX3_lengthPart { frames := 2, cells := 0, slots := 0, locals := 45 } [.ref (z 0), .int p1, .int p2] D (zTys cI cJ) (wM cI cJ z co d ti sL bL mD mT sy sm sd mi yr mo dy X) 0 0 (fun v w => v = some (.long (f_X3_lengthPart sL bL p1 p2)) ∧ w = (wM cI cJ z (s_X3_lengthPart_co p1 p2) d ti sL bL mD mT sy sm sd mi yr mo dy X)) (fun _ _ => False) := by
  refine z_open (own := RX3) hfl (cc := cX3_lengthPart) (maxL := 3) (ret := (some .long)) (lv := [(0, .ref (z 0)), (1, .int p1), (2, .int p2)]) rfl (by decide) rfl rfl (Nat.le_of_ble_eq_true rfl) ?_
  intro p e s m args below meth c A C hno hnm hargs
  have hin : ∀ w ∈ wsX30, w ∈ wsX3_lengthPart := by decide +kernel
  have w1 := C.1.2.2.2.2 (.fieldLink RX3 23 "YearwheelModel" "fines" "[J") (by decide +kernel)
  have w2 := C.1.2.2.2.2 (.fieldLink RX3 20 "YearwheelModel" "seconds" "[J") (by decide +kernel)
  refine z_aload_n C dX3_lengthPart_0 rfl 0 rfl ?_
  refine z_iload_n C dX3_lengthPart_1 rfl 1 rfl ?_
  refine z_si (rest := [.ref (z 0)]) C (c_X3_isSlot l hfl D cI cJ _ p1 ) q_X3_isSlot gX3_lengthPart_X3_isSlot ⟨rfl, rfl⟩ rfl rfl (Nat.le_of_ble_eq_true rfl) ⟨Nat.le_of_ble_eq_true rfl, Nat.le_of_ble_eq_true rfl⟩ ⟨Nat.le_of_ble_eq_true rfl, Nat.le_of_ble_eq_true rfl⟩ dX3_lengthPart_2 ?_
  have K1_0 : f_X3_lengthPart_j1 p1 p2 = 0 → (¬ (f_X3_isSlot p1) = 0) → ZW p l e { frames := 2, cells := 0, slots := 0, locals := 45 } s m args below meth c 3 D (zTys cI cJ) A (zE D (zTys cI cJ) A below args s (fun v w => v = some (.long (f_X3_lengthPart sL bL p1 p2)) ∧ w = (wM cI cJ z (s_X3_lengthPart_co p1 p2) d ti sL bL mD mT sy sm sd mi yr mo dy X)) (fun _ _ => False) 0 0) 0 0 (wM cI cJ z co d ti sL bL mD mT sy sm sd mi yr mo dy X) 29 [(0, .ref (z 0)), (1, .int p1), (2, .int p2)] [.int 0, .ref (z 0)] := by
    intro h4 h5
    refine z_wi (ws' := (wM cI cJ z (s_X3_fails_co 0) d ti sL bL mD mT sy sm sd mi yr mo dy X)) (rest := []) (ci := 3) (q0 := 0) C (c_X3_fails l hfl D cI cJ X z co d ti sL bL mD mT sy sm sd mi yr mo dy (0 : Int32) ) q_X3_fails rfl rfl rfl gX3_lengthPart_X3_fails ⟨rfl, rfl⟩ rfl rfl (Nat.le_of_ble_eq_true rfl) ⟨Nat.le_of_ble_eq_true rfl, Nat.le_of_ble_eq_true rfl⟩ ⟨Nat.le_of_ble_eq_true rfl, Nat.le_of_ble_eq_true rfl⟩ dX3_lengthPart_29 ?_
    refine z_eqst (st' := [.int 0]) (congrArg (fun v => Value.int v :: _) (by decide : (f_X3_fails 0) = (0 : Int32))) ?_
    refine z_if_eq (tgt := 39) C dX3_lengthPart_32 (by decide) (fun _ => ?_) (fun h => absurd (by decide) h)
    refine z_iload_n C dX3_lengthPart_39 rfl 2 rfl ?_
    refine z_bipush (v := 115) C dX3_lengthPart_40 (by decide) ?_
    refine z_icmp_ne (tgt := 54) C dX3_lengthPart_42 (by decide) (fun h6 => ?_) (fun h6 => ?_)
    · refine z_aload_n C dX3_lengthPart_54 rfl 0 rfl ?_
      refine z_get (CC := RX3) (T := TX3) (N := 14) (ci := 3) C hin 0 rfl rfl 4 (by decide) w1 rfl rfl dX3_lengthPart_55 ?_
      refine z_iload_n C dX3_lengthPart_58 rfl 1 rfl ?_
      refine z_lald C 4 1 rfl rfl (vpMSlot h5) dX3_lengthPart_59 ?_
      exact z_lret C ⟨congrArg (fun v => some (Value.long v)) (by rw [f_X3_lengthPart, if_pos h4, if_neg h6] : (bL p1.toNatClampNeg) = (f_X3_lengthPart sL bL p1 p2)), by rw [s_X3_lengthPart_co, if_pos h4, if_neg h6]⟩ (by decide) (by decide) dX3_lengthPart_60
    · refine z_aload_n C dX3_lengthPart_45 rfl 0 rfl ?_
      refine z_get (CC := RX3) (T := TX3) (N := 14) (ci := 3) C hin 0 rfl rfl 3 (by decide) w2 rfl rfl dX3_lengthPart_46 ?_
      refine z_iload_n C dX3_lengthPart_49 rfl 1 rfl ?_
      refine z_lald C 3 1 rfl rfl (vpMSlot h5) dX3_lengthPart_50 ?_
      refine z_goto (tgt := 60) C dX3_lengthPart_51 (by decide) ?_
      exact z_lret C ⟨congrArg (fun v => some (Value.long v)) (by rw [f_X3_lengthPart, if_pos h4, if_pos h6] : (sL p1.toNatClampNeg) = (f_X3_lengthPart sL bL p1 p2)), by rw [s_X3_lengthPart_co, if_pos h4, if_pos h6]⟩ (by decide) (by decide) dX3_lengthPart_60
  have K1_1 : f_X3_lengthPart_j1 p1 p2 = 1 → ((f_X3_isSlot p1) = 0) → ZW p l e { frames := 2, cells := 0, slots := 0, locals := 45 } s m args below meth c 3 D (zTys cI cJ) A (zE D (zTys cI cJ) A below args s (fun v w => v = some (.long (f_X3_lengthPart sL bL p1 p2)) ∧ w = (wM cI cJ z (s_X3_lengthPart_co p1 p2) d ti sL bL mD mT sy sm sd mi yr mo dy X)) (fun _ _ => False) 0 0) 0 0 (wM cI cJ z co d ti sL bL mD mT sy sm sd mi yr mo dy X) 29 [(0, .ref (z 0)), (1, .int p1), (2, .int p2)] [.int 1, .ref (z 0)] := by
    intro h7 h8
    refine z_wi (ws' := (wM cI cJ z (s_X3_fails_co 1) d ti sL bL mD mT sy sm sd mi yr mo dy X)) (rest := []) (ci := 3) (q0 := 0) C (c_X3_fails l hfl D cI cJ X z co d ti sL bL mD mT sy sm sd mi yr mo dy (1 : Int32) ) q_X3_fails rfl rfl rfl gX3_lengthPart_X3_fails ⟨rfl, rfl⟩ rfl rfl (Nat.le_of_ble_eq_true rfl) ⟨Nat.le_of_ble_eq_true rfl, Nat.le_of_ble_eq_true rfl⟩ ⟨Nat.le_of_ble_eq_true rfl, Nat.le_of_ble_eq_true rfl⟩ dX3_lengthPart_29 ?_
    refine z_eqst (st' := [.int 1]) (congrArg (fun v => Value.int v :: _) (by decide : (f_X3_fails 1) = (1 : Int32))) ?_
    refine z_if_eq (tgt := 39) C dX3_lengthPart_32 (by decide) (fun h => absurd h (by decide)) (fun _ => ?_)
    refine z_lconst (v := 0) C dX3_lengthPart_35 (by decide) ?_
    refine z_goto (tgt := 60) C dX3_lengthPart_36 (by decide) ?_
    exact z_lret C ⟨congrArg (fun v => some (Value.long v)) (by rw [f_X3_lengthPart, if_neg (by rw [h7]; decide : ¬ f_X3_lengthPart_j1 p1 p2 = 0), if_pos h7] : (0 : Int64) = (f_X3_lengthPart sL bL p1 p2)), by rw [s_X3_lengthPart_co, if_neg (by rw [h7]; decide : ¬ f_X3_lengthPart_j1 p1 p2 = 0), if_pos h7]⟩ (by decide) (by decide) dX3_lengthPart_60
  have K1_2 : f_X3_lengthPart_j1 p1 p2 = 2 → (¬ (f_X3_isSlot p1) = 0) → (¬ p2 = 110) → (¬ p2 = 115) → ZW p l e { frames := 2, cells := 0, slots := 0, locals := 45 } s m args below meth c 3 D (zTys cI cJ) A (zE D (zTys cI cJ) A below args s (fun v w => v = some (.long (f_X3_lengthPart sL bL p1 p2)) ∧ w = (wM cI cJ z (s_X3_lengthPart_co p1 p2) d ti sL bL mD mT sy sm sd mi yr mo dy X)) (fun _ _ => False) 0 0) 0 0 (wM cI cJ z co d ti sL bL mD mT sy sm sd mi yr mo dy X) 29 [(0, .ref (z 0)), (1, .int p1), (2, .int p2)] [.int 2, .ref (z 0)] := by
    intro h9 h10 h11 h12
    refine z_wi (ws' := (wM cI cJ z (s_X3_fails_co 2) d ti sL bL mD mT sy sm sd mi yr mo dy X)) (rest := []) (ci := 3) (q0 := 0) C (c_X3_fails l hfl D cI cJ X z co d ti sL bL mD mT sy sm sd mi yr mo dy (2 : Int32) ) q_X3_fails rfl rfl rfl gX3_lengthPart_X3_fails ⟨rfl, rfl⟩ rfl rfl (Nat.le_of_ble_eq_true rfl) ⟨Nat.le_of_ble_eq_true rfl, Nat.le_of_ble_eq_true rfl⟩ ⟨Nat.le_of_ble_eq_true rfl, Nat.le_of_ble_eq_true rfl⟩ dX3_lengthPart_29 ?_
    refine z_eqst (st' := [.int 1]) (congrArg (fun v => Value.int v :: _) (by decide : (f_X3_fails 2) = (1 : Int32))) ?_
    refine z_if_eq (tgt := 39) C dX3_lengthPart_32 (by decide) (fun h => absurd h (by decide)) (fun _ => ?_)
    refine z_lconst (v := 0) C dX3_lengthPart_35 (by decide) ?_
    refine z_goto (tgt := 60) C dX3_lengthPart_36 (by decide) ?_
    exact z_lret C ⟨congrArg (fun v => some (Value.long v)) (by rw [f_X3_lengthPart, if_neg (by rw [h9]; decide : ¬ f_X3_lengthPart_j1 p1 p2 = 0), if_neg (by rw [h9]; decide : ¬ f_X3_lengthPart_j1 p1 p2 = 1)] : (0 : Int64) = (f_X3_lengthPart sL bL p1 p2)), by rw [s_X3_lengthPart_co, if_neg (by rw [h9]; decide : ¬ f_X3_lengthPart_j1 p1 p2 = 0), if_neg (by rw [h9]; decide : ¬ f_X3_lengthPart_j1 p1 p2 = 1)]⟩ (by decide) (by decide) dX3_lengthPart_60
  refine z_if_ne (tgt := 12) C dX3_lengthPart_5 (by decide) (fun h1 => ?_) (fun h1 => ?_)
  · refine z_iload_n C dX3_lengthPart_12 rfl 2 rfl ?_
    refine z_bipush (v := 115) C dX3_lengthPart_13 (by decide) ?_
    refine z_icmp_eq (tgt := 24) C dX3_lengthPart_15 (by decide) (fun h2 => ?_) (fun h2 => ?_)
    · refine z_iconst (v := 0) C dX3_lengthPart_24 (by decide) ?_
      refine z_goto (tgt := 29) C dX3_lengthPart_25 (by decide) ?_
      exact K1_0 (by rw [f_X3_lengthPart_j1, if_neg h1, if_pos h2]) h1
    · refine z_iload_n C dX3_lengthPart_18 rfl 2 rfl ?_
      refine z_bipush (v := 110) C dX3_lengthPart_19 (by decide) ?_
      refine z_icmp_ne (tgt := 28) C dX3_lengthPart_21 (by decide) (fun h3 => ?_) (fun h3 => ?_)
      · refine z_iconst (v := 2) C dX3_lengthPart_28 (by decide) ?_
        exact K1_2 (by rw [f_X3_lengthPart_j1, if_neg h1, if_neg h2, if_neg h3]) h1 h3 h2
      · refine z_iconst (v := 0) C dX3_lengthPart_24 (by decide) ?_
        refine z_goto (tgt := 29) C dX3_lengthPart_25 (by decide) ?_
        exact K1_0 (by rw [f_X3_lengthPart_j1, if_neg h1, if_neg h2, if_pos h3]) h1
  · refine z_iconst (v := 1) C dX3_lengthPart_8 (by decide) ?_
    refine z_goto (tgt := 29) C dX3_lengthPart_9 (by decide) ?_
    exact K1_1 (by rw [f_X3_lengthPart_j1, if_pos h1]) h1
def f_X3_addLength_j1 (p1 : Int32) (p2 : Int32) (p4 : Int32) : Int32 := (if (f_X3_isSlot p1) = 0 then 1 else (if (f_X3_isSlot p2) = 0 then 1 else (if (f_X3_isSlot p4) = 0 then 1 else 0)))
def f_X3_addLength_j2 (p3 : Int32) : Int64 := (if p3 = 0 then 1 else (-1))
def f_X3_addLength (sL : Nat → Int64) (bL : Nat → Int64) (p1 : Int32) (p2 : Int32) (p3 : Int32) (p4 : Int32) : Int64 := (if f_X3_addLength_j1 p1 p2 p4 = 0 then (if f_X3_addLength_j2 p3 = (-1) then (f_X3_lasts ((sL p1.toNatClampNeg) + ((-1) * (sL p2.toNatClampNeg))) ((bL p1.toNatClampNeg) + ((-1) * (bL p2.toNatClampNeg))) 2) else (f_X3_lasts ((sL p1.toNatClampNeg) + (1 * (sL p2.toNatClampNeg))) ((bL p1.toNatClampNeg) + (1 * (bL p2.toNatClampNeg))) 2)) else 0)
def s_X3_addLength_co (sL : Nat → Int64) (bL : Nat → Int64) (p1 : Int32) (p2 : Int32) (p3 : Int32) (p4 : Int32) : Int32 := (if f_X3_addLength_j1 p1 p2 p4 = 0 then (if f_X3_addLength_j2 p3 = (-1) then (s_X3_lasts_co ((sL p1.toNatClampNeg) + ((-1) * (sL p2.toNatClampNeg))) ((bL p1.toNatClampNeg) + ((-1) * (bL p2.toNatClampNeg))) 2) else (s_X3_lasts_co ((sL p1.toNatClampNeg) + (1 * (sL p2.toNatClampNeg))) ((bL p1.toNatClampNeg) + (1 * (bL p2.toNatClampNeg))) 2)) else (s_X3_fails_co 1))
def s_X3_addLength_sL (sL : Nat → Int64) (bL : Nat → Int64) (p1 : Int32) (p2 : Int32) (p3 : Int32) (p4 : Int32) : Nat → Int64 := (if f_X3_addLength_j1 p1 p2 p4 = 0 then (if f_X3_addLength_j2 p3 = (-1) then (s_X3_lasts_sL sL p4 ((sL p1.toNatClampNeg) + ((-1) * (sL p2.toNatClampNeg))) ((bL p1.toNatClampNeg) + ((-1) * (bL p2.toNatClampNeg))) 2) else (s_X3_lasts_sL sL p4 ((sL p1.toNatClampNeg) + (1 * (sL p2.toNatClampNeg))) ((bL p1.toNatClampNeg) + (1 * (bL p2.toNatClampNeg))) 2)) else sL)
def s_X3_addLength_bL (sL : Nat → Int64) (bL : Nat → Int64) (p1 : Int32) (p2 : Int32) (p3 : Int32) (p4 : Int32) : Nat → Int64 := (if f_X3_addLength_j1 p1 p2 p4 = 0 then (if f_X3_addLength_j2 p3 = (-1) then (s_X3_lasts_bL bL p4 ((sL p1.toNatClampNeg) + ((-1) * (sL p2.toNatClampNeg))) ((bL p1.toNatClampNeg) + ((-1) * (bL p2.toNatClampNeg))) 2) else (s_X3_lasts_bL bL p4 ((sL p1.toNatClampNeg) + (1 * (sL p2.toNatClampNeg))) ((bL p1.toNatClampNeg) + (1 * (bL p2.toNatClampNeg))) 2)) else bL)
theorem q_X3_addLength : ZY yX3_addLength wsX3_addLength cX3_addLength 7 (some .long) 4 := ⟨⟨_, rfl⟩, by decide +kernel, by decide +kernel, by decide +kernel⟩
set_option maxHeartbeats 4000000 in
set_option maxRecDepth 100000 in
theorem c_X3_addLength (l : Launch) (hfl : l.stackTraces = false) (D : va_G) (cI cJ : ClassId) (X : va_W) (z : Nat → Nat) (co : Int32) (d : Nat → Int64) (ti : Nat → Int64) (sL : Nat → Int64) (bL : Nat → Int64) (mD : Nat → Int64) (mT : Nat → Int64) (sy : Nat → Int64) (sm : Nat → Int64) (sd : Nat → Int64) (mi : Nat → Int64) (yr : Int64) (mo : Int32) (dy : Int32) (p1 : Int32) (p2 : Int32) (p3 : Int32) (p4 : Int32)  : ZM l yX3_addLength wsX3_addLength { frames := 3, cells := 0, slots := 0, locals := 76 } [.ref (z 0), .int p1, .int p2, .int p3, .int p4] D (zTys cI cJ) (wM cI cJ z co d ti sL bL mD mT sy sm sd mi yr mo dy X) 0 0 (fun v w => v = some (.long (f_X3_addLength sL bL p1 p2 p3 p4)) ∧ w = (wM cI cJ z (s_X3_addLength_co sL bL p1 p2 p3 p4) d ti (s_X3_addLength_sL sL bL p1 p2 p3 p4) (s_X3_addLength_bL sL bL p1 p2 p3 p4) mD mT sy sm sd mi yr mo dy X)) (fun _ _ => False) := by
  refine z_open (own := RX3) hfl (cc := cX3_addLength) (maxL := 7) (ret := (some .long)) (lv := [(0, .ref (z 0)), (1, .int p1), (2, .int p2), (3, .int p3), (4, .int p4)]) rfl (by decide) rfl rfl (Nat.le_of_ble_eq_true rfl) ?_
  intro p e s m args below meth c A C hno hnm hargs
  have hin : ∀ w ∈ wsX30, w ∈ wsX3_addLength := by decide +kernel
  have w1 := C.1.2.2.2.2 (.constantLong RX3 181 (-1)) (by decide +kernel)
  have w2 := C.1.2.2.2.2 (.fieldLink RX3 20 "YearwheelModel" "seconds" "[J") (by decide +kernel)
  have w3 := C.1.2.2.2.2 (.fieldLink RX3 23 "YearwheelModel" "fines" "[J") (by decide +kernel)
  refine z_aload_n C dX3_addLength_0 rfl 0 rfl ?_
  refine z_iload_n C dX3_addLength_1 rfl 1 rfl ?_
  refine z_si (rest := [.ref (z 0)]) C (c_X3_isSlot l hfl D cI cJ _ p1 ) q_X3_isSlot gX3_addLength_X3_isSlot ⟨rfl, rfl⟩ rfl rfl (Nat.le_of_ble_eq_true rfl) ⟨Nat.le_of_ble_eq_true rfl, Nat.le_of_ble_eq_true rfl⟩ ⟨Nat.le_of_ble_eq_true rfl, Nat.le_of_ble_eq_true rfl⟩ dX3_addLength_2 ?_
  have K1_0 : f_X3_addLength_j1 p1 p2 p4 = 0 → (¬ (f_X3_isSlot p1) = 0) → (¬ (f_X3_isSlot p2) = 0) → (¬ (f_X3_isSlot p4) = 0) → ZW p l e { frames := 3, cells := 0, slots := 0, locals := 76 } s m args below meth c 7 D (zTys cI cJ) A (zE D (zTys cI cJ) A below args s (fun v w => v = some (.long (f_X3_addLength sL bL p1 p2 p3 p4)) ∧ w = (wM cI cJ z (s_X3_addLength_co sL bL p1 p2 p3 p4) d ti (s_X3_addLength_sL sL bL p1 p2 p3 p4) (s_X3_addLength_bL sL bL p1 p2 p3 p4) mD mT sy sm sd mi yr mo dy X)) (fun _ _ => False) 0 0) 0 0 (wM cI cJ z co d ti sL bL mD mT sy sm sd mi yr mo dy X) 28 [(0, .ref (z 0)), (1, .int p1), (2, .int p2), (3, .int p3), (4, .int p4)] [.int 0, .ref (z 0)] := by
    intro h4 h5 h6 h7
    refine z_wi (ws' := (wM cI cJ z (s_X3_fails_co 0) d ti sL bL mD mT sy sm sd mi yr mo dy X)) (rest := []) (ci := 3) (q0 := 0) C (c_X3_fails l hfl D cI cJ X z co d ti sL bL mD mT sy sm sd mi yr mo dy (0 : Int32) ) q_X3_fails rfl rfl rfl gX3_addLength_X3_fails ⟨rfl, rfl⟩ rfl rfl (Nat.le_of_ble_eq_true rfl) ⟨Nat.le_of_ble_eq_true rfl, Nat.le_of_ble_eq_true rfl⟩ ⟨Nat.le_of_ble_eq_true rfl, Nat.le_of_ble_eq_true rfl⟩ dX3_addLength_28 ?_
    refine z_eqst (st' := [.int 0]) (congrArg (fun v => Value.int v :: _) (by decide : (f_X3_fails 0) = (0 : Int32))) ?_
    refine z_if_eq (tgt := 36) C dX3_addLength_31 (by decide) (fun _ => ?_) (fun h => absurd (by decide) h)
    refine z_iload_n C dX3_addLength_36 rfl 3 rfl ?_
    have K2_m1 : f_X3_addLength_j2 p3 = (-1) → (¬ p3 = 0) → ZW p l e { frames := 3, cells := 0, slots := 0, locals := 76 } s m args below meth c 7 D (zTys cI cJ) A (zE D (zTys cI cJ) A below args s (fun v w => v = some (.long (f_X3_addLength sL bL p1 p2 p3 p4)) ∧ w = (wM cI cJ z (s_X3_addLength_co sL bL p1 p2 p3 p4) d ti (s_X3_addLength_sL sL bL p1 p2 p3 p4) (s_X3_addLength_bL sL bL p1 p2 p3 p4) mD mT sy sm sd mi yr mo dy X)) (fun _ _ => False) 0 0) 0 0 (wM cI cJ z (s_X3_fails_co 0) d ti sL bL mD mT sy sm sd mi yr mo dy X) 47 [(0, .ref (z 0)), (1, .int p1), (2, .int p2), (3, .int p3), (4, .int p4)] [.long (-1)] := by
      intro h9 h10
      refine z_lstore (lv' := [(5, .long (-1)), (0, .ref (z 0)), (1, .int p1), (2, .int p2), (3, .int p3), (4, .int p4)]) C dX3_addLength_47 (by decide) rfl ?_
      refine z_aload_n C dX3_addLength_49 rfl 1 rfl ?_
      refine z_iload C dX3_addLength_50 5 rfl ?_
      refine z_aload_n C dX3_addLength_52 rfl 1 rfl ?_
      refine z_get (CC := RX3) (T := TX3) (N := 14) (ci := 3) C hin 0 rfl rfl 3 (by decide) w2 rfl rfl dX3_addLength_53 ?_
      refine z_iload_n C dX3_addLength_56 rfl 2 rfl ?_
      refine z_lald C 3 1 rfl rfl (vpMSlot h5) dX3_addLength_57 ?_
      refine z_lload C dX3_addLength_58 0 rfl ?_
      refine z_aload_n C dX3_addLength_60 rfl 1 rfl ?_
      refine z_get (CC := RX3) (T := TX3) (N := 14) (ci := 3) C hin 0 rfl rfl 3 (by decide) w2 rfl rfl dX3_addLength_61 ?_
      refine z_iload_n C dX3_addLength_64 rfl 3 rfl ?_
      refine z_lald C 3 1 rfl rfl (vpMSlot h6) dX3_addLength_65 ?_
      refine z_lmul C dX3_addLength_66 ?_
      refine z_ladd C dX3_addLength_67 ?_
      refine z_aload_n C dX3_addLength_68 rfl 1 rfl ?_
      refine z_get (CC := RX3) (T := TX3) (N := 14) (ci := 3) C hin 0 rfl rfl 4 (by decide) w3 rfl rfl dX3_addLength_69 ?_
      refine z_iload_n C dX3_addLength_72 rfl 2 rfl ?_
      refine z_lald C 4 1 rfl rfl (vpMSlot h5) dX3_addLength_73 ?_
      refine z_lload C dX3_addLength_74 0 rfl ?_
      refine z_aload_n C dX3_addLength_76 rfl 1 rfl ?_
      refine z_get (CC := RX3) (T := TX3) (N := 14) (ci := 3) C hin 0 rfl rfl 4 (by decide) w3 rfl rfl dX3_addLength_77 ?_
      refine z_iload_n C dX3_addLength_80 rfl 3 rfl ?_
      refine z_lald C 4 1 rfl rfl (vpMSlot h6) dX3_addLength_81 ?_
      refine z_lmul C dX3_addLength_82 ?_
      refine z_ladd C dX3_addLength_83 ?_
      refine z_iconst (v := 2) C dX3_addLength_84 (by decide) ?_
      refine z_wl (ws' := (wM cI cJ z (s_X3_lasts_co ((sL p1.toNatClampNeg) + ((-1) * (sL p2.toNatClampNeg))) ((bL p1.toNatClampNeg) + ((-1) * (bL p2.toNatClampNeg))) 2) d ti (s_X3_lasts_sL sL p4 ((sL p1.toNatClampNeg) + ((-1) * (sL p2.toNatClampNeg))) ((bL p1.toNatClampNeg) + ((-1) * (bL p2.toNatClampNeg))) 2) (s_X3_lasts_bL bL p4 ((sL p1.toNatClampNeg) + ((-1) * (sL p2.toNatClampNeg))) ((bL p1.toNatClampNeg) + ((-1) * (bL p2.toNatClampNeg))) 2) mD mT sy sm sd mi yr mo dy X)) (rest := []) (ci := 3) (q0 := 0) C (c_X3_lasts l hfl D cI cJ X z (s_X3_fails_co 0) d ti sL bL mD mT sy sm sd mi yr mo dy p4 ((sL p1.toNatClampNeg) + ((-1) * (sL p2.toNatClampNeg))) ((bL p1.toNatClampNeg) + ((-1) * (bL p2.toNatClampNeg))) (2 : Int32) (vpMSlot h7)) q_X3_lasts rfl rfl rfl gX3_addLength_X3_lasts ⟨rfl, rfl⟩ rfl rfl (Nat.le_of_ble_eq_true rfl) ⟨Nat.le_of_ble_eq_true rfl, Nat.le_of_ble_eq_true rfl⟩ ⟨Nat.le_of_ble_eq_true rfl, Nat.le_of_ble_eq_true rfl⟩ dX3_addLength_85 ?_
      exact z_lret C ⟨congrArg (fun v => some (Value.long v)) (by rw [f_X3_addLength, if_pos h4, if_pos h9] : (f_X3_lasts ((sL p1.toNatClampNeg) + ((-1) * (sL p2.toNatClampNeg))) ((bL p1.toNatClampNeg) + ((-1) * (bL p2.toNatClampNeg))) 2) = (f_X3_addLength sL bL p1 p2 p3 p4)), by rw [s_X3_addLength_co, if_pos h4, if_pos h9, s_X3_addLength_sL, if_pos h4, if_pos h9, s_X3_addLength_bL, if_pos h4, if_pos h9]⟩ (by decide) (by decide) dX3_addLength_88
    have K2_1 : f_X3_addLength_j2 p3 = 1 → (p3 = 0) → ZW p l e { frames := 3, cells := 0, slots := 0, locals := 76 } s m args below meth c 7 D (zTys cI cJ) A (zE D (zTys cI cJ) A below args s (fun v w => v = some (.long (f_X3_addLength sL bL p1 p2 p3 p4)) ∧ w = (wM cI cJ z (s_X3_addLength_co sL bL p1 p2 p3 p4) d ti (s_X3_addLength_sL sL bL p1 p2 p3 p4) (s_X3_addLength_bL sL bL p1 p2 p3 p4) mD mT sy sm sd mi yr mo dy X)) (fun _ _ => False) 0 0) 0 0 (wM cI cJ z (s_X3_fails_co 0) d ti sL bL mD mT sy sm sd mi yr mo dy X) 47 [(0, .ref (z 0)), (1, .int p1), (2, .int p2), (3, .int p3), (4, .int p4)] [.long 1] := by
      intro h11 h12
      refine z_lstore (lv' := [(5, .long 1), (0, .ref (z 0)), (1, .int p1), (2, .int p2), (3, .int p3), (4, .int p4)]) C dX3_addLength_47 (by decide) rfl ?_
      refine z_aload_n C dX3_addLength_49 rfl 1 rfl ?_
      refine z_iload C dX3_addLength_50 5 rfl ?_
      refine z_aload_n C dX3_addLength_52 rfl 1 rfl ?_
      refine z_get (CC := RX3) (T := TX3) (N := 14) (ci := 3) C hin 0 rfl rfl 3 (by decide) w2 rfl rfl dX3_addLength_53 ?_
      refine z_iload_n C dX3_addLength_56 rfl 2 rfl ?_
      refine z_lald C 3 1 rfl rfl (vpMSlot h5) dX3_addLength_57 ?_
      refine z_lload C dX3_addLength_58 0 rfl ?_
      refine z_aload_n C dX3_addLength_60 rfl 1 rfl ?_
      refine z_get (CC := RX3) (T := TX3) (N := 14) (ci := 3) C hin 0 rfl rfl 3 (by decide) w2 rfl rfl dX3_addLength_61 ?_
      refine z_iload_n C dX3_addLength_64 rfl 3 rfl ?_
      refine z_lald C 3 1 rfl rfl (vpMSlot h6) dX3_addLength_65 ?_
      refine z_lmul C dX3_addLength_66 ?_
      refine z_ladd C dX3_addLength_67 ?_
      refine z_aload_n C dX3_addLength_68 rfl 1 rfl ?_
      refine z_get (CC := RX3) (T := TX3) (N := 14) (ci := 3) C hin 0 rfl rfl 4 (by decide) w3 rfl rfl dX3_addLength_69 ?_
      refine z_iload_n C dX3_addLength_72 rfl 2 rfl ?_
      refine z_lald C 4 1 rfl rfl (vpMSlot h5) dX3_addLength_73 ?_
      refine z_lload C dX3_addLength_74 0 rfl ?_
      refine z_aload_n C dX3_addLength_76 rfl 1 rfl ?_
      refine z_get (CC := RX3) (T := TX3) (N := 14) (ci := 3) C hin 0 rfl rfl 4 (by decide) w3 rfl rfl dX3_addLength_77 ?_
      refine z_iload_n C dX3_addLength_80 rfl 3 rfl ?_
      refine z_lald C 4 1 rfl rfl (vpMSlot h6) dX3_addLength_81 ?_
      refine z_lmul C dX3_addLength_82 ?_
      refine z_ladd C dX3_addLength_83 ?_
      refine z_iconst (v := 2) C dX3_addLength_84 (by decide) ?_
      refine z_wl (ws' := (wM cI cJ z (s_X3_lasts_co ((sL p1.toNatClampNeg) + (1 * (sL p2.toNatClampNeg))) ((bL p1.toNatClampNeg) + (1 * (bL p2.toNatClampNeg))) 2) d ti (s_X3_lasts_sL sL p4 ((sL p1.toNatClampNeg) + (1 * (sL p2.toNatClampNeg))) ((bL p1.toNatClampNeg) + (1 * (bL p2.toNatClampNeg))) 2) (s_X3_lasts_bL bL p4 ((sL p1.toNatClampNeg) + (1 * (sL p2.toNatClampNeg))) ((bL p1.toNatClampNeg) + (1 * (bL p2.toNatClampNeg))) 2) mD mT sy sm sd mi yr mo dy X)) (rest := []) (ci := 3) (q0 := 0) C (c_X3_lasts l hfl D cI cJ X z (s_X3_fails_co 0) d ti sL bL mD mT sy sm sd mi yr mo dy p4 ((sL p1.toNatClampNeg) + (1 * (sL p2.toNatClampNeg))) ((bL p1.toNatClampNeg) + (1 * (bL p2.toNatClampNeg))) (2 : Int32) (vpMSlot h7)) q_X3_lasts rfl rfl rfl gX3_addLength_X3_lasts ⟨rfl, rfl⟩ rfl rfl (Nat.le_of_ble_eq_true rfl) ⟨Nat.le_of_ble_eq_true rfl, Nat.le_of_ble_eq_true rfl⟩ ⟨Nat.le_of_ble_eq_true rfl, Nat.le_of_ble_eq_true rfl⟩ dX3_addLength_85 ?_
      exact z_lret C ⟨congrArg (fun v => some (Value.long v)) (by rw [f_X3_addLength, if_pos h4, if_neg (by rw [h11]; decide : ¬ f_X3_addLength_j2 p3 = (-1))] : (f_X3_lasts ((sL p1.toNatClampNeg) + (1 * (sL p2.toNatClampNeg))) ((bL p1.toNatClampNeg) + (1 * (bL p2.toNatClampNeg))) 2) = (f_X3_addLength sL bL p1 p2 p3 p4)), by rw [s_X3_addLength_co, if_pos h4, if_neg (by rw [h11]; decide : ¬ f_X3_addLength_j2 p3 = (-1)), s_X3_addLength_sL, if_pos h4, if_neg (by rw [h11]; decide : ¬ f_X3_addLength_j2 p3 = (-1)), s_X3_addLength_bL, if_pos h4, if_neg (by rw [h11]; decide : ¬ f_X3_addLength_j2 p3 = (-1))]⟩ (by decide) (by decide) dX3_addLength_88
    refine z_if_eq (tgt := 46) C dX3_addLength_37 (by decide) (fun h8 => ?_) (fun h8 => ?_)
    · refine z_lconst (v := 1) C dX3_addLength_46 (by decide) ?_
      exact K2_1 (by rw [f_X3_addLength_j2, if_pos h8]) h8
    · refine z_ldc2 (v := (-1)) C w1 dX3_addLength_40 ?_
      refine z_goto (tgt := 47) C dX3_addLength_43 (by decide) ?_
      exact K2_m1 (by rw [f_X3_addLength_j2, if_neg h8]) h8
  have K1_1 : f_X3_addLength_j1 p1 p2 p4 = 1 → ZW p l e { frames := 3, cells := 0, slots := 0, locals := 76 } s m args below meth c 7 D (zTys cI cJ) A (zE D (zTys cI cJ) A below args s (fun v w => v = some (.long (f_X3_addLength sL bL p1 p2 p3 p4)) ∧ w = (wM cI cJ z (s_X3_addLength_co sL bL p1 p2 p3 p4) d ti (s_X3_addLength_sL sL bL p1 p2 p3 p4) (s_X3_addLength_bL sL bL p1 p2 p3 p4) mD mT sy sm sd mi yr mo dy X)) (fun _ _ => False) 0 0) 0 0 (wM cI cJ z co d ti sL bL mD mT sy sm sd mi yr mo dy X) 28 [(0, .ref (z 0)), (1, .int p1), (2, .int p2), (3, .int p3), (4, .int p4)] [.int 1, .ref (z 0)] := by
    intro h13
    refine z_wi (ws' := (wM cI cJ z (s_X3_fails_co 1) d ti sL bL mD mT sy sm sd mi yr mo dy X)) (rest := []) (ci := 3) (q0 := 0) C (c_X3_fails l hfl D cI cJ X z co d ti sL bL mD mT sy sm sd mi yr mo dy (1 : Int32) ) q_X3_fails rfl rfl rfl gX3_addLength_X3_fails ⟨rfl, rfl⟩ rfl rfl (Nat.le_of_ble_eq_true rfl) ⟨Nat.le_of_ble_eq_true rfl, Nat.le_of_ble_eq_true rfl⟩ ⟨Nat.le_of_ble_eq_true rfl, Nat.le_of_ble_eq_true rfl⟩ dX3_addLength_28 ?_
    refine z_eqst (st' := [.int 1]) (congrArg (fun v => Value.int v :: _) (by decide : (f_X3_fails 1) = (1 : Int32))) ?_
    refine z_if_eq (tgt := 36) C dX3_addLength_31 (by decide) (fun h => absurd h (by decide)) (fun _ => ?_)
    refine z_lconst (v := 0) C dX3_addLength_34 (by decide) ?_
    exact z_lret C ⟨congrArg (fun v => some (Value.long v)) (by rw [f_X3_addLength, if_neg (by rw [h13]; decide : ¬ f_X3_addLength_j1 p1 p2 p4 = 0)] : (0 : Int64) = (f_X3_addLength sL bL p1 p2 p3 p4)), by rw [s_X3_addLength_co, if_neg (by rw [h13]; decide : ¬ f_X3_addLength_j1 p1 p2 p4 = 0), s_X3_addLength_sL, if_neg (by rw [h13]; decide : ¬ f_X3_addLength_j1 p1 p2 p4 = 0), s_X3_addLength_bL, if_neg (by rw [h13]; decide : ¬ f_X3_addLength_j1 p1 p2 p4 = 0)]⟩ (by decide) (by decide) dX3_addLength_35
  refine z_if_eq (tgt := 27) C dX3_addLength_5 (by decide) (fun h1 => ?_) (fun h1 => ?_)
  · refine z_iconst (v := 1) C dX3_addLength_27 (by decide) ?_
    exact K1_1 (by rw [f_X3_addLength_j1, if_pos h1]) 
  · refine z_iload_n C dX3_addLength_8 rfl 2 rfl ?_
    refine z_si (rest := [.ref (z 0)]) C (c_X3_isSlot l hfl D cI cJ _ p2 ) q_X3_isSlot gX3_addLength_X3_isSlot ⟨rfl, rfl⟩ rfl rfl (Nat.le_of_ble_eq_true rfl) ⟨Nat.le_of_ble_eq_true rfl, Nat.le_of_ble_eq_true rfl⟩ ⟨Nat.le_of_ble_eq_true rfl, Nat.le_of_ble_eq_true rfl⟩ dX3_addLength_9 ?_
    refine z_if_eq (tgt := 27) C dX3_addLength_12 (by decide) (fun h2 => ?_) (fun h2 => ?_)
    · refine z_iconst (v := 1) C dX3_addLength_27 (by decide) ?_
      exact K1_1 (by rw [f_X3_addLength_j1, if_neg h1, if_pos h2]) 
    · refine z_iload C dX3_addLength_15 4 rfl ?_
      refine z_si (rest := [.ref (z 0)]) C (c_X3_isSlot l hfl D cI cJ _ p4 ) q_X3_isSlot gX3_addLength_X3_isSlot ⟨rfl, rfl⟩ rfl rfl (Nat.le_of_ble_eq_true rfl) ⟨Nat.le_of_ble_eq_true rfl, Nat.le_of_ble_eq_true rfl⟩ ⟨Nat.le_of_ble_eq_true rfl, Nat.le_of_ble_eq_true rfl⟩ dX3_addLength_17 ?_
      refine z_if_eq (tgt := 27) C dX3_addLength_20 (by decide) (fun h3 => ?_) (fun h3 => ?_)
      · refine z_iconst (v := 1) C dX3_addLength_27 (by decide) ?_
        exact K1_1 (by rw [f_X3_addLength_j1, if_neg h1, if_neg h2, if_pos h3]) 
      · refine z_iconst (v := 0) C dX3_addLength_23 (by decide) ?_
        refine z_goto (tgt := 28) C dX3_addLength_24 (by decide) ?_
        exact K1_0 (by rw [f_X3_addLength_j1, if_neg h1, if_neg h2, if_neg h3]) h1 h2 h3
def f_X3_timesLength_j1 (p1 : Int32) (p2 : Int32) (p3 : Int32) : Int32 := (if (f_X3_isSlot p1) = 0 then 1 else (if (f_X3_isSlot p3) = 0 then 1 else (if (f_X3_in ((p2).toInt64) (-1000) 1000) = 0 then 2 else 0)))
def f_X3_timesLength (sL : Nat → Int64) (bL : Nat → Int64) (p1 : Int32) (p2 : Int32) (p3 : Int32) : Int64 := (if f_X3_timesLength_j1 p1 p2 p3 = 0 then (f_X3_lasts ((p2).toInt64 * (sL p1.toNatClampNeg)) ((p2).toInt64 * (bL p1.toNatClampNeg)) 3) else (if f_X3_timesLength_j1 p1 p2 p3 = 1 then 0 else 0))
def s_X3_timesLength_co (sL : Nat → Int64) (bL : Nat → Int64) (p1 : Int32) (p2 : Int32) (p3 : Int32) : Int32 := (if f_X3_timesLength_j1 p1 p2 p3 = 0 then (s_X3_lasts_co ((p2).toInt64 * (sL p1.toNatClampNeg)) ((p2).toInt64 * (bL p1.toNatClampNeg)) 3) else (if f_X3_timesLength_j1 p1 p2 p3 = 1 then (s_X3_fails_co 1) else (s_X3_fails_co 2)))
def s_X3_timesLength_sL (sL : Nat → Int64) (bL : Nat → Int64) (p1 : Int32) (p2 : Int32) (p3 : Int32) : Nat → Int64 := (if f_X3_timesLength_j1 p1 p2 p3 = 0 then (s_X3_lasts_sL sL p3 ((p2).toInt64 * (sL p1.toNatClampNeg)) ((p2).toInt64 * (bL p1.toNatClampNeg)) 3) else (if f_X3_timesLength_j1 p1 p2 p3 = 1 then sL else sL))
def s_X3_timesLength_bL (sL : Nat → Int64) (bL : Nat → Int64) (p1 : Int32) (p2 : Int32) (p3 : Int32) : Nat → Int64 := (if f_X3_timesLength_j1 p1 p2 p3 = 0 then (s_X3_lasts_bL bL p3 ((p2).toInt64 * (sL p1.toNatClampNeg)) ((p2).toInt64 * (bL p1.toNatClampNeg)) 3) else (if f_X3_timesLength_j1 p1 p2 p3 = 1 then bL else bL))
theorem q_X3_timesLength : ZY yX3_timesLength wsX3_timesLength cX3_timesLength 4 (some .long) 3 := ⟨⟨_, rfl⟩, by decide +kernel, by decide +kernel, by decide +kernel⟩
set_option maxHeartbeats 4000000 in
set_option maxRecDepth 100000 in
theorem c_X3_timesLength (l : Launch) (hfl : l.stackTraces = false) (D : va_G) (cI cJ : ClassId) (X : va_W) (z : Nat → Nat) (co : Int32) (d : Nat → Int64) (ti : Nat → Int64) (sL : Nat → Int64) (bL : Nat → Int64) (mD : Nat → Int64) (mT : Nat → Int64) (sy : Nat → Int64) (sm : Nat → Int64) (sd : Nat → Int64) (mi : Nat → Int64) (yr : Int64) (mo : Int32) (dy : Int32) (p1 : Int32) (p2 : Int32) (p3 : Int32)  : ZM l yX3_timesLength wsX3_timesLength { frames := 3, cells := 0, slots := 0, locals := 76 } [.ref (z 0), .int p1, .int p2, .int p3] D (zTys cI cJ) (wM cI cJ z co d ti sL bL mD mT sy sm sd mi yr mo dy X) 0 0 (fun v w => v = some (.long (f_X3_timesLength sL bL p1 p2 p3)) ∧ w = (wM cI cJ z (s_X3_timesLength_co sL bL p1 p2 p3) d ti (s_X3_timesLength_sL sL bL p1 p2 p3) (s_X3_timesLength_bL sL bL p1 p2 p3) mD mT sy sm sd mi yr mo dy X)) (fun _ _ => False) := by
  refine z_open (own := RX3) hfl (cc := cX3_timesLength) (maxL := 4) (ret := (some .long)) (lv := [(0, .ref (z 0)), (1, .int p1), (2, .int p2), (3, .int p3)]) rfl (by decide) rfl rfl (Nat.le_of_ble_eq_true rfl) ?_
  intro p e s m args below meth c A C hno hnm hargs
  have hin : ∀ w ∈ wsX30, w ∈ wsX3_timesLength := by decide +kernel
  have w1 := C.1.2.2.2.2 (.constantLong RX3 224 (-1000)) (by decide +kernel)
  have w2 := C.1.2.2.2.2 (.constantLong RX3 226 (1000)) (by decide +kernel)
  have w3 := C.1.2.2.2.2 (.fieldLink RX3 20 "YearwheelModel" "seconds" "[J") (by decide +kernel)
  have w4 := C.1.2.2.2.2 (.fieldLink RX3 23 "YearwheelModel" "fines" "[J") (by decide +kernel)
  refine z_aload_n C dX3_timesLength_0 rfl 0 rfl ?_
  refine z_iload_n C dX3_timesLength_1 rfl 1 rfl ?_
  refine z_si (rest := [.ref (z 0)]) C (c_X3_isSlot l hfl D cI cJ _ p1 ) q_X3_isSlot gX3_timesLength_X3_isSlot ⟨rfl, rfl⟩ rfl rfl (Nat.le_of_ble_eq_true rfl) ⟨Nat.le_of_ble_eq_true rfl, Nat.le_of_ble_eq_true rfl⟩ ⟨Nat.le_of_ble_eq_true rfl, Nat.le_of_ble_eq_true rfl⟩ dX3_timesLength_2 ?_
  have K1_0 : f_X3_timesLength_j1 p1 p2 p3 = 0 → (¬ (f_X3_in ((p2).toInt64) (-1000) 1000) = 0) → (¬ (f_X3_isSlot p1) = 0) → (¬ (f_X3_isSlot p3) = 0) → ZW p l e { frames := 3, cells := 0, slots := 0, locals := 76 } s m args below meth c 4 D (zTys cI cJ) A (zE D (zTys cI cJ) A below args s (fun v w => v = some (.long (f_X3_timesLength sL bL p1 p2 p3)) ∧ w = (wM cI cJ z (s_X3_timesLength_co sL bL p1 p2 p3) d ti (s_X3_timesLength_sL sL bL p1 p2 p3) (s_X3_timesLength_bL sL bL p1 p2 p3) mD mT sy sm sd mi yr mo dy X)) (fun _ _ => False) 0 0) 0 0 (wM cI cJ z co d ti sL bL mD mT sy sm sd mi yr mo dy X) 38 [(0, .ref (z 0)), (1, .int p1), (2, .int p2), (3, .int p3)] [.int 0, .ref (z 0)] := by
    intro h4 h5 h6 h7
    refine z_wi (ws' := (wM cI cJ z (s_X3_fails_co 0) d ti sL bL mD mT sy sm sd mi yr mo dy X)) (rest := []) (ci := 3) (q0 := 0) C (c_X3_fails l hfl D cI cJ X z co d ti sL bL mD mT sy sm sd mi yr mo dy (0 : Int32) ) q_X3_fails rfl rfl rfl gX3_timesLength_X3_fails ⟨rfl, rfl⟩ rfl rfl (Nat.le_of_ble_eq_true rfl) ⟨Nat.le_of_ble_eq_true rfl, Nat.le_of_ble_eq_true rfl⟩ ⟨Nat.le_of_ble_eq_true rfl, Nat.le_of_ble_eq_true rfl⟩ dX3_timesLength_38 ?_
    refine z_eqst (st' := [.int 0]) (congrArg (fun v => Value.int v :: _) (by decide : (f_X3_fails 0) = (0 : Int32))) ?_
    refine z_if_eq (tgt := 46) C dX3_timesLength_41 (by decide) (fun _ => ?_) (fun h => absurd (by decide) h)
    refine z_aload_n C dX3_timesLength_46 rfl 0 rfl ?_
    refine z_iload_n C dX3_timesLength_47 rfl 3 rfl ?_
    refine z_iload_n C dX3_timesLength_48 rfl 2 rfl ?_
    refine z_i2l (v := (p2).toInt64) C dX3_timesLength_49 rfl ?_
    refine z_aload_n C dX3_timesLength_50 rfl 0 rfl ?_
    refine z_get (CC := RX3) (T := TX3) (N := 14) (ci := 3) C hin 0 rfl rfl 3 (by decide) w3 rfl rfl dX3_timesLength_51 ?_
    refine z_iload_n C dX3_timesLength_54 rfl 1 rfl ?_
    refine z_lald C 3 1 rfl rfl (vpMSlot h6) dX3_timesLength_55 ?_
    refine z_lmul C dX3_timesLength_56 ?_
    refine z_iload_n C dX3_timesLength_57 rfl 2 rfl ?_
    refine z_i2l (v := (p2).toInt64) C dX3_timesLength_58 rfl ?_
    refine z_aload_n C dX3_timesLength_59 rfl 0 rfl ?_
    refine z_get (CC := RX3) (T := TX3) (N := 14) (ci := 3) C hin 0 rfl rfl 4 (by decide) w4 rfl rfl dX3_timesLength_60 ?_
    refine z_iload_n C dX3_timesLength_63 rfl 1 rfl ?_
    refine z_lald C 4 1 rfl rfl (vpMSlot h6) dX3_timesLength_64 ?_
    refine z_lmul C dX3_timesLength_65 ?_
    refine z_iconst (v := 3) C dX3_timesLength_66 (by decide) ?_
    refine z_wl (ws' := (wM cI cJ z (s_X3_lasts_co ((p2).toInt64 * (sL p1.toNatClampNeg)) ((p2).toInt64 * (bL p1.toNatClampNeg)) 3) d ti (s_X3_lasts_sL sL p3 ((p2).toInt64 * (sL p1.toNatClampNeg)) ((p2).toInt64 * (bL p1.toNatClampNeg)) 3) (s_X3_lasts_bL bL p3 ((p2).toInt64 * (sL p1.toNatClampNeg)) ((p2).toInt64 * (bL p1.toNatClampNeg)) 3) mD mT sy sm sd mi yr mo dy X)) (rest := []) (ci := 3) (q0 := 0) C (c_X3_lasts l hfl D cI cJ X z (s_X3_fails_co 0) d ti sL bL mD mT sy sm sd mi yr mo dy p3 ((p2).toInt64 * (sL p1.toNatClampNeg)) ((p2).toInt64 * (bL p1.toNatClampNeg)) (3 : Int32) (vpMSlot h7)) q_X3_lasts rfl rfl rfl gX3_timesLength_X3_lasts ⟨rfl, rfl⟩ rfl rfl (Nat.le_of_ble_eq_true rfl) ⟨Nat.le_of_ble_eq_true rfl, Nat.le_of_ble_eq_true rfl⟩ ⟨Nat.le_of_ble_eq_true rfl, Nat.le_of_ble_eq_true rfl⟩ dX3_timesLength_67 ?_
    exact z_lret C ⟨congrArg (fun v => some (Value.long v)) (by rw [f_X3_timesLength, if_pos h4] : (f_X3_lasts ((p2).toInt64 * (sL p1.toNatClampNeg)) ((p2).toInt64 * (bL p1.toNatClampNeg)) 3) = (f_X3_timesLength sL bL p1 p2 p3)), by rw [s_X3_timesLength_co, if_pos h4, s_X3_timesLength_sL, if_pos h4, s_X3_timesLength_bL, if_pos h4]⟩ (by decide) (by decide) dX3_timesLength_70
  have K1_1 : f_X3_timesLength_j1 p1 p2 p3 = 1 → ZW p l e { frames := 3, cells := 0, slots := 0, locals := 76 } s m args below meth c 4 D (zTys cI cJ) A (zE D (zTys cI cJ) A below args s (fun v w => v = some (.long (f_X3_timesLength sL bL p1 p2 p3)) ∧ w = (wM cI cJ z (s_X3_timesLength_co sL bL p1 p2 p3) d ti (s_X3_timesLength_sL sL bL p1 p2 p3) (s_X3_timesLength_bL sL bL p1 p2 p3) mD mT sy sm sd mi yr mo dy X)) (fun _ _ => False) 0 0) 0 0 (wM cI cJ z co d ti sL bL mD mT sy sm sd mi yr mo dy X) 38 [(0, .ref (z 0)), (1, .int p1), (2, .int p2), (3, .int p3)] [.int 1, .ref (z 0)] := by
    intro h8
    refine z_wi (ws' := (wM cI cJ z (s_X3_fails_co 1) d ti sL bL mD mT sy sm sd mi yr mo dy X)) (rest := []) (ci := 3) (q0 := 0) C (c_X3_fails l hfl D cI cJ X z co d ti sL bL mD mT sy sm sd mi yr mo dy (1 : Int32) ) q_X3_fails rfl rfl rfl gX3_timesLength_X3_fails ⟨rfl, rfl⟩ rfl rfl (Nat.le_of_ble_eq_true rfl) ⟨Nat.le_of_ble_eq_true rfl, Nat.le_of_ble_eq_true rfl⟩ ⟨Nat.le_of_ble_eq_true rfl, Nat.le_of_ble_eq_true rfl⟩ dX3_timesLength_38 ?_
    refine z_eqst (st' := [.int 1]) (congrArg (fun v => Value.int v :: _) (by decide : (f_X3_fails 1) = (1 : Int32))) ?_
    refine z_if_eq (tgt := 46) C dX3_timesLength_41 (by decide) (fun h => absurd h (by decide)) (fun _ => ?_)
    refine z_lconst (v := 0) C dX3_timesLength_44 (by decide) ?_
    exact z_lret C ⟨congrArg (fun v => some (Value.long v)) (by rw [f_X3_timesLength, if_neg (by rw [h8]; decide : ¬ f_X3_timesLength_j1 p1 p2 p3 = 0), if_pos h8] : (0 : Int64) = (f_X3_timesLength sL bL p1 p2 p3)), by rw [s_X3_timesLength_co, if_neg (by rw [h8]; decide : ¬ f_X3_timesLength_j1 p1 p2 p3 = 0), if_pos h8, s_X3_timesLength_sL, if_neg (by rw [h8]; decide : ¬ f_X3_timesLength_j1 p1 p2 p3 = 0), if_pos h8, s_X3_timesLength_bL, if_neg (by rw [h8]; decide : ¬ f_X3_timesLength_j1 p1 p2 p3 = 0), if_pos h8]⟩ (by decide) (by decide) dX3_timesLength_45
  have K1_2 : f_X3_timesLength_j1 p1 p2 p3 = 2 → ((f_X3_in ((p2).toInt64) (-1000) 1000) = 0) → (¬ (f_X3_isSlot p1) = 0) → (¬ (f_X3_isSlot p3) = 0) → ZW p l e { frames := 3, cells := 0, slots := 0, locals := 76 } s m args below meth c 4 D (zTys cI cJ) A (zE D (zTys cI cJ) A below args s (fun v w => v = some (.long (f_X3_timesLength sL bL p1 p2 p3)) ∧ w = (wM cI cJ z (s_X3_timesLength_co sL bL p1 p2 p3) d ti (s_X3_timesLength_sL sL bL p1 p2 p3) (s_X3_timesLength_bL sL bL p1 p2 p3) mD mT sy sm sd mi yr mo dy X)) (fun _ _ => False) 0 0) 0 0 (wM cI cJ z co d ti sL bL mD mT sy sm sd mi yr mo dy X) 38 [(0, .ref (z 0)), (1, .int p1), (2, .int p2), (3, .int p3)] [.int 2, .ref (z 0)] := by
    intro h9 h10 h11 h12
    refine z_wi (ws' := (wM cI cJ z (s_X3_fails_co 2) d ti sL bL mD mT sy sm sd mi yr mo dy X)) (rest := []) (ci := 3) (q0 := 0) C (c_X3_fails l hfl D cI cJ X z co d ti sL bL mD mT sy sm sd mi yr mo dy (2 : Int32) ) q_X3_fails rfl rfl rfl gX3_timesLength_X3_fails ⟨rfl, rfl⟩ rfl rfl (Nat.le_of_ble_eq_true rfl) ⟨Nat.le_of_ble_eq_true rfl, Nat.le_of_ble_eq_true rfl⟩ ⟨Nat.le_of_ble_eq_true rfl, Nat.le_of_ble_eq_true rfl⟩ dX3_timesLength_38 ?_
    refine z_eqst (st' := [.int 1]) (congrArg (fun v => Value.int v :: _) (by decide : (f_X3_fails 2) = (1 : Int32))) ?_
    refine z_if_eq (tgt := 46) C dX3_timesLength_41 (by decide) (fun h => absurd h (by decide)) (fun _ => ?_)
    refine z_lconst (v := 0) C dX3_timesLength_44 (by decide) ?_
    exact z_lret C ⟨congrArg (fun v => some (Value.long v)) (by rw [f_X3_timesLength, if_neg (by rw [h9]; decide : ¬ f_X3_timesLength_j1 p1 p2 p3 = 0), if_neg (by rw [h9]; decide : ¬ f_X3_timesLength_j1 p1 p2 p3 = 1)] : (0 : Int64) = (f_X3_timesLength sL bL p1 p2 p3)), by rw [s_X3_timesLength_co, if_neg (by rw [h9]; decide : ¬ f_X3_timesLength_j1 p1 p2 p3 = 0), if_neg (by rw [h9]; decide : ¬ f_X3_timesLength_j1 p1 p2 p3 = 1), s_X3_timesLength_sL, if_neg (by rw [h9]; decide : ¬ f_X3_timesLength_j1 p1 p2 p3 = 0), if_neg (by rw [h9]; decide : ¬ f_X3_timesLength_j1 p1 p2 p3 = 1), s_X3_timesLength_bL, if_neg (by rw [h9]; decide : ¬ f_X3_timesLength_j1 p1 p2 p3 = 0), if_neg (by rw [h9]; decide : ¬ f_X3_timesLength_j1 p1 p2 p3 = 1)]⟩ (by decide) (by decide) dX3_timesLength_45
  refine z_if_eq (tgt := 15) C dX3_timesLength_5 (by decide) (fun h1 => ?_) (fun h1 => ?_)
  · refine z_iconst (v := 1) C dX3_timesLength_15 (by decide) ?_
    refine z_goto (tgt := 38) C dX3_timesLength_16 (by decide) ?_
    exact K1_1 (by rw [f_X3_timesLength_j1, if_pos h1]) 
  · refine z_iload_n C dX3_timesLength_8 rfl 3 rfl ?_
    refine z_si (rest := [.ref (z 0)]) C (c_X3_isSlot l hfl D cI cJ _ p3 ) q_X3_isSlot gX3_timesLength_X3_isSlot ⟨rfl, rfl⟩ rfl rfl (Nat.le_of_ble_eq_true rfl) ⟨Nat.le_of_ble_eq_true rfl, Nat.le_of_ble_eq_true rfl⟩ ⟨Nat.le_of_ble_eq_true rfl, Nat.le_of_ble_eq_true rfl⟩ dX3_timesLength_9 ?_
    refine z_if_ne (tgt := 19) C dX3_timesLength_12 (by decide) (fun h2 => ?_) (fun h2 => ?_)
    · refine z_iload_n C dX3_timesLength_19 rfl 2 rfl ?_
      refine z_i2l (v := (p2).toInt64) C dX3_timesLength_20 rfl ?_
      refine z_ldc2 (v := (-1000)) C w1 dX3_timesLength_21 ?_
      refine z_ldc2 (v := 1000) C w2 dX3_timesLength_24 ?_
      refine z_si (rest := [.ref (z 0)]) C (c_X3_in l hfl D cI cJ _ ((p2).toInt64) ((-1000) : Int64) (1000 : Int64) ) q_X3_in gX3_timesLength_X3_in ⟨rfl, rfl⟩ rfl rfl (Nat.le_of_ble_eq_true rfl) ⟨Nat.le_of_ble_eq_true rfl, Nat.le_of_ble_eq_true rfl⟩ ⟨Nat.le_of_ble_eq_true rfl, Nat.le_of_ble_eq_true rfl⟩ dX3_timesLength_27 ?_
      refine z_if_eq (tgt := 37) C dX3_timesLength_30 (by decide) (fun h3 => ?_) (fun h3 => ?_)
      · refine z_iconst (v := 2) C dX3_timesLength_37 (by decide) ?_
        exact K1_2 (by rw [f_X3_timesLength_j1, if_neg h1, if_neg h2, if_pos h3]) h3 h1 h2
      · refine z_iconst (v := 0) C dX3_timesLength_33 (by decide) ?_
        refine z_goto (tgt := 38) C dX3_timesLength_34 (by decide) ?_
        exact K1_0 (by rw [f_X3_timesLength_j1, if_neg h1, if_neg h2, if_neg h3]) h3 h1 h2
    · refine z_iconst (v := 1) C dX3_timesLength_15 (by decide) ?_
      refine z_goto (tgt := 38) C dX3_timesLength_16 (by decide) ?_
      exact K1_1 (by rw [f_X3_timesLength_j1, if_neg h1, if_pos h2]) 
def f_X3_lengthOfTimes_j1 (p1 : Int32) (p2 : Int32) (p3 : Int32) : Int32 := (if (f_X3_isSlot p1) = 0 then 1 else (if (f_X3_isSlot p2) = 0 then 1 else (if (f_X3_isSlot p3) = 0 then 1 else 0)))
def f_X3_lengthOfTimes (ti : Nat → Int64) (p1 : Int32) (p2 : Int32) (p3 : Int32) : Int64 := (if f_X3_lengthOfTimes_j1 p1 p2 p3 = 0 then (f_X3_lasts 0 ((ti p2.toNatClampNeg) - (ti p1.toNatClampNeg)) 2) else 0)
def s_X3_lengthOfTimes_co (ti : Nat → Int64) (p1 : Int32) (p2 : Int32) (p3 : Int32) : Int32 := (if f_X3_lengthOfTimes_j1 p1 p2 p3 = 0 then (s_X3_lasts_co 0 ((ti p2.toNatClampNeg) - (ti p1.toNatClampNeg)) 2) else (s_X3_fails_co 1))
def s_X3_lengthOfTimes_sL (ti : Nat → Int64) (sL : Nat → Int64) (p1 : Int32) (p2 : Int32) (p3 : Int32) : Nat → Int64 := (if f_X3_lengthOfTimes_j1 p1 p2 p3 = 0 then (s_X3_lasts_sL sL p3 0 ((ti p2.toNatClampNeg) - (ti p1.toNatClampNeg)) 2) else sL)
def s_X3_lengthOfTimes_bL (ti : Nat → Int64) (bL : Nat → Int64) (p1 : Int32) (p2 : Int32) (p3 : Int32) : Nat → Int64 := (if f_X3_lengthOfTimes_j1 p1 p2 p3 = 0 then (s_X3_lasts_bL bL p3 0 ((ti p2.toNatClampNeg) - (ti p1.toNatClampNeg)) 2) else bL)
theorem q_X3_lengthOfTimes : ZY yX3_lengthOfTimes wsX3_lengthOfTimes cX3_lengthOfTimes 4 (some .long) 3 := ⟨⟨_, rfl⟩, by decide +kernel, by decide +kernel, by decide +kernel⟩
set_option maxHeartbeats 4000000 in
set_option maxRecDepth 100000 in
theorem c_X3_lengthOfTimes (l : Launch) (hfl : l.stackTraces = false) (D : va_G) (cI cJ : ClassId) (X : va_W) (z : Nat → Nat) (co : Int32) (d : Nat → Int64) (ti : Nat → Int64) (sL : Nat → Int64) (bL : Nat → Int64) (mD : Nat → Int64) (mT : Nat → Int64) (sy : Nat → Int64) (sm : Nat → Int64) (sd : Nat → Int64) (mi : Nat → Int64) (yr : Int64) (mo : Int32) (dy : Int32) (p1 : Int32) (p2 : Int32) (p3 : Int32)  : ZM l yX3_lengthOfTimes wsX3_lengthOfTimes { frames := 3, cells := 0, slots := 0, locals := 76 } [.ref (z 0), .int p1, .int p2, .int p3] D (zTys cI cJ) (wM cI cJ z co d ti sL bL mD mT sy sm sd mi yr mo dy X) 0 0 (fun v w => v = some (.long (f_X3_lengthOfTimes ti p1 p2 p3)) ∧ w = (wM cI cJ z (s_X3_lengthOfTimes_co ti p1 p2 p3) d ti (s_X3_lengthOfTimes_sL ti sL p1 p2 p3) (s_X3_lengthOfTimes_bL ti bL p1 p2 p3) mD mT sy sm sd mi yr mo dy X)) (fun _ _ => False) := by
  refine z_open (own := RX3) hfl (cc := cX3_lengthOfTimes) (maxL := 4) (ret := (some .long)) (lv := [(0, .ref (z 0)), (1, .int p1), (2, .int p2), (3, .int p3)]) rfl (by decide) rfl rfl (Nat.le_of_ble_eq_true rfl) ?_
  intro p e s m args below meth c A C hno hnm hargs
  have hin : ∀ w ∈ wsX30, w ∈ wsX3_lengthOfTimes := by decide +kernel
  have w1 := C.1.2.2.2.2 (.fieldLink RX3 17 "YearwheelModel" "times" "[J") (by decide +kernel)
  refine z_aload_n C dX3_lengthOfTimes_0 rfl 0 rfl ?_
  refine z_iload_n C dX3_lengthOfTimes_1 rfl 1 rfl ?_
  refine z_si (rest := [.ref (z 0)]) C (c_X3_isSlot l hfl D cI cJ _ p1 ) q_X3_isSlot gX3_lengthOfTimes_X3_isSlot ⟨rfl, rfl⟩ rfl rfl (Nat.le_of_ble_eq_true rfl) ⟨Nat.le_of_ble_eq_true rfl, Nat.le_of_ble_eq_true rfl⟩ ⟨Nat.le_of_ble_eq_true rfl, Nat.le_of_ble_eq_true rfl⟩ dX3_lengthOfTimes_2 ?_
  have K1_0 : f_X3_lengthOfTimes_j1 p1 p2 p3 = 0 → (¬ (f_X3_isSlot p1) = 0) → (¬ (f_X3_isSlot p2) = 0) → (¬ (f_X3_isSlot p3) = 0) → ZW p l e { frames := 3, cells := 0, slots := 0, locals := 76 } s m args below meth c 4 D (zTys cI cJ) A (zE D (zTys cI cJ) A below args s (fun v w => v = some (.long (f_X3_lengthOfTimes ti p1 p2 p3)) ∧ w = (wM cI cJ z (s_X3_lengthOfTimes_co ti p1 p2 p3) d ti (s_X3_lengthOfTimes_sL ti sL p1 p2 p3) (s_X3_lengthOfTimes_bL ti bL p1 p2 p3) mD mT sy sm sd mi yr mo dy X)) (fun _ _ => False) 0 0) 0 0 (wM cI cJ z co d ti sL bL mD mT sy sm sd mi yr mo dy X) 27 [(0, .ref (z 0)), (1, .int p1), (2, .int p2), (3, .int p3)] [.int 0, .ref (z 0)] := by
    intro h4 h5 h6 h7
    refine z_wi (ws' := (wM cI cJ z (s_X3_fails_co 0) d ti sL bL mD mT sy sm sd mi yr mo dy X)) (rest := []) (ci := 3) (q0 := 0) C (c_X3_fails l hfl D cI cJ X z co d ti sL bL mD mT sy sm sd mi yr mo dy (0 : Int32) ) q_X3_fails rfl rfl rfl gX3_lengthOfTimes_X3_fails ⟨rfl, rfl⟩ rfl rfl (Nat.le_of_ble_eq_true rfl) ⟨Nat.le_of_ble_eq_true rfl, Nat.le_of_ble_eq_true rfl⟩ ⟨Nat.le_of_ble_eq_true rfl, Nat.le_of_ble_eq_true rfl⟩ dX3_lengthOfTimes_27 ?_
    refine z_eqst (st' := [.int 0]) (congrArg (fun v => Value.int v :: _) (by decide : (f_X3_fails 0) = (0 : Int32))) ?_
    refine z_if_eq (tgt := 37) C dX3_lengthOfTimes_30 (by decide) (fun _ => ?_) (fun h => absurd (by decide) h)
    refine z_aload_n C dX3_lengthOfTimes_37 rfl 0 rfl ?_
    refine z_iload_n C dX3_lengthOfTimes_38 rfl 3 rfl ?_
    refine z_lconst (v := 0) C dX3_lengthOfTimes_39 (by decide) ?_
    refine z_aload_n C dX3_lengthOfTimes_40 rfl 0 rfl ?_
    refine z_get (CC := RX3) (T := TX3) (N := 14) (ci := 3) C hin 0 rfl rfl 2 (by decide) w1 rfl rfl dX3_lengthOfTimes_41 ?_
    refine z_iload_n C dX3_lengthOfTimes_44 rfl 2 rfl ?_
    refine z_lald C 2 1 rfl rfl (vpMSlot h6) dX3_lengthOfTimes_45 ?_
    refine z_aload_n C dX3_lengthOfTimes_46 rfl 0 rfl ?_
    refine z_get (CC := RX3) (T := TX3) (N := 14) (ci := 3) C hin 0 rfl rfl 2 (by decide) w1 rfl rfl dX3_lengthOfTimes_47 ?_
    refine z_iload_n C dX3_lengthOfTimes_50 rfl 1 rfl ?_
    refine z_lald C 2 1 rfl rfl (vpMSlot h5) dX3_lengthOfTimes_51 ?_
    refine z_lsub C dX3_lengthOfTimes_52 ?_
    refine z_iconst (v := 2) C dX3_lengthOfTimes_53 (by decide) ?_
    refine z_wl (ws' := (wM cI cJ z (s_X3_lasts_co 0 ((ti p2.toNatClampNeg) - (ti p1.toNatClampNeg)) 2) d ti (s_X3_lasts_sL sL p3 0 ((ti p2.toNatClampNeg) - (ti p1.toNatClampNeg)) 2) (s_X3_lasts_bL bL p3 0 ((ti p2.toNatClampNeg) - (ti p1.toNatClampNeg)) 2) mD mT sy sm sd mi yr mo dy X)) (rest := []) (ci := 3) (q0 := 0) C (c_X3_lasts l hfl D cI cJ X z (s_X3_fails_co 0) d ti sL bL mD mT sy sm sd mi yr mo dy p3 (0 : Int64) ((ti p2.toNatClampNeg) - (ti p1.toNatClampNeg)) (2 : Int32) (vpMSlot h7)) q_X3_lasts rfl rfl rfl gX3_lengthOfTimes_X3_lasts ⟨rfl, rfl⟩ rfl rfl (Nat.le_of_ble_eq_true rfl) ⟨Nat.le_of_ble_eq_true rfl, Nat.le_of_ble_eq_true rfl⟩ ⟨Nat.le_of_ble_eq_true rfl, Nat.le_of_ble_eq_true rfl⟩ dX3_lengthOfTimes_54 ?_
    exact z_lret C ⟨congrArg (fun v => some (Value.long v)) (by rw [f_X3_lengthOfTimes, if_pos h4] : (f_X3_lasts 0 ((ti p2.toNatClampNeg) - (ti p1.toNatClampNeg)) 2) = (f_X3_lengthOfTimes ti p1 p2 p3)), by rw [s_X3_lengthOfTimes_co, if_pos h4, s_X3_lengthOfTimes_sL, if_pos h4, s_X3_lengthOfTimes_bL, if_pos h4]⟩ (by decide) (by decide) dX3_lengthOfTimes_57
  have K1_1 : f_X3_lengthOfTimes_j1 p1 p2 p3 = 1 → ZW p l e { frames := 3, cells := 0, slots := 0, locals := 76 } s m args below meth c 4 D (zTys cI cJ) A (zE D (zTys cI cJ) A below args s (fun v w => v = some (.long (f_X3_lengthOfTimes ti p1 p2 p3)) ∧ w = (wM cI cJ z (s_X3_lengthOfTimes_co ti p1 p2 p3) d ti (s_X3_lengthOfTimes_sL ti sL p1 p2 p3) (s_X3_lengthOfTimes_bL ti bL p1 p2 p3) mD mT sy sm sd mi yr mo dy X)) (fun _ _ => False) 0 0) 0 0 (wM cI cJ z co d ti sL bL mD mT sy sm sd mi yr mo dy X) 27 [(0, .ref (z 0)), (1, .int p1), (2, .int p2), (3, .int p3)] [.int 1, .ref (z 0)] := by
    intro h8
    refine z_wi (ws' := (wM cI cJ z (s_X3_fails_co 1) d ti sL bL mD mT sy sm sd mi yr mo dy X)) (rest := []) (ci := 3) (q0 := 0) C (c_X3_fails l hfl D cI cJ X z co d ti sL bL mD mT sy sm sd mi yr mo dy (1 : Int32) ) q_X3_fails rfl rfl rfl gX3_lengthOfTimes_X3_fails ⟨rfl, rfl⟩ rfl rfl (Nat.le_of_ble_eq_true rfl) ⟨Nat.le_of_ble_eq_true rfl, Nat.le_of_ble_eq_true rfl⟩ ⟨Nat.le_of_ble_eq_true rfl, Nat.le_of_ble_eq_true rfl⟩ dX3_lengthOfTimes_27 ?_
    refine z_eqst (st' := [.int 1]) (congrArg (fun v => Value.int v :: _) (by decide : (f_X3_fails 1) = (1 : Int32))) ?_
    refine z_if_eq (tgt := 37) C dX3_lengthOfTimes_30 (by decide) (fun h => absurd h (by decide)) (fun _ => ?_)
    refine z_lconst (v := 0) C dX3_lengthOfTimes_33 (by decide) ?_
    refine z_goto (tgt := 57) C dX3_lengthOfTimes_34 (by decide) ?_
    exact z_lret C ⟨congrArg (fun v => some (Value.long v)) (by rw [f_X3_lengthOfTimes, if_neg (by rw [h8]; decide : ¬ f_X3_lengthOfTimes_j1 p1 p2 p3 = 0)] : (0 : Int64) = (f_X3_lengthOfTimes ti p1 p2 p3)), by rw [s_X3_lengthOfTimes_co, if_neg (by rw [h8]; decide : ¬ f_X3_lengthOfTimes_j1 p1 p2 p3 = 0), s_X3_lengthOfTimes_sL, if_neg (by rw [h8]; decide : ¬ f_X3_lengthOfTimes_j1 p1 p2 p3 = 0), s_X3_lengthOfTimes_bL, if_neg (by rw [h8]; decide : ¬ f_X3_lengthOfTimes_j1 p1 p2 p3 = 0)]⟩ (by decide) (by decide) dX3_lengthOfTimes_57
  refine z_if_eq (tgt := 26) C dX3_lengthOfTimes_5 (by decide) (fun h1 => ?_) (fun h1 => ?_)
  · refine z_iconst (v := 1) C dX3_lengthOfTimes_26 (by decide) ?_
    exact K1_1 (by rw [f_X3_lengthOfTimes_j1, if_pos h1]) 
  · refine z_iload_n C dX3_lengthOfTimes_8 rfl 2 rfl ?_
    refine z_si (rest := [.ref (z 0)]) C (c_X3_isSlot l hfl D cI cJ _ p2 ) q_X3_isSlot gX3_lengthOfTimes_X3_isSlot ⟨rfl, rfl⟩ rfl rfl (Nat.le_of_ble_eq_true rfl) ⟨Nat.le_of_ble_eq_true rfl, Nat.le_of_ble_eq_true rfl⟩ ⟨Nat.le_of_ble_eq_true rfl, Nat.le_of_ble_eq_true rfl⟩ dX3_lengthOfTimes_9 ?_
    refine z_if_eq (tgt := 26) C dX3_lengthOfTimes_12 (by decide) (fun h2 => ?_) (fun h2 => ?_)
    · refine z_iconst (v := 1) C dX3_lengthOfTimes_26 (by decide) ?_
      exact K1_1 (by rw [f_X3_lengthOfTimes_j1, if_neg h1, if_pos h2]) 
    · refine z_iload_n C dX3_lengthOfTimes_15 rfl 3 rfl ?_
      refine z_si (rest := [.ref (z 0)]) C (c_X3_isSlot l hfl D cI cJ _ p3 ) q_X3_isSlot gX3_lengthOfTimes_X3_isSlot ⟨rfl, rfl⟩ rfl rfl (Nat.le_of_ble_eq_true rfl) ⟨Nat.le_of_ble_eq_true rfl, Nat.le_of_ble_eq_true rfl⟩ ⟨Nat.le_of_ble_eq_true rfl, Nat.le_of_ble_eq_true rfl⟩ dX3_lengthOfTimes_16 ?_
      refine z_if_eq (tgt := 26) C dX3_lengthOfTimes_19 (by decide) (fun h3 => ?_) (fun h3 => ?_)
      · refine z_iconst (v := 1) C dX3_lengthOfTimes_26 (by decide) ?_
        exact K1_1 (by rw [f_X3_lengthOfTimes_j1, if_neg h1, if_neg h2, if_pos h3]) 
      · refine z_iconst (v := 0) C dX3_lengthOfTimes_22 (by decide) ?_
        refine z_goto (tgt := 27) C dX3_lengthOfTimes_23 (by decide) ?_
        exact K1_0 (by rw [f_X3_lengthOfTimes_j1, if_neg h1, if_neg h2, if_neg h3]) h1 h2 h3
def f_X3_orderLengths_j1 (p1 : Int32) (p2 : Int32) : Int32 := (if (f_X3_isSlot p1) = 0 then 1 else (if (f_X3_isSlot p2) = 0 then 1 else 0))
def f_X3_orderLengths (sL : Nat → Int64) (bL : Nat → Int64) (p1 : Int32) (p2 : Int32) : Int32 := (if f_X3_orderLengths_j1 p1 p2 = 0 then (if (sL p1.toNatClampNeg) = (sL p2.toNatClampNeg) then (f_X3_ordered (bL p1.toNatClampNeg) (bL p2.toNatClampNeg)) else (f_X3_ordered (sL p1.toNatClampNeg) (sL p2.toNatClampNeg))) else 0)
def s_X3_orderLengths_co (sL : Nat → Int64) (p1 : Int32) (p2 : Int32) : Int32 := (if f_X3_orderLengths_j1 p1 p2 = 0 then (if (sL p1.toNatClampNeg) = (sL p2.toNatClampNeg) then (s_X3_fails_co 0) else (s_X3_fails_co 0)) else (s_X3_fails_co 1))
theorem q_X3_orderLengths : ZY yX3_orderLengths wsX3_orderLengths cX3_orderLengths 3 (some .int) 2 := ⟨⟨_, rfl⟩, by decide +kernel, by decide +kernel, by decide +kernel⟩
set_option maxHeartbeats 4000000 in
set_option maxRecDepth 100000 in
theorem c_X3_orderLengths (l : Launch) (hfl : l.stackTraces = false) (D : va_G) (cI cJ : ClassId) (X : va_W) (z : Nat → Nat) (co : Int32) (d : Nat → Int64) (ti : Nat → Int64) (sL : Nat → Int64) (bL : Nat → Int64) (mD : Nat → Int64) (mT : Nat → Int64) (sy : Nat → Int64) (sm : Nat → Int64) (sd : Nat → Int64) (mi : Nat → Int64) (yr : Int64) (mo : Int32) (dy : Int32) (p1 : Int32) (p2 : Int32)  : ZM l yX3_orderLengths wsX3_orderLengths { frames := 2, cells := 0, slots := 0, locals := 45 } [.ref (z 0), .int p1, .int p2] D (zTys cI cJ) (wM cI cJ z co d ti sL bL mD mT sy sm sd mi yr mo dy X) 0 0 (fun v w => v = some (.int (f_X3_orderLengths sL bL p1 p2)) ∧ w = (wM cI cJ z (s_X3_orderLengths_co sL p1 p2) d ti sL bL mD mT sy sm sd mi yr mo dy X)) (fun _ _ => False) := by
  refine z_open (own := RX3) hfl (cc := cX3_orderLengths) (maxL := 3) (ret := (some .int)) (lv := [(0, .ref (z 0)), (1, .int p1), (2, .int p2)]) rfl (by decide) rfl rfl (Nat.le_of_ble_eq_true rfl) ?_
  intro p e s m args below meth c A C hno hnm hargs
  have hin : ∀ w ∈ wsX30, w ∈ wsX3_orderLengths := by decide +kernel
  have w1 := C.1.2.2.2.2 (.fieldLink RX3 20 "YearwheelModel" "seconds" "[J") (by decide +kernel)
  have w2 := C.1.2.2.2.2 (.fieldLink RX3 23 "YearwheelModel" "fines" "[J") (by decide +kernel)
  refine z_aload_n C dX3_orderLengths_0 rfl 0 rfl ?_
  refine z_iload_n C dX3_orderLengths_1 rfl 1 rfl ?_
  refine z_si (rest := [.ref (z 0)]) C (c_X3_isSlot l hfl D cI cJ _ p1 ) q_X3_isSlot gX3_orderLengths_X3_isSlot ⟨rfl, rfl⟩ rfl rfl (Nat.le_of_ble_eq_true rfl) ⟨Nat.le_of_ble_eq_true rfl, Nat.le_of_ble_eq_true rfl⟩ ⟨Nat.le_of_ble_eq_true rfl, Nat.le_of_ble_eq_true rfl⟩ dX3_orderLengths_2 ?_
  have K1_0 : f_X3_orderLengths_j1 p1 p2 = 0 → (¬ (f_X3_isSlot p1) = 0) → (¬ (f_X3_isSlot p2) = 0) → ZW p l e { frames := 2, cells := 0, slots := 0, locals := 45 } s m args below meth c 3 D (zTys cI cJ) A (zE D (zTys cI cJ) A below args s (fun v w => v = some (.int (f_X3_orderLengths sL bL p1 p2)) ∧ w = (wM cI cJ z (s_X3_orderLengths_co sL p1 p2) d ti sL bL mD mT sy sm sd mi yr mo dy X)) (fun _ _ => False) 0 0) 0 0 (wM cI cJ z co d ti sL bL mD mT sy sm sd mi yr mo dy X) 20 [(0, .ref (z 0)), (1, .int p1), (2, .int p2)] [.int 0, .ref (z 0)] := by
    intro h3 h4 h5
    refine z_wi (ws' := (wM cI cJ z (s_X3_fails_co 0) d ti sL bL mD mT sy sm sd mi yr mo dy X)) (rest := []) (ci := 3) (q0 := 0) C (c_X3_fails l hfl D cI cJ X z co d ti sL bL mD mT sy sm sd mi yr mo dy (0 : Int32) ) q_X3_fails rfl rfl rfl gX3_orderLengths_X3_fails ⟨rfl, rfl⟩ rfl rfl (Nat.le_of_ble_eq_true rfl) ⟨Nat.le_of_ble_eq_true rfl, Nat.le_of_ble_eq_true rfl⟩ ⟨Nat.le_of_ble_eq_true rfl, Nat.le_of_ble_eq_true rfl⟩ dX3_orderLengths_20 ?_
    refine z_eqst (st' := [.int 0]) (congrArg (fun v => Value.int v :: _) (by decide : (f_X3_fails 0) = (0 : Int32))) ?_
    refine z_if_eq (tgt := 28) C dX3_orderLengths_23 (by decide) (fun _ => ?_) (fun h => absurd (by decide) h)
    refine z_aload_n C dX3_orderLengths_28 rfl 0 rfl ?_
    refine z_get (CC := RX3) (T := TX3) (N := 14) (ci := 3) C hin 0 rfl rfl 3 (by decide) w1 rfl rfl dX3_orderLengths_29 ?_
    refine z_iload_n C dX3_orderLengths_32 rfl 1 rfl ?_
    refine z_lald C 3 1 rfl rfl (vpMSlot h4) dX3_orderLengths_33 ?_
    refine z_aload_n C dX3_orderLengths_34 rfl 0 rfl ?_
    refine z_get (CC := RX3) (T := TX3) (N := 14) (ci := 3) C hin 0 rfl rfl 3 (by decide) w1 rfl rfl dX3_orderLengths_35 ?_
    refine z_iload_n C dX3_orderLengths_38 rfl 2 rfl ?_
    refine z_lald C 3 1 rfl rfl (vpMSlot h5) dX3_orderLengths_39 ?_
    refine z_lcmp_eq (tgt := 62) C dX3_orderLengths_40 dX3_orderLengths_41 (by decide) (fun h6 => ?_) (fun h6 => ?_)
    · refine z_aload_n C dX3_orderLengths_62 rfl 0 rfl ?_
      refine z_get (CC := RX3) (T := TX3) (N := 14) (ci := 3) C hin 0 rfl rfl 4 (by decide) w2 rfl rfl dX3_orderLengths_63 ?_
      refine z_iload_n C dX3_orderLengths_66 rfl 1 rfl ?_
      refine z_lald C 4 1 rfl rfl (vpMSlot h4) dX3_orderLengths_67 ?_
      refine z_aload_n C dX3_orderLengths_68 rfl 0 rfl ?_
      refine z_get (CC := RX3) (T := TX3) (N := 14) (ci := 3) C hin 0 rfl rfl 4 (by decide) w2 rfl rfl dX3_orderLengths_69 ?_
      refine z_iload_n C dX3_orderLengths_72 rfl 2 rfl ?_
      refine z_lald C 4 1 rfl rfl (vpMSlot h5) dX3_orderLengths_73 ?_
      refine z_si (rest := []) C (c_X3_ordered l hfl D cI cJ _ (bL p1.toNatClampNeg) (bL p2.toNatClampNeg) ) q_X3_ordered gX3_orderLengths_X3_ordered ⟨rfl, rfl⟩ rfl rfl (Nat.le_of_ble_eq_true rfl) ⟨Nat.le_of_ble_eq_true rfl, Nat.le_of_ble_eq_true rfl⟩ ⟨Nat.le_of_ble_eq_true rfl, Nat.le_of_ble_eq_true rfl⟩ dX3_orderLengths_74 ?_
      exact z_iret C ⟨congrArg (fun v => some (Value.int v)) (by rw [f_X3_orderLengths, if_pos h3, if_pos h6] : (f_X3_ordered (bL p1.toNatClampNeg) (bL p2.toNatClampNeg)) = (f_X3_orderLengths sL bL p1 p2)), by rw [s_X3_orderLengths_co, if_pos h3, if_pos h6]⟩ (by decide) (by decide) dX3_orderLengths_77
    · refine z_aload_n C dX3_orderLengths_44 rfl 0 rfl ?_
      refine z_get (CC := RX3) (T := TX3) (N := 14) (ci := 3) C hin 0 rfl rfl 3 (by decide) w1 rfl rfl dX3_orderLengths_45 ?_
      refine z_iload_n C dX3_orderLengths_48 rfl 1 rfl ?_
      refine z_lald C 3 1 rfl rfl (vpMSlot h4) dX3_orderLengths_49 ?_
      refine z_aload_n C dX3_orderLengths_50 rfl 0 rfl ?_
      refine z_get (CC := RX3) (T := TX3) (N := 14) (ci := 3) C hin 0 rfl rfl 3 (by decide) w1 rfl rfl dX3_orderLengths_51 ?_
      refine z_iload_n C dX3_orderLengths_54 rfl 2 rfl ?_
      refine z_lald C 3 1 rfl rfl (vpMSlot h5) dX3_orderLengths_55 ?_
      refine z_si (rest := []) C (c_X3_ordered l hfl D cI cJ _ (sL p1.toNatClampNeg) (sL p2.toNatClampNeg) ) q_X3_ordered gX3_orderLengths_X3_ordered ⟨rfl, rfl⟩ rfl rfl (Nat.le_of_ble_eq_true rfl) ⟨Nat.le_of_ble_eq_true rfl, Nat.le_of_ble_eq_true rfl⟩ ⟨Nat.le_of_ble_eq_true rfl, Nat.le_of_ble_eq_true rfl⟩ dX3_orderLengths_56 ?_
      refine z_goto (tgt := 77) C dX3_orderLengths_59 (by decide) ?_
      exact z_iret C ⟨congrArg (fun v => some (Value.int v)) (by rw [f_X3_orderLengths, if_pos h3, if_neg h6] : (f_X3_ordered (sL p1.toNatClampNeg) (sL p2.toNatClampNeg)) = (f_X3_orderLengths sL bL p1 p2)), by rw [s_X3_orderLengths_co, if_pos h3, if_neg h6]⟩ (by decide) (by decide) dX3_orderLengths_77
  have K1_1 : f_X3_orderLengths_j1 p1 p2 = 1 → ZW p l e { frames := 2, cells := 0, slots := 0, locals := 45 } s m args below meth c 3 D (zTys cI cJ) A (zE D (zTys cI cJ) A below args s (fun v w => v = some (.int (f_X3_orderLengths sL bL p1 p2)) ∧ w = (wM cI cJ z (s_X3_orderLengths_co sL p1 p2) d ti sL bL mD mT sy sm sd mi yr mo dy X)) (fun _ _ => False) 0 0) 0 0 (wM cI cJ z co d ti sL bL mD mT sy sm sd mi yr mo dy X) 20 [(0, .ref (z 0)), (1, .int p1), (2, .int p2)] [.int 1, .ref (z 0)] := by
    intro h7
    refine z_wi (ws' := (wM cI cJ z (s_X3_fails_co 1) d ti sL bL mD mT sy sm sd mi yr mo dy X)) (rest := []) (ci := 3) (q0 := 0) C (c_X3_fails l hfl D cI cJ X z co d ti sL bL mD mT sy sm sd mi yr mo dy (1 : Int32) ) q_X3_fails rfl rfl rfl gX3_orderLengths_X3_fails ⟨rfl, rfl⟩ rfl rfl (Nat.le_of_ble_eq_true rfl) ⟨Nat.le_of_ble_eq_true rfl, Nat.le_of_ble_eq_true rfl⟩ ⟨Nat.le_of_ble_eq_true rfl, Nat.le_of_ble_eq_true rfl⟩ dX3_orderLengths_20 ?_
    refine z_eqst (st' := [.int 1]) (congrArg (fun v => Value.int v :: _) (by decide : (f_X3_fails 1) = (1 : Int32))) ?_
    refine z_if_eq (tgt := 28) C dX3_orderLengths_23 (by decide) (fun h => absurd h (by decide)) (fun _ => ?_)
    refine z_iconst (v := 0) C dX3_orderLengths_26 (by decide) ?_
    exact z_iret C ⟨congrArg (fun v => some (Value.int v)) (by rw [f_X3_orderLengths, if_neg (by rw [h7]; decide : ¬ f_X3_orderLengths_j1 p1 p2 = 0)] : (0 : Int32) = (f_X3_orderLengths sL bL p1 p2)), by rw [s_X3_orderLengths_co, if_neg (by rw [h7]; decide : ¬ f_X3_orderLengths_j1 p1 p2 = 0)]⟩ (by decide) (by decide) dX3_orderLengths_27
  refine z_if_eq (tgt := 19) C dX3_orderLengths_5 (by decide) (fun h1 => ?_) (fun h1 => ?_)
  · refine z_iconst (v := 1) C dX3_orderLengths_19 (by decide) ?_
    exact K1_1 (by rw [f_X3_orderLengths_j1, if_pos h1]) 
  · refine z_iload_n C dX3_orderLengths_8 rfl 2 rfl ?_
    refine z_si (rest := [.ref (z 0)]) C (c_X3_isSlot l hfl D cI cJ _ p2 ) q_X3_isSlot gX3_orderLengths_X3_isSlot ⟨rfl, rfl⟩ rfl rfl (Nat.le_of_ble_eq_true rfl) ⟨Nat.le_of_ble_eq_true rfl, Nat.le_of_ble_eq_true rfl⟩ ⟨Nat.le_of_ble_eq_true rfl, Nat.le_of_ble_eq_true rfl⟩ dX3_orderLengths_9 ?_
    refine z_if_eq (tgt := 19) C dX3_orderLengths_12 (by decide) (fun h2 => ?_) (fun h2 => ?_)
    · refine z_iconst (v := 1) C dX3_orderLengths_19 (by decide) ?_
      exact K1_1 (by rw [f_X3_orderLengths_j1, if_neg h1, if_pos h2]) 
    · refine z_iconst (v := 0) C dX3_orderLengths_15 (by decide) ?_
      refine z_goto (tgt := 20) C dX3_orderLengths_16 (by decide) ?_
      exact K1_0 (by rw [f_X3_orderLengths_j1, if_neg h1, if_neg h2]) h1 h2
