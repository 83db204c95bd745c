def f_X3_date_j1 (p1 : Int32) (p2 : Int32) (p3 : Int32) (p4 : Int32) : Int32 := (if (f_X3_isDate p1) = 0 then 1 else (if (f_X3_isYear ((p2).toInt64)) = 0 then 2 else (if (f_X3_in ((p3).toInt64) 1 12) = 0 then 2 else (if (f_X3_in ((p4).toInt64) 1 (((f_X3_many ((p2).toInt64) p3)).toInt64)) = 0 then 2 else 0))))
def f_X3_date (d : Nat → Int64) (p1 : Int32) (p2 : Int32) (p3 : Int32) (p4 : Int32) : Int64 := (if f_X3_date_j1 p1 p2 p3 p4 = 0 then ((vp_updL d p1.toNatClampNeg (f_X3_number ((p2).toInt64) p3 p4)) p1.toNatClampNeg) else (if f_X3_date_j1 p1 p2 p3 p4 = 1 then 0 else 0))
def s_X3_date_co (p1 : Int32) (p2 : Int32) (p3 : Int32) (p4 : Int32) : Int32 := (if f_X3_date_j1 p1 p2 p3 p4 = 0 then (s_X3_fails_co 0) else (if f_X3_date_j1 p1 p2 p3 p4 = 1 then (s_X3_fails_co 1) else (s_X3_fails_co 2)))
def s_X3_date_d (d : Nat → Int64) (p1 : Int32) (p2 : Int32) (p3 : Int32) (p4 : Int32) : Nat → Int64 := (if f_X3_date_j1 p1 p2 p3 p4 = 0 then (vp_updL d p1.toNatClampNeg (f_X3_number ((p2).toInt64) p3 p4)) else (if f_X3_date_j1 p1 p2 p3 p4 = 1 then d else d))
def pre_X3_date (p1 : Int32) (p2 : Int32) (p3 : Int32) (p4 : Int32) : Prop := (((f_X3_date_j1 p1 p2 p3 p4) = 0) → (¬ (f_X3_in ((p3).toInt64) 1 12) = 0) → (¬ (f_X3_in ((p4).toInt64) 1 (((f_X3_many ((p2).toInt64) p3)).toInt64)) = 0) → (¬ (f_X3_isDate p1) = 0) → (¬ (f_X3_isYear ((p2).toInt64)) = 0) → (p3 ≤ 12))
theorem q_X3_date : ZY yX3_date wsX3_date cX3_date 5 (some .long) 4 := ⟨⟨_, rfl⟩, by decide +kernel, by decide +kernel, by decide +kernel⟩
set_option maxHeartbeats 4000000 in
set_option maxRecDepth 100000 in
theorem c_X3_date (l : Launch) (hfl : l.stackTraces = false) (D : va_G) (cI cJ : ClassId) (X : va_W) (z : Nat → Nat) (co : Int32) (d : Nat → Int64) (ti : Nat → Int64) (sL : Nat → Int64) (bL : Nat → Int64) (mD : Nat → Int64) (mT : Nat → Int64) (sy : Nat → Int64) (sm : Nat → Int64) (sd : Nat → Int64) (mi : Nat → Int64) (yr : Int64) (mo : Int32) (dy : Int32) (p1 : Int32) (p2 : Int32) (p3 : Int32) (p4 : Int32)  (h_g : pre_X3_date p1 p2 p3 p4) : ZM l yX3_date wsX3_date { frames := 5, cells := 0, slots := 0, locals := 115 } [.ref (z 0), .int p1, .int p2, .int p3, .int p4] D (zTys cI cJ) (wM cI cJ z co d ti sL bL mD mT sy sm sd mi yr mo dy X) 0 0 (fun v w => v = some (.long (f_X3_date d p1 p2 p3 p4)) ∧ w = (wM cI cJ z (s_X3_date_co p1 p2 p3 p4) (s_X3_date_d d p1 p2 p3 p4) ti sL bL mD mT sy sm sd mi yr mo dy X)) (fun _ _ => False) := by
  refine z_open (own := RX3) hfl (cc := cX3_date) (maxL := 5) (ret := (some .long)) (lv := [(0, .ref (z 0)), (1, .int p1), (2, .int p2), (3, .int p3), (4, .int p4)]) rfl (by decide) rfl rfl (Nat.le_of_ble_eq_true rfl) ?_
  intro p e s m args below meth c A C hno hnm hargs
  have hin : ∀ w ∈ wsX30, w ∈ wsX3_date := by decide +kernel
  have w1 := C.1.2.2.2.2 (.constantLong RX3 113 (12)) (by decide +kernel)
  have w2 := C.1.2.2.2.2 (.fieldLink RX3 13 "YearwheelModel" "dates" "[J") (by decide +kernel)
  have g_0 := h_g
  refine z_aload_n C dX3_date_0 rfl 0 rfl ?_
  refine z_iload_n C dX3_date_1 rfl 1 rfl ?_
  refine z_si (rest := [.ref (z 0)]) C (c_X3_isDate l hfl D cI cJ _ p1 ) q_X3_isDate gX3_date_X3_isDate ⟨rfl, rfl⟩ rfl rfl (Nat.le_of_ble_eq_true rfl) ⟨Nat.le_of_ble_eq_true rfl, Nat.le_of_ble_eq_true rfl⟩ ⟨Nat.le_of_ble_eq_true rfl, Nat.le_of_ble_eq_true rfl⟩ dX3_date_2 ?_
  have K1_0 : f_X3_date_j1 p1 p2 p3 p4 = 0 → (¬ (f_X3_in ((p3).toInt64) 1 12) = 0) → (¬ (f_X3_in ((p4).toInt64) 1 (((f_X3_many ((p2).toInt64) p3)).toInt64)) = 0) → (¬ (f_X3_isDate p1) = 0) → (¬ (f_X3_isYear ((p2).toInt64)) = 0) → ZW p l e { frames := 5, cells := 0, slots := 0, locals := 115 } s m args below meth c 5 D (zTys cI cJ) A (zE D (zTys cI cJ) A below args s (fun v w => v = some (.long (f_X3_date d p1 p2 p3 p4)) ∧ w = (wM cI cJ z (s_X3_date_co p1 p2 p3 p4) (s_X3_date_d d p1 p2 p3 p4) ti sL bL mD mT sy sm sd mi yr mo dy X)) (fun _ _ => False) 0 0) 0 0 (wM cI cJ z co d ti sL bL mD mT sy sm sd mi yr mo dy X) 70 [(0, .ref (z 0)), (1, .int p1), (2, .int p2), (3, .int p3), (4, .int p4)] [.int 0, .ref (z 0)] := by
    intro h5 h6 h7 h8 h9
    refine z_wi (ws' := (wM cI cJ z (s_X3_fails_co 0) d ti sL bL mD mT sy sm sd mi yr mo dy X)) (rest := []) (ci := 3) (q0 := 0) C (c_X3_fails l hfl D cI cJ X z co d ti sL bL mD mT sy sm sd mi yr mo dy (0 : Int32) ) q_X3_fails rfl rfl rfl gX3_date_X3_fails ⟨rfl, rfl⟩ rfl rfl (Nat.le_of_ble_eq_true rfl) ⟨Nat.le_of_ble_eq_true rfl, Nat.le_of_ble_eq_true rfl⟩ ⟨Nat.le_of_ble_eq_true rfl, Nat.le_of_ble_eq_true rfl⟩ dX3_date_70 ?_
    refine z_eqst (st' := [.int 0]) (congrArg (fun v => Value.int v :: _) (by decide : (f_X3_fails 0) = (0 : Int32))) ?_
    refine z_if_eq (tgt := 78) C dX3_date_73 (by decide) (fun _ => ?_) (fun h => absurd (by decide) h)
    refine z_aload_n C dX3_date_78 rfl 0 rfl ?_
    refine z_get (CC := RX3) (T := TX3) (N := 14) (ci := 3) C hin 0 rfl rfl 1 (by decide) w2 rfl rfl dX3_date_79 ?_
    refine z_iload_n C dX3_date_82 rfl 1 rfl ?_
    refine z_iload_n C dX3_date_83 rfl 2 rfl ?_
    refine z_i2l (v := (p2).toInt64) C dX3_date_84 rfl ?_
    refine z_iload_n C dX3_date_85 rfl 3 rfl ?_
    refine z_iload C dX3_date_86 4 rfl ?_
    refine z_sl (rest := [.int p1, .ref (z 1)]) C (c_X3_number l hfl D cI cJ _ ((p2).toInt64) p3 p4 (g_0 h5 h6 h7 h8 h9)) q_X3_number gX3_date_X3_number ⟨rfl, rfl⟩ rfl rfl (Nat.le_of_ble_eq_true rfl) ⟨Nat.le_of_ble_eq_true rfl, Nat.le_of_ble_eq_true rfl⟩ ⟨Nat.le_of_ble_eq_true rfl, Nat.le_of_ble_eq_true rfl⟩ dX3_date_88 ?_
    refine z_last C 1 1 rfl rfl (vpMDate h8) (ws' := (wM cI cJ z (s_X3_fails_co 0) (vp_updL d p1.toNatClampNeg (f_X3_number ((p2).toInt64) p3 p4)) ti sL bL mD mT sy sm sd mi yr mo dy X)) rfl dX3_date_91 ?_
    refine z_aload_n C dX3_date_92 rfl 0 rfl ?_
    refine z_get (CC := RX3) (T := TX3) (N := 14) (ci := 3) C hin 0 rfl rfl 1 (by decide) w2 rfl rfl dX3_date_93 ?_
    refine z_iload_n C dX3_date_96 rfl 1 rfl ?_
    refine z_lald C 1 1 rfl rfl (vpMDate h8) dX3_date_97 ?_
    exact z_lret C ⟨congrArg (fun v => some (Value.long v)) (by rw [f_X3_date, if_pos h5] : ((vp_updL d p1.toNatClampNeg (f_X3_number ((p2).toInt64) p3 p4)) p1.toNatClampNeg) = (f_X3_date d p1 p2 p3 p4)), by rw [s_X3_date_co, if_pos h5, s_X3_date_d, if_pos h5]⟩ (by decide) (by decide) dX3_date_98
  have K1_1 : f_X3_date_j1 p1 p2 p3 p4 = 1 → ((f_X3_isDate p1) = 0) → ZW p l e { frames := 5, cells := 0, slots := 0, locals := 115 } s m args below meth c 5 D (zTys cI cJ) A (zE D (zTys cI cJ) A below args s (fun v w => v = some (.long (f_X3_date d p1 p2 p3 p4)) ∧ w = (wM cI cJ z (s_X3_date_co p1 p2 p3 p4) (s_X3_date_d d p1 p2 p3 p4) ti sL bL mD mT sy sm sd mi yr mo dy X)) (fun _ _ => False) 0 0) 0 0 (wM cI cJ z co d ti sL bL mD mT sy sm sd mi yr mo dy X) 70 [(0, .ref (z 0)), (1, .int p1), (2, .int p2), (3, .int p3), (4, .int p4)] [.int 1, .ref (z 0)] := by
    intro h10 h11
    refine z_wi (ws' := (wM cI cJ z (s_X3_fails_co 1) d ti sL bL mD mT sy sm sd mi yr mo dy X)) (rest := []) (ci := 3) (q0 := 0) C (c_X3_fails l hfl D cI cJ X z co d ti sL bL mD mT sy sm sd mi yr mo dy (1 : Int32) ) q_X3_fails rfl rfl rfl gX3_date_X3_fails ⟨rfl, rfl⟩ rfl rfl (Nat.le_of_ble_eq_true rfl) ⟨Nat.le_of_ble_eq_true rfl, Nat.le_of_ble_eq_true rfl⟩ ⟨Nat.le_of_ble_eq_true rfl, Nat.le_of_ble_eq_true rfl⟩ dX3_date_70 ?_
    refine z_eqst (st' := [.int 1]) (congrArg (fun v => Value.int v :: _) (by decide : (f_X3_fails 1) = (1 : Int32))) ?_
    refine z_if_eq (tgt := 78) C dX3_date_73 (by decide) (fun h => absurd h (by decide)) (fun _ => ?_)
    refine z_lconst (v := 0) C dX3_date_76 (by decide) ?_
    exact z_lret C ⟨congrArg (fun v => some (Value.long v)) (by rw [f_X3_date, if_neg (by rw [h10]; decide : ¬ f_X3_date_j1 p1 p2 p3 p4 = 0), if_pos h10] : (0 : Int64) = (f_X3_date d p1 p2 p3 p4)), by rw [s_X3_date_co, if_neg (by rw [h10]; decide : ¬ f_X3_date_j1 p1 p2 p3 p4 = 0), if_pos h10, s_X3_date_d, if_neg (by rw [h10]; decide : ¬ f_X3_date_j1 p1 p2 p3 p4 = 0), if_pos h10]⟩ (by decide) (by decide) dX3_date_77
  have K1_2 : f_X3_date_j1 p1 p2 p3 p4 = 2 → (¬ (f_X3_isDate p1) = 0) → ZW p l e { frames := 5, cells := 0, slots := 0, locals := 115 } s m args below meth c 5 D (zTys cI cJ) A (zE D (zTys cI cJ) A below args s (fun v w => v = some (.long (f_X3_date d p1 p2 p3 p4)) ∧ w = (wM cI cJ z (s_X3_date_co p1 p2 p3 p4) (s_X3_date_d d p1 p2 p3 p4) ti sL bL mD mT sy sm sd mi yr mo dy X)) (fun _ _ => False) 0 0) 0 0 (wM cI cJ z co d ti sL bL mD mT sy sm sd mi yr mo dy X) 70 [(0, .ref (z 0)), (1, .int p1), (2, .int p2), (3, .int p3), (4, .int p4)] [.int 2, .ref (z 0)] := by
    intro h12 h13
    refine z_wi (ws' := (wM cI cJ z (s_X3_fails_co 2) d ti sL bL mD mT sy sm sd mi yr mo dy X)) (rest := []) (ci := 3) (q0 := 0) C (c_X3_fails l hfl D cI cJ X z co d ti sL bL mD mT sy sm sd mi yr mo dy (2 : Int32) ) q_X3_fails rfl rfl rfl gX3_date_X3_fails ⟨rfl, rfl⟩ rfl rfl (Nat.le_of_ble_eq_true rfl) ⟨Nat.le_of_ble_eq_true rfl, Nat.le_of_ble_eq_true rfl⟩ ⟨Nat.le_of_ble_eq_true rfl, Nat.le_of_ble_eq_true rfl⟩ dX3_date_70 ?_
    refine z_eqst (st' := [.int 1]) (congrArg (fun v => Value.int v :: _) (by decide : (f_X3_fails 2) = (1 : Int32))) ?_
    refine z_if_eq (tgt := 78) C dX3_date_73 (by decide) (fun h => absurd h (by decide)) (fun _ => ?_)
    refine z_lconst (v := 0) C dX3_date_76 (by decide) ?_
    exact z_lret C ⟨congrArg (fun v => some (Value.long v)) (by rw [f_X3_date, if_neg (by rw [h12]; decide : ¬ f_X3_date_j1 p1 p2 p3 p4 = 0), if_neg (by rw [h12]; decide : ¬ f_X3_date_j1 p1 p2 p3 p4 = 1)] : (0 : Int64) = (f_X3_date d p1 p2 p3 p4)), by rw [s_X3_date_co, if_neg (by rw [h12]; decide : ¬ f_X3_date_j1 p1 p2 p3 p4 = 0), if_neg (by rw [h12]; decide : ¬ f_X3_date_j1 p1 p2 p3 p4 = 1), s_X3_date_d, if_neg (by rw [h12]; decide : ¬ f_X3_date_j1 p1 p2 p3 p4 = 0), if_neg (by rw [h12]; decide : ¬ f_X3_date_j1 p1 p2 p3 p4 = 1)]⟩ (by decide) (by decide) dX3_date_77
  refine z_if_ne (tgt := 12) C dX3_date_5 (by decide) (fun h1 => ?_) (fun h1 => ?_)
  · refine z_iload_n C dX3_date_12 rfl 2 rfl ?_
    refine z_i2l (v := (p2).toInt64) C dX3_date_13 rfl ?_
    refine z_si (rest := [.ref (z 0)]) C (c_X3_isYear l hfl D cI cJ _ ((p2).toInt64) ) q_X3_isYear gX3_date_X3_isYear ⟨rfl, rfl⟩ rfl rfl (Nat.le_of_ble_eq_true rfl) ⟨Nat.le_of_ble_eq_true rfl, Nat.le_of_ble_eq_true rfl⟩ ⟨Nat.le_of_ble_eq_true rfl, Nat.le_of_ble_eq_true rfl⟩ dX3_date_14 ?_
    refine z_if_eq (tgt := 69) C dX3_date_17 (by decide) (fun h2 => ?_) (fun h2 => ?_)
    · refine z_iconst (v := 2) C dX3_date_69 (by decide) ?_
      exact K1_2 (by rw [f_X3_date_j1, if_neg h1, if_pos h2]) h1
    · refine z_iload_n C dX3_date_20 rfl 3 rfl ?_
      refine z_i2l (v := (p3).toInt64) C dX3_date_21 rfl ?_
      refine z_lconst (v := 1) C dX3_date_22 (by decide) ?_
      refine z_ldc2 (v := 12) C w1 dX3_date_23 ?_
      refine z_si (rest := [.ref (z 0)]) C (c_X3_in l hfl D cI cJ _ ((p3).toInt64) (1 : Int64) (12 : Int64) ) q_X3_in gX3_date_X3_in ⟨rfl, rfl⟩ rfl rfl (Nat.le_of_ble_eq_true rfl) ⟨Nat.le_of_ble_eq_true rfl, Nat.le_of_ble_eq_true rfl⟩ ⟨Nat.le_of_ble_eq_true rfl, Nat.le_of_ble_eq_true rfl⟩ dX3_date_26 ?_
      refine z_if_eq (tgt := 69) C dX3_date_29 (by decide) (fun h3 => ?_) (fun h3 => ?_)
      · refine z_iconst (v := 2) C dX3_date_69 (by decide) ?_
        exact K1_2 (by rw [f_X3_date_j1, if_neg h1, if_neg h2, if_pos h3]) h1
      · refine z_iload C dX3_date_32 4 rfl ?_
        refine z_i2l (v := (p4).toInt64) C dX3_date_34 rfl ?_
        refine z_lconst (v := 1) C dX3_date_35 (by decide) ?_
        refine z_iload_n C dX3_date_36 rfl 3 rfl ?_
        refine z_i2l (v := (p3).toInt64) C dX3_date_37 rfl ?_
        refine z_lconst (v := 1) C dX3_date_38 (by decide) ?_
        refine z_ldc2 (v := 12) C w1 dX3_date_39 ?_
        refine z_si (rest := [.long 1, .long (p4).toInt64, .ref (z 0)]) C (c_X3_in l hfl D cI cJ _ ((p3).toInt64) (1 : Int64) (12 : Int64) ) q_X3_in gX3_date_X3_in ⟨rfl, rfl⟩ rfl rfl (Nat.le_of_ble_eq_true rfl) ⟨Nat.le_of_ble_eq_true rfl, Nat.le_of_ble_eq_true rfl⟩ ⟨Nat.le_of_ble_eq_true rfl, Nat.le_of_ble_eq_true rfl⟩ dX3_date_42 ?_
        refine z_if_eq (tgt := 58) C dX3_date_45 (by decide) (fun h => absurd h h3) (fun _ => ?_)
        refine z_iload_n C dX3_date_48 rfl 2 rfl ?_
        refine z_i2l (v := (p2).toInt64) C dX3_date_49 rfl ?_
        refine z_iload_n C dX3_date_50 rfl 3 rfl ?_
        refine z_si (rest := [.long 1, .long (p4).toInt64, .ref (z 0)]) C (c_X3_many l hfl D cI cJ _ ((p2).toInt64) p3 ) q_X3_many gX3_date_X3_many ⟨rfl, rfl⟩ rfl rfl (Nat.le_of_ble_eq_true rfl) ⟨Nat.le_of_ble_eq_true rfl, Nat.le_of_ble_eq_true rfl⟩ ⟨Nat.le_of_ble_eq_true rfl, Nat.le_of_ble_eq_true rfl⟩ dX3_date_51 ?_
        refine z_i2l (v := ((f_X3_many ((p2).toInt64) p3)).toInt64) C dX3_date_54 rfl ?_
        refine z_goto (tgt := 59) C dX3_date_55 (by decide) ?_
        refine z_si (rest := [.ref (z 0)]) C (c_X3_in l hfl D cI cJ _ ((p4).toInt64) (1 : Int64) (((f_X3_many ((p2).toInt64) p3)).toInt64) ) q_X3_in gX3_date_X3_in ⟨rfl, rfl⟩ rfl rfl (Nat.le_of_ble_eq_true rfl) ⟨Nat.le_of_ble_eq_true rfl, Nat.le_of_ble_eq_true rfl⟩ ⟨Nat.le_of_ble_eq_true rfl, Nat.le_of_ble_eq_true rfl⟩ dX3_date_59 ?_
        refine z_if_eq (tgt := 69) C dX3_date_62 (by decide) (fun h4 => ?_) (fun h4 => ?_)
        · refine z_iconst (v := 2) C dX3_date_69 (by decide) ?_
          exact K1_2 (by rw [f_X3_date_j1, if_neg h1, if_neg h2, if_neg h3, if_pos h4]) h1
        · refine z_iconst (v := 0) C dX3_date_65 (by decide) ?_
          refine z_goto (tgt := 70) C dX3_date_66 (by decide) ?_
          exact K1_0 (by rw [f_X3_date_j1, if_neg h1, if_neg h2, if_neg h3, if_neg h4]) h3 h4 h1 h2
  · refine z_iconst (v := 1) C dX3_date_8 (by decide) ?_
    refine z_goto (tgt := 70) C dX3_date_9 (by decide) ?_
    exact K1_1 (by rw [f_X3_date_j1, if_pos h1]) h1
def f_X3_ofDay_j1 (p1 : Int32) (p2 : Int64) : Int32 := (if (f_X3_isDate p1) = 0 then 1 else (if (f_X3_in p2 (f_X3_first (-9999)) ((f_X3_first 10000) - 1)) = 0 then 2 else 0))
def f_X3_ofDay (p1 : Int32) (p2 : Int64) : Int32 := (if f_X3_ofDay_j1 p1 p2 = 0 then ((s_X3_parts_yr p2)).toInt32 else (if f_X3_ofDay_j1 p1 p2 = 1 then 0 else 0))
def s_X3_ofDay_co (p1 : Int32) (p2 : Int64) : Int32 := (if f_X3_ofDay_j1 p1 p2 = 0 then (s_X3_fails_co 0) else (if f_X3_ofDay_j1 p1 p2 = 1 then (s_X3_fails_co 1) else (s_X3_fails_co 2)))
def s_X3_ofDay_d (d : Nat → Int64) (p1 : Int32) (p2 : Int64) : Nat → Int64 := (if f_X3_ofDay_j1 p1 p2 = 0 then (vp_updL d p1.toNatClampNeg p2) else (if f_X3_ofDay_j1 p1 p2 = 1 then d else d))
def s_X3_ofDay_yr (yr : Int64) (p1 : Int32) (p2 : Int64) : Int64 := (if f_X3_ofDay_j1 p1 p2 = 0 then (s_X3_parts_yr p2) else (if f_X3_ofDay_j1 p1 p2 = 1 then yr else yr))
def s_X3_ofDay_mo (mo : Int32) (p1 : Int32) (p2 : Int64) : Int32 := (if f_X3_ofDay_j1 p1 p2 = 0 then (s_X3_parts_mo p2) else (if f_X3_ofDay_j1 p1 p2 = 1 then mo else mo))
def s_X3_ofDay_dy (dy : Int32) (p1 : Int32) (p2 : Int64) : Int32 := (if f_X3_ofDay_j1 p1 p2 = 0 then (s_X3_parts_dy p2) else (if f_X3_ofDay_j1 p1 p2 = 1 then dy else dy))
def pre_X3_ofDay (p1 : Int32) (p2 : Int64) : Prop := (((f_X3_ofDay_j1 p1 p2) = 0) → (¬ (f_X3_in p2 (f_X3_first (-9999)) ((f_X3_first 10000) - 1)) = 0) → (¬ (f_X3_isDate p1) = 0) → (pre_X3_parts p2))
theorem q_X3_ofDay : ZY yX3_ofDay wsX3_ofDay cX3_ofDay 4 (some .int) 2 := ⟨⟨_, rfl⟩, by decide +kernel, by decide +kernel, by decide +kernel⟩
set_option maxHeartbeats 4000000 in
set_option maxRecDepth 100000 in
theorem c_X3_ofDay (l : Launch) (hfl : l.stackTraces = false) (D : va_G) (cI cJ : ClassId) (X : va_W) (z : Nat → Nat) (co : Int32) (d : Nat → Int64) (ti : Nat → Int64) (sL : Nat → Int64) (bL : Nat → Int64) (mD : Nat → Int64) (mT : Nat → Int64) (sy : Nat → Int64) (sm : Nat → Int64) (sd : Nat → Int64) (mi : Nat → Int64) (yr : Int64) (mo : Int32) (dy : Int32) (p1 : Int32) (p2 : Int64)  (h_g : pre_X3_ofDay p1 p2) : ZM l yX3_ofDay wsX3_ofDay { frames := 5, cells := 0, slots := 0, locals := 113 } [.ref (z 0), .int p1, .long p2] D (zTys cI cJ) (wM cI cJ z co d ti sL bL mD mT sy sm sd mi yr mo dy X) 0 0 (fun v w => v = some (.int (f_X3_ofDay p1 p2)) ∧ w = (wM cI cJ z (s_X3_ofDay_co p1 p2) (s_X3_ofDay_d d p1 p2) ti sL bL mD mT sy sm sd mi (s_X3_ofDay_yr yr p1 p2) (s_X3_ofDay_mo mo p1 p2) (s_X3_ofDay_dy dy p1 p2) X)) (fun _ _ => False) := by
  refine z_open (own := RX3) hfl (cc := cX3_ofDay) (maxL := 4) (ret := (some .int)) (lv := [(0, .ref (z 0)), (1, .int p1), (2, .long p2)]) rfl (by decide) rfl rfl (Nat.le_of_ble_eq_true rfl) ?_
  intro p e s m args below meth c A C hno hnm hargs
  have hin : ∀ w ∈ wsX30, w ∈ wsX3_ofDay := by decide +kernel
  have w1 := C.1.2.2.2.2 (.constantLong RX3 96 (-9999)) (by decide +kernel)
  have w2 := C.1.2.2.2.2 (.constantLong RX3 128 (10000)) (by decide +kernel)
  have w3 := C.1.2.2.2.2 (.fieldLink RX3 13 "YearwheelModel" "dates" "[J") (by decide +kernel)
  have w4 := C.1.2.2.2.2 (.fieldLink RX3 86 "YearwheelModel" "year" "J") (by decide +kernel)
  have g_0 := h_g
  refine z_aload_n C dX3_ofDay_0 rfl 0 rfl ?_
  refine z_iload_n C dX3_ofDay_1 rfl 1 rfl ?_
  refine z_si (rest := [.ref (z 0)]) C (c_X3_isDate l hfl D cI cJ _ p1 ) q_X3_isDate gX3_ofDay_X3_isDate ⟨rfl, rfl⟩ rfl rfl (Nat.le_of_ble_eq_true rfl) ⟨Nat.le_of_ble_eq_true rfl, Nat.le_of_ble_eq_true rfl⟩ ⟨Nat.le_of_ble_eq_true rfl, Nat.le_of_ble_eq_true rfl⟩ dX3_ofDay_2 ?_
  have K1_0 : f_X3_ofDay_j1 p1 p2 = 0 → (¬ (f_X3_in p2 (f_X3_first (-9999)) ((f_X3_first 10000) - 1)) = 0) → (¬ (f_X3_isDate p1) = 0) → ZW p l e { frames := 5, cells := 0, slots := 0, locals := 113 } s m args below meth c 4 D (zTys cI cJ) A (zE D (zTys cI cJ) A below args s (fun v w => v = some (.int (f_X3_ofDay p1 p2)) ∧ w = (wM cI cJ z (s_X3_ofDay_co p1 p2) (s_X3_ofDay_d d p1 p2) ti sL bL mD mT sy sm sd mi (s_X3_ofDay_yr yr p1 p2) (s_X3_ofDay_mo mo p1 p2) (s_X3_ofDay_dy dy p1 p2) X)) (fun _ _ => False) 0 0) 0 0 (wM cI cJ z co d ti sL bL mD mT sy sm sd mi yr mo dy X) 38 [(0, .ref (z 0)), (1, .int p1), (2, .long p2)] [.int 0, .ref (z 0)] := by
    intro h3 h4 h5
    refine z_wi (ws' := (wM cI cJ z (s_X3_fails_co 0) d ti sL bL mD mT sy sm sd mi yr mo dy X)) (rest := []) (ci := 3) (q0 := 0) C (c_X3_fails l hfl D cI cJ X z co d ti sL bL mD mT sy sm sd mi yr mo dy (0 : Int32) ) q_X3_fails rfl rfl rfl gX3_ofDay_X3_fails ⟨rfl, rfl⟩ rfl rfl (Nat.le_of_ble_eq_true rfl) ⟨Nat.le_of_ble_eq_true rfl, Nat.le_of_ble_eq_true rfl⟩ ⟨Nat.le_of_ble_eq_true rfl, Nat.le_of_ble_eq_true rfl⟩ dX3_ofDay_38 ?_
    refine z_eqst (st' := [.int 0]) (congrArg (fun v => Value.int v :: _) (by decide : (f_X3_fails 0) = (0 : Int32))) ?_
    refine z_if_eq (tgt := 46) C dX3_ofDay_41 (by decide) (fun _ => ?_) (fun h => absurd (by decide) h)
    refine z_aload_n C dX3_ofDay_46 rfl 0 rfl ?_
    refine z_get (CC := RX3) (T := TX3) (N := 14) (ci := 3) C hin 0 rfl rfl 1 (by decide) w3 rfl rfl dX3_ofDay_47 ?_
    refine z_iload_n C dX3_ofDay_50 rfl 1 rfl ?_
    refine z_lload_n C dX3_ofDay_51 rfl 2 rfl ?_
    refine z_last C 1 1 rfl rfl (vpMDate h5) (ws' := (wM cI cJ z (s_X3_fails_co 0) (vp_updL d p1.toNatClampNeg p2) ti sL bL mD mT sy sm sd mi yr mo dy X)) rfl dX3_ofDay_52 ?_
    refine z_aload_n C dX3_ofDay_53 rfl 0 rfl ?_
    refine z_lload_n C dX3_ofDay_54 rfl 2 rfl ?_
    refine z_wv (ws' := (wM cI cJ z (s_X3_fails_co 0) (vp_updL d p1.toNatClampNeg p2) ti sL bL mD mT sy sm sd mi (s_X3_parts_yr p2) (s_X3_parts_mo p2) (s_X3_parts_dy p2) X)) (rest := []) (ci := 3) (q0 := 0) C (c_X3_parts l hfl D cI cJ X z (s_X3_fails_co 0) (vp_updL d p1.toNatClampNeg p2) ti sL bL mD mT sy sm sd mi yr mo dy p2 (g_0 h3 h4 h5)) q_X3_parts rfl rfl rfl gX3_ofDay_X3_parts ⟨rfl, rfl⟩ rfl rfl (Nat.le_of_ble_eq_true rfl) ⟨Nat.le_of_ble_eq_true rfl, Nat.le_of_ble_eq_true rfl⟩ ⟨Nat.le_of_ble_eq_true rfl, Nat.le_of_ble_eq_true rfl⟩ dX3_ofDay_55 ?_
    refine z_aload_n C dX3_ofDay_58 rfl 0 rfl ?_
    refine z_get (CC := RX3) (T := TX3) (N := 14) (ci := 3) C hin 0 rfl rfl 11 (by decide) w4 rfl rfl dX3_ofDay_59 ?_
    refine z_l2i (v := ((s_X3_parts_yr p2)).toInt32) C dX3_ofDay_62 rfl ?_
    exact z_iret C ⟨congrArg (fun v => some (Value.int v)) (by rw [f_X3_ofDay, if_pos h3] : ((s_X3_parts_yr p2)).toInt32 = (f_X3_ofDay p1 p2)), by rw [s_X3_ofDay_co, if_pos h3, s_X3_ofDay_d, if_pos h3, s_X3_ofDay_yr, if_pos h3, s_X3_ofDay_mo, if_pos h3, s_X3_ofDay_dy, if_pos h3]⟩ (by decide) (by decide) dX3_ofDay_63
  have K1_1 : f_X3_ofDay_j1 p1 p2 = 1 → ((f_X3_isDate p1) = 0) → ZW p l e { frames := 5, cells := 0, slots := 0, locals := 113 } s m args below meth c 4 D (zTys cI cJ) A (zE D (zTys cI cJ) A below args s (fun v w => v = some (.int (f_X3_ofDay p1 p2)) ∧ w = (wM cI cJ z (s_X3_ofDay_co p1 p2) (s_X3_ofDay_d d p1 p2) ti sL bL mD mT sy sm sd mi (s_X3_ofDay_yr yr p1 p2) (s_X3_ofDay_mo mo p1 p2) (s_X3_ofDay_dy dy p1 p2) X)) (fun _ _ => False) 0 0) 0 0 (wM cI cJ z co d ti sL bL mD mT sy sm sd mi yr mo dy X) 38 [(0, .ref (z 0)), (1, .int p1), (2, .long p2)] [.int 1, .ref (z 0)] := by
    intro h6 h7
    refine z_wi (ws' := (wM cI cJ z (s_X3_fails_co 1) d ti sL bL mD mT sy sm sd mi yr mo dy X)) (rest := []) (ci := 3) (q0 := 0) C (c_X3_fails l hfl D cI cJ X z co d ti sL bL mD mT sy sm sd mi yr mo dy (1 : Int32) ) q_X3_fails rfl rfl rfl gX3_ofDay_X3_fails ⟨rfl, rfl⟩ rfl rfl (Nat.le_of_ble_eq_true rfl) ⟨Nat.le_of_ble_eq_true rfl, Nat.le_of_ble_eq_true rfl⟩ ⟨Nat.le_of_ble_eq_true rfl, Nat.le_of_ble_eq_true rfl⟩ dX3_ofDay_38 ?_
    refine z_eqst (st' := [.int 1]) (congrArg (fun v => Value.int v :: _) (by decide : (f_X3_fails 1) = (1 : Int32))) ?_
    refine z_if_eq (tgt := 46) C dX3_ofDay_41 (by decide) (fun h => absurd h (by decide)) (fun _ => ?_)
    refine z_iconst (v := 0) C dX3_ofDay_44 (by decide) ?_
    exact z_iret C ⟨congrArg (fun v => some (Value.int v)) (by rw [f_X3_ofDay, if_neg (by rw [h6]; decide : ¬ f_X3_ofDay_j1 p1 p2 = 0), if_pos h6] : (0 : Int32) = (f_X3_ofDay p1 p2)), by rw [s_X3_ofDay_co, if_neg (by rw [h6]; decide : ¬ f_X3_ofDay_j1 p1 p2 = 0), if_pos h6, s_X3_ofDay_d, if_neg (by rw [h6]; decide : ¬ f_X3_ofDay_j1 p1 p2 = 0), if_pos h6, s_X3_ofDay_yr, if_neg (by rw [h6]; decide : ¬ f_X3_ofDay_j1 p1 p2 = 0), if_pos h6, s_X3_ofDay_mo, if_neg (by rw [h6]; decide : ¬ f_X3_ofDay_j1 p1 p2 = 0), if_pos h6, s_X3_ofDay_dy, if_neg (by rw [h6]; decide : ¬ f_X3_ofDay_j1 p1 p2 = 0), if_pos h6]⟩ (by decide) (by decide) dX3_ofDay_45
  have K1_2 : f_X3_ofDay_j1 p1 p2 = 2 → ((f_X3_in p2 (f_X3_first (-9999)) ((f_X3_first 10000) - 1)) = 0) → (¬ (f_X3_isDate p1) = 0) → ZW p l e { frames := 5, cells := 0, slots := 0, locals := 113 } s m args below meth c 4 D (zTys cI cJ) A (zE D (zTys cI cJ) A below args s (fun v w => v = some (.int (f_X3_ofDay p1 p2)) ∧ w = (wM cI cJ z (s_X3_ofDay_co p1 p2) (s_X3_ofDay_d d p1 p2) ti sL bL mD mT sy sm sd mi (s_X3_ofDay_yr yr p1 p2) (s_X3_ofDay_mo mo p1 p2) (s_X3_ofDay_dy dy p1 p2) X)) (fun _ _ => False) 0 0) 0 0 (wM cI cJ z co d ti sL bL mD mT sy sm sd mi yr mo dy X) 38 [(0, .ref (z 0)), (1, .int p1), (2, .long p2)] [.int 2, .ref (z 0)] := by
    intro h8 h9 h10
    refine z_wi (ws' := (wM cI cJ z (s_X3_fails_co 2) d ti sL bL mD mT sy sm sd mi yr mo dy X)) (rest := []) (ci := 3) (q0 := 0) C (c_X3_fails l hfl D cI cJ X z co d ti sL bL mD mT sy sm sd mi yr mo dy (2 : Int32) ) q_X3_fails rfl rfl rfl gX3_ofDay_X3_fails ⟨rfl, rfl⟩ rfl rfl (Nat.le_of_ble_eq_true rfl) ⟨Nat.le_of_ble_eq_true rfl, Nat.le_of_ble_eq_true rfl⟩ ⟨Nat.le_of_ble_eq_true rfl, Nat.le_of_ble_eq_true rfl⟩ dX3_ofDay_38 ?_
    refine z_eqst (st' := [.int 1]) (congrArg (fun v => Value.int v :: _) (by decide : (f_X3_fails 2) = (1 : Int32))) ?_
    refine z_if_eq (tgt := 46) C dX3_ofDay_41 (by decide) (fun h => absurd h (by decide)) (fun _ => ?_)
    refine z_iconst (v := 0) C dX3_ofDay_44 (by decide) ?_
    exact z_iret C ⟨congrArg (fun v => some (Value.int v)) (by rw [f_X3_ofDay, if_neg (by rw [h8]; decide : ¬ f_X3_ofDay_j1 p1 p2 = 0), if_neg (by rw [h8]; decide : ¬ f_X3_ofDay_j1 p1 p2 = 1)] : (0 : Int32) = (f_X3_ofDay p1 p2)), by rw [s_X3_ofDay_co, if_neg (by rw [h8]; decide : ¬ f_X3_ofDay_j1 p1 p2 = 0), if_neg (by rw [h8]; decide : ¬ f_X3_ofDay_j1 p1 p2 = 1), s_X3_ofDay_d, if_neg (by rw [h8]; decide : ¬ f_X3_ofDay_j1 p1 p2 = 0), if_neg (by rw [h8]; decide : ¬ f_X3_ofDay_j1 p1 p2 = 1), s_X3_ofDay_yr, if_neg (by rw [h8]; decide : ¬ f_X3_ofDay_j1 p1 p2 = 0), if_neg (by rw [h8]; decide : ¬ f_X3_ofDay_j1 p1 p2 = 1), s_X3_ofDay_mo, if_neg (by rw [h8]; decide : ¬ f_X3_ofDay_j1 p1 p2 = 0), if_neg (by rw [h8]; decide : ¬ f_X3_ofDay_j1 p1 p2 = 1), s_X3_ofDay_dy, if_neg (by rw [h8]; decide : ¬ f_X3_ofDay_j1 p1 p2 = 0), if_neg (by rw [h8]; decide : ¬ f_X3_ofDay_j1 p1 p2 = 1)]⟩ (by decide) (by decide) dX3_ofDay_45
  refine z_if_ne (tgt := 12) C dX3_ofDay_5 (by decide) (fun h1 => ?_) (fun h1 => ?_)
  · refine z_lload_n C dX3_ofDay_12 rfl 2 rfl ?_
    refine z_ldc2 (v := (-9999)) C w1 dX3_ofDay_13 ?_
    refine z_sl (rest := [.long p2, .ref (z 0)]) C (c_X3_first l hfl D cI cJ _ ((-9999) : Int64) ) q_X3_first gX3_ofDay_X3_first ⟨rfl, rfl⟩ rfl rfl (Nat.le_of_ble_eq_true rfl) ⟨Nat.le_of_ble_eq_true rfl, Nat.le_of_ble_eq_true rfl⟩ ⟨Nat.le_of_ble_eq_true rfl, Nat.le_of_ble_eq_true rfl⟩ dX3_ofDay_16 ?_
    refine z_ldc2 (v := 10000) C w2 dX3_ofDay_19 ?_
    refine z_sl (rest := [.long (f_X3_first (-9999)), .long p2, .ref (z 0)]) C (c_X3_first l hfl D cI cJ _ (10000 : Int64) ) q_X3_first gX3_ofDay_X3_first ⟨rfl, rfl⟩ rfl rfl (Nat.le_of_ble_eq_true rfl) ⟨Nat.le_of_ble_eq_true rfl, Nat.le_of_ble_eq_true rfl⟩ ⟨Nat.le_of_ble_eq_true rfl, Nat.le_of_ble_eq_true rfl⟩ dX3_ofDay_22 ?_
    refine z_lconst (v := 1) C dX3_ofDay_25 (by decide) ?_
    refine z_lsub C dX3_ofDay_26 ?_
    refine z_si (rest := [.ref (z 0)]) C (c_X3_in l hfl D cI cJ _ p2 (f_X3_first (-9999)) ((f_X3_first 10000) - 1) ) q_X3_in gX3_ofDay_X3_in ⟨rfl, rfl⟩ rfl rfl (Nat.le_of_ble_eq_true rfl) ⟨Nat.le_of_ble_eq_true rfl, Nat.le_of_ble_eq_true rfl⟩ ⟨Nat.le_of_ble_eq_true rfl, Nat.le_of_ble_eq_true rfl⟩ dX3_ofDay_27 ?_
    refine z_if_eq (tgt := 37) C dX3_ofDay_30 (by decide) (fun h2 => ?_) (fun h2 => ?_)
    · refine z_iconst (v := 2) C dX3_ofDay_37 (by decide) ?_
      exact K1_2 (by rw [f_X3_ofDay_j1, if_neg h1, if_pos h2]) h2 h1
    · refine z_iconst (v := 0) C dX3_ofDay_33 (by decide) ?_
      refine z_goto (tgt := 38) C dX3_ofDay_34 (by decide) ?_
      exact K1_0 (by rw [f_X3_ofDay_j1, if_neg h1, if_neg h2]) h2 h1
  · refine z_iconst (v := 1) C dX3_ofDay_8 (by decide) ?_
    refine z_goto (tgt := 38) C dX3_ofDay_9 (by decide) ?_
    exact K1_1 (by rw [f_X3_ofDay_j1, if_pos h1]) h1
def f_X3_day_j1 (p1 : Int32) : Int32 := (if (f_X3_isDate p1) = 0 then 1 else 0)
def f_X3_day (d : Nat → Int64) (p1 : Int32) : Int64 := (if f_X3_day_j1 p1 = 0 then (d p1.toNatClampNeg) else 0)
def s_X3_day_co (p1 : Int32) : Int32 := (if f_X3_day_j1 p1 = 0 then (s_X3_fails_co 0) else (s_X3_fails_co 1))
theorem q_X3_day : ZY yX3_day wsX3_day cX3_day 2 (some .long) 1 := ⟨⟨_, rfl⟩, by decide +kernel, by decide +kernel, by decide +kernel⟩
set_option maxHeartbeats 4000000 in
set_option maxRecDepth 100000 in
theorem c_X3_day (l : Launch) (hfl : l.stackTraces = false) (D : va_G) (cI cJ : ClassId) (X : va_W) (z : Nat → Nat) (co : Int32) (d : Nat → Int64) (ti : Nat → Int64) (sL : Nat → Int64) (bL : Nat → Int64) (mD : Nat → Int64) (mT : Nat → Int64) (sy : Nat → Int64) (sm : Nat → Int64) (sd : Nat → Int64) (mi : Nat → Int64) (yr : Int64) (mo : Int32) (dy : Int32) (p1 : Int32)  : ZM l yX3_day wsX3_day { frames := 2, cells := 0, slots := 0, locals := 45 } [.ref (z 0), .int p1] D (zTys cI cJ) (wM cI cJ z co d ti sL bL mD mT sy sm sd mi yr mo dy X) 0 0 (fun v w => v = some (.long (f_X3_day d p1)) ∧ w = (wM cI cJ z (s_X3_day_co p1) d ti sL bL mD mT sy sm sd mi yr mo dy X)) (fun _ _ => False) := by
  refine z_open (own := RX3) hfl (cc := cX3_day) (maxL := 2) (ret := (some .long)) (lv := [(0, .ref (z 0)), (1, .int p1)]) rfl (by decide) rfl rfl (Nat.le_of_ble_eq_true rfl) ?_
  intro p e s m args below meth c A C hno hnm hargs
  have hin : ∀ w ∈ wsX30, w ∈ wsX3_day := by decide +kernel
  have w1 := C.1.2.2.2.2 (.fieldLink RX3 13 "YearwheelModel" "dates" "[J") (by decide +kernel)
  refine z_aload_n C dX3_day_0 rfl 0 rfl ?_
  refine z_iload_n C dX3_day_1 rfl 1 rfl ?_
  refine z_si (rest := [.ref (z 0)]) C (c_X3_isDate l hfl D cI cJ _ p1 ) q_X3_isDate gX3_day_X3_isDate ⟨rfl, rfl⟩ rfl rfl (Nat.le_of_ble_eq_true rfl) ⟨Nat.le_of_ble_eq_true rfl, Nat.le_of_ble_eq_true rfl⟩ ⟨Nat.le_of_ble_eq_true rfl, Nat.le_of_ble_eq_true rfl⟩ dX3_day_2 ?_
  have K1_0 : f_X3_day_j1 p1 = 0 → (¬ (f_X3_isDate p1) = 0) → ZW p l e { frames := 2, cells := 0, slots := 0, locals := 45 } s m args below meth c 2 D (zTys cI cJ) A (zE D (zTys cI cJ) A below args s (fun v w => v = some (.long (f_X3_day d p1)) ∧ w = (wM cI cJ z (s_X3_day_co p1) d ti sL bL mD mT sy sm sd mi yr mo dy X)) (fun _ _ => False) 0 0) 0 0 (wM cI cJ z co d ti sL bL mD mT sy sm sd mi yr mo dy X) 13 [(0, .ref (z 0)), (1, .int p1)] [.int 0, .ref (z 0)] := by
    intro h2 h3
    refine z_wi (ws' := (wM cI cJ z (s_X3_fails_co 0) d ti sL bL mD mT sy sm sd mi yr mo dy X)) (rest := []) (ci := 3) (q0 := 0) C (c_X3_fails l hfl D cI cJ X z co d ti sL bL mD mT sy sm sd mi yr mo dy (0 : Int32) ) q_X3_fails rfl rfl rfl gX3_day_X3_fails ⟨rfl, rfl⟩ rfl rfl (Nat.le_of_ble_eq_true rfl) ⟨Nat.le_of_ble_eq_true rfl, Nat.le_of_ble_eq_true rfl⟩ ⟨Nat.le_of_ble_eq_true rfl, Nat.le_of_ble_eq_true rfl⟩ dX3_day_13 ?_
    refine z_eqst (st' := [.int 0]) (congrArg (fun v => Value.int v :: _) (by decide : (f_X3_fails 0) = (0 : Int32))) ?_
    refine z_if_eq (tgt := 23) C dX3_day_16 (by decide) (fun _ => ?_) (fun h => absurd (by decide) h)
    refine z_aload_n C dX3_day_23 rfl 0 rfl ?_
    refine z_get (CC := RX3) (T := TX3) (N := 14) (ci := 3) C hin 0 rfl rfl 1 (by decide) w1 rfl rfl dX3_day_24 ?_
    refine z_iload_n C dX3_day_27 rfl 1 rfl ?_
    refine z_lald C 1 1 rfl rfl (vpMDate h3) dX3_day_28 ?_
    exact z_lret C ⟨congrArg (fun v => some (Value.long v)) (by rw [f_X3_day, if_pos h2] : (d p1.toNatClampNeg) = (f_X3_day d p1)), by rw [s_X3_day_co, if_pos h2]⟩ (by decide) (by decide) dX3_day_29
  have K1_1 : f_X3_day_j1 p1 = 1 → ((f_X3_isDate p1) = 0) → ZW p l e { frames := 2, cells := 0, slots := 0, locals := 45 } s m args below meth c 2 D (zTys cI cJ) A (zE D (zTys cI cJ) A below args s (fun v w => v = some (.long (f_X3_day d p1)) ∧ w = (wM cI cJ z (s_X3_day_co p1) d ti sL bL mD mT sy sm sd mi yr mo dy X)) (fun _ _ => False) 0 0) 0 0 (wM cI cJ z co d ti sL bL mD mT sy sm sd mi yr mo dy X) 13 [(0, .ref (z 0)), (1, .int p1)] [.int 1, .ref (z 0)] := by
    intro h4 h5
    refine z_wi (ws' := (wM cI cJ z (s_X3_fails_co 1) d ti sL bL mD mT sy sm sd mi yr mo dy X)) (rest := []) (ci := 3) (q0 := 0) C (c_X3_fails l hfl D cI cJ X z co d ti sL bL mD mT sy sm sd mi yr mo dy (1 : Int32) ) q_X3_fails rfl rfl rfl gX3_day_X3_fails ⟨rfl, rfl⟩ rfl rfl (Nat.le_of_ble_eq_true rfl) ⟨Nat.le_of_ble_eq_true rfl, Nat.le_of_ble_eq_true rfl⟩ ⟨Nat.le_of_ble_eq_true rfl, Nat.le_of_ble_eq_true rfl⟩ dX3_day_13 ?_
    refine z_eqst (st' := [.int 1]) (congrArg (fun v => Value.int v :: _) (by decide : (f_X3_fails 1) = (1 : Int32))) ?_
    refine z_if_eq (tgt := 23) C dX3_day_16 (by decide) (fun h => absurd h (by decide)) (fun _ => ?_)
    refine z_lconst (v := 0) C dX3_day_19 (by decide) ?_
    refine z_goto (tgt := 29) C dX3_day_20 (by decide) ?_
    exact z_lret C ⟨congrArg (fun v => some (Value.long v)) (by rw [f_X3_day, if_neg (by rw [h4]; decide : ¬ f_X3_day_j1 p1 = 0)] : (0 : Int64) = (f_X3_day d p1)), by rw [s_X3_day_co, if_neg (by rw [h4]; decide : ¬ f_X3_day_j1 p1 = 0)]⟩ (by decide) (by decide) dX3_day_29
  refine z_if_eq (tgt := 12) C dX3_day_5 (by decide) (fun h1 => ?_) (fun h1 => ?_)
  · refine z_iconst (v := 1) C dX3_day_12 (by decide) ?_
    exact K1_1 (by rw [f_X3_day_j1, if_pos h1]) h1
  · refine z_iconst (v := 0) C dX3_day_8 (by decide) ?_
    refine z_goto (tgt := 13) C dX3_day_9 (by decide) ?_
    exact K1_0 (by rw [f_X3_day_j1, if_neg h1]) h1
def f_X3_part_j1 (p1 : Int32) (p2 : Int32) : Int32 := (if (f_X3_isDate p1) = 0 then 1 else (if p2 = 121 then 0 else (if p2 = 109 then 0 else (if p2 = 100 then 0 else (if p2 = 110 then 0 else (if p2 = 119 then 0 else (if p2 = 108 then 0 else (if p2 = 76 then 0 else (if p2 = 98 then 0 else 2)))))))))
def f_X3_part (d : Nat → Int64) (p1 : Int32) (p2 : Int32) : Int32 := (if f_X3_part_j1 p1 p2 = 0 then (if p2 = 76 then (if (f_X3_isLong (s_X3_parts_yr (d p1.toNatClampNeg))) = 0 then 365 else 366) else (if p2 = 100 then (s_X3_parts_dy (d p1.toNatClampNeg)) else (if p2 = 108 then (f_X3_many (s_X3_parts_yr (d p1.toNatClampNeg)) (s_X3_parts_mo (d p1.toNatClampNeg))) else (if p2 = 109 then (s_X3_parts_mo (d p1.toNatClampNeg)) else (if p2 = 110 then ((((d p1.toNatClampNeg) - (f_X3_first (s_X3_parts_yr (d p1.toNatClampNeg))))).toInt32 + 1) else (if p2 = 119 then (f_X3_weekdayOf (d p1.toNatClampNeg)) else (if p2 = 121 then ((s_X3_parts_yr (d p1.toNatClampNeg))).toInt32 else (if (f_X3_isLong (s_X3_parts_yr (d p1.toNatClampNeg))) = 0 then 0 else 1)))))))) else (if f_X3_part_j1 p1 p2 = 1 then 0 else 0))
def s_X3_part_co (d : Nat → Int64) (p1 : Int32) (p2 : Int32) : Int32 := (if f_X3_part_j1 p1 p2 = 0 then (if p2 = 76 then (if (f_X3_isLong (s_X3_parts_yr (d p1.toNatClampNeg))) = 0 then (s_X3_fails_co 0) else (s_X3_fails_co 0)) else (if p2 = 100 then (s_X3_fails_co 0) else (if p2 = 108 then (s_X3_fails_co 0) else (if p2 = 109 then (s_X3_fails_co 0) else (if p2 = 110 then (s_X3_fails_co 0) else (if p2 = 119 then (s_X3_fails_co 0) else (if p2 = 121 then (s_X3_fails_co 0) else (if (f_X3_isLong (s_X3_parts_yr (d p1.toNatClampNeg))) = 0 then (s_X3_fails_co 0) else (s_X3_fails_co 0))))))))) else (if f_X3_part_j1 p1 p2 = 1 then (s_X3_fails_co 1) else (s_X3_fails_co 2)))
def s_X3_part_yr (d : Nat → Int64) (yr : Int64) (p1 : Int32) (p2 : Int32) : Int64 := (if f_X3_part_j1 p1 p2 = 0 then (if p2 = 76 then (if (f_X3_isLong (s_X3_parts_yr (d p1.toNatClampNeg))) = 0 then (s_X3_parts_yr (d p1.toNatClampNeg)) else (s_X3_parts_yr (d p1.toNatClampNeg))) else (if p2 = 100 then (s_X3_parts_yr (d p1.toNatClampNeg)) else (if p2 = 108 then (s_X3_parts_yr (d p1.toNatClampNeg)) else (if p2 = 109 then (s_X3_parts_yr (d p1.toNatClampNeg)) else (if p2 = 110 then (s_X3_parts_yr (d p1.toNatClampNeg)) else (if p2 = 119 then (s_X3_parts_yr (d p1.toNatClampNeg)) else (if p2 = 121 then (s_X3_parts_yr (d p1.toNatClampNeg)) else (if (f_X3_isLong (s_X3_parts_yr (d p1.toNatClampNeg))) = 0 then (s_X3_parts_yr (d p1.toNatClampNeg)) else (s_X3_parts_yr (d p1.toNatClampNeg)))))))))) else (if f_X3_part_j1 p1 p2 = 1 then yr else yr))
def s_X3_part_mo (d : Nat → Int64) (mo : Int32) (p1 : Int32) (p2 : Int32) : Int32 := (if f_X3_part_j1 p1 p2 = 0 then (if p2 = 76 then (if (f_X3_isLong (s_X3_parts_yr (d p1.toNatClampNeg))) = 0 then (s_X3_parts_mo (d p1.toNatClampNeg)) else (s_X3_parts_mo (d p1.toNatClampNeg))) else (if p2 = 100 then (s_X3_parts_mo (d p1.toNatClampNeg)) else (if p2 = 108 then (s_X3_parts_mo (d p1.toNatClampNeg)) else (if p2 = 109 then (s_X3_parts_mo (d p1.toNatClampNeg)) else (if p2 = 110 then (s_X3_parts_mo (d p1.toNatClampNeg)) else (if p2 = 119 then (s_X3_parts_mo (d p1.toNatClampNeg)) else (if p2 = 121 then (s_X3_parts_mo (d p1.toNatClampNeg)) else (if (f_X3_isLong (s_X3_parts_yr (d p1.toNatClampNeg))) = 0 then (s_X3_parts_mo (d p1.toNatClampNeg)) else (s_X3_parts_mo (d p1.toNatClampNeg)))))))))) else (if f_X3_part_j1 p1 p2 = 1 then mo else mo))
def s_X3_part_dy (d : Nat → Int64) (dy : Int32) (p1 : Int32) (p2 : Int32) : Int32 := (if f_X3_part_j1 p1 p2 = 0 then (if p2 = 76 then (if (f_X3_isLong (s_X3_parts_yr (d p1.toNatClampNeg))) = 0 then (s_X3_parts_dy (d p1.toNatClampNeg)) else (s_X3_parts_dy (d p1.toNatClampNeg))) else (if p2 = 100 then (s_X3_parts_dy (d p1.toNatClampNeg)) else (if p2 = 108 then (s_X3_parts_dy (d p1.toNatClampNeg)) else (if p2 = 109 then (s_X3_parts_dy (d p1.toNatClampNeg)) else (if p2 = 110 then (s_X3_parts_dy (d p1.toNatClampNeg)) else (if p2 = 119 then (s_X3_parts_dy (d p1.toNatClampNeg)) else (if p2 = 121 then (s_X3_parts_dy (d p1.toNatClampNeg)) else (if (f_X3_isLong (s_X3_parts_yr (d p1.toNatClampNeg))) = 0 then (s_X3_parts_dy (d p1.toNatClampNeg)) else (s_X3_parts_dy (d p1.toNatClampNeg)))))))))) else (if f_X3_part_j1 p1 p2 = 1 then dy else dy))
def pre_X3_part (d : Nat → Int64) (p1 : Int32) (p2 : Int32) : Prop := (((f_X3_part_j1 p1 p2) = 0) → (¬ (f_X3_isDate p1) = 0) → (pre_X3_parts (d p1.toNatClampNeg)))
theorem q_X3_part : ZY yX3_part wsX3_part cX3_part 3 (some .int) 2 := ⟨⟨_, rfl⟩, by decide +kernel, by decide +kernel, by decide +kernel⟩
set_option maxHeartbeats 4000000 in
set_option maxRecDepth 100000 in
theorem c_X3_part (l : Launch) (hfl : l.stackTraces = false) (D : va_G) (cI cJ : ClassId) (X : va_W) (z : Nat → Nat) (co : Int32) (d : Nat → Int64) (ti : Nat → Int64) (sL : Nat → Int64) (bL : Nat → Int64) (mD : Nat → Int64) (mT : Nat → Int64) (sy : Nat → Int64) (sm : Nat → Int64) (sd : Nat → Int64) (mi : Nat → Int64) (yr : Int64) (mo : Int32) (dy : Int32) (p1 : Int32) (p2 : Int32)  (h_g : pre_X3_part d p1 p2) : ZM l yX3_part wsX3_part { frames := 5, cells := 0, slots := 0, locals := 113 } [.ref (z 0), .int p1, .int p2] D (zTys cI cJ) (wM cI cJ z co d ti sL bL mD mT sy sm sd mi yr mo dy X) 0 0 (fun v w => v = some (.int (f_X3_part d p1 p2)) ∧ w = (wM cI cJ z (s_X3_part_co d p1 p2) d ti sL bL mD mT sy sm sd mi (s_X3_part_yr d yr p1 p2) (s_X3_part_mo d mo p1 p2) (s_X3_part_dy d dy p1 p2) X)) (fun _ _ => False) := by
  refine z_open (own := RX3) hfl (cc := cX3_part) (maxL := 3) (ret := (some .int)) (lv := [(0, .ref (z 0)), (1, .int p1), (2, .int p2)]) rfl (by decide) rfl rfl (Nat.le_of_ble_eq_true rfl) ?_
  intro p e s m args below meth c A C hno hnm hargs
  have hin : ∀ w ∈ wsX30, w ∈ wsX3_part := by decide +kernel
  have w1 := C.1.2.2.2.2 (.fieldLink RX3 13 "YearwheelModel" "dates" "[J") (by decide +kernel)
  have w2 := C.1.2.2.2.2 (.fieldLink RX3 86 "YearwheelModel" "year" "J") (by decide +kernel)
  have w3 := C.1.2.2.2.2 (.fieldLink RX3 93 "YearwheelModel" "day" "I") (by decide +kernel)
  have w4 := C.1.2.2.2.2 (.fieldLink RX3 90 "YearwheelModel" "month" "I") (by decide +kernel)
  have g_0 := h_g
  refine z_aload_n C dX3_part_0 rfl 0 rfl ?_
  refine z_iload_n C dX3_part_1 rfl 1 rfl ?_
  refine z_si (rest := [.ref (z 0)]) C (c_X3_isDate l hfl D cI cJ _ p1 ) q_X3_isDate gX3_part_X3_isDate ⟨rfl, rfl⟩ rfl rfl (Nat.le_of_ble_eq_true rfl) ⟨Nat.le_of_ble_eq_true rfl, Nat.le_of_ble_eq_true rfl⟩ ⟨Nat.le_of_ble_eq_true rfl, Nat.le_of_ble_eq_true rfl⟩ dX3_part_2 ?_
  have K1_0 : f_X3_part_j1 p1 p2 = 0 → (¬ (f_X3_isDate p1) = 0) → ZW p l e { frames := 5, cells := 0, slots := 0, locals := 113 } s m args below meth c 3 D (zTys cI cJ) A (zE D (zTys cI cJ) A below args s (fun v w => v = some (.int (f_X3_part d p1 p2)) ∧ w = (wM cI cJ z (s_X3_part_co d p1 p2) d ti sL bL mD mT sy sm sd mi (s_X3_part_yr d yr p1 p2) (s_X3_part_mo d mo p1 p2) (s_X3_part_dy d dy p1 p2) X)) (fun _ _ => False) 0 0) 0 0 (wM cI cJ z co d ti sL bL mD mT sy sm sd mi yr mo dy X) 65 [(0, .ref (z 0)), (1, .int p1), (2, .int p2)] [.int 0, .ref (z 0)] := by
    intro h10 h11
    refine z_wi (ws' := (wM cI cJ z (s_X3_fails_co 0) d ti sL bL mD mT sy sm sd mi yr mo dy X)) (rest := []) (ci := 3) (q0 := 0) C (c_X3_fails l hfl D cI cJ X z co d ti sL bL mD mT sy sm sd mi yr mo dy (0 : Int32) ) q_X3_fails rfl rfl rfl gX3_part_X3_fails ⟨rfl, rfl⟩ rfl rfl (Nat.le_of_ble_eq_true rfl) ⟨Nat.le_of_ble_eq_true rfl, Nat.le_of_ble_eq_true rfl⟩ ⟨Nat.le_of_ble_eq_true rfl, Nat.le_of_ble_eq_true rfl⟩ dX3_part_65 ?_
    refine z_eqst (st' := [.int 0]) (congrArg (fun v => Value.int v :: _) (by decide : (f_X3_fails 0) = (0 : Int32))) ?_
    refine z_if_eq (tgt := 73) C dX3_part_68 (by decide) (fun _ => ?_) (fun h => absurd (by decide) h)
    refine z_aload_n C dX3_part_73 rfl 0 rfl ?_
    refine z_aload_n C dX3_part_74 rfl 0 rfl ?_
    refine z_get (CC := RX3) (T := TX3) (N := 14) (ci := 3) C hin 0 rfl rfl 1 (by decide) w1 rfl rfl dX3_part_75 ?_
    refine z_iload_n C dX3_part_78 rfl 1 rfl ?_
    refine z_lald C 1 1 rfl rfl (vpMDate h11) dX3_part_79 ?_
    refine z_wv (ws' := (wM cI cJ z (s_X3_fails_co 0) d ti sL bL mD mT sy sm sd mi (s_X3_parts_yr (d p1.toNatClampNeg)) (s_X3_parts_mo (d p1.toNatClampNeg)) (s_X3_parts_dy (d p1.toNatClampNeg)) X)) (rest := []) (ci := 3) (q0 := 0) C (c_X3_parts l hfl D cI cJ X z (s_X3_fails_co 0) d ti sL bL mD mT sy sm sd mi yr mo dy (d p1.toNatClampNeg) (g_0 h10 h11)) q_X3_parts rfl rfl rfl gX3_part_X3_parts ⟨rfl, rfl⟩ rfl rfl (Nat.le_of_ble_eq_true rfl) ⟨Nat.le_of_ble_eq_true rfl, Nat.le_of_ble_eq_true rfl⟩ ⟨Nat.le_of_ble_eq_true rfl, Nat.le_of_ble_eq_true rfl⟩ dX3_part_80 ?_
    refine z_iload_n C dX3_part_83 rfl 2 rfl ?_
    refine zcases (p2 = 76) (fun h12 => ?_) (fun h12 => ?_)
    · refine z_lookup (off := 124) (tgt := 208) C dX3_part_84 (by decide) (by rw [h12]; decide) (by decide) ?_
      refine z_aload_n C dX3_part_208 rfl 0 rfl ?_
      refine z_get (CC := RX3) (T := TX3) (N := 14) (ci := 3) C hin 0 rfl rfl 11 (by decide) w2 rfl rfl dX3_part_209 ?_
      refine z_si (rest := []) C (c_X3_isLong l hfl D cI cJ _ (s_X3_parts_yr (d p1.toNatClampNeg)) ) q_X3_isLong gX3_part_X3_isLong ⟨rfl, rfl⟩ rfl rfl (Nat.le_of_ble_eq_true rfl) ⟨Nat.le_of_ble_eq_true rfl, Nat.le_of_ble_eq_true rfl⟩ ⟨Nat.le_of_ble_eq_true rfl, Nat.le_of_ble_eq_true rfl⟩ dX3_part_212 ?_
      refine z_if_eq (tgt := 224) C dX3_part_215 (by decide) (fun h13 => ?_) (fun h13 => ?_)
      · refine z_sipush (v := 365) C dX3_part_224 (by decide) ?_
        exact z_iret C ⟨congrArg (fun v => some (Value.int v)) (by rw [f_X3_part, if_pos h10, if_pos h12, if_pos h13] : (365 : Int32) = (f_X3_part d p1 p2)), by rw [s_X3_part_co, if_pos h10, if_pos h12, if_pos h13, s_X3_part_yr, if_pos h10, if_pos h12, if_pos h13, s_X3_part_mo, if_pos h10, if_pos h12, if_pos h13, s_X3_part_dy, if_pos h10, if_pos h12, if_pos h13]⟩ (by decide) (by decide) dX3_part_227
      · refine z_sipush (v := 366) C dX3_part_218 (by decide) ?_
        refine z_goto (tgt := 227) C dX3_part_221 (by decide) ?_
        exact z_iret C ⟨congrArg (fun v => some (Value.int v)) (by rw [f_X3_part, if_pos h10, if_pos h12, if_neg h13] : (366 : Int32) = (f_X3_part d p1 p2)), by rw [s_X3_part_co, if_pos h10, if_pos h12, if_neg h13, s_X3_part_yr, if_pos h10, if_pos h12, if_neg h13, s_X3_part_mo, if_pos h10, if_pos h12, if_neg h13, s_X3_part_dy, if_pos h10, if_pos h12, if_neg h13]⟩ (by decide) (by decide) dX3_part_227
    · refine zcases (p2 = 100) (fun h14 => ?_) (fun h14 => ?_)
      · refine z_lookup (off := 79) (tgt := 163) C dX3_part_84 (by decide) (by rw [h14]; decide) (by decide) ?_
        refine z_aload_n C dX3_part_163 rfl 0 rfl ?_
        refine z_get (CC := RX3) (T := TX3) (N := 14) (ci := 3) C hin 0 rfl rfl 13 (by decide) w3 rfl rfl dX3_part_164 ?_
        exact z_iret C ⟨congrArg (fun v => some (Value.int v)) (by rw [f_X3_part, if_pos h10, if_neg h12, if_pos h14] : (s_X3_parts_dy (d p1.toNatClampNeg)) = (f_X3_part d p1 p2)), by rw [s_X3_part_co, if_pos h10, if_neg h12, if_pos h14, s_X3_part_yr, if_pos h10, if_neg h12, if_pos h14, s_X3_part_mo, if_pos h10, if_neg h12, if_pos h14, s_X3_part_dy, if_pos h10, if_neg h12, if_pos h14]⟩ (by decide) (by decide) dX3_part_167
      · refine zcases (p2 = 108) (fun h15 => ?_) (fun h15 => ?_)
        · refine z_lookup (off := 112) (tgt := 196) C dX3_part_84 (by decide) (by rw [h15]; decide) (by decide) ?_
          refine z_aload_n C dX3_part_196 rfl 0 rfl ?_
          refine z_get (CC := RX3) (T := TX3) (N := 14) (ci := 3) C hin 0 rfl rfl 11 (by decide) w2 rfl rfl dX3_part_197 ?_
          refine z_aload_n C dX3_part_200 rfl 0 rfl ?_
          refine z_get (CC := RX3) (T := TX3) (N := 14) (ci := 3) C hin 0 rfl rfl 12 (by decide) w4 rfl rfl dX3_part_201 ?_
          refine z_si (rest := []) C (c_X3_many l hfl D cI cJ _ (s_X3_parts_yr (d p1.toNatClampNeg)) (s_X3_parts_mo (d p1.toNatClampNeg)) ) q_X3_many gX3_part_X3_many ⟨rfl, rfl⟩ rfl rfl (Nat.le_of_ble_eq_true rfl) ⟨Nat.le_of_ble_eq_true rfl, Nat.le_of_ble_eq_true rfl⟩ ⟨Nat.le_of_ble_eq_true rfl, Nat.le_of_ble_eq_true rfl⟩ dX3_part_204 ?_
          exact z_iret C ⟨congrArg (fun v => some (Value.int v)) (by rw [f_X3_part, if_pos h10, if_neg h12, if_neg h14, if_pos h15] : (f_X3_many (s_X3_parts_yr (d p1.toNatClampNeg)) (s_X3_parts_mo (d p1.toNatClampNeg))) = (f_X3_part d p1 p2)), by rw [s_X3_part_co, if_pos h10, if_neg h12, if_neg h14, if_pos h15, s_X3_part_yr, if_pos h10, if_neg h12, if_neg h14, if_pos h15, s_X3_part_mo, if_pos h10, if_neg h12, if_neg h14, if_pos h15, s_X3_part_dy, if_pos h10, if_neg h12, if_neg h14, if_pos h15]⟩ (by decide) (by decide) dX3_part_207
        · refine zcases (p2 = 109) (fun h16 => ?_) (fun h16 => ?_)
          · refine z_lookup (off := 74) (tgt := 158) C dX3_part_84 (by decide) (by rw [h16]; decide) (by decide) ?_
            refine z_aload_n C dX3_part_158 rfl 0 rfl ?_
            refine z_get (CC := RX3) (T := TX3) (N := 14) (ci := 3) C hin 0 rfl rfl 12 (by decide) w4 rfl rfl dX3_part_159 ?_
            exact z_iret C ⟨congrArg (fun v => some (Value.int v)) (by rw [f_X3_part, if_pos h10, if_neg h12, if_neg h14, if_neg h15, if_pos h16] : (s_X3_parts_mo (d p1.toNatClampNeg)) = (f_X3_part d p1 p2)), by rw [s_X3_part_co, if_pos h10, if_neg h12, if_neg h14, if_neg h15, if_pos h16, s_X3_part_yr, if_pos h10, if_neg h12, if_neg h14, if_neg h15, if_pos h16, s_X3_part_mo, if_pos h10, if_neg h12, if_neg h14, if_neg h15, if_pos h16, s_X3_part_dy, if_pos h10, if_neg h12, if_neg h14, if_neg h15, if_pos h16]⟩ (by decide) (by decide) dX3_part_162
          · refine zcases (p2 = 110) (fun h17 => ?_) (fun h17 => ?_)
            · refine z_lookup (off := 84) (tgt := 168) C dX3_part_84 (by decide) (by rw [h17]; decide) (by decide) ?_
              refine z_aload_n C dX3_part_168 rfl 0 rfl ?_
              refine z_get (CC := RX3) (T := TX3) (N := 14) (ci := 3) C hin 0 rfl rfl 1 (by decide) w1 rfl rfl dX3_part_169 ?_
              refine z_iload_n C dX3_part_172 rfl 1 rfl ?_
              refine z_lald C 1 1 rfl rfl (vpMDate h11) dX3_part_173 ?_
              refine z_aload_n C dX3_part_174 rfl 0 rfl ?_
              refine z_get (CC := RX3) (T := TX3) (N := 14) (ci := 3) C hin 0 rfl rfl 11 (by decide) w2 rfl rfl dX3_part_175 ?_
              refine z_sl (rest := [.long (d p1.toNatClampNeg)]) C (c_X3_first l hfl D cI cJ _ (s_X3_parts_yr (d p1.toNatClampNeg)) ) q_X3_first gX3_part_X3_first ⟨rfl, rfl⟩ rfl rfl (Nat.le_of_ble_eq_true rfl) ⟨Nat.le_of_ble_eq_true rfl, Nat.le_of_ble_eq_true rfl⟩ ⟨Nat.le_of_ble_eq_true rfl, Nat.le_of_ble_eq_true rfl⟩ dX3_part_178 ?_
              refine z_lsub C dX3_part_181 ?_
              refine z_l2i (v := (((d p1.toNatClampNeg) - (f_X3_first (s_X3_parts_yr (d p1.toNatClampNeg))))).toInt32) C dX3_part_182 rfl ?_
              refine z_iconst (v := 1) C dX3_part_183 (by decide) ?_
              refine z_iadd C dX3_part_184 ?_
              exact z_iret C ⟨congrArg (fun v => some (Value.int v)) (by rw [f_X3_part, if_pos h10, if_neg h12, if_neg h14, if_neg h15, if_neg h16, if_pos h17] : ((((d p1.toNatClampNeg) - (f_X3_first (s_X3_parts_yr (d p1.toNatClampNeg))))).toInt32 + 1) = (f_X3_part d p1 p2)), by rw [s_X3_part_co, if_pos h10, if_neg h12, if_neg h14, if_neg h15, if_neg h16, if_pos h17, s_X3_part_yr, if_pos h10, if_neg h12, if_neg h14, if_neg h15, if_neg h16, if_pos h17, s_X3_part_mo, if_pos h10, if_neg h12, if_neg h14, if_neg h15, if_neg h16, if_pos h17, s_X3_part_dy, if_pos h10, if_neg h12, if_neg h14, if_neg h15, if_neg h16, if_pos h17]⟩ (by decide) (by decide) dX3_part_185
            · refine zcases (p2 = 119) (fun h18 => ?_) (fun h18 => ?_)
              · refine z_lookup (off := 102) (tgt := 186) C dX3_part_84 (by decide) (by rw [h18]; decide) (by decide) ?_
                refine z_aload_n C dX3_part_186 rfl 0 rfl ?_
                refine z_get (CC := RX3) (T := TX3) (N := 14) (ci := 3) C hin 0 rfl rfl 1 (by decide) w1 rfl rfl dX3_part_187 ?_
                refine z_iload_n C dX3_part_190 rfl 1 rfl ?_
                refine z_lald C 1 1 rfl rfl (vpMDate h11) dX3_part_191 ?_
                refine z_si (rest := []) C (c_X3_weekdayOf l hfl D cI cJ _ (d p1.toNatClampNeg) ) q_X3_weekdayOf gX3_part_X3_weekdayOf ⟨rfl, rfl⟩ rfl rfl (Nat.le_of_ble_eq_true rfl) ⟨Nat.le_of_ble_eq_true rfl, Nat.le_of_ble_eq_true rfl⟩ ⟨Nat.le_of_ble_eq_true rfl, Nat.le_of_ble_eq_true rfl⟩ dX3_part_192 ?_
                exact z_iret C ⟨congrArg (fun v => some (Value.int v)) (by rw [f_X3_part, if_pos h10, if_neg h12, if_neg h14, if_neg h15, if_neg h16, if_neg h17, if_pos h18] : (f_X3_weekdayOf (d p1.toNatClampNeg)) = (f_X3_part d p1 p2)), by rw [s_X3_part_co, if_pos h10, if_neg h12, if_neg h14, if_neg h15, if_neg h16, if_neg h17, if_pos h18, s_X3_part_yr, if_pos h10, if_neg h12, if_neg h14, if_neg h15, if_neg h16, if_neg h17, if_pos h18, s_X3_part_mo, if_pos h10, if_neg h12, if_neg h14, if_neg h15, if_neg h16, if_neg h17, if_pos h18, s_X3_part_dy, if_pos h10, if_neg h12, if_neg h14, if_neg h15, if_neg h16, if_neg h17, if_pos h18]⟩ (by decide) (by decide) dX3_part_195
              · refine zcases (p2 = 121) (fun h19 => ?_) (fun h19 => ?_)
                · refine z_lookup (off := 68) (tgt := 152) C dX3_part_84 (by decide) (by rw [h19]; decide) (by decide) ?_
                  refine z_aload_n C dX3_part_152 rfl 0 rfl ?_
                  refine z_get (CC := RX3) (T := TX3) (N := 14) (ci := 3) C hin 0 rfl rfl 11 (by decide) w2 rfl rfl dX3_part_153 ?_
                  refine z_l2i (v := ((s_X3_parts_yr (d p1.toNatClampNeg))).toInt32) C dX3_part_156 rfl ?_
                  exact z_iret C ⟨congrArg (fun v => some (Value.int v)) (by rw [f_X3_part, if_pos h10, if_neg h12, if_neg h14, if_neg h15, if_neg h16, if_neg h17, if_neg h18, if_pos h19] : ((s_X3_parts_yr (d p1.toNatClampNeg))).toInt32 = (f_X3_part d p1 p2)), by rw [s_X3_part_co, if_pos h10, if_neg h12, if_neg h14, if_neg h15, if_neg h16, if_neg h17, if_neg h18, if_pos h19, s_X3_part_yr, if_pos h10, if_neg h12, if_neg h14, if_neg h15, if_neg h16, if_neg h17, if_neg h18, if_pos h19, s_X3_part_mo, if_pos h10, if_neg h12, if_neg h14, if_neg h15, if_neg h16, if_neg h17, if_neg h18, if_pos h19, s_X3_part_dy, if_pos h10, if_neg h12, if_neg h14, if_neg h15, if_neg h16, if_neg h17, if_neg h18, if_pos h19]⟩ (by decide) (by decide) dX3_part_157
                · refine z_lookup (off := 144) (tgt := 228) C dX3_part_84 (by decide) (zlk7 h12 h14 h15 h16 h17 h18 h19) (by decide) ?_
                  refine z_aload_n C dX3_part_228 rfl 0 rfl ?_
                  refine z_get (CC := RX3) (T := TX3) (N := 14) (ci := 3) C hin 0 rfl rfl 11 (by decide) w2 rfl rfl dX3_part_229 ?_
                  refine z_si (rest := []) C (c_X3_isLong l hfl D cI cJ _ (s_X3_parts_yr (d p1.toNatClampNeg)) ) q_X3_isLong gX3_part_X3_isLong ⟨rfl, rfl⟩ rfl rfl (Nat.le_of_ble_eq_true rfl) ⟨Nat.le_of_ble_eq_true rfl, Nat.le_of_ble_eq_true rfl⟩ ⟨Nat.le_of_ble_eq_true rfl, Nat.le_of_ble_eq_true rfl⟩ dX3_part_232 ?_
                  refine z_if_eq (tgt := 242) C dX3_part_235 (by decide) (fun h20 => ?_) (fun h20 => ?_)
                  · refine z_iconst (v := 0) C dX3_part_242 (by decide) ?_
                    exact z_iret C ⟨congrArg (fun v => some (Value.int v)) (by rw [f_X3_part, if_pos h10, if_neg h12, if_neg h14, if_neg h15, if_neg h16, if_neg h17, if_neg h18, if_neg h19, if_pos h20] : (0 : Int32) = (f_X3_part d p1 p2)), by rw [s_X3_part_co, if_pos h10, if_neg h12, if_neg h14, if_neg h15, if_neg h16, if_neg h17, if_neg h18, if_neg h19, if_pos h20, s_X3_part_yr, if_pos h10, if_neg h12, if_neg h14, if_neg h15, if_neg h16, if_neg h17, if_neg h18, if_neg h19, if_pos h20, s_X3_part_mo, if_pos h10, if_neg h12, if_neg h14, if_neg h15, if_neg h16, if_neg h17, if_neg h18, if_neg h19, if_pos h20, s_X3_part_dy, if_pos h10, if_neg h12, if_neg h14, if_neg h15, if_neg h16, if_neg h17, if_neg h18, if_neg h19, if_pos h20]⟩ (by decide) (by decide) dX3_part_243
                  · refine z_iconst (v := 1) C dX3_part_238 (by decide) ?_
                    refine z_goto (tgt := 243) C dX3_part_239 (by decide) ?_
                    exact z_iret C ⟨congrArg (fun v => some (Value.int v)) (by rw [f_X3_part, if_pos h10, if_neg h12, if_neg h14, if_neg h15, if_neg h16, if_neg h17, if_neg h18, if_neg h19, if_neg h20] : (1 : Int32) = (f_X3_part d p1 p2)), by rw [s_X3_part_co, if_pos h10, if_neg h12, if_neg h14, if_neg h15, if_neg h16, if_neg h17, if_neg h18, if_neg h19, if_neg h20, s_X3_part_yr, if_pos h10, if_neg h12, if_neg h14, if_neg h15, if_neg h16, if_neg h17, if_neg h18, if_neg h19, if_neg h20, s_X3_part_mo, if_pos h10, if_neg h12, if_neg h14, if_neg h15, if_neg h16, if_neg h17, if_neg h18, if_neg h19, if_neg h20, s_X3_part_dy, if_pos h10, if_neg h12, if_neg h14, if_neg h15, if_neg h16, if_neg h17, if_neg h18, if_neg h19, if_neg h20]⟩ (by decide) (by decide) dX3_part_243
  have K1_1 : f_X3_part_j1 p1 p2 = 1 → ((f_X3_isDate p1) = 0) → ZW p l e { frames := 5, cells := 0, slots := 0, locals := 113 } s m args below meth c 3 D (zTys cI cJ) A (zE D (zTys cI cJ) A below args s (fun v w => v = some (.int (f_X3_part d p1 p2)) ∧ w = (wM cI cJ z (s_X3_part_co d p1 p2) d ti sL bL mD mT sy sm sd mi (s_X3_part_yr d yr p1 p2) (s_X3_part_mo d mo p1 p2) (s_X3_part_dy d dy p1 p2) X)) (fun _ _ => False) 0 0) 0 0 (wM cI cJ z co d ti sL bL mD mT sy sm sd mi yr mo dy X) 65 [(0, .ref (z 0)), (1, .int p1), (2, .int p2)] [.int 1, .ref (z 0)] := by
    intro h21 h22
    refine z_wi (ws' := (wM cI cJ z (s_X3_fails_co 1) d ti sL bL mD mT sy sm sd mi yr mo dy X)) (rest := []) (ci := 3) (q0 := 0) C (c_X3_fails l hfl D cI cJ X z co d ti sL bL mD mT sy sm sd mi yr mo dy (1 : Int32) ) q_X3_fails rfl rfl rfl gX3_part_X3_fails ⟨rfl, rfl⟩ rfl rfl (Nat.le_of_ble_eq_true rfl) ⟨Nat.le_of_ble_eq_true rfl, Nat.le_of_ble_eq_true rfl⟩ ⟨Nat.le_of_ble_eq_true rfl, Nat.le_of_ble_eq_true rfl⟩ dX3_part_65 ?_
    refine z_eqst (st' := [.int 1]) (congrArg (fun v => Value.int v :: _) (by decide : (f_X3_fails 1) = (1 : Int32))) ?_
    refine z_if_eq (tgt := 73) C dX3_part_68 (by decide) (fun h => absurd h (by decide)) (fun _ => ?_)
    refine z_iconst (v := 0) C dX3_part_71 (by decide) ?_
    exact z_iret C ⟨congrArg (fun v => some (Value.int v)) (by rw [f_X3_part, if_neg (by rw [h21]; decide : ¬ f_X3_part_j1 p1 p2 = 0), if_pos h21] : (0 : Int32) = (f_X3_part d p1 p2)), by rw [s_X3_part_co, if_neg (by rw [h21]; decide : ¬ f_X3_part_j1 p1 p2 = 0), if_pos h21, s_X3_part_yr, if_neg (by rw [h21]; decide : ¬ f_X3_part_j1 p1 p2 = 0), if_pos h21, s_X3_part_mo, if_neg (by rw [h21]; decide : ¬ f_X3_part_j1 p1 p2 = 0), if_pos h21, s_X3_part_dy, if_neg (by rw [h21]; decide : ¬ f_X3_part_j1 p1 p2 = 0), if_pos h21]⟩ (by decide) (by decide) dX3_part_72
  have K1_2 : f_X3_part_j1 p1 p2 = 2 → (¬ (f_X3_isDate p1) = 0) → (¬ p2 = 100) → (¬ p2 = 108) → (¬ p2 = 109) → (¬ p2 = 110) → (¬ p2 = 119) → (¬ p2 = 121) → (¬ p2 = 76) → (¬ p2 = 98) → ZW p l e { frames := 5, cells := 0, slots := 0, locals := 113 } s m args below meth c 3 D (zTys cI cJ) A (zE D (zTys cI cJ) A below args s (fun v w => v = some (.int (f_X3_part d p1 p2)) ∧ w = (wM cI cJ z (s_X3_part_co d p1 p2) d ti sL bL mD mT sy sm sd mi (s_X3_part_yr d yr p1 p2) (s_X3_part_mo d mo p1 p2) (s_X3_part_dy d dy p1 p2) X)) (fun _ _ => False) 0 0) 0 0 (wM cI cJ z co d ti sL bL mD mT sy sm sd mi yr mo dy X) 65 [(0, .ref (z 0)), (1, .int p1), (2, .int p2)] [.int 2, .ref (z 0)] := by
    intro h23 h24 h25 h26 h27 h28 h29 h30 h31 h32
    refine z_wi (ws' := (wM cI cJ z (s_X3_fails_co 2) d ti sL bL mD mT sy sm sd mi yr mo dy X)) (rest := []) (ci := 3) (q0 := 0) C (c_X3_fails l hfl D cI cJ X z co d ti sL bL mD mT sy sm sd mi yr mo dy (2 : Int32) ) q_X3_fails rfl rfl rfl gX3_part_X3_fails ⟨rfl, rfl⟩ rfl rfl (Nat.le_of_ble_eq_true rfl) ⟨Nat.le_of_ble_eq_true rfl, Nat.le_of_ble_eq_true rfl⟩ ⟨Nat.le_of_ble_eq_true rfl, Nat.le_of_ble_eq_true rfl⟩ dX3_part_65 ?_
    refine z_eqst (st' := [.int 1]) (congrArg (fun v => Value.int v :: _) (by decide : (f_X3_fails 2) = (1 : Int32))) ?_
    refine z_if_eq (tgt := 73) C dX3_part_68 (by decide) (fun h => absurd h (by decide)) (fun _ => ?_)
    refine z_iconst (v := 0) C dX3_part_71 (by decide) ?_
    exact z_iret C ⟨congrArg (fun v => some (Value.int v)) (by rw [f_X3_part, if_neg (by rw [h23]; decide : ¬ f_X3_part_j1 p1 p2 = 0), if_neg (by rw [h23]; decide : ¬ f_X3_part_j1 p1 p2 = 1)] : (0 : Int32) = (f_X3_part d p1 p2)), by rw [s_X3_part_co, if_neg (by rw [h23]; decide : ¬ f_X3_part_j1 p1 p2 = 0), if_neg (by rw [h23]; decide : ¬ f_X3_part_j1 p1 p2 = 1), s_X3_part_yr, if_neg (by rw [h23]; decide : ¬ f_X3_part_j1 p1 p2 = 0), if_neg (by rw [h23]; decide : ¬ f_X3_part_j1 p1 p2 = 1), s_X3_part_mo, if_neg (by rw [h23]; decide : ¬ f_X3_part_j1 p1 p2 = 0), if_neg (by rw [h23]; decide : ¬ f_X3_part_j1 p1 p2 = 1), s_X3_part_dy, if_neg (by rw [h23]; decide : ¬ f_X3_part_j1 p1 p2 = 0), if_neg (by rw [h23]; decide : ¬ f_X3_part_j1 p1 p2 = 1)]⟩ (by decide) (by decide) dX3_part_72
  refine z_if_ne (tgt := 12) C dX3_part_5 (by decide) (fun h1 => ?_) (fun h1 => ?_)
  · refine z_iload_n C dX3_part_12 rfl 2 rfl ?_
    refine z_bipush (v := 121) C dX3_part_13 (by decide) ?_
    refine z_icmp_eq (tgt := 60) C dX3_part_15 (by decide) (fun h2 => ?_) (fun h2 => ?_)
    · refine z_iconst (v := 0) C dX3_part_60 (by decide) ?_
      refine z_goto (tgt := 65) C dX3_part_61 (by decide) ?_
      exact K1_0 (by rw [f_X3_part_j1, if_neg h1, if_pos h2]) h1
    · refine z_iload_n C dX3_part_18 rfl 2 rfl ?_
      refine z_bipush (v := 109) C dX3_part_19 (by decide) ?_
      refine z_icmp_eq (tgt := 60) C dX3_part_21 (by decide) (fun h3 => ?_) (fun h3 => ?_)
      · refine z_iconst (v := 0) C dX3_part_60 (by decide) ?_
        refine z_goto (tgt := 65) C dX3_part_61 (by decide) ?_
        exact K1_0 (by rw [f_X3_part_j1, if_neg h1, if_neg h2, if_pos h3]) h1
      · refine z_iload_n C dX3_part_24 rfl 2 rfl ?_
        refine z_bipush (v := 100) C dX3_part_25 (by decide) ?_
        refine z_icmp_eq (tgt := 60) C dX3_part_27 (by decide) (fun h4 => ?_) (fun h4 => ?_)
        · refine z_iconst (v := 0) C dX3_part_60 (by decide) ?_
          refine z_goto (tgt := 65) C dX3_part_61 (by decide) ?_
          exact K1_0 (by rw [f_X3_part_j1, if_neg h1, if_neg h2, if_neg h3, if_pos h4]) h1
        · refine z_iload_n C dX3_part_30 rfl 2 rfl ?_
          refine z_bipush (v := 110) C dX3_part_31 (by decide) ?_
          refine z_icmp_eq (tgt := 60) C dX3_part_33 (by decide) (fun h5 => ?_) (fun h5 => ?_)
          · refine z_iconst (v := 0) C dX3_part_60 (by decide) ?_
            refine z_goto (tgt := 65) C dX3_part_61 (by decide) ?_
            exact K1_0 (by rw [f_X3_part_j1, if_neg h1, if_neg h2, if_neg h3, if_neg h4, if_pos h5]) h1
          · refine z_iload_n C dX3_part_36 rfl 2 rfl ?_
            refine z_bipush (v := 119) C dX3_part_37 (by decide) ?_
            refine z_icmp_eq (tgt := 60) C dX3_part_39 (by decide) (fun h6 => ?_) (fun h6 => ?_)
            · refine z_iconst (v := 0) C dX3_part_60 (by decide) ?_
              refine z_goto (tgt := 65) C dX3_part_61 (by decide) ?_
              exact K1_0 (by rw [f_X3_part_j1, if_neg h1, if_neg h2, if_neg h3, if_neg h4, if_neg h5, if_pos h6]) h1
            · refine z_iload_n C dX3_part_42 rfl 2 rfl ?_
              refine z_bipush (v := 108) C dX3_part_43 (by decide) ?_
              refine z_icmp_eq (tgt := 60) C dX3_part_45 (by decide) (fun h7 => ?_) (fun h7 => ?_)
              · refine z_iconst (v := 0) C dX3_part_60 (by decide) ?_
                refine z_goto (tgt := 65) C dX3_part_61 (by decide) ?_
                exact K1_0 (by rw [f_X3_part_j1, if_neg h1, if_neg h2, if_neg h3, if_neg h4, if_neg h5, if_neg h6, if_pos h7]) h1
              · refine z_iload_n C dX3_part_48 rfl 2 rfl ?_
                refine z_bipush (v := 76) C dX3_part_49 (by decide) ?_
                refine z_icmp_eq (tgt := 60) C dX3_part_51 (by decide) (fun h8 => ?_) (fun h8 => ?_)
                · refine z_iconst (v := 0) C dX3_part_60 (by decide) ?_
                  refine z_goto (tgt := 65) C dX3_part_61 (by decide) ?_
                  exact K1_0 (by rw [f_X3_part_j1, if_neg h1, if_neg h2, if_neg h3, if_neg h4, if_neg h5, if_neg h6, if_neg h7, if_pos h8]) h1
                · refine z_iload_n C dX3_part_54 rfl 2 rfl ?_
                  refine z_bipush (v := 98) C dX3_part_55 (by decide) ?_
                  refine z_icmp_ne (tgt := 64) C dX3_part_57 (by decide) (fun h9 => ?_) (fun h9 => ?_)
                  · refine z_iconst (v := 2) C dX3_part_64 (by decide) ?_
                    exact K1_2 (by rw [f_X3_part_j1, if_neg h1, if_neg h2, if_neg h3, if_neg h4, if_neg h5, if_neg h6, if_neg h7, if_neg h8, if_neg h9]) h1 h4 h7 h3 h5 h6 h2 h8 h9
                  · refine z_iconst (v := 0) C dX3_part_60 (by decide) ?_
                    refine z_goto (tgt := 65) C dX3_part_61 (by decide) ?_
                    exact K1_0 (by rw [f_X3_part_j1, if_neg h1, if_neg h2, if_neg h3, if_neg h4, if_neg h5, if_neg h6, if_neg h7, if_neg h8, if_pos h9]) h1
  · refine z_iconst (v := 1) C dX3_part_8 (by decide) ?_
    refine z_goto (tgt := 65) C dX3_part_9 (by decide) ?_
    exact K1_1 (by rw [f_X3_part_j1, if_pos h1]) h1
def f_X3_move_j1 (p1 : Int32) (p2 : Int32) (p3 : Int32) (p4 : Int32) : Int32 := (if (f_X3_isDate p1) = 0 then 1 else (if (f_X3_isDate p4) = 0 then 1 else (if (f_X3_isUnit p2) = 0 then 2 else (if (f_X3_in ((p3).toInt64) (-1000000) 1000000) = 0 then 2 else 0))))
def f_X3_move (d : Nat → Int64) (p1 : Int32) (p2 : Int32) (p3 : Int32) (p4 : Int32) : Int64 := (if f_X3_move_j1 p1 p2 p3 p4 = 0 then (f_X3_becomes (f_X3_moved (d p1.toNatClampNeg) p2 ((p3).toInt64)) 3) else (if f_X3_move_j1 p1 p2 p3 p4 = 1 then 0 else 0))
def s_X3_move_co (d : Nat → Int64) (p1 : Int32) (p2 : Int32) (p3 : Int32) (p4 : Int32) : Int32 := (if f_X3_move_j1 p1 p2 p3 p4 = 0 then (s_X3_becomes_co (f_X3_moved (d p1.toNatClampNeg) p2 ((p3).toInt64)) 3) else (if f_X3_move_j1 p1 p2 p3 p4 = 1 then (s_X3_fails_co 1) else (s_X3_fails_co 2)))
def s_X3_move_d (d : Nat → Int64) (p1 : Int32) (p2 : Int32) (p3 : Int32) (p4 : Int32) : Nat → Int64 := (if f_X3_move_j1 p1 p2 p3 p4 = 0 then (s_X3_becomes_d d p4 (f_X3_moved (d p1.toNatClampNeg) p2 ((p3).toInt64)) 3) else (if f_X3_move_j1 p1 p2 p3 p4 = 1 then d else d))
def s_X3_move_yr (d : Nat → Int64) (yr : Int64) (p1 : Int32) (p2 : Int32) (p3 : Int32) (p4 : Int32) : Int64 := (if f_X3_move_j1 p1 p2 p3 p4 = 0 then (s_X3_becomes_yr (f_X3_moved (d p1.toNatClampNeg) p2 ((p3).toInt64)) 3) else (if f_X3_move_j1 p1 p2 p3 p4 = 1 then yr else yr))
def s_X3_move_mo (d : Nat → Int64) (mo : Int32) (p1 : Int32) (p2 : Int32) (p3 : Int32) (p4 : Int32) : Int32 := (if f_X3_move_j1 p1 p2 p3 p4 = 0 then (s_X3_becomes_mo (f_X3_moved (d p1.toNatClampNeg) p2 ((p3).toInt64)) 3) else (if f_X3_move_j1 p1 p2 p3 p4 = 1 then mo else mo))
def s_X3_move_dy (d : Nat → Int64) (dy : Int32) (p1 : Int32) (p2 : Int32) (p3 : Int32) (p4 : Int32) : Int32 := (if f_X3_move_j1 p1 p2 p3 p4 = 0 then (s_X3_becomes_dy (f_X3_moved (d p1.toNatClampNeg) p2 ((p3).toInt64)) 3) else (if f_X3_move_j1 p1 p2 p3 p4 = 1 then dy else dy))
def pre_X3_move (d : Nat → Int64) (p1 : Int32) (p2 : Int32) (p3 : Int32) (p4 : Int32) : Prop := (((f_X3_move_j1 p1 p2 p3 p4) = 0) → (¬ (f_X3_in ((p3).toInt64) (-1000000) 1000000) = 0) → (¬ (f_X3_isDate p1) = 0) → (¬ (f_X3_isDate p4) = 0) → (¬ (f_X3_isUnit p2) = 0) → (pre_X3_moved (d p1.toNatClampNeg) p2 ((p3).toInt64))) ∧ (((f_X3_move_j1 p1 p2 p3 p4) = 0) → (¬ (f_X3_in ((p3).toInt64) (-1000000) 1000000) = 0) → (¬ (f_X3_isDate p1) = 0) → (¬ (f_X3_isDate p4) = 0) → (¬ (f_X3_isUnit p2) = 0) → (pre_X3_becomes p4 (f_X3_moved (d p1.toNatClampNeg) p2 ((p3).toInt64)) 3))
theorem q_X3_move : ZY yX3_move wsX3_move cX3_move 5 (some .long) 4 := ⟨⟨_, rfl⟩, by decide +kernel, by decide +kernel, by decide +kernel⟩
set_option maxHeartbeats 4000000 in
set_option maxRecDepth 100000 in
theorem c_X3_move (l : Launch) (hfl : l.stackTraces = false) (D : va_G) (cI cJ : ClassId) (X : va_W) (z : Nat → Nat) (co : Int32) (d : Nat → Int64) (ti : Nat → Int64) (sL : Nat → Int64) (bL : Nat → Int64) (mD : Nat → Int64) (mT : Nat → Int64) (sy : Nat → Int64) (sm : Nat → Int64) (sd : Nat → Int64) (mi : Nat → Int64) (yr : Int64) (mo : Int32) (dy : Int32) (p1 : Int32) (p2 : Int32) (p3 : Int32) (p4 : Int32)  (h_g : pre_X3_move d p1 p2 p3 p4) : ZM l yX3_move wsX3_move { frames := 7, cells := 0, slots := 0, locals := 169 } [.ref (z 0), .int p1, .int p2, .int p3, .int p4] D (zTys cI cJ) (wM cI cJ z co d ti sL bL mD mT sy sm sd mi yr mo dy X) 0 0 (fun v w => v = some (.long (f_X3_move d p1 p2 p3 p4)) ∧ w = (wM cI cJ z (s_X3_move_co d p1 p2 p3 p4) (s_X3_move_d d p1 p2 p3 p4) ti sL bL mD mT sy sm sd mi (s_X3_move_yr d yr p1 p2 p3 p4) (s_X3_move_mo d mo p1 p2 p3 p4) (s_X3_move_dy d dy p1 p2 p3 p4) X)) (fun _ _ => False) := by
  refine z_open (own := RX3) hfl (cc := cX3_move) (maxL := 5) (ret := (some .long)) (lv := [(0, .ref (z 0)), (1, .int p1), (2, .int p2), (3, .int p3), (4, .int p4)]) rfl (by decide) rfl rfl (Nat.le_of_ble_eq_true rfl) ?_
  intro p e s m args below meth c A C hno hnm hargs
  have hin : ∀ w ∈ wsX30, w ∈ wsX3_move := by decide +kernel
  have w1 := C.1.2.2.2.2 (.constantLong RX3 144 (-1000000)) (by decide +kernel)
  have w2 := C.1.2.2.2.2 (.constantLong RX3 146 (1000000)) (by decide +kernel)
  have w3 := C.1.2.2.2.2 (.fieldLink RX3 13 "YearwheelModel" "dates" "[J") (by decide +kernel)
  obtain ⟨g_0, g_1⟩ := h_g
  refine z_aload_n C dX3_move_0 rfl 0 rfl ?_
  refine z_iload_n C dX3_move_1 rfl 1 rfl ?_
  refine z_si (rest := [.ref (z 0)]) C (c_X3_isDate l hfl D cI cJ _ p1 ) q_X3_isDate gX3_move_X3_isDate ⟨rfl, rfl⟩ rfl rfl (Nat.le_of_ble_eq_true rfl) ⟨Nat.le_of_ble_eq_true rfl, Nat.le_of_ble_eq_true rfl⟩ ⟨Nat.le_of_ble_eq_true rfl, Nat.le_of_ble_eq_true rfl⟩ dX3_move_2 ?_
  have K1_0 : f_X3_move_j1 p1 p2 p3 p4 = 0 → (¬ (f_X3_in ((p3).toInt64) (-1000000) 1000000) = 0) → (¬ (f_X3_isDate p1) = 0) → (¬ (f_X3_isDate p4) = 0) → (¬ (f_X3_isUnit p2) = 0) → ZW p l e { frames := 7, cells := 0, slots := 0, locals := 169 } s m args below meth c 5 D (zTys cI cJ) A (zE D (zTys cI cJ) A below args s (fun v w => v = some (.long (f_X3_move d p1 p2 p3 p4)) ∧ w = (wM cI cJ z (s_X3_move_co d p1 p2 p3 p4) (s_X3_move_d d p1 p2 p3 p4) ti sL bL mD mT sy sm sd mi (s_X3_move_yr d yr p1 p2 p3 p4) (s_X3_move_mo d mo p1 p2 p3 p4) (s_X3_move_dy d dy p1 p2 p3 p4) X)) (fun _ _ => False) 0 0) 0 0 (wM cI cJ z co d ti sL bL mD mT sy sm sd mi yr mo dy X) 46 [(0, .ref (z 0)), (1, .int p1), (2, .int p2), (3, .int p3), (4, .int p4)] [.int 0, .ref (z 0)] := by
    intro h5 h6 h7 h8 h9
    refine z_wi (ws' := (wM cI cJ z (s_X3_fails_co 0) d ti sL bL mD mT sy sm sd mi yr mo dy X)) (rest := []) (ci := 3) (q0 := 0) C (c_X3_fails l hfl D cI cJ X z co d ti sL bL mD mT sy sm sd mi yr mo dy (0 : Int32) ) q_X3_fails rfl rfl rfl gX3_move_X3_fails ⟨rfl, rfl⟩ rfl rfl (Nat.le_of_ble_eq_true rfl) ⟨Nat.le_of_ble_eq_true rfl, Nat.le_of_ble_eq_true rfl⟩ ⟨Nat.le_of_ble_eq_true rfl, Nat.le_of_ble_eq_true rfl⟩ dX3_move_46 ?_
    refine z_eqst (st' := [.int 0]) (congrArg (fun v => Value.int v :: _) (by decide : (f_X3_fails 0) = (0 : Int32))) ?_
    refine z_if_eq (tgt := 54) C dX3_move_49 (by decide) (fun _ => ?_) (fun h => absurd (by decide) h)
    refine z_aload_n C dX3_move_54 rfl 0 rfl ?_
    refine z_iload C dX3_move_55 4 rfl ?_
    refine z_aload_n C dX3_move_57 rfl 0 rfl ?_
    refine z_aload_n C dX3_move_58 rfl 0 rfl ?_
    refine z_get (CC := RX3) (T := TX3) (N := 14) (ci := 3) C hin 0 rfl rfl 1 (by decide) w3 rfl rfl dX3_move_59 ?_
    refine z_iload_n C dX3_move_62 rfl 1 rfl ?_
    refine z_lald C 1 1 rfl rfl (vpMDate h7) dX3_move_63 ?_
    refine z_iload_n C dX3_move_64 rfl 2 rfl ?_
    refine z_iload_n C dX3_move_65 rfl 3 rfl ?_
    refine z_i2l (v := (p3).toInt64) C dX3_move_66 rfl ?_
    refine z_wl (ws' := (wM cI cJ z (s_X3_fails_co 0) d ti sL bL mD mT sy sm sd mi (s_X3_moved_yr yr (d p1.toNatClampNeg) p2) (s_X3_moved_mo mo (d p1.toNatClampNeg) p2) (s_X3_moved_dy dy (d p1.toNatClampNeg) p2) X)) (rest := [.int p4, .ref (z 0)]) (ci := 3) (q0 := 0) C (c_X3_moved l hfl D cI cJ X z (s_X3_fails_co 0) d ti sL bL mD mT sy sm sd mi yr mo dy (d p1.toNatClampNeg) p2 ((p3).toInt64) (g_0 h5 h6 h7 h8 h9)) q_X3_moved rfl rfl rfl gX3_move_X3_moved ⟨rfl, rfl⟩ rfl rfl (Nat.le_of_ble_eq_true rfl) ⟨Nat.le_of_ble_eq_true rfl, Nat.le_of_ble_eq_true rfl⟩ ⟨Nat.le_of_ble_eq_true rfl, Nat.le_of_ble_eq_true rfl⟩ dX3_move_67 ?_
    refine z_iconst (v := 3) C dX3_move_70 (by decide) ?_
    refine z_wl (ws' := (wM cI cJ z (s_X3_becomes_co (f_X3_moved (d p1.toNatClampNeg) p2 ((p3).toInt64)) 3) (s_X3_becomes_d d p4 (f_X3_moved (d p1.toNatClampNeg) p2 ((p3).toInt64)) 3) ti sL bL mD mT sy sm sd mi (s_X3_becomes_yr (f_X3_moved (d p1.toNatClampNeg) p2 ((p3).toInt64)) 3) (s_X3_becomes_mo (f_X3_moved (d p1.toNatClampNeg) p2 ((p3).toInt64)) 3) (s_X3_becomes_dy (f_X3_moved (d p1.toNatClampNeg) p2 ((p3).toInt64)) 3) X)) (rest := []) (ci := 3) (q0 := 0) C (c_X3_becomes l hfl D cI cJ X z (s_X3_fails_co 0) d ti sL bL mD mT sy sm sd mi (s_X3_moved_yr yr (d p1.toNatClampNeg) p2) (s_X3_moved_mo mo (d p1.toNatClampNeg) p2) (s_X3_moved_dy dy (d p1.toNatClampNeg) p2) p4 (f_X3_moved (d p1.toNatClampNeg) p2 ((p3).toInt64)) (3 : Int32) (g_1 h5 h6 h7 h8 h9)) q_X3_becomes rfl rfl rfl gX3_move_X3_becomes ⟨rfl, rfl⟩ rfl rfl (Nat.le_of_ble_eq_true rfl) ⟨Nat.le_of_ble_eq_true rfl, Nat.le_of_ble_eq_true rfl⟩ ⟨Nat.le_of_ble_eq_true rfl, Nat.le_of_ble_eq_true rfl⟩ dX3_move_71 ?_
    exact z_lret C ⟨congrArg (fun v => some (Value.long v)) (by rw [f_X3_move, if_pos h5] : (f_X3_becomes (f_X3_moved (d p1.toNatClampNeg) p2 ((p3).toInt64)) 3) = (f_X3_move d p1 p2 p3 p4)), by rw [s_X3_move_co, if_pos h5, s_X3_move_d, if_pos h5, s_X3_move_yr, if_pos h5, s_X3_move_mo, if_pos h5, s_X3_move_dy, if_pos h5]⟩ (by decide) (by decide) dX3_move_74
  have K1_1 : f_X3_move_j1 p1 p2 p3 p4 = 1 → ZW p l e { frames := 7, cells := 0, slots := 0, locals := 169 } s m args below meth c 5 D (zTys cI cJ) A (zE D (zTys cI cJ) A below args s (fun v w => v = some (.long (f_X3_move d p1 p2 p3 p4)) ∧ w = (wM cI cJ z (s_X3_move_co d p1 p2 p3 p4) (s_X3_move_d d p1 p2 p3 p4) ti sL bL mD mT sy sm sd mi (s_X3_move_yr d yr p1 p2 p3 p4) (s_X3_move_mo d mo p1 p2 p3 p4) (s_X3_move_dy d dy p1 p2 p3 p4) X)) (fun _ _ => False) 0 0) 0 0 (wM cI cJ z co d ti sL bL mD mT sy sm sd mi yr mo dy X) 46 [(0, .ref (z 0)), (1, .int p1), (2, .int p2), (3, .int p3), (4, .int p4)] [.int 1, .ref (z 0)] := by
    intro h10
    refine z_wi (ws' := (wM cI cJ z (s_X3_fails_co 1) d ti sL bL mD mT sy sm sd mi yr mo dy X)) (rest := []) (ci := 3) (q0 := 0) C (c_X3_fails l hfl D cI cJ X z co d ti sL bL mD mT sy sm sd mi yr mo dy (1 : Int32) ) q_X3_fails rfl rfl rfl gX3_move_X3_fails ⟨rfl, rfl⟩ rfl rfl (Nat.le_of_ble_eq_true rfl) ⟨Nat.le_of_ble_eq_true rfl, Nat.le_of_ble_eq_true rfl⟩ ⟨Nat.le_of_ble_eq_true rfl, Nat.le_of_ble_eq_true rfl⟩ dX3_move_46 ?_
    refine z_eqst (st' := [.int 1]) (congrArg (fun v => Value.int v :: _) (by decide : (f_X3_fails 1) = (1 : Int32))) ?_
    refine z_if_eq (tgt := 54) C dX3_move_49 (by decide) (fun h => absurd h (by decide)) (fun _ => ?_)
    refine z_lconst (v := 0) C dX3_move_52 (by decide) ?_
    exact z_lret C ⟨congrArg (fun v => some (Value.long v)) (by rw [f_X3_move, if_neg (by rw [h10]; decide : ¬ f_X3_move_j1 p1 p2 p3 p4 = 0), if_pos h10] : (0 : Int64) = (f_X3_move d p1 p2 p3 p4)), by rw [s_X3_move_co, if_neg (by rw [h10]; decide : ¬ f_X3_move_j1 p1 p2 p3 p4 = 0), if_pos h10, s_X3_move_d, if_neg (by rw [h10]; decide : ¬ f_X3_move_j1 p1 p2 p3 p4 = 0), if_pos h10, s_X3_move_yr, if_neg (by rw [h10]; decide : ¬ f_X3_move_j1 p1 p2 p3 p4 = 0), if_pos h10, s_X3_move_mo, if_neg (by rw [h10]; decide : ¬ f_X3_move_j1 p1 p2 p3 p4 = 0), if_pos h10, s_X3_move_dy, if_neg (by rw [h10]; decide : ¬ f_X3_move_j1 p1 p2 p3 p4 = 0), if_pos h10]⟩ (by decide) (by decide) dX3_move_53
  have K1_2 : f_X3_move_j1 p1 p2 p3 p4 = 2 → (¬ (f_X3_isDate p1) = 0) → (¬ (f_X3_isDate p4) = 0) → ZW p l e { frames := 7, cells := 0, slots := 0, locals := 169 } s m args below meth c 5 D (zTys cI cJ) A (zE D (zTys cI cJ) A below args s (fun v w => v = some (.long (f_X3_move d p1 p2 p3 p4)) ∧ w = (wM cI cJ z (s_X3_move_co d p1 p2 p3 p4) (s_X3_move_d d p1 p2 p3 p4) ti sL bL mD mT sy sm sd mi (s_X3_move_yr d yr p1 p2 p3 p4) (s_X3_move_mo d mo p1 p2 p3 p4) (s_X3_move_dy d dy p1 p2 p3 p4) X)) (fun _ _ => False) 0 0) 0 0 (wM cI cJ z co d ti sL bL mD mT sy sm sd mi yr mo dy X) 46 [(0, .ref (z 0)), (1, .int p1), (2, .int p2), (3, .int p3), (4, .int p4)] [.int 2, .ref (z 0)] := by
    intro h11 h12 h13
    refine z_wi (ws' := (wM cI cJ z (s_X3_fails_co 2) d ti sL bL mD mT sy sm sd mi yr mo dy X)) (rest := []) (ci := 3) (q0 := 0) C (c_X3_fails l hfl D cI cJ X z co d ti sL bL mD mT sy sm sd mi yr mo dy (2 : Int32) ) q_X3_fails rfl rfl rfl gX3_move_X3_fails ⟨rfl, rfl⟩ rfl rfl (Nat.le_of_ble_eq_true rfl) ⟨Nat.le_of_ble_eq_true rfl, Nat.le_of_ble_eq_true rfl⟩ ⟨Nat.le_of_ble_eq_true rfl, Nat.le_of_ble_eq_true rfl⟩ dX3_move_46 ?_
    refine z_eqst (st' := [.int 1]) (congrArg (fun v => Value.int v :: _) (by decide : (f_X3_fails 2) = (1 : Int32))) ?_
    refine z_if_eq (tgt := 54) C dX3_move_49 (by decide) (fun h => absurd h (by decide)) (fun _ => ?_)
    refine z_lconst (v := 0) C dX3_move_52 (by decide) ?_
    exact z_lret C ⟨congrArg (fun v => some (Value.long v)) (by rw [f_X3_move, if_neg (by rw [h11]; decide : ¬ f_X3_move_j1 p1 p2 p3 p4 = 0), if_neg (by rw [h11]; decide : ¬ f_X3_move_j1 p1 p2 p3 p4 = 1)] : (0 : Int64) = (f_X3_move d p1 p2 p3 p4)), by rw [s_X3_move_co, if_neg (by rw [h11]; decide : ¬ f_X3_move_j1 p1 p2 p3 p4 = 0), if_neg (by rw [h11]; decide : ¬ f_X3_move_j1 p1 p2 p3 p4 = 1), s_X3_move_d, if_neg (by rw [h11]; decide : ¬ f_X3_move_j1 p1 p2 p3 p4 = 0), if_neg (by rw [h11]; decide : ¬ f_X3_move_j1 p1 p2 p3 p4 = 1), s_X3_move_yr, if_neg (by rw [h11]; decide : ¬ f_X3_move_j1 p1 p2 p3 p4 = 0), if_neg (by rw [h11]; decide : ¬ f_X3_move_j1 p1 p2 p3 p4 = 1), s_X3_move_mo, if_neg (by rw [h11]; decide : ¬ f_X3_move_j1 p1 p2 p3 p4 = 0), if_neg (by rw [h11]; decide : ¬ f_X3_move_j1 p1 p2 p3 p4 = 1), s_X3_move_dy, if_neg (by rw [h11]; decide : ¬ f_X3_move_j1 p1 p2 p3 p4 = 0), if_neg (by rw [h11]; decide : ¬ f_X3_move_j1 p1 p2 p3 p4 = 1)]⟩ (by decide) (by decide) dX3_move_53
  refine z_if_eq (tgt := 16) C dX3_move_5 (by decide) (fun h1 => ?_) (fun h1 => ?_)
  · refine z_iconst (v := 1) C dX3_move_16 (by decide) ?_
    refine z_goto (tgt := 46) C dX3_move_17 (by decide) ?_
    exact K1_1 (by rw [f_X3_move_j1, if_pos h1]) 
  · refine z_iload C dX3_move_8 4 rfl ?_
    refine z_si (rest := [.ref (z 0)]) C (c_X3_isDate l hfl D cI cJ _ p4 ) q_X3_isDate gX3_move_X3_isDate ⟨rfl, rfl⟩ rfl rfl (Nat.le_of_ble_eq_true rfl) ⟨Nat.le_of_ble_eq_true rfl, Nat.le_of_ble_eq_true rfl⟩ ⟨Nat.le_of_ble_eq_true rfl, Nat.le_of_ble_eq_true rfl⟩ dX3_move_10 ?_
    refine z_if_ne (tgt := 20) C dX3_move_13 (by decide) (fun h2 => ?_) (fun h2 => ?_)
    · refine z_iload_n C dX3_move_20 rfl 2 rfl ?_
      refine z_si (rest := [.ref (z 0)]) C (c_X3_isUnit l hfl D cI cJ _ p2 ) q_X3_isUnit gX3_move_X3_isUnit ⟨rfl, rfl⟩ rfl rfl (Nat.le_of_ble_eq_true rfl) ⟨Nat.le_of_ble_eq_true rfl, Nat.le_of_ble_eq_true rfl⟩ ⟨Nat.le_of_ble_eq_true rfl, Nat.le_of_ble_eq_true rfl⟩ dX3_move_21 ?_
      refine z_if_eq (tgt := 45) C dX3_move_24 (by decide) (fun h3 => ?_) (fun h3 => ?_)
      · refine z_iconst (v := 2) C dX3_move_45 (by decide) ?_
        exact K1_2 (by rw [f_X3_move_j1, if_neg h1, if_neg h2, if_pos h3]) h1 h2
      · refine z_iload_n C dX3_move_27 rfl 3 rfl ?_
        refine z_i2l (v := (p3).toInt64) C dX3_move_28 rfl ?_
        refine z_ldc2 (v := (-1000000)) C w1 dX3_move_29 ?_
        refine z_ldc2 (v := 1000000) C w2 dX3_move_32 ?_
        refine z_si (rest := [.ref (z 0)]) C (c_X3_in l hfl D cI cJ _ ((p3).toInt64) ((-1000000) : Int64) (1000000 : Int64) ) q_X3_in gX3_move_X3_in ⟨rfl, rfl⟩ rfl rfl (Nat.le_of_ble_eq_true rfl) ⟨Nat.le_of_ble_eq_true rfl, Nat.le_of_ble_eq_true rfl⟩ ⟨Nat.le_of_ble_eq_true rfl, Nat.le_of_ble_eq_true rfl⟩ dX3_move_35 ?_
        refine z_if_eq (tgt := 45) C dX3_move_38 (by decide) (fun h4 => ?_) (fun h4 => ?_)
        · refine z_iconst (v := 2) C dX3_move_45 (by decide) ?_
          exact K1_2 (by rw [f_X3_move_j1, if_neg h1, if_neg h2, if_neg h3, if_pos h4]) h1 h2
        · refine z_iconst (v := 0) C dX3_move_41 (by decide) ?_
          refine z_goto (tgt := 46) C dX3_move_42 (by decide) ?_
          exact K1_0 (by rw [f_X3_move_j1, if_neg h1, if_neg h2, if_neg h3, if_neg h4]) h4 h1 h2 h3
    · refine z_iconst (v := 1) C dX3_move_16 (by decide) ?_
      refine z_goto (tgt := 46) C dX3_move_17 (by decide) ?_
      exact K1_1 (by rw [f_X3_move_j1, if_neg h1, if_pos h2]) 
def f_X3_with_j1 (p1 : Int32) (p2 : Int32) (p4 : Int32) : Int32 := (if (f_X3_isDate p1) = 0 then 1 else (if (f_X3_isDate p4) = 0 then 1 else (if p2 = 100 then 0 else (if p2 = 110 then 0 else (if p2 = 109 then 0 else (if p2 = 121 then 0 else 2))))))
def f_X3_with_j2 (d : Nat → Int64) (p1 : Int32) : Int32 := (if (f_X3_isLong (s_X3_parts_yr (d p1.toNatClampNeg))) = 0 then 365 else 366)
def f_X3_with_j3 (d : Nat → Int64) (p1 : Int32) (p2 : Int32) (p3 : Int32) : Int32 := (if p2 = 100 then (if (f_X3_in ((p3).toInt64) 1 (((f_X3_many (s_X3_parts_yr (d p1.toNatClampNeg)) (s_X3_parts_mo (d p1.toNatClampNeg)))).toInt64)) = 0 then 2 else (if p2 = 110 then (if (f_X3_in ((p3).toInt64) 1 365) = 0 then 2 else (if p2 = 109 then (if (f_X3_in ((p3).toInt64) 1 12) = 0 then 2 else (if p2 = 121 then (if (f_X3_isYear ((p3).toInt64)) = 0 then 2 else 0) else 0)) else (if p2 = 121 then (if (f_X3_isYear ((p3).toInt64)) = 0 then 2 else 0) else 0))) else (if p2 = 109 then (if (f_X3_in ((p3).toInt64) 1 12) = 0 then 2 else (if p2 = 121 then (if (f_X3_isYear ((p3).toInt64)) = 0 then 2 else 0) else 0)) else (if p2 = 121 then (if (f_X3_isYear ((p3).toInt64)) = 0 then 2 else 0) else 0)))) else (if p2 = 110 then (if (f_X3_in ((p3).toInt64) 1 365) = 0 then 2 else (if p2 = 109 then (if (f_X3_in ((p3).toInt64) 1 12) = 0 then 2 else (if p2 = 121 then (if (f_X3_isYear ((p3).toInt64)) = 0 then 2 else 0) else 0)) else (if p2 = 121 then (if (f_X3_isYear ((p3).toInt64)) = 0 then 2 else 0) else 0))) else (if p2 = 109 then (if (f_X3_in ((p3).toInt64) 1 12) = 0 then 2 else (if p2 = 121 then (if (f_X3_isYear ((p3).toInt64)) = 0 then 2 else 0) else 0)) else (if p2 = 121 then (if (f_X3_isYear ((p3).toInt64)) = 0 then 2 else 0) else 0))))
def f_X3_with_j4 (d : Nat → Int64) (p1 : Int32) (p3 : Int32) : Int32 := (if (s_X3_parts_dy (d p1.toNatClampNeg)) ≤ (f_X3_many ((p3).toInt64) (s_X3_parts_mo (d p1.toNatClampNeg))) then (s_X3_parts_dy (d p1.toNatClampNeg)) else (f_X3_many ((p3).toInt64) (s_X3_parts_mo (d p1.toNatClampNeg))))
def f_X3_with_j5 (d : Nat → Int64) (p1 : Int32) (p3 : Int32) : Int32 := (if (s_X3_parts_dy (d p1.toNatClampNeg)) ≤ (f_X3_many (s_X3_parts_yr (d p1.toNatClampNeg)) p3) then (s_X3_parts_dy (d p1.toNatClampNeg)) else (f_X3_many (s_X3_parts_yr (d p1.toNatClampNeg)) p3))
def f_X3_with_j6 (d : Nat → Int64) (p1 : Int32) (p2 : Int32) (p3 : Int32) : Int64 := (if p2 = 100 then (f_X3_number (s_X3_parts_yr (d p1.toNatClampNeg)) (s_X3_parts_mo (d p1.toNatClampNeg)) p3) else (if p2 = 110 then (((f_X3_first (s_X3_parts_yr (d p1.toNatClampNeg))) + (p3).toInt64) - 1) else (if p2 = 109 then (f_X3_number (s_X3_parts_yr (d p1.toNatClampNeg)) p3 (f_X3_with_j5 d p1 p3)) else (f_X3_number ((p3).toInt64) (s_X3_parts_mo (d p1.toNatClampNeg)) (f_X3_with_j4 d p1 p3)))))
def f_X3_with_j7 (d : Nat → Int64) (p1 : Int32) (p2 : Int32) (p3 : Int32) : Int32 := (if p2 = 100 then (if (f_X3_in ((p3).toInt64) 1 (((f_X3_many (s_X3_parts_yr (d p1.toNatClampNeg)) (s_X3_parts_mo (d p1.toNatClampNeg)))).toInt64)) = 0 then 2 else (if p2 = 110 then (if (f_X3_in ((p3).toInt64) 1 366) = 0 then 2 else (if p2 = 109 then (if (f_X3_in ((p3).toInt64) 1 12) = 0 then 2 else (if p2 = 121 then (if (f_X3_isYear ((p3).toInt64)) = 0 then 2 else 0) else 0)) else (if p2 = 121 then (if (f_X3_isYear ((p3).toInt64)) = 0 then 2 else 0) else 0))) else (if p2 = 109 then (if (f_X3_in ((p3).toInt64) 1 12) = 0 then 2 else (if p2 = 121 then (if (f_X3_isYear ((p3).toInt64)) = 0 then 2 else 0) else 0)) else (if p2 = 121 then (if (f_X3_isYear ((p3).toInt64)) = 0 then 2 else 0) else 0)))) else (if p2 = 110 then (if (f_X3_in ((p3).toInt64) 1 366) = 0 then 2 else (if p2 = 109 then (if (f_X3_in ((p3).toInt64) 1 12) = 0 then 2 else (if p2 = 121 then (if (f_X3_isYear ((p3).toInt64)) = 0 then 2 else 0) else 0)) else (if p2 = 121 then (if (f_X3_isYear ((p3).toInt64)) = 0 then 2 else 0) else 0))) else (if p2 = 109 then (if (f_X3_in ((p3).toInt64) 1 12) = 0 then 2 else (if p2 = 121 then (if (f_X3_isYear ((p3).toInt64)) = 0 then 2 else 0) else 0)) else (if p2 = 121 then (if (f_X3_isYear ((p3).toInt64)) = 0 then 2 else 0) else 0))))
def f_X3_with (d : Nat → Int64) (p1 : Int32) (p2 : Int32) (p3 : Int32) (p4 : Int32) : Int64 := (if f_X3_with_j1 p1 p2 p4 = 0 then (if f_X3_with_j2 d p1 = 365 then (if f_X3_with_j3 d p1 p2 p3 = 0 then (f_X3_becomes (f_X3_with_j6 d p1 p2 p3) 3) else 0) else (if f_X3_with_j7 d p1 p2 p3 = 0 then (f_X3_becomes (f_X3_with_j6 d p1 p2 p3) 3) else 0)) else (if f_X3_with_j1 p1 p2 p4 = 1 then 0 else 0))
def s_X3_with_co (d : Nat → Int64) (p1 : Int32) (p2 : Int32) (p3 : Int32) (p4 : Int32) : Int32 := (if f_X3_with_j1 p1 p2 p4 = 0 then (if f_X3_with_j2 d p1 = 365 then (if f_X3_with_j3 d p1 p2 p3 = 0 then (s_X3_becomes_co (f_X3_with_j6 d p1 p2 p3) 3) else (s_X3_fails_co 2)) else (if f_X3_with_j7 d p1 p2 p3 = 0 then (s_X3_becomes_co (f_X3_with_j6 d p1 p2 p3) 3) else (s_X3_fails_co 2))) else (if f_X3_with_j1 p1 p2 p4 = 1 then (s_X3_fails_co 1) else (s_X3_fails_co 2)))
def s_X3_with_d (d : Nat → Int64) (p1 : Int32) (p2 : Int32) (p3 : Int32) (p4 : Int32) : Nat → Int64 := (if f_X3_with_j1 p1 p2 p4 = 0 then (if f_X3_with_j2 d p1 = 365 then (if f_X3_with_j3 d p1 p2 p3 = 0 then (s_X3_becomes_d d p4 (f_X3_with_j6 d p1 p2 p3) 3) else d) else (if f_X3_with_j7 d p1 p2 p3 = 0 then (s_X3_becomes_d d p4 (f_X3_with_j6 d p1 p2 p3) 3) else d)) else (if f_X3_with_j1 p1 p2 p4 = 1 then d else d))
def s_X3_with_yr (d : Nat → Int64) (yr : Int64) (p1 : Int32) (p2 : Int32) (p3 : Int32) (p4 : Int32) : Int64 := (if f_X3_with_j1 p1 p2 p4 = 0 then (if f_X3_with_j2 d p1 = 365 then (if f_X3_with_j3 d p1 p2 p3 = 0 then (s_X3_becomes_yr (f_X3_with_j6 d p1 p2 p3) 3) else (s_X3_parts_yr (d p1.toNatClampNeg))) else (if f_X3_with_j7 d p1 p2 p3 = 0 then (s_X3_becomes_yr (f_X3_with_j6 d p1 p2 p3) 3) else (s_X3_parts_yr (d p1.toNatClampNeg)))) else (if f_X3_with_j1 p1 p2 p4 = 1 then yr else yr))
def s_X3_with_mo (d : Nat → Int64) (mo : Int32) (p1 : Int32) (p2 : Int32) (p3 : Int32) (p4 : Int32) : Int32 := (if f_X3_with_j1 p1 p2 p4 = 0 then (if f_X3_with_j2 d p1 = 365 then (if f_X3_with_j3 d p1 p2 p3 = 0 then (s_X3_becomes_mo (f_X3_with_j6 d p1 p2 p3) 3) else (s_X3_parts_mo (d p1.toNatClampNeg))) else (if f_X3_with_j7 d p1 p2 p3 = 0 then (s_X3_becomes_mo (f_X3_with_j6 d p1 p2 p3) 3) else (s_X3_parts_mo (d p1.toNatClampNeg)))) else (if f_X3_with_j1 p1 p2 p4 = 1 then mo else mo))
def s_X3_with_dy (d : Nat → Int64) (dy : Int32) (p1 : Int32) (p2 : Int32) (p3 : Int32) (p4 : Int32) : Int32 := (if f_X3_with_j1 p1 p2 p4 = 0 then (if f_X3_with_j2 d p1 = 365 then (if f_X3_with_j3 d p1 p2 p3 = 0 then (s_X3_becomes_dy (f_X3_with_j6 d p1 p2 p3) 3) else (s_X3_parts_dy (d p1.toNatClampNeg))) else (if f_X3_with_j7 d p1 p2 p3 = 0 then (s_X3_becomes_dy (f_X3_with_j6 d p1 p2 p3) 3) else (s_X3_parts_dy (d p1.toNatClampNeg)))) else (if f_X3_with_j1 p1 p2 p4 = 1 then dy else dy))
def pre_X3_with (d : Nat → Int64) (p1 : Int32) (p2 : Int32) (p3 : Int32) (p4 : Int32) : Prop := (((f_X3_with_j1 p1 p2 p4) = 0) → (¬ (f_X3_isDate p1) = 0) → (¬ (f_X3_isDate p4) = 0) → (pre_X3_parts (d p1.toNatClampNeg))) ∧ (((f_X3_with_j1 p1 p2 p4) = 0) → (¬ (f_X3_isDate p1) = 0) → (¬ (f_X3_isDate p4) = 0) → ((f_X3_with_j2 d p1) = 365) → ((f_X3_isLong (s_X3_parts_yr (d p1.toNatClampNeg))) = 0) → ((f_X3_with_j3 d p1 p2 p3) = 0) → (¬ p2 = 100) → (¬ p2 = 110) → (¬ p2 = 109) → ((s_X3_parts_mo (d p1.toNatClampNeg)) ≤ 12)) ∧ (((f_X3_with_j1 p1 p2 p4) = 0) → (¬ (f_X3_isDate p1) = 0) → (¬ (f_X3_isDate p4) = 0) → ((f_X3_with_j2 d p1) = 365) → ((f_X3_isLong (s_X3_parts_yr (d p1.toNatClampNeg))) = 0) → ((f_X3_with_j3 d p1 p2 p3) = 0) → (¬ p2 = 100) → (¬ p2 = 110) → (p2 = 109) → (p3 ≤ 12)) ∧ (((f_X3_with_j1 p1 p2 p4) = 0) → (¬ (f_X3_isDate p1) = 0) → (¬ (f_X3_isDate p4) = 0) → ((f_X3_with_j2 d p1) = 365) → ((f_X3_isLong (s_X3_parts_yr (d p1.toNatClampNeg))) = 0) → ((f_X3_with_j3 d p1 p2 p3) = 0) → (p2 = 100) → ((s_X3_parts_mo (d p1.toNatClampNeg)) ≤ 12)) ∧ (((f_X3_with_j1 p1 p2 p4) = 0) → (¬ (f_X3_isDate p1) = 0) → (¬ (f_X3_isDate p4) = 0) → ((f_X3_with_j2 d p1) = 365) → ((f_X3_isLong (s_X3_parts_yr (d p1.toNatClampNeg))) = 0) → ((f_X3_with_j3 d p1 p2 p3) = 0) → (pre_X3_becomes p4 (f_X3_with_j6 d p1 p2 p3) 3)) ∧ (((f_X3_with_j1 p1 p2 p4) = 0) → (¬ (f_X3_isDate p1) = 0) → (¬ (f_X3_isDate p4) = 0) → ((f_X3_with_j2 d p1) = 366) → (¬ (f_X3_isLong (s_X3_parts_yr (d p1.toNatClampNeg))) = 0) → ((f_X3_with_j7 d p1 p2 p3) = 0) → (¬ p2 = 100) → (¬ p2 = 110) → (¬ p2 = 109) → ((s_X3_parts_mo (d p1.toNatClampNeg)) ≤ 12)) ∧ (((f_X3_with_j1 p1 p2 p4) = 0) → (¬ (f_X3_isDate p1) = 0) → (¬ (f_X3_isDate p4) = 0) → ((f_X3_with_j2 d p1) = 366) → (¬ (f_X3_isLong (s_X3_parts_yr (d p1.toNatClampNeg))) = 0) → ((f_X3_with_j7 d p1 p2 p3) = 0) → (¬ p2 = 100) → (¬ p2 = 110) → (p2 = 109) → (p3 ≤ 12)) ∧ (((f_X3_with_j1 p1 p2 p4) = 0) → (¬ (f_X3_isDate p1) = 0) → (¬ (f_X3_isDate p4) = 0) → ((f_X3_with_j2 d p1) = 366) → (¬ (f_X3_isLong (s_X3_parts_yr (d p1.toNatClampNeg))) = 0) → ((f_X3_with_j7 d p1 p2 p3) = 0) → (p2 = 100) → ((s_X3_parts_mo (d p1.toNatClampNeg)) ≤ 12)) ∧ (((f_X3_with_j1 p1 p2 p4) = 0) → (¬ (f_X3_isDate p1) = 0) → (¬ (f_X3_isDate p4) = 0) → ((f_X3_with_j2 d p1) = 366) → (¬ (f_X3_isLong (s_X3_parts_yr (d p1.toNatClampNeg))) = 0) → ((f_X3_with_j7 d p1 p2 p3) = 0) → (pre_X3_becomes p4 (f_X3_with_j6 d p1 p2 p3) 3))
theorem q_X3_with : ZY yX3_with wsX3_with cX3_with 8 (some .long) 4 := ⟨⟨_, rfl⟩, by decide +kernel, by decide +kernel, by decide +kernel⟩
set_option maxHeartbeats 4000000 in
set_option maxRecDepth 100000 in
theorem c_X3_with (l : Launch) (hfl : l.stackTraces = false) (D : va_G) (cI cJ : ClassId) (X : va_W) (z : Nat → Nat) (co : Int32) (d : Nat → Int64) (ti : Nat → Int64) (sL : Nat → Int64) (bL : Nat → Int64) (mD : Nat → Int64) (mT : Nat → Int64) (sy : Nat → Int64) (sm : Nat → Int64) (sd : Nat → Int64) (mi : Nat → Int64) (yr : Int64) (mo : Int32) (dy : Int32) (p1 : Int32) (p2 : Int32) (p3 : Int32) (p4 : Int32)  (h_g : pre_X3_with d p1 p2 p3 p4) : ZM l yX3_with wsX3_with { frames := 7, cells := 0, slots := 0, locals := 159 } [.ref (z 0), .int p1, .int p2, .int p3, .int p4] D (zTys cI cJ) (wM cI cJ z co d ti sL bL mD mT sy sm sd mi yr mo dy X) 0 0 (fun v w => v = some (.long (f_X3_with d p1 p2 p3 p4)) ∧ w = (wM cI cJ z (s_X3_with_co d p1 p2 p3 p4) (s_X3_with_d d p1 p2 p3 p4) ti sL bL mD mT sy sm sd mi (s_X3_with_yr d yr p1 p2 p3 p4) (s_X3_with_mo d mo p1 p2 p3 p4) (s_X3_with_dy d dy p1 p2 p3 p4) X)) (fun _ _ => False) := by
  refine z_open (own := RX3) hfl (cc := cX3_with) (maxL := 8) (ret := (some .long)) (lv := [(0, .ref (z 0)), (1, .int p1), (2, .int p2), (3, .int p3), (4, .int p4)]) rfl (by decide) rfl rfl (Nat.le_of_ble_eq_true rfl) ?_
  intro p e s m args below meth c A C hno hnm hargs
  have hin : ∀ w ∈ wsX30, w ∈ wsX3_with := by decide +kernel
  have w1 := C.1.2.2.2.2 (.fieldLink RX3 13 "YearwheelModel" "dates" "[J") (by decide +kernel)
  have w2 := C.1.2.2.2.2 (.fieldLink RX3 86 "YearwheelModel" "year" "J") (by decide +kernel)
  have w3 := C.1.2.2.2.2 (.constantLong RX3 113 (12)) (by decide +kernel)
  have w4 := C.1.2.2.2.2 (.fieldLink RX3 90 "YearwheelModel" "month" "I") (by decide +kernel)
  have w5 := C.1.2.2.2.2 (.fieldLink RX3 93 "YearwheelModel" "day" "I") (by decide +kernel)
  obtain ⟨g_0, g_1, g_2, g_3, g_4, g_5, g_6, g_7, g_8⟩ := h_g
  refine z_aload_n C dX3_with_0 rfl 0 rfl ?_
  refine z_iload_n C dX3_with_1 rfl 1 rfl ?_
  refine z_si (rest := [.ref (z 0)]) C (c_X3_isDate l hfl D cI cJ _ p1 ) q_X3_isDate gX3_with_X3_isDate ⟨rfl, rfl⟩ rfl rfl (Nat.le_of_ble_eq_true rfl) ⟨Nat.le_of_ble_eq_true rfl, Nat.le_of_ble_eq_true rfl⟩ ⟨Nat.le_of_ble_eq_true rfl, Nat.le_of_ble_eq_true rfl⟩ dX3_with_2 ?_
  have K1_0 : f_X3_with_j1 p1 p2 p4 = 0 → (¬ (f_X3_isDate p1) = 0) → (¬ (f_X3_isDate p4) = 0) → ZW p l e { frames := 7, cells := 0, slots := 0, locals := 159 } s m args below meth c 8 D (zTys cI cJ) A (zE D (zTys cI cJ) A below args s (fun v w => v = some (.long (f_X3_with d p1 p2 p3 p4)) ∧ w = (wM cI cJ z (s_X3_with_co d p1 p2 p3 p4) (s_X3_with_d d p1 p2 p3 p4) ti sL bL mD mT sy sm sd mi (s_X3_with_yr d yr p1 p2 p3 p4) (s_X3_with_mo d mo p1 p2 p3 p4) (s_X3_with_dy d dy p1 p2 p3 p4) X)) (fun _ _ => False) 0 0) 0 0 (wM cI cJ z co d ti sL bL mD mT sy sm sd mi yr mo dy X) 49 [(0, .ref (z 0)), (1, .int p1), (2, .int p2), (3, .int p3), (4, .int p4)] [.int 0, .ref (z 0)] := by
    intro h7 h8 h9
    refine z_wi (ws' := (wM cI cJ z (s_X3_fails_co 0) d ti sL bL mD mT sy sm sd mi yr mo dy X)) (rest := []) (ci := 3) (q0 := 0) C (c_X3_fails l hfl D cI cJ X z co d ti sL bL mD mT sy sm sd mi yr mo dy (0 : Int32) ) q_X3_fails rfl rfl rfl gX3_with_X3_fails ⟨rfl, rfl⟩ rfl rfl (Nat.le_of_ble_eq_true rfl) ⟨Nat.le_of_ble_eq_true rfl, Nat.le_of_ble_eq_true rfl⟩ ⟨Nat.le_of_ble_eq_true rfl, Nat.le_of_ble_eq_true rfl⟩ dX3_with_49 ?_
    refine z_eqst (st' := [.int 0]) (congrArg (fun v => Value.int v :: _) (by decide : (f_X3_fails 0) = (0 : Int32))) ?_
    refine z_if_eq (tgt := 57) C dX3_with_52 (by decide) (fun _ => ?_) (fun h => absurd (by decide) h)
    refine z_aload_n C dX3_with_57 rfl 0 rfl ?_
    refine z_aload_n C dX3_with_58 rfl 0 rfl ?_
    refine z_get (CC := RX3) (T := TX3) (N := 14) (ci := 3) C hin 0 rfl rfl 1 (by decide) w1 rfl rfl dX3_with_59 ?_
    refine z_iload_n C dX3_with_62 rfl 1 rfl ?_
    refine z_lald C 1 1 rfl rfl (vpMDate h8) dX3_with_63 ?_
    refine z_wv (ws' := (wM cI cJ z (s_X3_fails_co 0) d ti sL bL mD mT sy sm sd mi (s_X3_parts_yr (d p1.toNatClampNeg)) (s_X3_parts_mo (d p1.toNatClampNeg)) (s_X3_parts_dy (d p1.toNatClampNeg)) X)) (rest := []) (ci := 3) (q0 := 0) C (c_X3_parts l hfl D cI cJ X z (s_X3_fails_co 0) d ti sL bL mD mT sy sm sd mi yr mo dy (d p1.toNatClampNeg) (g_0 h7 h8 h9)) q_X3_parts rfl rfl rfl gX3_with_X3_parts ⟨rfl, rfl⟩ rfl rfl (Nat.le_of_ble_eq_true rfl) ⟨Nat.le_of_ble_eq_true rfl, Nat.le_of_ble_eq_true rfl⟩ ⟨Nat.le_of_ble_eq_true rfl, Nat.le_of_ble_eq_true rfl⟩ dX3_with_64 ?_
    refine z_aload_n C dX3_with_67 rfl 0 rfl ?_
    refine z_get (CC := RX3) (T := TX3) (N := 14) (ci := 3) C hin 0 rfl rfl 11 (by decide) w2 rfl rfl dX3_with_68 ?_
    refine z_si (rest := []) C (c_X3_isLong l hfl D cI cJ _ (s_X3_parts_yr (d p1.toNatClampNeg)) ) q_X3_isLong gX3_with_X3_isLong ⟨rfl, rfl⟩ rfl rfl (Nat.le_of_ble_eq_true rfl) ⟨Nat.le_of_ble_eq_true rfl, Nat.le_of_ble_eq_true rfl⟩ ⟨Nat.le_of_ble_eq_true rfl, Nat.le_of_ble_eq_true rfl⟩ dX3_with_71 ?_
    have K2_365 : f_X3_with_j2 d p1 = 365 → ((f_X3_isLong (s_X3_parts_yr (d p1.toNatClampNeg))) = 0) → ZW p l e { frames := 7, cells := 0, slots := 0, locals := 159 } s m args below meth c 8 D (zTys cI cJ) A (zE D (zTys cI cJ) A below args s (fun v w => v = some (.long (f_X3_with d p1 p2 p3 p4)) ∧ w = (wM cI cJ z (s_X3_with_co d p1 p2 p3 p4) (s_X3_with_d d p1 p2 p3 p4) ti sL bL mD mT sy sm sd mi (s_X3_with_yr d yr p1 p2 p3 p4) (s_X3_with_mo d mo p1 p2 p3 p4) (s_X3_with_dy d dy p1 p2 p3 p4) X)) (fun _ _ => False) 0 0) 0 0 (wM cI cJ z (s_X3_fails_co 0) d ti sL bL mD mT sy sm sd mi (s_X3_parts_yr (d p1.toNatClampNeg)) (s_X3_parts_mo (d p1.toNatClampNeg)) (s_X3_parts_dy (d p1.toNatClampNeg)) X) 86 [(0, .ref (z 0)), (1, .int p1), (2, .int p2), (3, .int p3), (4, .int p4)] [.int 365] := by
      intro h11 h12
      refine z_istore (lv' := [(5, .int 365), (0, .ref (z 0)), (1, .int p1), (2, .int p2), (3, .int p3), (4, .int p4)]) C dX3_with_86 (by decide) rfl ?_
      refine z_aload_n C dX3_with_88 rfl 1 rfl ?_
      refine z_iload_n C dX3_with_89 rfl 3 rfl ?_
      refine z_bipush (v := 100) C dX3_with_90 (by decide) ?_
      have K3_0 : f_X3_with_j3 d p1 p2 p3 = 0 → ZW p l e { frames := 7, cells := 0, slots := 0, locals := 159 } s m args below meth c 8 D (zTys cI cJ) A (zE D (zTys cI cJ) A below args s (fun v w => v = some (.long (f_X3_with d p1 p2 p3 p4)) ∧ w = (wM cI cJ z (s_X3_with_co d p1 p2 p3 p4) (s_X3_with_d d p1 p2 p3 p4) ti sL bL mD mT sy sm sd mi (s_X3_with_yr d yr p1 p2 p3 p4) (s_X3_with_mo d mo p1 p2 p3 p4) (s_X3_with_dy d dy p1 p2 p3 p4) X)) (fun _ _ => False) 0 0) 0 0 (wM cI cJ z (s_X3_fails_co 0) d ti sL bL mD mT sy sm sd mi (s_X3_parts_yr (d p1.toNatClampNeg)) (s_X3_parts_mo (d p1.toNatClampNeg)) (s_X3_parts_dy (d p1.toNatClampNeg)) X) 171 [(5, .int 365), (0, .ref (z 0)), (1, .int p1), (2, .int p2), (3, .int p3), (4, .int p4)] [.int 0, .ref (z 0)] := by
        intro h43
        refine z_wi (ws' := (wM cI cJ z (s_X3_fails_co 0) d ti sL bL mD mT sy sm sd mi (s_X3_parts_yr (d p1.toNatClampNeg)) (s_X3_parts_mo (d p1.toNatClampNeg)) (s_X3_parts_dy (d p1.toNatClampNeg)) X)) (rest := []) (ci := 3) (q0 := 0) C (c_X3_fails l hfl D cI cJ X z (s_X3_fails_co 0) d ti sL bL mD mT sy sm sd mi (s_X3_parts_yr (d p1.toNatClampNeg)) (s_X3_parts_mo (d p1.toNatClampNeg)) (s_X3_parts_dy (d p1.toNatClampNeg)) (0 : Int32) ) q_X3_fails rfl rfl rfl gX3_with_X3_fails ⟨rfl, rfl⟩ rfl rfl (Nat.le_of_ble_eq_true rfl) ⟨Nat.le_of_ble_eq_true rfl, Nat.le_of_ble_eq_true rfl⟩ ⟨Nat.le_of_ble_eq_true rfl, Nat.le_of_ble_eq_true rfl⟩ dX3_with_171 ?_
        refine z_eqst (st' := [.int 0]) (congrArg (fun v => Value.int v :: _) (by decide : (f_X3_fails 0) = (0 : Int32))) ?_
        refine z_if_eq (tgt := 179) C dX3_with_174 (by decide) (fun _ => ?_) (fun h => absurd (by decide) h)
        refine z_iload_n C dX3_with_179 rfl 3 rfl ?_
        refine z_bipush (v := 100) C dX3_with_180 (by decide) ?_
        have K6 : ∀ (v6_0 : Int64), (f_X3_with_j6 d p1 p2 p3) = v6_0 → ZW p l e { frames := 7, cells := 0, slots := 0, locals := 159 } s m args below meth c 8 D (zTys cI cJ) A (zE D (zTys cI cJ) A below args s (fun v w => v = some (.long (f_X3_with d p1 p2 p3 p4)) ∧ w = (wM cI cJ z (s_X3_with_co d p1 p2 p3 p4) (s_X3_with_d d p1 p2 p3 p4) ti sL bL mD mT sy sm sd mi (s_X3_with_yr d yr p1 p2 p3 p4) (s_X3_with_mo d mo p1 p2 p3 p4) (s_X3_with_dy d dy p1 p2 p3 p4) X)) (fun _ _ => False) 0 0) 0 0 (wM cI cJ z (s_X3_fails_co 0) d ti sL bL mD mT sy sm sd mi (s_X3_parts_yr (d p1.toNatClampNeg)) (s_X3_parts_mo (d p1.toNatClampNeg)) (s_X3_parts_dy (d p1.toNatClampNeg)) X) 317 [(6, .long v6_0), (5, .int 365), (0, .ref (z 0)), (1, .int p1), (2, .int p2), (3, .int p3), (4, .int p4)] [] := by
          rintro _ rfl
          refine z_aload_n C dX3_with_317 rfl 2 rfl ?_
          refine z_iload C dX3_with_318 6 rfl ?_
          refine z_lload C dX3_with_320 0 rfl ?_
          refine z_iconst (v := 3) C dX3_with_322 (by decide) ?_
          refine z_wl (ws' := (wM cI cJ z (s_X3_becomes_co (f_X3_with_j6 d p1 p2 p3) 3) (s_X3_becomes_d d p4 (f_X3_with_j6 d p1 p2 p3) 3) ti sL bL mD mT sy sm sd mi (s_X3_becomes_yr (f_X3_with_j6 d p1 p2 p3) 3) (s_X3_becomes_mo (f_X3_with_j6 d p1 p2 p3) 3) (s_X3_becomes_dy (f_X3_with_j6 d p1 p2 p3) 3) X)) (rest := []) (ci := 3) (q0 := 0) C (c_X3_becomes l hfl D cI cJ X z (s_X3_fails_co 0) d ti sL bL mD mT sy sm sd mi (s_X3_parts_yr (d p1.toNatClampNeg)) (s_X3_parts_mo (d p1.toNatClampNeg)) (s_X3_parts_dy (d p1.toNatClampNeg)) p4 (f_X3_with_j6 d p1 p2 p3) (3 : Int32) (g_4 h7 h8 h9 h11 h12 h43)) q_X3_becomes rfl rfl rfl gX3_with_X3_becomes ⟨rfl, rfl⟩ rfl rfl (Nat.le_of_ble_eq_true rfl) ⟨Nat.le_of_ble_eq_true rfl, Nat.le_of_ble_eq_true rfl⟩ ⟨Nat.le_of_ble_eq_true rfl, Nat.le_of_ble_eq_true rfl⟩ dX3_with_323 ?_
          exact z_lret C ⟨congrArg (fun v => some (Value.long v)) (by rw [f_X3_with, if_pos h7, if_pos h11, if_pos h43] : (f_X3_becomes (f_X3_with_j6 d p1 p2 p3) 3) = (f_X3_with d p1 p2 p3 p4)), by rw [s_X3_with_co, if_pos h7, if_pos h11, if_pos h43, s_X3_with_d, if_pos h7, if_pos h11, if_pos h43, s_X3_with_yr, if_pos h7, if_pos h11, if_pos h43, s_X3_with_mo, if_pos h7, if_pos h11, if_pos h43, s_X3_with_dy, if_pos h7, if_pos h11, if_pos h43]⟩ (by decide) (by decide) dX3_with_326
        refine z_icmp_ne (tgt := 202) C dX3_with_182 (by decide) (fun h44 => ?_) (fun h44 => ?_)
        · refine z_iload_n C dX3_with_202 rfl 3 rfl ?_
          refine z_bipush (v := 110) C dX3_with_203 (by decide) ?_
          refine z_icmp_ne (tgt := 225) C dX3_with_205 (by decide) (fun h45 => ?_) (fun h45 => ?_)
          · refine z_iload_n C dX3_with_225 rfl 3 rfl ?_
            refine z_bipush (v := 109) C dX3_with_226 (by decide) ?_
            refine z_icmp_ne (tgt := 274) C dX3_with_228 (by decide) (fun h46 => ?_) (fun h46 => ?_)
            · refine z_iload_n C dX3_with_274 rfl 4 rfl ?_
              refine z_i2l (v := (p3).toInt64) C dX3_with_275 rfl ?_
              refine z_aload_n C dX3_with_276 rfl 1 rfl ?_
              refine z_get (CC := RX3) (T := TX3) (N := 14) (ci := 3) C hin 0 rfl rfl 12 (by decide) w4 rfl rfl dX3_with_277 ?_
              refine z_aload_n C dX3_with_280 rfl 1 rfl ?_
              refine z_get (CC := RX3) (T := TX3) (N := 14) (ci := 3) C hin 0 rfl rfl 13 (by decide) w5 rfl rfl dX3_with_281 ?_
              refine z_iload_n C dX3_with_284 rfl 4 rfl ?_
              refine z_i2l (v := (p3).toInt64) C dX3_with_285 rfl ?_
              refine z_aload_n C dX3_with_286 rfl 1 rfl ?_
              refine z_get (CC := RX3) (T := TX3) (N := 14) (ci := 3) C hin 0 rfl rfl 12 (by decide) w4 rfl rfl dX3_with_287 ?_
              refine z_si (rest := [.int (s_X3_parts_dy (d p1.toNatClampNeg)), .int (s_X3_parts_mo (d p1.toNatClampNeg)), .long (p3).toInt64]) C (c_X3_many l hfl D cI cJ _ ((p3).toInt64) (s_X3_parts_mo (d p1.toNatClampNeg)) ) q_X3_many gX3_with_X3_many ⟨rfl, rfl⟩ rfl rfl (Nat.le_of_ble_eq_true rfl) ⟨Nat.le_of_ble_eq_true rfl, Nat.le_of_ble_eq_true rfl⟩ ⟨Nat.le_of_ble_eq_true rfl, Nat.le_of_ble_eq_true rfl⟩ dX3_with_290 ?_
              have K4 : ∀ (v4_0 : Int32), (f_X3_with_j4 d p1 p3) = v4_0 → ZW p l e { frames := 7, cells := 0, slots := 0, locals := 159 } s m args below meth c 8 D (zTys cI cJ) A (zE D (zTys cI cJ) A below args s (fun v w => v = some (.long (f_X3_with d p1 p2 p3 p4)) ∧ w = (wM cI cJ z (s_X3_with_co d p1 p2 p3 p4) (s_X3_with_d d p1 p2 p3 p4) ti sL bL mD mT sy sm sd mi (s_X3_with_yr d yr p1 p2 p3 p4) (s_X3_with_mo d mo p1 p2 p3 p4) (s_X3_with_dy d dy p1 p2 p3 p4) X)) (fun _ _ => False) 0 0) 0 0 (wM cI cJ z (s_X3_fails_co 0) d ti sL bL mD mT sy sm sd mi (s_X3_parts_yr (d p1.toNatClampNeg)) (s_X3_parts_mo (d p1.toNatClampNeg)) (s_X3_parts_dy (d p1.toNatClampNeg)) X) 312 [(5, .int 365), (0, .ref (z 0)), (1, .int p1), (2, .int p2), (3, .int p3), (4, .int p4)] [.int v4_0, .int (s_X3_parts_mo (d p1.toNatClampNeg)), .long (p3).toInt64] := by
                rintro _ rfl
                refine z_sl (rest := []) C (c_X3_number l hfl D cI cJ _ ((p3).toInt64) (s_X3_parts_mo (d p1.toNatClampNeg)) (f_X3_with_j4 d p1 p3) (g_1 h7 h8 h9 h11 h12 h43 h44 h45 h46)) q_X3_number gX3_with_X3_number ⟨rfl, rfl⟩ rfl rfl (Nat.le_of_ble_eq_true rfl) ⟨Nat.le_of_ble_eq_true rfl, Nat.le_of_ble_eq_true rfl⟩ ⟨Nat.le_of_ble_eq_true rfl, Nat.le_of_ble_eq_true rfl⟩ dX3_with_312 ?_
                refine z_lstore (lv' := [(6, .long (f_X3_number ((p3).toInt64) (s_X3_parts_mo (d p1.toNatClampNeg)) (f_X3_with_j4 d p1 p3))), (5, .int 365), (0, .ref (z 0)), (1, .int p1), (2, .int p2), (3, .int p3), (4, .int p4)]) C dX3_with_315 (by decide) rfl ?_
                exact K6 _ (by rw [f_X3_with_j6, if_neg h44, if_neg h45, if_neg h46])
              refine z_icmp_le (tgt := 308) C dX3_with_293 (by decide) (fun h47 => ?_) (fun h47 => ?_)
              · refine z_aload_n C dX3_with_308 rfl 1 rfl ?_
                refine z_get (CC := RX3) (T := TX3) (N := 14) (ci := 3) C hin 0 rfl rfl 13 (by decide) w5 rfl rfl dX3_with_309 ?_
                exact K4 _ (by rw [f_X3_with_j4, if_pos h47])
              · refine z_iload_n C dX3_with_296 rfl 4 rfl ?_
                refine z_i2l (v := (p3).toInt64) C dX3_with_297 rfl ?_
                refine z_aload_n C dX3_with_298 rfl 1 rfl ?_
                refine z_get (CC := RX3) (T := TX3) (N := 14) (ci := 3) C hin 0 rfl rfl 12 (by decide) w4 rfl rfl dX3_with_299 ?_
                refine z_si (rest := [.int (s_X3_parts_mo (d p1.toNatClampNeg)), .long (p3).toInt64]) C (c_X3_many l hfl D cI cJ _ ((p3).toInt64) (s_X3_parts_mo (d p1.toNatClampNeg)) ) q_X3_many gX3_with_X3_many ⟨rfl, rfl⟩ rfl rfl (Nat.le_of_ble_eq_true rfl) ⟨Nat.le_of_ble_eq_true rfl, Nat.le_of_ble_eq_true rfl⟩ ⟨Nat.le_of_ble_eq_true rfl, Nat.le_of_ble_eq_true rfl⟩ dX3_with_302 ?_
                refine z_goto (tgt := 312) C dX3_with_305 (by decide) ?_
                exact K4 _ (by rw [f_X3_with_j4, if_neg h47])
            · refine z_aload_n C dX3_with_231 rfl 1 rfl ?_
              refine z_get (CC := RX3) (T := TX3) (N := 14) (ci := 3) C hin 0 rfl rfl 11 (by decide) w2 rfl rfl dX3_with_232 ?_
              refine z_iload_n C dX3_with_235 rfl 4 rfl ?_
              refine z_aload_n C dX3_with_236 rfl 1 rfl ?_
              refine z_get (CC := RX3) (T := TX3) (N := 14) (ci := 3) C hin 0 rfl rfl 13 (by decide) w5 rfl rfl dX3_with_237 ?_
              refine z_aload_n C dX3_with_240 rfl 1 rfl ?_
              refine z_get (CC := RX3) (T := TX3) (N := 14) (ci := 3) C hin 0 rfl rfl 11 (by decide) w2 rfl rfl dX3_with_241 ?_
              refine z_iload_n C dX3_with_244 rfl 4 rfl ?_
              refine z_si (rest := [.int (s_X3_parts_dy (d p1.toNatClampNeg)), .int p3, .long (s_X3_parts_yr (d p1.toNatClampNeg))]) C (c_X3_many l hfl D cI cJ _ (s_X3_parts_yr (d p1.toNatClampNeg)) p3 ) q_X3_many gX3_with_X3_many ⟨rfl, rfl⟩ rfl rfl (Nat.le_of_ble_eq_true rfl) ⟨Nat.le_of_ble_eq_true rfl, Nat.le_of_ble_eq_true rfl⟩ ⟨Nat.le_of_ble_eq_true rfl, Nat.le_of_ble_eq_true rfl⟩ dX3_with_245 ?_
              have K5 : ∀ (v5_0 : Int32), (f_X3_with_j5 d p1 p3) = v5_0 → ZW p l e { frames := 7, cells := 0, slots := 0, locals := 159 } s m args below meth c 8 D (zTys cI cJ) A (zE D (zTys cI cJ) A below args s (fun v w => v = some (.long (f_X3_with d p1 p2 p3 p4)) ∧ w = (wM cI cJ z (s_X3_with_co d p1 p2 p3 p4) (s_X3_with_d d p1 p2 p3 p4) ti sL bL mD mT sy sm sd mi (s_X3_with_yr d yr p1 p2 p3 p4) (s_X3_with_mo d mo p1 p2 p3 p4) (s_X3_with_dy d dy p1 p2 p3 p4) X)) (fun _ _ => False) 0 0) 0 0 (wM cI cJ z (s_X3_fails_co 0) d ti sL bL mD mT sy sm sd mi (s_X3_parts_yr (d p1.toNatClampNeg)) (s_X3_parts_mo (d p1.toNatClampNeg)) (s_X3_parts_dy (d p1.toNatClampNeg)) X) 266 [(5, .int 365), (0, .ref (z 0)), (1, .int p1), (2, .int p2), (3, .int p3), (4, .int p4)] [.int v5_0, .int p3, .long (s_X3_parts_yr (d p1.toNatClampNeg))] := by
                rintro _ rfl
                refine z_sl (rest := []) C (c_X3_number l hfl D cI cJ _ (s_X3_parts_yr (d p1.toNatClampNeg)) p3 (f_X3_with_j5 d p1 p3) (g_2 h7 h8 h9 h11 h12 h43 h44 h45 h46)) q_X3_number gX3_with_X3_number ⟨rfl, rfl⟩ rfl rfl (Nat.le_of_ble_eq_true rfl) ⟨Nat.le_of_ble_eq_true rfl, Nat.le_of_ble_eq_true rfl⟩ ⟨Nat.le_of_ble_eq_true rfl, Nat.le_of_ble_eq_true rfl⟩ dX3_with_266 ?_
                refine z_lstore (lv' := [(6, .long (f_X3_number (s_X3_parts_yr (d p1.toNatClampNeg)) p3 (f_X3_with_j5 d p1 p3))), (5, .int 365), (0, .ref (z 0)), (1, .int p1), (2, .int p2), (3, .int p3), (4, .int p4)]) C dX3_with_269 (by decide) rfl ?_
                refine z_goto (tgt := 317) C dX3_with_271 (by decide) ?_
                exact K6 _ (by rw [f_X3_with_j6, if_neg h44, if_neg h45, if_pos h46])
              refine z_icmp_le (tgt := 262) C dX3_with_248 (by decide) (fun h48 => ?_) (fun h48 => ?_)
              · refine z_aload_n C dX3_with_262 rfl 1 rfl ?_
                refine z_get (CC := RX3) (T := TX3) (N := 14) (ci := 3) C hin 0 rfl rfl 13 (by decide) w5 rfl rfl dX3_with_263 ?_
                exact K5 _ (by rw [f_X3_with_j5, if_pos h48])
              · refine z_aload_n C dX3_with_251 rfl 1 rfl ?_
                refine z_get (CC := RX3) (T := TX3) (N := 14) (ci := 3) C hin 0 rfl rfl 11 (by decide) w2 rfl rfl dX3_with_252 ?_
                refine z_iload_n C dX3_with_255 rfl 4 rfl ?_
                refine z_si (rest := [.int p3, .long (s_X3_parts_yr (d p1.toNatClampNeg))]) C (c_X3_many l hfl D cI cJ _ (s_X3_parts_yr (d p1.toNatClampNeg)) p3 ) q_X3_many gX3_with_X3_many ⟨rfl, rfl⟩ rfl rfl (Nat.le_of_ble_eq_true rfl) ⟨Nat.le_of_ble_eq_true rfl, Nat.le_of_ble_eq_true rfl⟩ ⟨Nat.le_of_ble_eq_true rfl, Nat.le_of_ble_eq_true rfl⟩ dX3_with_256 ?_
                refine z_goto (tgt := 266) C dX3_with_259 (by decide) ?_
                exact K5 _ (by rw [f_X3_with_j5, if_neg h48])
          · refine z_aload_n C dX3_with_208 rfl 1 rfl ?_
            refine z_get (CC := RX3) (T := TX3) (N := 14) (ci := 3) C hin 0 rfl rfl 11 (by decide) w2 rfl rfl dX3_with_209 ?_
            refine z_sl (rest := []) C (c_X3_first l hfl D cI cJ _ (s_X3_parts_yr (d p1.toNatClampNeg)) ) q_X3_first gX3_with_X3_first ⟨rfl, rfl⟩ rfl rfl (Nat.le_of_ble_eq_true rfl) ⟨Nat.le_of_ble_eq_true rfl, Nat.le_of_ble_eq_true rfl⟩ ⟨Nat.le_of_ble_eq_true rfl, Nat.le_of_ble_eq_true rfl⟩ dX3_with_212 ?_
            refine z_iload_n C dX3_with_215 rfl 4 rfl ?_
            refine z_i2l (v := (p3).toInt64) C dX3_with_216 rfl ?_
            refine z_ladd C dX3_with_217 ?_
            refine z_lconst (v := 1) C dX3_with_218 (by decide) ?_
            refine z_lsub C dX3_with_219 ?_
            refine z_lstore (lv' := [(6, .long (((f_X3_first (s_X3_parts_yr (d p1.toNatClampNeg))) + (p3).toInt64) - 1)), (5, .int 365), (0, .ref (z 0)), (1, .int p1), (2, .int p2), (3, .int p3), (4, .int p4)]) C dX3_with_220 (by decide) rfl ?_
            refine z_goto (tgt := 317) C dX3_with_222 (by decide) ?_
            exact K6 _ (by rw [f_X3_with_j6, if_neg h44, if_pos h45])
        · refine z_aload_n C dX3_with_185 rfl 1 rfl ?_
          refine z_get (CC := RX3) (T := TX3) (N := 14) (ci := 3) C hin 0 rfl rfl 11 (by decide) w2 rfl rfl dX3_with_186 ?_
          refine z_aload_n C dX3_with_189 rfl 1 rfl ?_
          refine z_get (CC := RX3) (T := TX3) (N := 14) (ci := 3) C hin 0 rfl rfl 12 (by decide) w4 rfl rfl dX3_with_190 ?_
          refine z_iload_n C dX3_with_193 rfl 4 rfl ?_
          refine z_sl (rest := []) C (c_X3_number l hfl D cI cJ _ (s_X3_parts_yr (d p1.toNatClampNeg)) (s_X3_parts_mo (d p1.toNatClampNeg)) p3 (g_3 h7 h8 h9 h11 h12 h43 h44)) q_X3_number gX3_with_X3_number ⟨rfl, rfl⟩ rfl rfl (Nat.le_of_ble_eq_true rfl) ⟨Nat.le_of_ble_eq_true rfl, Nat.le_of_ble_eq_true rfl⟩ ⟨Nat.le_of_ble_eq_true rfl, Nat.le_of_ble_eq_true rfl⟩ dX3_with_194 ?_
          refine z_lstore (lv' := [(6, .long (f_X3_number (s_X3_parts_yr (d p1.toNatClampNeg)) (s_X3_parts_mo (d p1.toNatClampNeg)) p3)), (5, .int 365), (0, .ref (z 0)), (1, .int p1), (2, .int p2), (3, .int p3), (4, .int p4)]) C dX3_with_197 (by decide) rfl ?_
          refine z_goto (tgt := 317) C dX3_with_199 (by decide) ?_
          exact K6 _ (by rw [f_X3_with_j6, if_pos h44])
      have K3_2 : f_X3_with_j3 d p1 p2 p3 = 2 → ZW p l e { frames := 7, cells := 0, slots := 0, locals := 159 } s m args below meth c 8 D (zTys cI cJ) A (zE D (zTys cI cJ) A below args s (fun v w => v = some (.long (f_X3_with d p1 p2 p3 p4)) ∧ w = (wM cI cJ z (s_X3_with_co d p1 p2 p3 p4) (s_X3_with_d d p1 p2 p3 p4) ti sL bL mD mT sy sm sd mi (s_X3_with_yr d yr p1 p2 p3 p4) (s_X3_with_mo d mo p1 p2 p3 p4) (s_X3_with_dy d dy p1 p2 p3 p4) X)) (fun _ _ => False) 0 0) 0 0 (wM cI cJ z (s_X3_fails_co 0) d ti sL bL mD mT sy sm sd mi (s_X3_parts_yr (d p1.toNatClampNeg)) (s_X3_parts_mo (d p1.toNatClampNeg)) (s_X3_parts_dy (d p1.toNatClampNeg)) X) 171 [(5, .int 365), (0, .ref (z 0)), (1, .int p1), (2, .int p2), (3, .int p3), (4, .int p4)] [.int 2, .ref (z 0)] := by
        intro h49
        refine z_wi (ws' := (wM cI cJ z (s_X3_fails_co 2) d ti sL bL mD mT sy sm sd mi (s_X3_parts_yr (d p1.toNatClampNeg)) (s_X3_parts_mo (d p1.toNatClampNeg)) (s_X3_parts_dy (d p1.toNatClampNeg)) X)) (rest := []) (ci := 3) (q0 := 0) C (c_X3_fails l hfl D cI cJ X z (s_X3_fails_co 0) d ti sL bL mD mT sy sm sd mi (s_X3_parts_yr (d p1.toNatClampNeg)) (s_X3_parts_mo (d p1.toNatClampNeg)) (s_X3_parts_dy (d p1.toNatClampNeg)) (2 : Int32) ) q_X3_fails rfl rfl rfl gX3_with_X3_fails ⟨rfl, rfl⟩ rfl rfl (Nat.le_of_ble_eq_true rfl) ⟨Nat.le_of_ble_eq_true rfl, Nat.le_of_ble_eq_true rfl⟩ ⟨Nat.le_of_ble_eq_true rfl, Nat.le_of_ble_eq_true rfl⟩ dX3_with_171 ?_
        refine z_eqst (st' := [.int 1]) (congrArg (fun v => Value.int v :: _) (by decide : (f_X3_fails 2) = (1 : Int32))) ?_
        refine z_if_eq (tgt := 179) C dX3_with_174 (by decide) (fun h => absurd h (by decide)) (fun _ => ?_)
        refine z_lconst (v := 0) C dX3_with_177 (by decide) ?_
        exact z_lret C ⟨congrArg (fun v => some (Value.long v)) (by rw [f_X3_with, if_pos h7, if_pos h11, if_neg (by rw [h49]; decide : ¬ f_X3_with_j3 d p1 p2 p3 = 0)] : (0 : Int64) = (f_X3_with d p1 p2 p3 p4)), by rw [s_X3_with_co, if_pos h7, if_pos h11, if_neg (by rw [h49]; decide : ¬ f_X3_with_j3 d p1 p2 p3 = 0), s_X3_with_d, if_pos h7, if_pos h11, if_neg (by rw [h49]; decide : ¬ f_X3_with_j3 d p1 p2 p3 = 0), s_X3_with_yr, if_pos h7, if_pos h11, if_neg (by rw [h49]; decide : ¬ f_X3_with_j3 d p1 p2 p3 = 0), s_X3_with_mo, if_pos h7, if_pos h11, if_neg (by rw [h49]; decide : ¬ f_X3_with_j3 d p1 p2 p3 = 0), s_X3_with_dy, if_pos h7, if_pos h11, if_neg (by rw [h49]; decide : ¬ f_X3_with_j3 d p1 p2 p3 = 0)]⟩ (by decide) (by decide) dX3_with_178
      refine z_icmp_ne (tgt := 116) C dX3_with_92 (by decide) (fun h13 => ?_) (fun h13 => ?_)
      · refine z_iload_n C dX3_with_116 rfl 3 rfl ?_
        refine z_bipush (v := 110) C dX3_with_117 (by decide) ?_
        refine z_icmp_ne (tgt := 134) C dX3_with_119 (by decide) (fun h14 => ?_) (fun h14 => ?_)
        · refine z_iload_n C dX3_with_134 rfl 3 rfl ?_
          refine z_bipush (v := 109) C dX3_with_135 (by decide) ?_
          refine z_icmp_ne (tgt := 152) C dX3_with_137 (by decide) (fun h15 => ?_) (fun h15 => ?_)
          · refine z_iload_n C dX3_with_152 rfl 3 rfl ?_
            refine z_bipush (v := 121) C dX3_with_153 (by decide) ?_
            refine z_icmp_ne (tgt := 170) C dX3_with_155 (by decide) (fun h16 => ?_) (fun h16 => ?_)
            · refine z_iconst (v := 0) C dX3_with_170 (by decide) ?_
              exact K3_0 (by rw [f_X3_with_j3, if_neg h13, if_neg h14, if_neg h15, if_neg h16]) 
            · refine z_iload_n C dX3_with_158 rfl 4 rfl ?_
              refine z_i2l (v := (p3).toInt64) C dX3_with_159 rfl ?_
              refine z_si (rest := [.ref (z 0)]) C (c_X3_isYear l hfl D cI cJ _ ((p3).toInt64) ) q_X3_isYear gX3_with_X3_isYear ⟨rfl, rfl⟩ rfl rfl (Nat.le_of_ble_eq_true rfl) ⟨Nat.le_of_ble_eq_true rfl, Nat.le_of_ble_eq_true rfl⟩ ⟨Nat.le_of_ble_eq_true rfl, Nat.le_of_ble_eq_true rfl⟩ dX3_with_160 ?_
              refine z_if_ne (tgt := 170) C dX3_with_163 (by decide) (fun h17 => ?_) (fun h17 => ?_)
              · refine z_iconst (v := 0) C dX3_with_170 (by decide) ?_
                exact K3_0 (by rw [f_X3_with_j3, if_neg h13, if_neg h14, if_neg h15, if_pos h16, if_neg h17]) 
              · refine z_iconst (v := 2) C dX3_with_166 (by decide) ?_
                refine z_goto (tgt := 171) C dX3_with_167 (by decide) ?_
                exact K3_2 (by rw [f_X3_with_j3, if_neg h13, if_neg h14, if_neg h15, if_pos h16, if_pos h17]) 
          · refine z_iload_n C dX3_with_140 rfl 4 rfl ?_
            refine z_i2l (v := (p3).toInt64) C dX3_with_141 rfl ?_
            refine z_lconst (v := 1) C dX3_with_142 (by decide) ?_
            refine z_ldc2 (v := 12) C w3 dX3_with_143 ?_
            refine z_si (rest := [.ref (z 0)]) C (c_X3_in l hfl D cI cJ _ ((p3).toInt64) (1 : Int64) (12 : Int64) ) q_X3_in gX3_with_X3_in ⟨rfl, rfl⟩ rfl rfl (Nat.le_of_ble_eq_true rfl) ⟨Nat.le_of_ble_eq_true rfl, Nat.le_of_ble_eq_true rfl⟩ ⟨Nat.le_of_ble_eq_true rfl, Nat.le_of_ble_eq_true rfl⟩ dX3_with_146 ?_
            refine z_if_eq (tgt := 166) C dX3_with_149 (by decide) (fun h18 => ?_) (fun h18 => ?_)
            · refine z_iconst (v := 2) C dX3_with_166 (by decide) ?_
              refine z_goto (tgt := 171) C dX3_with_167 (by decide) ?_
              exact K3_2 (by rw [f_X3_with_j3, if_neg h13, if_neg h14, if_pos h15, if_pos h18]) 
            · refine z_iload_n C dX3_with_152 rfl 3 rfl ?_
              refine z_bipush (v := 121) C dX3_with_153 (by decide) ?_
              refine z_icmp_ne (tgt := 170) C dX3_with_155 (by decide) (fun h19 => ?_) (fun h19 => ?_)
              · refine z_iconst (v := 0) C dX3_with_170 (by decide) ?_
                exact K3_0 (by rw [f_X3_with_j3, if_neg h13, if_neg h14, if_pos h15, if_neg h18, if_neg h19]) 
              · refine z_iload_n C dX3_with_158 rfl 4 rfl ?_
                refine z_i2l (v := (p3).toInt64) C dX3_with_159 rfl ?_
                refine z_si (rest := [.ref (z 0)]) C (c_X3_isYear l hfl D cI cJ _ ((p3).toInt64) ) q_X3_isYear gX3_with_X3_isYear ⟨rfl, rfl⟩ rfl rfl (Nat.le_of_ble_eq_true rfl) ⟨Nat.le_of_ble_eq_true rfl, Nat.le_of_ble_eq_true rfl⟩ ⟨Nat.le_of_ble_eq_true rfl, Nat.le_of_ble_eq_true rfl⟩ dX3_with_160 ?_
                refine z_if_ne (tgt := 170) C dX3_with_163 (by decide) (fun h20 => ?_) (fun h20 => ?_)
                · refine z_iconst (v := 0) C dX3_with_170 (by decide) ?_
                  exact K3_0 (by rw [f_X3_with_j3, if_neg h13, if_neg h14, if_pos h15, if_neg h18, if_pos h19, if_neg h20]) 
                · refine z_iconst (v := 2) C dX3_with_166 (by decide) ?_
                  refine z_goto (tgt := 171) C dX3_with_167 (by decide) ?_
                  exact K3_2 (by rw [f_X3_with_j3, if_neg h13, if_neg h14, if_pos h15, if_neg h18, if_pos h19, if_pos h20]) 
        · refine z_iload_n C dX3_with_122 rfl 4 rfl ?_
          refine z_i2l (v := (p3).toInt64) C dX3_with_123 rfl ?_
          refine z_lconst (v := 1) C dX3_with_124 (by decide) ?_
          refine z_iload C dX3_with_125 0 rfl ?_
          refine z_i2l (v := 365) C dX3_with_127 (by decide) ?_
          refine z_si (rest := [.ref (z 0)]) C (c_X3_in l hfl D cI cJ _ ((p3).toInt64) (1 : Int64) (365 : Int64) ) q_X3_in gX3_with_X3_in ⟨rfl, rfl⟩ rfl rfl (Nat.le_of_ble_eq_true rfl) ⟨Nat.le_of_ble_eq_true rfl, Nat.le_of_ble_eq_true rfl⟩ ⟨Nat.le_of_ble_eq_true rfl, Nat.le_of_ble_eq_true rfl⟩ dX3_with_128 ?_
          refine z_if_eq (tgt := 166) C dX3_with_131 (by decide) (fun h21 => ?_) (fun h21 => ?_)
          · refine z_iconst (v := 2) C dX3_with_166 (by decide) ?_
            refine z_goto (tgt := 171) C dX3_with_167 (by decide) ?_
            exact K3_2 (by rw [f_X3_with_j3, if_neg h13, if_pos h14, if_pos h21]) 
          · refine z_iload_n C dX3_with_134 rfl 3 rfl ?_
            refine z_bipush (v := 109) C dX3_with_135 (by decide) ?_
            refine z_icmp_ne (tgt := 152) C dX3_with_137 (by decide) (fun h22 => ?_) (fun h22 => ?_)
            · refine z_iload_n C dX3_with_152 rfl 3 rfl ?_
              refine z_bipush (v := 121) C dX3_with_153 (by decide) ?_
              refine z_icmp_ne (tgt := 170) C dX3_with_155 (by decide) (fun h23 => ?_) (fun h23 => ?_)
              · refine z_iconst (v := 0) C dX3_with_170 (by decide) ?_
                exact K3_0 (by rw [f_X3_with_j3, if_neg h13, if_pos h14, if_neg h21, if_neg h22, if_neg h23]) 
              · refine z_iload_n C dX3_with_158 rfl 4 rfl ?_
                refine z_i2l (v := (p3).toInt64) C dX3_with_159 rfl ?_
                refine z_si (rest := [.ref (z 0)]) C (c_X3_isYear l hfl D cI cJ _ ((p3).toInt64) ) q_X3_isYear gX3_with_X3_isYear ⟨rfl, rfl⟩ rfl rfl (Nat.le_of_ble_eq_true rfl) ⟨Nat.le_of_ble_eq_true rfl, Nat.le_of_ble_eq_true rfl⟩ ⟨Nat.le_of_ble_eq_true rfl, Nat.le_of_ble_eq_true rfl⟩ dX3_with_160 ?_
                refine z_if_ne (tgt := 170) C dX3_with_163 (by decide) (fun h24 => ?_) (fun h24 => ?_)
                · refine z_iconst (v := 0) C dX3_with_170 (by decide) ?_
                  exact K3_0 (by rw [f_X3_with_j3, if_neg h13, if_pos h14, if_neg h21, if_neg h22, if_pos h23, if_neg h24]) 
                · refine z_iconst (v := 2) C dX3_with_166 (by decide) ?_
                  refine z_goto (tgt := 171) C dX3_with_167 (by decide) ?_
                  exact K3_2 (by rw [f_X3_with_j3, if_neg h13, if_pos h14, if_neg h21, if_neg h22, if_pos h23, if_pos h24]) 
            · refine z_iload_n C dX3_with_140 rfl 4 rfl ?_
              refine z_i2l (v := (p3).toInt64) C dX3_with_141 rfl ?_
              refine z_lconst (v := 1) C dX3_with_142 (by decide) ?_
              refine z_ldc2 (v := 12) C w3 dX3_with_143 ?_
              refine z_si (rest := [.ref (z 0)]) C (c_X3_in l hfl D cI cJ _ ((p3).toInt64) (1 : Int64) (12 : Int64) ) q_X3_in gX3_with_X3_in ⟨rfl, rfl⟩ rfl rfl (Nat.le_of_ble_eq_true rfl) ⟨Nat.le_of_ble_eq_true rfl, Nat.le_of_ble_eq_true rfl⟩ ⟨Nat.le_of_ble_eq_true rfl, Nat.le_of_ble_eq_true rfl⟩ dX3_with_146 ?_
              refine z_if_eq (tgt := 166) C dX3_with_149 (by decide) (fun h25 => ?_) (fun h25 => ?_)
              · refine z_iconst (v := 2) C dX3_with_166 (by decide) ?_
                refine z_goto (tgt := 171) C dX3_with_167 (by decide) ?_
                exact K3_2 (by rw [f_X3_with_j3, if_neg h13, if_pos h14, if_neg h21, if_pos h22, if_pos h25]) 
              · refine z_iload_n C dX3_with_152 rfl 3 rfl ?_
                refine z_bipush (v := 121) C dX3_with_153 (by decide) ?_
                refine z_icmp_ne (tgt := 170) C dX3_with_155 (by decide) (fun h26 => ?_) (fun h26 => ?_)
                · refine z_iconst (v := 0) C dX3_with_170 (by decide) ?_
                  exact K3_0 (by rw [f_X3_with_j3, if_neg h13, if_pos h14, if_neg h21, if_pos h22, if_neg h25, if_neg h26]) 
                · refine z_iload_n C dX3_with_158 rfl 4 rfl ?_
                  refine z_i2l (v := (p3).toInt64) C dX3_with_159 rfl ?_
                  refine z_si (rest := [.ref (z 0)]) C (c_X3_isYear l hfl D cI cJ _ ((p3).toInt64) ) q_X3_isYear gX3_with_X3_isYear ⟨rfl, rfl⟩ rfl rfl (Nat.le_of_ble_eq_true rfl) ⟨Nat.le_of_ble_eq_true rfl, Nat.le_of_ble_eq_true rfl⟩ ⟨Nat.le_of_ble_eq_true rfl, Nat.le_of_ble_eq_true rfl⟩ dX3_with_160 ?_
                  refine z_if_ne (tgt := 170) C dX3_with_163 (by decide) (fun h27 => ?_) (fun h27 => ?_)
                  · refine z_iconst (v := 0) C dX3_with_170 (by decide) ?_
                    exact K3_0 (by rw [f_X3_with_j3, if_neg h13, if_pos h14, if_neg h21, if_pos h22, if_neg h25, if_pos h26, if_neg h27]) 
                  · refine z_iconst (v := 2) C dX3_with_166 (by decide) ?_
                    refine z_goto (tgt := 171) C dX3_with_167 (by decide) ?_
                    exact K3_2 (by rw [f_X3_with_j3, if_neg h13, if_pos h14, if_neg h21, if_pos h22, if_neg h25, if_pos h26, if_pos h27]) 
      · refine z_iload_n C dX3_with_95 rfl 4 rfl ?_
        refine z_i2l (v := (p3).toInt64) C dX3_with_96 rfl ?_
        refine z_lconst (v := 1) C dX3_with_97 (by decide) ?_
        refine z_aload_n C dX3_with_98 rfl 1 rfl ?_
        refine z_get (CC := RX3) (T := TX3) (N := 14) (ci := 3) C hin 0 rfl rfl 11 (by decide) w2 rfl rfl dX3_with_99 ?_
        refine z_aload_n C dX3_with_102 rfl 1 rfl ?_
        refine z_get (CC := RX3) (T := TX3) (N := 14) (ci := 3) C hin 0 rfl rfl 12 (by decide) w4 rfl rfl dX3_with_103 ?_
        refine z_si (rest := [.long 1, .long (p3).toInt64, .ref (z 0)]) C (c_X3_many l hfl D cI cJ _ (s_X3_parts_yr (d p1.toNatClampNeg)) (s_X3_parts_mo (d p1.toNatClampNeg)) ) q_X3_many gX3_with_X3_many ⟨rfl, rfl⟩ rfl rfl (Nat.le_of_ble_eq_true rfl) ⟨Nat.le_of_ble_eq_true rfl, Nat.le_of_ble_eq_true rfl⟩ ⟨Nat.le_of_ble_eq_true rfl, Nat.le_of_ble_eq_true rfl⟩ dX3_with_106 ?_
        refine z_i2l (v := ((f_X3_many (s_X3_parts_yr (d p1.toNatClampNeg)) (s_X3_parts_mo (d p1.toNatClampNeg)))).toInt64) C dX3_with_109 rfl ?_
        refine z_si (rest := [.ref (z 0)]) C (c_X3_in l hfl D cI cJ _ ((p3).toInt64) (1 : Int64) (((f_X3_many (s_X3_parts_yr (d p1.toNatClampNeg)) (s_X3_parts_mo (d p1.toNatClampNeg)))).toInt64) ) q_X3_in gX3_with_X3_in ⟨rfl, rfl⟩ rfl rfl (Nat.le_of_ble_eq_true rfl) ⟨Nat.le_of_ble_eq_true rfl, Nat.le_of_ble_eq_true rfl⟩ ⟨Nat.le_of_ble_eq_true rfl, Nat.le_of_ble_eq_true rfl⟩ dX3_with_110 ?_
        refine z_if_eq (tgt := 166) C dX3_with_113 (by decide) (fun h28 => ?_) (fun h28 => ?_)
        · refine z_iconst (v := 2) C dX3_with_166 (by decide) ?_
          refine z_goto (tgt := 171) C dX3_with_167 (by decide) ?_
          exact K3_2 (by rw [f_X3_with_j3, if_pos h13, if_pos h28]) 
        · refine z_iload_n C dX3_with_116 rfl 3 rfl ?_
          refine z_bipush (v := 110) C dX3_with_117 (by decide) ?_
          refine z_icmp_ne (tgt := 134) C dX3_with_119 (by decide) (fun h29 => ?_) (fun h29 => ?_)
          · refine z_iload_n C dX3_with_134 rfl 3 rfl ?_
            refine z_bipush (v := 109) C dX3_with_135 (by decide) ?_
            refine z_icmp_ne (tgt := 152) C dX3_with_137 (by decide) (fun h30 => ?_) (fun h30 => ?_)
            · refine z_iload_n C dX3_with_152 rfl 3 rfl ?_
              refine z_bipush (v := 121) C dX3_with_153 (by decide) ?_
              refine z_icmp_ne (tgt := 170) C dX3_with_155 (by decide) (fun h31 => ?_) (fun h31 => ?_)
              · refine z_iconst (v := 0) C dX3_with_170 (by decide) ?_
                exact K3_0 (by rw [f_X3_with_j3, if_pos h13, if_neg h28, if_neg h29, if_neg h30, if_neg h31]) 
              · refine z_iload_n C dX3_with_158 rfl 4 rfl ?_
                refine z_i2l (v := (p3).toInt64) C dX3_with_159 rfl ?_
                refine z_si (rest := [.ref (z 0)]) C (c_X3_isYear l hfl D cI cJ _ ((p3).toInt64) ) q_X3_isYear gX3_with_X3_isYear ⟨rfl, rfl⟩ rfl rfl (Nat.le_of_ble_eq_true rfl) ⟨Nat.le_of_ble_eq_true rfl, Nat.le_of_ble_eq_true rfl⟩ ⟨Nat.le_of_ble_eq_true rfl, Nat.le_of_ble_eq_true rfl⟩ dX3_with_160 ?_
                refine z_if_ne (tgt := 170) C dX3_with_163 (by decide) (fun h32 => ?_) (fun h32 => ?_)
                · refine z_iconst (v := 0) C dX3_with_170 (by decide) ?_
                  exact K3_0 (by rw [f_X3_with_j3, if_pos h13, if_neg h28, if_neg h29, if_neg h30, if_pos h31, if_neg h32]) 
                · refine z_iconst (v := 2) C dX3_with_166 (by decide) ?_
                  refine z_goto (tgt := 171) C dX3_with_167 (by decide) ?_
                  exact K3_2 (by rw [f_X3_with_j3, if_pos h13, if_neg h28, if_neg h29, if_neg h30, if_pos h31, if_pos h32]) 
            · refine z_iload_n C dX3_with_140 rfl 4 rfl ?_
              refine z_i2l (v := (p3).toInt64) C dX3_with_141 rfl ?_
              refine z_lconst (v := 1) C dX3_with_142 (by decide) ?_
              refine z_ldc2 (v := 12) C w3 dX3_with_143 ?_
              refine z_si (rest := [.ref (z 0)]) C (c_X3_in l hfl D cI cJ _ ((p3).toInt64) (1 : Int64) (12 : Int64) ) q_X3_in gX3_with_X3_in ⟨rfl, rfl⟩ rfl rfl (Nat.le_of_ble_eq_true rfl) ⟨Nat.le_of_ble_eq_true rfl, Nat.le_of_ble_eq_true rfl⟩ ⟨Nat.le_of_ble_eq_true rfl, Nat.le_of_ble_eq_true rfl⟩ dX3_with_146 ?_
              refine z_if_eq (tgt := 166) C dX3_with_149 (by decide) (fun h33 => ?_) (fun h33 => ?_)
              · refine z_iconst (v := 2) C dX3_with_166 (by decide) ?_
                refine z_goto (tgt := 171) C dX3_with_167 (by decide) ?_
                exact K3_2 (by rw [f_X3_with_j3, if_pos h13, if_neg h28, if_neg h29, if_pos h30, if_pos h33]) 
              · refine z_iload_n C dX3_with_152 rfl 3 rfl ?_
                refine z_bipush (v := 121) C dX3_with_153 (by decide) ?_
                refine z_icmp_ne (tgt := 170) C dX3_with_155 (by decide) (fun h34 => ?_) (fun h34 => ?_)
                · refine z_iconst (v := 0) C dX3_with_170 (by decide) ?_
                  exact K3_0 (by rw [f_X3_with_j3, if_pos h13, if_neg h28, if_neg h29, if_pos h30, if_neg h33, if_neg h34]) 
                · refine z_iload_n C dX3_with_158 rfl 4 rfl ?_
                  refine z_i2l (v := (p3).toInt64) C dX3_with_159 rfl ?_
                  refine z_si (rest := [.ref (z 0)]) C (c_X3_isYear l hfl D cI cJ _ ((p3).toInt64) ) q_X3_isYear gX3_with_X3_isYear ⟨rfl, rfl⟩ rfl rfl (Nat.le_of_ble_eq_true rfl) ⟨Nat.le_of_ble_eq_true rfl, Nat.le_of_ble_eq_true rfl⟩ ⟨Nat.le_of_ble_eq_true rfl, Nat.le_of_ble_eq_true rfl⟩ dX3_with_160 ?_
                  refine z_if_ne (tgt := 170) C dX3_with_163 (by decide) (fun h35 => ?_) (fun h35 => ?_)
                  · refine z_iconst (v := 0) C dX3_with_170 (by decide) ?_
                    exact K3_0 (by rw [f_X3_with_j3, if_pos h13, if_neg h28, if_neg h29, if_pos h30, if_neg h33, if_pos h34, if_neg h35]) 
                  · refine z_iconst (v := 2) C dX3_with_166 (by decide) ?_
                    refine z_goto (tgt := 171) C dX3_with_167 (by decide) ?_
                    exact K3_2 (by rw [f_X3_with_j3, if_pos h13, if_neg h28, if_neg h29, if_pos h30, if_neg h33, if_pos h34, if_pos h35]) 
          · refine z_iload_n C dX3_with_122 rfl 4 rfl ?_
            refine z_i2l (v := (p3).toInt64) C dX3_with_123 rfl ?_
            refine z_lconst (v := 1) C dX3_with_124 (by decide) ?_
            refine z_iload C dX3_with_125 0 rfl ?_
            refine z_i2l (v := 365) C dX3_with_127 (by decide) ?_
            refine z_si (rest := [.ref (z 0)]) C (c_X3_in l hfl D cI cJ _ ((p3).toInt64) (1 : Int64) (365 : Int64) ) q_X3_in gX3_with_X3_in ⟨rfl, rfl⟩ rfl rfl (Nat.le_of_ble_eq_true rfl) ⟨Nat.le_of_ble_eq_true rfl, Nat.le_of_ble_eq_true rfl⟩ ⟨Nat.le_of_ble_eq_true rfl, Nat.le_of_ble_eq_true rfl⟩ dX3_with_128 ?_
            refine z_if_eq (tgt := 166) C dX3_with_131 (by decide) (fun h36 => ?_) (fun h36 => ?_)
            · refine z_iconst (v := 2) C dX3_with_166 (by decide) ?_
              refine z_goto (tgt := 171) C dX3_with_167 (by decide) ?_
              exact K3_2 (by rw [f_X3_with_j3, if_pos h13, if_neg h28, if_pos h29, if_pos h36]) 
            · refine z_iload_n C dX3_with_134 rfl 3 rfl ?_
              refine z_bipush (v := 109) C dX3_with_135 (by decide) ?_
              refine z_icmp_ne (tgt := 152) C dX3_with_137 (by decide) (fun h37 => ?_) (fun h37 => ?_)
              · refine z_iload_n C dX3_with_152 rfl 3 rfl ?_
                refine z_bipush (v := 121) C dX3_with_153 (by decide) ?_
                refine z_icmp_ne (tgt := 170) C dX3_with_155 (by decide) (fun h38 => ?_) (fun h38 => ?_)
                · refine z_iconst (v := 0) C dX3_with_170 (by decide) ?_
                  exact K3_0 (by rw [f_X3_with_j3, if_pos h13, if_neg h28, if_pos h29, if_neg h36, if_neg h37, if_neg h38]) 
                · refine z_iload_n C dX3_with_158 rfl 4 rfl ?_
                  refine z_i2l (v := (p3).toInt64) C dX3_with_159 rfl ?_
                  refine z_si (rest := [.ref (z 0)]) C (c_X3_isYear l hfl D cI cJ _ ((p3).toInt64) ) q_X3_isYear gX3_with_X3_isYear ⟨rfl, rfl⟩ rfl rfl (Nat.le_of_ble_eq_true rfl) ⟨Nat.le_of_ble_eq_true rfl, Nat.le_of_ble_eq_true rfl⟩ ⟨Nat.le_of_ble_eq_true rfl, Nat.le_of_ble_eq_true rfl⟩ dX3_with_160 ?_
                  refine z_if_ne (tgt := 170) C dX3_with_163 (by decide) (fun h39 => ?_) (fun h39 => ?_)
                  · refine z_iconst (v := 0) C dX3_with_170 (by decide) ?_
                    exact K3_0 (by rw [f_X3_with_j3, if_pos h13, if_neg h28, if_pos h29, if_neg h36, if_neg h37, if_pos h38, if_neg h39]) 
                  · refine z_iconst (v := 2) C dX3_with_166 (by decide) ?_
                    refine z_goto (tgt := 171) C dX3_with_167 (by decide) ?_
                    exact K3_2 (by rw [f_X3_with_j3, if_pos h13, if_neg h28, if_pos h29, if_neg h36, if_neg h37, if_pos h38, if_pos h39]) 
              · refine z_iload_n C dX3_with_140 rfl 4 rfl ?_
                refine z_i2l (v := (p3).toInt64) C dX3_with_141 rfl ?_
                refine z_lconst (v := 1) C dX3_with_142 (by decide) ?_
                refine z_ldc2 (v := 12) C w3 dX3_with_143 ?_
                refine z_si (rest := [.ref (z 0)]) C (c_X3_in l hfl D cI cJ _ ((p3).toInt64) (1 : Int64) (12 : Int64) ) q_X3_in gX3_with_X3_in ⟨rfl, rfl⟩ rfl rfl (Nat.le_of_ble_eq_true rfl) ⟨Nat.le_of_ble_eq_true rfl, Nat.le_of_ble_eq_true rfl⟩ ⟨Nat.le_of_ble_eq_true rfl, Nat.le_of_ble_eq_true rfl⟩ dX3_with_146 ?_
                refine z_if_eq (tgt := 166) C dX3_with_149 (by decide) (fun h40 => ?_) (fun h40 => ?_)
                · refine z_iconst (v := 2) C dX3_with_166 (by decide) ?_
                  refine z_goto (tgt := 171) C dX3_with_167 (by decide) ?_
                  exact K3_2 (by rw [f_X3_with_j3, if_pos h13, if_neg h28, if_pos h29, if_neg h36, if_pos h37, if_pos h40]) 
                · refine z_iload_n C dX3_with_152 rfl 3 rfl ?_
                  refine z_bipush (v := 121) C dX3_with_153 (by decide) ?_
                  refine z_icmp_ne (tgt := 170) C dX3_with_155 (by decide) (fun h41 => ?_) (fun h41 => ?_)
                  · refine z_iconst (v := 0) C dX3_with_170 (by decide) ?_
                    exact K3_0 (by rw [f_X3_with_j3, if_pos h13, if_neg h28, if_pos h29, if_neg h36, if_pos h37, if_neg h40, if_neg h41]) 
                  · refine z_iload_n C dX3_with_158 rfl 4 rfl ?_
                    refine z_i2l (v := (p3).toInt64) C dX3_with_159 rfl ?_
                    refine z_si (rest := [.ref (z 0)]) C (c_X3_isYear l hfl D cI cJ _ ((p3).toInt64) ) q_X3_isYear gX3_with_X3_isYear ⟨rfl, rfl⟩ rfl rfl (Nat.le_of_ble_eq_true rfl) ⟨Nat.le_of_ble_eq_true rfl, Nat.le_of_ble_eq_true rfl⟩ ⟨Nat.le_of_ble_eq_true rfl, Nat.le_of_ble_eq_true rfl⟩ dX3_with_160 ?_
                    refine z_if_ne (tgt := 170) C dX3_with_163 (by decide) (fun h42 => ?_) (fun h42 => ?_)
                    · refine z_iconst (v := 0) C dX3_with_170 (by decide) ?_
                      exact K3_0 (by rw [f_X3_with_j3, if_pos h13, if_neg h28, if_pos h29, if_neg h36, if_pos h37, if_neg h40, if_pos h41, if_neg h42]) 
                    · refine z_iconst (v := 2) C dX3_with_166 (by decide) ?_
                      refine z_goto (tgt := 171) C dX3_with_167 (by decide) ?_
                      exact K3_2 (by rw [f_X3_with_j3, if_pos h13, if_neg h28, if_pos h29, if_neg h36, if_pos h37, if_neg h40, if_pos h41, if_pos h42]) 
    have K2_366 : f_X3_with_j2 d p1 = 366 → (¬ (f_X3_isLong (s_X3_parts_yr (d p1.toNatClampNeg))) = 0) → ZW p l e { frames := 7, cells := 0, slots := 0, locals := 159 } s m args below meth c 8 D (zTys cI cJ) A (zE D (zTys cI cJ) A below args s (fun v w => v = some (.long (f_X3_with d p1 p2 p3 p4)) ∧ w = (wM cI cJ z (s_X3_with_co d p1 p2 p3 p4) (s_X3_with_d d p1 p2 p3 p4) ti sL bL mD mT sy sm sd mi (s_X3_with_yr d yr p1 p2 p3 p4) (s_X3_with_mo d mo p1 p2 p3 p4) (s_X3_with_dy d dy p1 p2 p3 p4) X)) (fun _ _ => False) 0 0) 0 0 (wM cI cJ z (s_X3_fails_co 0) d ti sL bL mD mT sy sm sd mi (s_X3_parts_yr (d p1.toNatClampNeg)) (s_X3_parts_mo (d p1.toNatClampNeg)) (s_X3_parts_dy (d p1.toNatClampNeg)) X) 86 [(0, .ref (z 0)), (1, .int p1), (2, .int p2), (3, .int p3), (4, .int p4)] [.int 366] := by
      intro h50 h51
      refine z_istore (lv' := [(5, .int 366), (0, .ref (z 0)), (1, .int p1), (2, .int p2), (3, .int p3), (4, .int p4)]) C dX3_with_86 (by decide) rfl ?_
      refine z_aload_n C dX3_with_88 rfl 1 rfl ?_
      refine z_iload_n C dX3_with_89 rfl 3 rfl ?_
      refine z_bipush (v := 100) C dX3_with_90 (by decide) ?_
      have K7_0 : f_X3_with_j7 d p1 p2 p3 = 0 → ZW p l e { frames := 7, cells := 0, slots := 0, locals := 159 } s m args below meth c 8 D (zTys cI cJ) A (zE D (zTys cI cJ) A below args s (fun v w => v = some (.long (f_X3_with d p1 p2 p3 p4)) ∧ w = (wM cI cJ z (s_X3_with_co d p1 p2 p3 p4) (s_X3_with_d d p1 p2 p3 p4) ti sL bL mD mT sy sm sd mi (s_X3_with_yr d yr p1 p2 p3 p4) (s_X3_with_mo d mo p1 p2 p3 p4) (s_X3_with_dy d dy p1 p2 p3 p4) X)) (fun _ _ => False) 0 0) 0 0 (wM cI cJ z (s_X3_fails_co 0) d ti sL bL mD mT sy sm sd mi (s_X3_parts_yr (d p1.toNatClampNeg)) (s_X3_parts_mo (d p1.toNatClampNeg)) (s_X3_parts_dy (d p1.toNatClampNeg)) X) 171 [(5, .int 366), (0, .ref (z 0)), (1, .int p1), (2, .int p2), (3, .int p3), (4, .int p4)] [.int 0, .ref (z 0)] := by
        intro h82
        refine z_wi (ws' := (wM cI cJ z (s_X3_fails_co 0) d ti sL bL mD mT sy sm sd mi (s_X3_parts_yr (d p1.toNatClampNeg)) (s_X3_parts_mo (d p1.toNatClampNeg)) (s_X3_parts_dy (d p1.toNatClampNeg)) X)) (rest := []) (ci := 3) (q0 := 0) C (c_X3_fails l hfl D cI cJ X z (s_X3_fails_co 0) d ti sL bL mD mT sy sm sd mi (s_X3_parts_yr (d p1.toNatClampNeg)) (s_X3_parts_mo (d p1.toNatClampNeg)) (s_X3_parts_dy (d p1.toNatClampNeg)) (0 : Int32) ) q_X3_fails rfl rfl rfl gX3_with_X3_fails ⟨rfl, rfl⟩ rfl rfl (Nat.le_of_ble_eq_true rfl) ⟨Nat.le_of_ble_eq_true rfl, Nat.le_of_ble_eq_true rfl⟩ ⟨Nat.le_of_ble_eq_true rfl, Nat.le_of_ble_eq_true rfl⟩ dX3_with_171 ?_
        refine z_eqst (st' := [.int 0]) (congrArg (fun v => Value.int v :: _) (by decide : (f_X3_fails 0) = (0 : Int32))) ?_
        refine z_if_eq (tgt := 179) C dX3_with_174 (by decide) (fun _ => ?_) (fun h => absurd (by decide) h)
        refine z_iload_n C dX3_with_179 rfl 3 rfl ?_
        refine z_bipush (v := 100) C dX3_with_180 (by decide) ?_
        have K10 : ∀ (v10_0 : Int64), (f_X3_with_j6 d p1 p2 p3) = v10_0 → ZW p l e { frames := 7, cells := 0, slots := 0, locals := 159 } s m args below meth c 8 D (zTys cI cJ) A (zE D (zTys cI cJ) A below args s (fun v w => v = some (.long (f_X3_with d p1 p2 p3 p4)) ∧ w = (wM cI cJ z (s_X3_with_co d p1 p2 p3 p4) (s_X3_with_d d p1 p2 p3 p4) ti sL bL mD mT sy sm sd mi (s_X3_with_yr d yr p1 p2 p3 p4) (s_X3_with_mo d mo p1 p2 p3 p4) (s_X3_with_dy d dy p1 p2 p3 p4) X)) (fun _ _ => False) 0 0) 0 0 (wM cI cJ z (s_X3_fails_co 0) d ti sL bL mD mT sy sm sd mi (s_X3_parts_yr (d p1.toNatClampNeg)) (s_X3_parts_mo (d p1.toNatClampNeg)) (s_X3_parts_dy (d p1.toNatClampNeg)) X) 317 [(6, .long v10_0), (5, .int 366), (0, .ref (z 0)), (1, .int p1), (2, .int p2), (3, .int p3), (4, .int p4)] [] := by
          rintro _ rfl
          refine z_aload_n C dX3_with_317 rfl 2 rfl ?_
          refine z_iload C dX3_with_318 6 rfl ?_
          refine z_lload C dX3_with_320 0 rfl ?_
          refine z_iconst (v := 3) C dX3_with_322 (by decide) ?_
          refine z_wl (ws' := (wM cI cJ z (s_X3_becomes_co (f_X3_with_j6 d p1 p2 p3) 3) (s_X3_becomes_d d p4 (f_X3_with_j6 d p1 p2 p3) 3) ti sL bL mD mT sy sm sd mi (s_X3_becomes_yr (f_X3_with_j6 d p1 p2 p3) 3) (s_X3_becomes_mo (f_X3_with_j6 d p1 p2 p3) 3) (s_X3_becomes_dy (f_X3_with_j6 d p1 p2 p3) 3) X)) (rest := []) (ci := 3) (q0 := 0) C (c_X3_becomes l hfl D cI cJ X z (s_X3_fails_co 0) d ti sL bL mD mT sy sm sd mi (s_X3_parts_yr (d p1.toNatClampNeg)) (s_X3_parts_mo (d p1.toNatClampNeg)) (s_X3_parts_dy (d p1.toNatClampNeg)) p4 (f_X3_with_j6 d p1 p2 p3) (3 : Int32) (g_8 h7 h8 h9 h50 h51 h82)) q_X3_becomes rfl rfl rfl gX3_with_X3_becomes ⟨rfl, rfl⟩ rfl rfl (Nat.le_of_ble_eq_true rfl) ⟨Nat.le_of_ble_eq_true rfl, Nat.le_of_ble_eq_true rfl⟩ ⟨Nat.le_of_ble_eq_true rfl, Nat.le_of_ble_eq_true rfl⟩ dX3_with_323 ?_
          exact z_lret C ⟨congrArg (fun v => some (Value.long v)) (by rw [f_X3_with, if_pos h7, if_neg (by rw [h50]; decide : ¬ f_X3_with_j2 d p1 = 365), if_pos h82] : (f_X3_becomes (f_X3_with_j6 d p1 p2 p3) 3) = (f_X3_with d p1 p2 p3 p4)), by rw [s_X3_with_co, if_pos h7, if_neg (by rw [h50]; decide : ¬ f_X3_with_j2 d p1 = 365), if_pos h82, s_X3_with_d, if_pos h7, if_neg (by rw [h50]; decide : ¬ f_X3_with_j2 d p1 = 365), if_pos h82, s_X3_with_yr, if_pos h7, if_neg (by rw [h50]; decide : ¬ f_X3_with_j2 d p1 = 365), if_pos h82, s_X3_with_mo, if_pos h7, if_neg (by rw [h50]; decide : ¬ f_X3_with_j2 d p1 = 365), if_pos h82, s_X3_with_dy, if_pos h7, if_neg (by rw [h50]; decide : ¬ f_X3_with_j2 d p1 = 365), if_pos h82]⟩ (by decide) (by decide) dX3_with_326
        refine z_icmp_ne (tgt := 202) C dX3_with_182 (by decide) (fun h83 => ?_) (fun h83 => ?_)
        · refine z_iload_n C dX3_with_202 rfl 3 rfl ?_
          refine z_bipush (v := 110) C dX3_with_203 (by decide) ?_
          refine z_icmp_ne (tgt := 225) C dX3_with_205 (by decide) (fun h84 => ?_) (fun h84 => ?_)
          · refine z_iload_n C dX3_with_225 rfl 3 rfl ?_
            refine z_bipush (v := 109) C dX3_with_226 (by decide) ?_
            refine z_icmp_ne (tgt := 274) C dX3_with_228 (by decide) (fun h85 => ?_) (fun h85 => ?_)
            · refine z_iload_n C dX3_with_274 rfl 4 rfl ?_
              refine z_i2l (v := (p3).toInt64) C dX3_with_275 rfl ?_
              refine z_aload_n C dX3_with_276 rfl 1 rfl ?_
              refine z_get (CC := RX3) (T := TX3) (N := 14) (ci := 3) C hin 0 rfl rfl 12 (by decide) w4 rfl rfl dX3_with_277 ?_
              refine z_aload_n C dX3_with_280 rfl 1 rfl ?_
              refine z_get (CC := RX3) (T := TX3) (N := 14) (ci := 3) C hin 0 rfl rfl 13 (by decide) w5 rfl rfl dX3_with_281 ?_
              refine z_iload_n C dX3_with_284 rfl 4 rfl ?_
              refine z_i2l (v := (p3).toInt64) C dX3_with_285 rfl ?_
              refine z_aload_n C dX3_with_286 rfl 1 rfl ?_
              refine z_get (CC := RX3) (T := TX3) (N := 14) (ci := 3) C hin 0 rfl rfl 12 (by decide) w4 rfl rfl dX3_with_287 ?_
              refine z_si (rest := [.int (s_X3_parts_dy (d p1.toNatClampNeg)), .int (s_X3_parts_mo (d p1.toNatClampNeg)), .long (p3).toInt64]) C (c_X3_many l hfl D cI cJ _ ((p3).toInt64) (s_X3_parts_mo (d p1.toNatClampNeg)) ) q_X3_many gX3_with_X3_many ⟨rfl, rfl⟩ rfl rfl (Nat.le_of_ble_eq_true rfl) ⟨Nat.le_of_ble_eq_true rfl, Nat.le_of_ble_eq_true rfl⟩ ⟨Nat.le_of_ble_eq_true rfl, Nat.le_of_ble_eq_true rfl⟩ dX3_with_290 ?_
              have K8 : ∀ (v8_0 : Int32), (f_X3_with_j4 d p1 p3) = v8_0 → ZW p l e { frames := 7, cells := 0, slots := 0, locals := 159 } s m args below meth c 8 D (zTys cI cJ) A (zE D (zTys cI cJ) A below args s (fun v w => v = some (.long (f_X3_with d p1 p2 p3 p4)) ∧ w = (wM cI cJ z (s_X3_with_co d p1 p2 p3 p4) (s_X3_with_d d p1 p2 p3 p4) ti sL bL mD mT sy sm sd mi (s_X3_with_yr d yr p1 p2 p3 p4) (s_X3_with_mo d mo p1 p2 p3 p4) (s_X3_with_dy d dy p1 p2 p3 p4) X)) (fun _ _ => False) 0 0) 0 0 (wM cI cJ z (s_X3_fails_co 0) d ti sL bL mD mT sy sm sd mi (s_X3_parts_yr (d p1.toNatClampNeg)) (s_X3_parts_mo (d p1.toNatClampNeg)) (s_X3_parts_dy (d p1.toNatClampNeg)) X) 312 [(5, .int 366), (0, .ref (z 0)), (1, .int p1), (2, .int p2), (3, .int p3), (4, .int p4)] [.int v8_0, .int (s_X3_parts_mo (d p1.toNatClampNeg)), .long (p3).toInt64] := by
                rintro _ rfl
                refine z_sl (rest := []) C (c_X3_number l hfl D cI cJ _ ((p3).toInt64) (s_X3_parts_mo (d p1.toNatClampNeg)) (f_X3_with_j4 d p1 p3) (g_5 h7 h8 h9 h50 h51 h82 h83 h84 h85)) q_X3_number gX3_with_X3_number ⟨rfl, rfl⟩ rfl rfl (Nat.le_of_ble_eq_true rfl) ⟨Nat.le_of_ble_eq_true rfl, Nat.le_of_ble_eq_true rfl⟩ ⟨Nat.le_of_ble_eq_true rfl, Nat.le_of_ble_eq_true rfl⟩ dX3_with_312 ?_
                refine z_lstore (lv' := [(6, .long (f_X3_number ((p3).toInt64) (s_X3_parts_mo (d p1.toNatClampNeg)) (f_X3_with_j4 d p1 p3))), (5, .int 366), (0, .ref (z 0)), (1, .int p1), (2, .int p2), (3, .int p3), (4, .int p4)]) C dX3_with_315 (by decide) rfl ?_
                exact K10 _ (by rw [f_X3_with_j6, if_neg h83, if_neg h84, if_neg h85])
              refine z_icmp_le (tgt := 308) C dX3_with_293 (by decide) (fun h86 => ?_) (fun h86 => ?_)
              · refine z_aload_n C dX3_with_308 rfl 1 rfl ?_
                refine z_get (CC := RX3) (T := TX3) (N := 14) (ci := 3) C hin 0 rfl rfl 13 (by decide) w5 rfl rfl dX3_with_309 ?_
                exact K8 _ (by rw [f_X3_with_j4, if_pos h86])
              · refine z_iload_n C dX3_with_296 rfl 4 rfl ?_
                refine z_i2l (v := (p3).toInt64) C dX3_with_297 rfl ?_
                refine z_aload_n C dX3_with_298 rfl 1 rfl ?_
                refine z_get (CC := RX3) (T := TX3) (N := 14) (ci := 3) C hin 0 rfl rfl 12 (by decide) w4 rfl rfl dX3_with_299 ?_
                refine z_si (rest := [.int (s_X3_parts_mo (d p1.toNatClampNeg)), .long (p3).toInt64]) C (c_X3_many l hfl D cI cJ _ ((p3).toInt64) (s_X3_parts_mo (d p1.toNatClampNeg)) ) q_X3_many gX3_with_X3_many ⟨rfl, rfl⟩ rfl rfl (Nat.le_of_ble_eq_true rfl) ⟨Nat.le_of_ble_eq_true rfl, Nat.le_of_ble_eq_true rfl⟩ ⟨Nat.le_of_ble_eq_true rfl, Nat.le_of_ble_eq_true rfl⟩ dX3_with_302 ?_
                refine z_goto (tgt := 312) C dX3_with_305 (by decide) ?_
                exact K8 _ (by rw [f_X3_with_j4, if_neg h86])
            · refine z_aload_n C dX3_with_231 rfl 1 rfl ?_
              refine z_get (CC := RX3) (T := TX3) (N := 14) (ci := 3) C hin 0 rfl rfl 11 (by decide) w2 rfl rfl dX3_with_232 ?_
              refine z_iload_n C dX3_with_235 rfl 4 rfl ?_
              refine z_aload_n C dX3_with_236 rfl 1 rfl ?_
              refine z_get (CC := RX3) (T := TX3) (N := 14) (ci := 3) C hin 0 rfl rfl 13 (by decide) w5 rfl rfl dX3_with_237 ?_
              refine z_aload_n C dX3_with_240 rfl 1 rfl ?_
              refine z_get (CC := RX3) (T := TX3) (N := 14) (ci := 3) C hin 0 rfl rfl 11 (by decide) w2 rfl rfl dX3_with_241 ?_
              refine z_iload_n C dX3_with_244 rfl 4 rfl ?_
              refine z_si (rest := [.int (s_X3_parts_dy (d p1.toNatClampNeg)), .int p3, .long (s_X3_parts_yr (d p1.toNatClampNeg))]) C (c_X3_many l hfl D cI cJ _ (s_X3_parts_yr (d p1.toNatClampNeg)) p3 ) q_X3_many gX3_with_X3_many ⟨rfl, rfl⟩ rfl rfl (Nat.le_of_ble_eq_true rfl) ⟨Nat.le_of_ble_eq_true rfl, Nat.le_of_ble_eq_true rfl⟩ ⟨Nat.le_of_ble_eq_true rfl, Nat.le_of_ble_eq_true rfl⟩ dX3_with_245 ?_
              have K9 : ∀ (v9_0 : Int32), (f_X3_with_j5 d p1 p3) = v9_0 → ZW p l e { frames := 7, cells := 0, slots := 0, locals := 159 } s m args below meth c 8 D (zTys cI cJ) A (zE D (zTys cI cJ) A below args s (fun v w => v = some (.long (f_X3_with d p1 p2 p3 p4)) ∧ w = (wM cI cJ z (s_X3_with_co d p1 p2 p3 p4) (s_X3_with_d d p1 p2 p3 p4) ti sL bL mD mT sy sm sd mi (s_X3_with_yr d yr p1 p2 p3 p4) (s_X3_with_mo d mo p1 p2 p3 p4) (s_X3_with_dy d dy p1 p2 p3 p4) X)) (fun _ _ => False) 0 0) 0 0 (wM cI cJ z (s_X3_fails_co 0) d ti sL bL mD mT sy sm sd mi (s_X3_parts_yr (d p1.toNatClampNeg)) (s_X3_parts_mo (d p1.toNatClampNeg)) (s_X3_parts_dy (d p1.toNatClampNeg)) X) 266 [(5, .int 366), (0, .ref (z 0)), (1, .int p1), (2, .int p2), (3, .int p3), (4, .int p4)] [.int v9_0, .int p3, .long (s_X3_parts_yr (d p1.toNatClampNeg))] := by
                rintro _ rfl
                refine z_sl (rest := []) C (c_X3_number l hfl D cI cJ _ (s_X3_parts_yr (d p1.toNatClampNeg)) p3 (f_X3_with_j5 d p1 p3) (g_6 h7 h8 h9 h50 h51 h82 h83 h84 h85)) q_X3_number gX3_with_X3_number ⟨rfl, rfl⟩ rfl rfl (Nat.le_of_ble_eq_true rfl) ⟨Nat.le_of_ble_eq_true rfl, Nat.le_of_ble_eq_true rfl⟩ ⟨Nat.le_of_ble_eq_true rfl, Nat.le_of_ble_eq_true rfl⟩ dX3_with_266 ?_
                refine z_lstore (lv' := [(6, .long (f_X3_number (s_X3_parts_yr (d p1.toNatClampNeg)) p3 (f_X3_with_j5 d p1 p3))), (5, .int 366), (0, .ref (z 0)), (1, .int p1), (2, .int p2), (3, .int p3), (4, .int p4)]) C dX3_with_269 (by decide) rfl ?_
                refine z_goto (tgt := 317) C dX3_with_271 (by decide) ?_
                exact K10 _ (by rw [f_X3_with_j6, if_neg h83, if_neg h84, if_pos h85])
              refine z_icmp_le (tgt := 262) C dX3_with_248 (by decide) (fun h87 => ?_) (fun h87 => ?_)
              · refine z_aload_n C dX3_with_262 rfl 1 rfl ?_
                refine z_get (CC := RX3) (T := TX3) (N := 14) (ci := 3) C hin 0 rfl rfl 13 (by decide) w5 rfl rfl dX3_with_263 ?_
                exact K9 _ (by rw [f_X3_with_j5, if_pos h87])
              · refine z_aload_n C dX3_with_251 rfl 1 rfl ?_
                refine z_get (CC := RX3) (T := TX3) (N := 14) (ci := 3) C hin 0 rfl rfl 11 (by decide) w2 rfl rfl dX3_with_252 ?_
                refine z_iload_n C dX3_with_255 rfl 4 rfl ?_
                refine z_si (rest := [.int p3, .long (s_X3_parts_yr (d p1.toNatClampNeg))]) C (c_X3_many l hfl D cI cJ _ (s_X3_parts_yr (d p1.toNatClampNeg)) p3 ) q_X3_many gX3_with_X3_many ⟨rfl, rfl⟩ rfl rfl (Nat.le_of_ble_eq_true rfl) ⟨Nat.le_of_ble_eq_true rfl, Nat.le_of_ble_eq_true rfl⟩ ⟨Nat.le_of_ble_eq_true rfl, Nat.le_of_ble_eq_true rfl⟩ dX3_with_256 ?_
                refine z_goto (tgt := 266) C dX3_with_259 (by decide) ?_
                exact K9 _ (by rw [f_X3_with_j5, if_neg h87])
          · refine z_aload_n C dX3_with_208 rfl 1 rfl ?_
            refine z_get (CC := RX3) (T := TX3) (N := 14) (ci := 3) C hin 0 rfl rfl 11 (by decide) w2 rfl rfl dX3_with_209 ?_
            refine z_sl (rest := []) C (c_X3_first l hfl D cI cJ _ (s_X3_parts_yr (d p1.toNatClampNeg)) ) q_X3_first gX3_with_X3_first ⟨rfl, rfl⟩ rfl rfl (Nat.le_of_ble_eq_true rfl) ⟨Nat.le_of_ble_eq_true rfl, Nat.le_of_ble_eq_true rfl⟩ ⟨Nat.le_of_ble_eq_true rfl, Nat.le_of_ble_eq_true rfl⟩ dX3_with_212 ?_
            refine z_iload_n C dX3_with_215 rfl 4 rfl ?_
            refine z_i2l (v := (p3).toInt64) C dX3_with_216 rfl ?_
            refine z_ladd C dX3_with_217 ?_
            refine z_lconst (v := 1) C dX3_with_218 (by decide) ?_
            refine z_lsub C dX3_with_219 ?_
            refine z_lstore (lv' := [(6, .long (((f_X3_first (s_X3_parts_yr (d p1.toNatClampNeg))) + (p3).toInt64) - 1)), (5, .int 366), (0, .ref (z 0)), (1, .int p1), (2, .int p2), (3, .int p3), (4, .int p4)]) C dX3_with_220 (by decide) rfl ?_
            refine z_goto (tgt := 317) C dX3_with_222 (by decide) ?_
            exact K10 _ (by rw [f_X3_with_j6, if_neg h83, if_pos h84])
        · refine z_aload_n C dX3_with_185 rfl 1 rfl ?_
          refine z_get (CC := RX3) (T := TX3) (N := 14) (ci := 3) C hin 0 rfl rfl 11 (by decide) w2 rfl rfl dX3_with_186 ?_
          refine z_aload_n C dX3_with_189 rfl 1 rfl ?_
          refine z_get (CC := RX3) (T := TX3) (N := 14) (ci := 3) C hin 0 rfl rfl 12 (by decide) w4 rfl rfl dX3_with_190 ?_
          refine z_iload_n C dX3_with_193 rfl 4 rfl ?_
          refine z_sl (rest := []) C (c_X3_number l hfl D cI cJ _ (s_X3_parts_yr (d p1.toNatClampNeg)) (s_X3_parts_mo (d p1.toNatClampNeg)) p3 (g_7 h7 h8 h9 h50 h51 h82 h83)) q_X3_number gX3_with_X3_number ⟨rfl, rfl⟩ rfl rfl (Nat.le_of_ble_eq_true rfl) ⟨Nat.le_of_ble_eq_true rfl, Nat.le_of_ble_eq_true rfl⟩ ⟨Nat.le_of_ble_eq_true rfl, Nat.le_of_ble_eq_true rfl⟩ dX3_with_194 ?_
          refine z_lstore (lv' := [(6, .long (f_X3_number (s_X3_parts_yr (d p1.toNatClampNeg)) (s_X3_parts_mo (d p1.toNatClampNeg)) p3)), (5, .int 366), (0, .ref (z 0)), (1, .int p1), (2, .int p2), (3, .int p3), (4, .int p4)]) C dX3_with_197 (by decide) rfl ?_
          refine z_goto (tgt := 317) C dX3_with_199 (by decide) ?_
          exact K10 _ (by rw [f_X3_with_j6, if_pos h83])
      have K7_2 : f_X3_with_j7 d p1 p2 p3 = 2 → ZW p l e { frames := 7, cells := 0, slots := 0, locals := 159 } s m args below meth c 8 D (zTys cI cJ) A (zE D (zTys cI cJ) A below args s (fun v w => v = some (.long (f_X3_with d p1 p2 p3 p4)) ∧ w = (wM cI cJ z (s_X3_with_co d p1 p2 p3 p4) (s_X3_with_d d p1 p2 p3 p4) ti sL bL mD mT sy sm sd mi (s_X3_with_yr d yr p1 p2 p3 p4) (s_X3_with_mo d mo p1 p2 p3 p4) (s_X3_with_dy d dy p1 p2 p3 p4) X)) (fun _ _ => False) 0 0) 0 0 (wM cI cJ z (s_X3_fails_co 0) d ti sL bL mD mT sy sm sd mi (s_X3_parts_yr (d p1.toNatClampNeg)) (s_X3_parts_mo (d p1.toNatClampNeg)) (s_X3_parts_dy (d p1.toNatClampNeg)) X) 171 [(5, .int 366), (0, .ref (z 0)), (1, .int p1), (2, .int p2), (3, .int p3), (4, .int p4)] [.int 2, .ref (z 0)] := by
        intro h88
        refine z_wi (ws' := (wM cI cJ z (s_X3_fails_co 2) d ti sL bL mD mT sy sm sd mi (s_X3_parts_yr (d p1.toNatClampNeg)) (s_X3_parts_mo (d p1.toNatClampNeg)) (s_X3_parts_dy (d p1.toNatClampNeg)) X)) (rest := []) (ci := 3) (q0 := 0) C (c_X3_fails l hfl D cI cJ X z (s_X3_fails_co 0) d ti sL bL mD mT sy sm sd mi (s_X3_parts_yr (d p1.toNatClampNeg)) (s_X3_parts_mo (d p1.toNatClampNeg)) (s_X3_parts_dy (d p1.toNatClampNeg)) (2 : Int32) ) q_X3_fails rfl rfl rfl gX3_with_X3_fails ⟨rfl, rfl⟩ rfl rfl (Nat.le_of_ble_eq_true rfl) ⟨Nat.le_of_ble_eq_true rfl, Nat.le_of_ble_eq_true rfl⟩ ⟨Nat.le_of_ble_eq_true rfl, Nat.le_of_ble_eq_true rfl⟩ dX3_with_171 ?_
        refine z_eqst (st' := [.int 1]) (congrArg (fun v => Value.int v :: _) (by decide : (f_X3_fails 2) = (1 : Int32))) ?_
        refine z_if_eq (tgt := 179) C dX3_with_174 (by decide) (fun h => absurd h (by decide)) (fun _ => ?_)
        refine z_lconst (v := 0) C dX3_with_177 (by decide) ?_
        exact z_lret C ⟨congrArg (fun v => some (Value.long v)) (by rw [f_X3_with, if_pos h7, if_neg (by rw [h50]; decide : ¬ f_X3_with_j2 d p1 = 365), if_neg (by rw [h88]; decide : ¬ f_X3_with_j7 d p1 p2 p3 = 0)] : (0 : Int64) = (f_X3_with d p1 p2 p3 p4)), by rw [s_X3_with_co, if_pos h7, if_neg (by rw [h50]; decide : ¬ f_X3_with_j2 d p1 = 365), if_neg (by rw [h88]; decide : ¬ f_X3_with_j7 d p1 p2 p3 = 0), s_X3_with_d, if_pos h7, if_neg (by rw [h50]; decide : ¬ f_X3_with_j2 d p1 = 365), if_neg (by rw [h88]; decide : ¬ f_X3_with_j7 d p1 p2 p3 = 0), s_X3_with_yr, if_pos h7, if_neg (by rw [h50]; decide : ¬ f_X3_with_j2 d p1 = 365), if_neg (by rw [h88]; decide : ¬ f_X3_with_j7 d p1 p2 p3 = 0), s_X3_with_mo, if_pos h7, if_neg (by rw [h50]; decide : ¬ f_X3_with_j2 d p1 = 365), if_neg (by rw [h88]; decide : ¬ f_X3_with_j7 d p1 p2 p3 = 0), s_X3_with_dy, if_pos h7, if_neg (by rw [h50]; decide : ¬ f_X3_with_j2 d p1 = 365), if_neg (by rw [h88]; decide : ¬ f_X3_with_j7 d p1 p2 p3 = 0)]⟩ (by decide) (by decide) dX3_with_178
      refine z_icmp_ne (tgt := 116) C dX3_with_92 (by decide) (fun h52 => ?_) (fun h52 => ?_)
      · refine z_iload_n C dX3_with_116 rfl 3 rfl ?_
        refine z_bipush (v := 110) C dX3_with_117 (by decide) ?_
        refine z_icmp_ne (tgt := 134) C dX3_with_119 (by decide) (fun h53 => ?_) (fun h53 => ?_)
        · refine z_iload_n C dX3_with_134 rfl 3 rfl ?_
          refine z_bipush (v := 109) C dX3_with_135 (by decide) ?_
          refine z_icmp_ne (tgt := 152) C dX3_with_137 (by decide) (fun h54 => ?_) (fun h54 => ?_)
          · refine z_iload_n C dX3_with_152 rfl 3 rfl ?_
            refine z_bipush (v := 121) C dX3_with_153 (by decide) ?_
            refine z_icmp_ne (tgt := 170) C dX3_with_155 (by decide) (fun h55 => ?_) (fun h55 => ?_)
            · refine z_iconst (v := 0) C dX3_with_170 (by decide) ?_
              exact K7_0 (by rw [f_X3_with_j7, if_neg h52, if_neg h53, if_neg h54, if_neg h55]) 
            · refine z_iload_n C dX3_with_158 rfl 4 rfl ?_
              refine z_i2l (v := (p3).toInt64) C dX3_with_159 rfl ?_
              refine z_si (rest := [.ref (z 0)]) C (c_X3_isYear l hfl D cI cJ _ ((p3).toInt64) ) q_X3_isYear gX3_with_X3_isYear ⟨rfl, rfl⟩ rfl rfl (Nat.le_of_ble_eq_true rfl) ⟨Nat.le_of_ble_eq_true rfl, Nat.le_of_ble_eq_true rfl⟩ ⟨Nat.le_of_ble_eq_true rfl, Nat.le_of_ble_eq_true rfl⟩ dX3_with_160 ?_
              refine z_if_ne (tgt := 170) C dX3_with_163 (by decide) (fun h56 => ?_) (fun h56 => ?_)
              · refine z_iconst (v := 0) C dX3_with_170 (by decide) ?_
                exact K7_0 (by rw [f_X3_with_j7, if_neg h52, if_neg h53, if_neg h54, if_pos h55, if_neg h56]) 
              · refine z_iconst (v := 2) C dX3_with_166 (by decide) ?_
                refine z_goto (tgt := 171) C dX3_with_167 (by decide) ?_
                exact K7_2 (by rw [f_X3_with_j7, if_neg h52, if_neg h53, if_neg h54, if_pos h55, if_pos h56]) 
          · refine z_iload_n C dX3_with_140 rfl 4 rfl ?_
            refine z_i2l (v := (p3).toInt64) C dX3_with_141 rfl ?_
            refine z_lconst (v := 1) C dX3_with_142 (by decide) ?_
            refine z_ldc2 (v := 12) C w3 dX3_with_143 ?_
            refine z_si (rest := [.ref (z 0)]) C (c_X3_in l hfl D cI cJ _ ((p3).toInt64) (1 : Int64) (12 : Int64) ) q_X3_in gX3_with_X3_in ⟨rfl, rfl⟩ rfl rfl (Nat.le_of_ble_eq_true rfl) ⟨Nat.le_of_ble_eq_true rfl, Nat.le_of_ble_eq_true rfl⟩ ⟨Nat.le_of_ble_eq_true rfl, Nat.le_of_ble_eq_true rfl⟩ dX3_with_146 ?_
            refine z_if_eq (tgt := 166) C dX3_with_149 (by decide) (fun h57 => ?_) (fun h57 => ?_)
            · refine z_iconst (v := 2) C dX3_with_166 (by decide) ?_
              refine z_goto (tgt := 171) C dX3_with_167 (by decide) ?_
              exact K7_2 (by rw [f_X3_with_j7, if_neg h52, if_neg h53, if_pos h54, if_pos h57]) 
            · refine z_iload_n C dX3_with_152 rfl 3 rfl ?_
              refine z_bipush (v := 121) C dX3_with_153 (by decide) ?_
              refine z_icmp_ne (tgt := 170) C dX3_with_155 (by decide) (fun h58 => ?_) (fun h58 => ?_)
              · refine z_iconst (v := 0) C dX3_with_170 (by decide) ?_
                exact K7_0 (by rw [f_X3_with_j7, if_neg h52, if_neg h53, if_pos h54, if_neg h57, if_neg h58]) 
              · refine z_iload_n C dX3_with_158 rfl 4 rfl ?_
                refine z_i2l (v := (p3).toInt64) C dX3_with_159 rfl ?_
                refine z_si (rest := [.ref (z 0)]) C (c_X3_isYear l hfl D cI cJ _ ((p3).toInt64) ) q_X3_isYear gX3_with_X3_isYear ⟨rfl, rfl⟩ rfl rfl (Nat.le_of_ble_eq_true rfl) ⟨Nat.le_of_ble_eq_true rfl, Nat.le_of_ble_eq_true rfl⟩ ⟨Nat.le_of_ble_eq_true rfl, Nat.le_of_ble_eq_true rfl⟩ dX3_with_160 ?_
                refine z_if_ne (tgt := 170) C dX3_with_163 (by decide) (fun h59 => ?_) (fun h59 => ?_)
                · refine z_iconst (v := 0) C dX3_with_170 (by decide) ?_
                  exact K7_0 (by rw [f_X3_with_j7, if_neg h52, if_neg h53, if_pos h54, if_neg h57, if_pos h58, if_neg h59]) 
                · refine z_iconst (v := 2) C dX3_with_166 (by decide) ?_
                  refine z_goto (tgt := 171) C dX3_with_167 (by decide) ?_
                  exact K7_2 (by rw [f_X3_with_j7, if_neg h52, if_neg h53, if_pos h54, if_neg h57, if_pos h58, if_pos h59]) 
        · refine z_iload_n C dX3_with_122 rfl 4 rfl ?_
          refine z_i2l (v := (p3).toInt64) C dX3_with_123 rfl ?_
          refine z_lconst (v := 1) C dX3_with_124 (by decide) ?_
          refine z_iload C dX3_with_125 0 rfl ?_
          refine z_i2l (v := 366) C dX3_with_127 (by decide) ?_
          refine z_si (rest := [.ref (z 0)]) C (c_X3_in l hfl D cI cJ _ ((p3).toInt64) (1 : Int64) (366 : Int64) ) q_X3_in gX3_with_X3_in ⟨rfl, rfl⟩ rfl rfl (Nat.le_of_ble_eq_true rfl) ⟨Nat.le_of_ble_eq_true rfl, Nat.le_of_ble_eq_true rfl⟩ ⟨Nat.le_of_ble_eq_true rfl, Nat.le_of_ble_eq_true rfl⟩ dX3_with_128 ?_
          refine z_if_eq (tgt := 166) C dX3_with_131 (by decide) (fun h60 => ?_) (fun h60 => ?_)
          · refine z_iconst (v := 2) C dX3_with_166 (by decide) ?_
            refine z_goto (tgt := 171) C dX3_with_167 (by decide) ?_
            exact K7_2 (by rw [f_X3_with_j7, if_neg h52, if_pos h53, if_pos h60]) 
          · refine z_iload_n C dX3_with_134 rfl 3 rfl ?_
            refine z_bipush (v := 109) C dX3_with_135 (by decide) ?_
            refine z_icmp_ne (tgt := 152) C dX3_with_137 (by decide) (fun h61 => ?_) (fun h61 => ?_)
            · refine z_iload_n C dX3_with_152 rfl 3 rfl ?_
              refine z_bipush (v := 121) C dX3_with_153 (by decide) ?_
              refine z_icmp_ne (tgt := 170) C dX3_with_155 (by decide) (fun h62 => ?_) (fun h62 => ?_)
              · refine z_iconst (v := 0) C dX3_with_170 (by decide) ?_
                exact K7_0 (by rw [f_X3_with_j7, if_neg h52, if_pos h53, if_neg h60, if_neg h61, if_neg h62]) 
              · refine z_iload_n C dX3_with_158 rfl 4 rfl ?_
                refine z_i2l (v := (p3).toInt64) C dX3_with_159 rfl ?_
                refine z_si (rest := [.ref (z 0)]) C (c_X3_isYear l hfl D cI cJ _ ((p3).toInt64) ) q_X3_isYear gX3_with_X3_isYear ⟨rfl, rfl⟩ rfl rfl (Nat.le_of_ble_eq_true rfl) ⟨Nat.le_of_ble_eq_true rfl, Nat.le_of_ble_eq_true rfl⟩ ⟨Nat.le_of_ble_eq_true rfl, Nat.le_of_ble_eq_true rfl⟩ dX3_with_160 ?_
                refine z_if_ne (tgt := 170) C dX3_with_163 (by decide) (fun h63 => ?_) (fun h63 => ?_)
                · refine z_iconst (v := 0) C dX3_with_170 (by decide) ?_
                  exact K7_0 (by rw [f_X3_with_j7, if_neg h52, if_pos h53, if_neg h60, if_neg h61, if_pos h62, if_neg h63]) 
                · refine z_iconst (v := 2) C dX3_with_166 (by decide) ?_
                  refine z_goto (tgt := 171) C dX3_with_167 (by decide) ?_
                  exact K7_2 (by rw [f_X3_with_j7, if_neg h52, if_pos h53, if_neg h60, if_neg h61, if_pos h62, if_pos h63]) 
            · refine z_iload_n C dX3_with_140 rfl 4 rfl ?_
              refine z_i2l (v := (p3).toInt64) C dX3_with_141 rfl ?_
              refine z_lconst (v := 1) C dX3_with_142 (by decide) ?_
              refine z_ldc2 (v := 12) C w3 dX3_with_143 ?_
              refine z_si (rest := [.ref (z 0)]) C (c_X3_in l hfl D cI cJ _ ((p3).toInt64) (1 : Int64) (12 : Int64) ) q_X3_in gX3_with_X3_in ⟨rfl, rfl⟩ rfl rfl (Nat.le_of_ble_eq_true rfl) ⟨Nat.le_of_ble_eq_true rfl, Nat.le_of_ble_eq_true rfl⟩ ⟨Nat.le_of_ble_eq_true rfl, Nat.le_of_ble_eq_true rfl⟩ dX3_with_146 ?_
              refine z_if_eq (tgt := 166) C dX3_with_149 (by decide) (fun h64 => ?_) (fun h64 => ?_)
              · refine z_iconst (v := 2) C dX3_with_166 (by decide) ?_
                refine z_goto (tgt := 171) C dX3_with_167 (by decide) ?_
                exact K7_2 (by rw [f_X3_with_j7, if_neg h52, if_pos h53, if_neg h60, if_pos h61, if_pos h64]) 
              · refine z_iload_n C dX3_with_152 rfl 3 rfl ?_
                refine z_bipush (v := 121) C dX3_with_153 (by decide) ?_
                refine z_icmp_ne (tgt := 170) C dX3_with_155 (by decide) (fun h65 => ?_) (fun h65 => ?_)
                · refine z_iconst (v := 0) C dX3_with_170 (by decide) ?_
                  exact K7_0 (by rw [f_X3_with_j7, if_neg h52, if_pos h53, if_neg h60, if_pos h61, if_neg h64, if_neg h65]) 
                · refine z_iload_n C dX3_with_158 rfl 4 rfl ?_
                  refine z_i2l (v := (p3).toInt64) C dX3_with_159 rfl ?_
                  refine z_si (rest := [.ref (z 0)]) C (c_X3_isYear l hfl D cI cJ _ ((p3).toInt64) ) q_X3_isYear gX3_with_X3_isYear ⟨rfl, rfl⟩ rfl rfl (Nat.le_of_ble_eq_true rfl) ⟨Nat.le_of_ble_eq_true rfl, Nat.le_of_ble_eq_true rfl⟩ ⟨Nat.le_of_ble_eq_true rfl, Nat.le_of_ble_eq_true rfl⟩ dX3_with_160 ?_
                  refine z_if_ne (tgt := 170) C dX3_with_163 (by decide) (fun h66 => ?_) (fun h66 => ?_)
                  · refine z_iconst (v := 0) C dX3_with_170 (by decide) ?_
                    exact K7_0 (by rw [f_X3_with_j7, if_neg h52, if_pos h53, if_neg h60, if_pos h61, if_neg h64, if_pos h65, if_neg h66]) 
                  · refine z_iconst (v := 2) C dX3_with_166 (by decide) ?_
                    refine z_goto (tgt := 171) C dX3_with_167 (by decide) ?_
                    exact K7_2 (by rw [f_X3_with_j7, if_neg h52, if_pos h53, if_neg h60, if_pos h61, if_neg h64, if_pos h65, if_pos h66]) 
      · refine z_iload_n C dX3_with_95 rfl 4 rfl ?_
        refine z_i2l (v := (p3).toInt64) C dX3_with_96 rfl ?_
        refine z_lconst (v := 1) C dX3_with_97 (by decide) ?_
        refine z_aload_n C dX3_with_98 rfl 1 rfl ?_
        refine z_get (CC := RX3) (T := TX3) (N := 14) (ci := 3) C hin 0 rfl rfl 11 (by decide) w2 rfl rfl dX3_with_99 ?_
        refine z_aload_n C dX3_with_102 rfl 1 rfl ?_
        refine z_get (CC := RX3) (T := TX3) (N := 14) (ci := 3) C hin 0 rfl rfl 12 (by decide) w4 rfl rfl dX3_with_103 ?_
        refine z_si (rest := [.long 1, .long (p3).toInt64, .ref (z 0)]) C (c_X3_many l hfl D cI cJ _ (s_X3_parts_yr (d p1.toNatClampNeg)) (s_X3_parts_mo (d p1.toNatClampNeg)) ) q_X3_many gX3_with_X3_many ⟨rfl, rfl⟩ rfl rfl (Nat.le_of_ble_eq_true rfl) ⟨Nat.le_of_ble_eq_true rfl, Nat.le_of_ble_eq_true rfl⟩ ⟨Nat.le_of_ble_eq_true rfl, Nat.le_of_ble_eq_true rfl⟩ dX3_with_106 ?_
        refine z_i2l (v := ((f_X3_many (s_X3_parts_yr (d p1.toNatClampNeg)) (s_X3_parts_mo (d p1.toNatClampNeg)))).toInt64) C dX3_with_109 rfl ?_
        refine z_si (rest := [.ref (z 0)]) C (c_X3_in l hfl D cI cJ _ ((p3).toInt64) (1 : Int64) (((f_X3_many (s_X3_parts_yr (d p1.toNatClampNeg)) (s_X3_parts_mo (d p1.toNatClampNeg)))).toInt64) ) q_X3_in gX3_with_X3_in ⟨rfl, rfl⟩ rfl rfl (Nat.le_of_ble_eq_true rfl) ⟨Nat.le_of_ble_eq_true rfl, Nat.le_of_ble_eq_true rfl⟩ ⟨Nat.le_of_ble_eq_true rfl, Nat.le_of_ble_eq_true rfl⟩ dX3_with_110 ?_
        refine z_if_eq (tgt := 166) C dX3_with_113 (by decide) (fun h67 => ?_) (fun h67 => ?_)
        · refine z_iconst (v := 2) C dX3_with_166 (by decide) ?_
          refine z_goto (tgt := 171) C dX3_with_167 (by decide) ?_
          exact K7_2 (by rw [f_X3_with_j7, if_pos h52, if_pos h67]) 
        · refine z_iload_n C dX3_with_116 rfl 3 rfl ?_
          refine z_bipush (v := 110) C dX3_with_117 (by decide) ?_
          refine z_icmp_ne (tgt := 134) C dX3_with_119 (by decide) (fun h68 => ?_) (fun h68 => ?_)
          · refine z_iload_n C dX3_with_134 rfl 3 rfl ?_
            refine z_bipush (v := 109) C dX3_with_135 (by decide) ?_
            refine z_icmp_ne (tgt := 152) C dX3_with_137 (by decide) (fun h69 => ?_) (fun h69 => ?_)
            · refine z_iload_n C dX3_with_152 rfl 3 rfl ?_
              refine z_bipush (v := 121) C dX3_with_153 (by decide) ?_
              refine z_icmp_ne (tgt := 170) C dX3_with_155 (by decide) (fun h70 => ?_) (fun h70 => ?_)
              · refine z_iconst (v := 0) C dX3_with_170 (by decide) ?_
                exact K7_0 (by rw [f_X3_with_j7, if_pos h52, if_neg h67, if_neg h68, if_neg h69, if_neg h70]) 
              · refine z_iload_n C dX3_with_158 rfl 4 rfl ?_
                refine z_i2l (v := (p3).toInt64) C dX3_with_159 rfl ?_
                refine z_si (rest := [.ref (z 0)]) C (c_X3_isYear l hfl D cI cJ _ ((p3).toInt64) ) q_X3_isYear gX3_with_X3_isYear ⟨rfl, rfl⟩ rfl rfl (Nat.le_of_ble_eq_true rfl) ⟨Nat.le_of_ble_eq_true rfl, Nat.le_of_ble_eq_true rfl⟩ ⟨Nat.le_of_ble_eq_true rfl, Nat.le_of_ble_eq_true rfl⟩ dX3_with_160 ?_
                refine z_if_ne (tgt := 170) C dX3_with_163 (by decide) (fun h71 => ?_) (fun h71 => ?_)
                · refine z_iconst (v := 0) C dX3_with_170 (by decide) ?_
                  exact K7_0 (by rw [f_X3_with_j7, if_pos h52, if_neg h67, if_neg h68, if_neg h69, if_pos h70, if_neg h71]) 
                · refine z_iconst (v := 2) C dX3_with_166 (by decide) ?_
                  refine z_goto (tgt := 171) C dX3_with_167 (by decide) ?_
                  exact K7_2 (by rw [f_X3_with_j7, if_pos h52, if_neg h67, if_neg h68, if_neg h69, if_pos h70, if_pos h71]) 
            · refine z_iload_n C dX3_with_140 rfl 4 rfl ?_
              refine z_i2l (v := (p3).toInt64) C dX3_with_141 rfl ?_
              refine z_lconst (v := 1) C dX3_with_142 (by decide) ?_
              refine z_ldc2 (v := 12) C w3 dX3_with_143 ?_
              refine z_si (rest := [.ref (z 0)]) C (c_X3_in l hfl D cI cJ _ ((p3).toInt64) (1 : Int64) (12 : Int64) ) q_X3_in gX3_with_X3_in ⟨rfl, rfl⟩ rfl rfl (Nat.le_of_ble_eq_true rfl) ⟨Nat.le_of_ble_eq_true rfl, Nat.le_of_ble_eq_true rfl⟩ ⟨Nat.le_of_ble_eq_true rfl, Nat.le_of_ble_eq_true rfl⟩ dX3_with_146 ?_
              refine z_if_eq (tgt := 166) C dX3_with_149 (by decide) (fun h72 => ?_) (fun h72 => ?_)
              · refine z_iconst (v := 2) C dX3_with_166 (by decide) ?_
                refine z_goto (tgt := 171) C dX3_with_167 (by decide) ?_
                exact K7_2 (by rw [f_X3_with_j7, if_pos h52, if_neg h67, if_neg h68, if_pos h69, if_pos h72]) 
              · refine z_iload_n C dX3_with_152 rfl 3 rfl ?_
                refine z_bipush (v := 121) C dX3_with_153 (by decide) ?_
                refine z_icmp_ne (tgt := 170) C dX3_with_155 (by decide) (fun h73 => ?_) (fun h73 => ?_)
                · refine z_iconst (v := 0) C dX3_with_170 (by decide) ?_
                  exact K7_0 (by rw [f_X3_with_j7, if_pos h52, if_neg h67, if_neg h68, if_pos h69, if_neg h72, if_neg h73]) 
                · refine z_iload_n C dX3_with_158 rfl 4 rfl ?_
                  refine z_i2l (v := (p3).toInt64) C dX3_with_159 rfl ?_
                  refine z_si (rest := [.ref (z 0)]) C (c_X3_isYear l hfl D cI cJ _ ((p3).toInt64) ) q_X3_isYear gX3_with_X3_isYear ⟨rfl, rfl⟩ rfl rfl (Nat.le_of_ble_eq_true rfl) ⟨Nat.le_of_ble_eq_true rfl, Nat.le_of_ble_eq_true rfl⟩ ⟨Nat.le_of_ble_eq_true rfl, Nat.le_of_ble_eq_true rfl⟩ dX3_with_160 ?_
                  refine z_if_ne (tgt := 170) C dX3_with_163 (by decide) (fun h74 => ?_) (fun h74 => ?_)
                  · refine z_iconst (v := 0) C dX3_with_170 (by decide) ?_
                    exact K7_0 (by rw [f_X3_with_j7, if_pos h52, if_neg h67, if_neg h68, if_pos h69, if_neg h72, if_pos h73, if_neg h74]) 
                  · refine z_iconst (v := 2) C dX3_with_166 (by decide) ?_
                    refine z_goto (tgt := 171) C dX3_with_167 (by decide) ?_
                    exact K7_2 (by rw [f_X3_with_j7, if_pos h52, if_neg h67, if_neg h68, if_pos h69, if_neg h72, if_pos h73, if_pos h74]) 
          · refine z_iload_n C dX3_with_122 rfl 4 rfl ?_
            refine z_i2l (v := (p3).toInt64) C dX3_with_123 rfl ?_
            refine z_lconst (v := 1) C dX3_with_124 (by decide) ?_
            refine z_iload C dX3_with_125 0 rfl ?_
            refine z_i2l (v := 366) C dX3_with_127 (by decide) ?_
            refine z_si (rest := [.ref (z 0)]) C (c_X3_in l hfl D cI cJ _ ((p3).toInt64) (1 : Int64) (366 : Int64) ) q_X3_in gX3_with_X3_in ⟨rfl, rfl⟩ rfl rfl (Nat.le_of_ble_eq_true rfl) ⟨Nat.le_of_ble_eq_true rfl, Nat.le_of_ble_eq_true rfl⟩ ⟨Nat.le_of_ble_eq_true rfl, Nat.le_of_ble_eq_true rfl⟩ dX3_with_128 ?_
            refine z_if_eq (tgt := 166) C dX3_with_131 (by decide) (fun h75 => ?_) (fun h75 => ?_)
            · refine z_iconst (v := 2) C dX3_with_166 (by decide) ?_
              refine z_goto (tgt := 171) C dX3_with_167 (by decide) ?_
              exact K7_2 (by rw [f_X3_with_j7, if_pos h52, if_neg h67, if_pos h68, if_pos h75]) 
            · refine z_iload_n C dX3_with_134 rfl 3 rfl ?_
              refine z_bipush (v := 109) C dX3_with_135 (by decide) ?_
              refine z_icmp_ne (tgt := 152) C dX3_with_137 (by decide) (fun h76 => ?_) (fun h76 => ?_)
              · refine z_iload_n C dX3_with_152 rfl 3 rfl ?_
                refine z_bipush (v := 121) C dX3_with_153 (by decide) ?_
                refine z_icmp_ne (tgt := 170) C dX3_with_155 (by decide) (fun h77 => ?_) (fun h77 => ?_)
                · refine z_iconst (v := 0) C dX3_with_170 (by decide) ?_
                  exact K7_0 (by rw [f_X3_with_j7, if_pos h52, if_neg h67, if_pos h68, if_neg h75, if_neg h76, if_neg h77]) 
                · refine z_iload_n C dX3_with_158 rfl 4 rfl ?_
                  refine z_i2l (v := (p3).toInt64) C dX3_with_159 rfl ?_
                  refine z_si (rest := [.ref (z 0)]) C (c_X3_isYear l hfl D cI cJ _ ((p3).toInt64) ) q_X3_isYear gX3_with_X3_isYear ⟨rfl, rfl⟩ rfl rfl (Nat.le_of_ble_eq_true rfl) ⟨Nat.le_of_ble_eq_true rfl, Nat.le_of_ble_eq_true rfl⟩ ⟨Nat.le_of_ble_eq_true rfl, Nat.le_of_ble_eq_true rfl⟩ dX3_with_160 ?_
                  refine z_if_ne (tgt := 170) C dX3_with_163 (by decide) (fun h78 => ?_) (fun h78 => ?_)
                  · refine z_iconst (v := 0) C dX3_with_170 (by decide) ?_
                    exact K7_0 (by rw [f_X3_with_j7, if_pos h52, if_neg h67, if_pos h68, if_neg h75, if_neg h76, if_pos h77, if_neg h78]) 
                  · refine z_iconst (v := 2) C dX3_with_166 (by decide) ?_
                    refine z_goto (tgt := 171) C dX3_with_167 (by decide) ?_
                    exact K7_2 (by rw [f_X3_with_j7, if_pos h52, if_neg h67, if_pos h68, if_neg h75, if_neg h76, if_pos h77, if_pos h78]) 
              · refine z_iload_n C dX3_with_140 rfl 4 rfl ?_
                refine z_i2l (v := (p3).toInt64) C dX3_with_141 rfl ?_
                refine z_lconst (v := 1) C dX3_with_142 (by decide) ?_
                refine z_ldc2 (v := 12) C w3 dX3_with_143 ?_
                refine z_si (rest := [.ref (z 0)]) C (c_X3_in l hfl D cI cJ _ ((p3).toInt64) (1 : Int64) (12 : Int64) ) q_X3_in gX3_with_X3_in ⟨rfl, rfl⟩ rfl rfl (Nat.le_of_ble_eq_true rfl) ⟨Nat.le_of_ble_eq_true rfl, Nat.le_of_ble_eq_true rfl⟩ ⟨Nat.le_of_ble_eq_true rfl, Nat.le_of_ble_eq_true rfl⟩ dX3_with_146 ?_
                refine z_if_eq (tgt := 166) C dX3_with_149 (by decide) (fun h79 => ?_) (fun h79 => ?_)
                · refine z_iconst (v := 2) C dX3_with_166 (by decide) ?_
                  refine z_goto (tgt := 171) C dX3_with_167 (by decide) ?_
                  exact K7_2 (by rw [f_X3_with_j7, if_pos h52, if_neg h67, if_pos h68, if_neg h75, if_pos h76, if_pos h79]) 
                · refine z_iload_n C dX3_with_152 rfl 3 rfl ?_
                  refine z_bipush (v := 121) C dX3_with_153 (by decide) ?_
                  refine z_icmp_ne (tgt := 170) C dX3_with_155 (by decide) (fun h80 => ?_) (fun h80 => ?_)
                  · refine z_iconst (v := 0) C dX3_with_170 (by decide) ?_
                    exact K7_0 (by rw [f_X3_with_j7, if_pos h52, if_neg h67, if_pos h68, if_neg h75, if_pos h76, if_neg h79, if_neg h80]) 
                  · refine z_iload_n C dX3_with_158 rfl 4 rfl ?_
                    refine z_i2l (v := (p3).toInt64) C dX3_with_159 rfl ?_
                    refine z_si (rest := [.ref (z 0)]) C (c_X3_isYear l hfl D cI cJ _ ((p3).toInt64) ) q_X3_isYear gX3_with_X3_isYear ⟨rfl, rfl⟩ rfl rfl (Nat.le_of_ble_eq_true rfl) ⟨Nat.le_of_ble_eq_true rfl, Nat.le_of_ble_eq_true rfl⟩ ⟨Nat.le_of_ble_eq_true rfl, Nat.le_of_ble_eq_true rfl⟩ dX3_with_160 ?_
                    refine z_if_ne (tgt := 170) C dX3_with_163 (by decide) (fun h81 => ?_) (fun h81 => ?_)
                    · refine z_iconst (v := 0) C dX3_with_170 (by decide) ?_
                      exact K7_0 (by rw [f_X3_with_j7, if_pos h52, if_neg h67, if_pos h68, if_neg h75, if_pos h76, if_neg h79, if_pos h80, if_neg h81]) 
                    · refine z_iconst (v := 2) C dX3_with_166 (by decide) ?_
                      refine z_goto (tgt := 171) C dX3_with_167 (by decide) ?_
                      exact K7_2 (by rw [f_X3_with_j7, if_pos h52, if_neg h67, if_pos h68, if_neg h75, if_pos h76, if_neg h79, if_pos h80, if_pos h81]) 
    refine z_if_eq (tgt := 83) C dX3_with_74 (by decide) (fun h10 => ?_) (fun h10 => ?_)
    · refine z_sipush (v := 365) C dX3_with_83 (by decide) ?_
      exact K2_365 (by rw [f_X3_with_j2, if_pos h10]) h10
    · refine z_sipush (v := 366) C dX3_with_77 (by decide) ?_
      refine z_goto (tgt := 86) C dX3_with_80 (by decide) ?_
      exact K2_366 (by rw [f_X3_with_j2, if_neg h10]) h10
  have K1_1 : f_X3_with_j1 p1 p2 p4 = 1 → ZW p l e { frames := 7, cells := 0, slots := 0, locals := 159 } s m args below meth c 8 D (zTys cI cJ) A (zE D (zTys cI cJ) A below args s (fun v w => v = some (.long (f_X3_with d p1 p2 p3 p4)) ∧ w = (wM cI cJ z (s_X3_with_co d p1 p2 p3 p4) (s_X3_with_d d p1 p2 p3 p4) ti sL bL mD mT sy sm sd mi (s_X3_with_yr d yr p1 p2 p3 p4) (s_X3_with_mo d mo p1 p2 p3 p4) (s_X3_with_dy d dy p1 p2 p3 p4) X)) (fun _ _ => False) 0 0) 0 0 (wM cI cJ z co d ti sL bL mD mT sy sm sd mi yr mo dy X) 49 [(0, .ref (z 0)), (1, .int p1), (2, .int p2), (3, .int p3), (4, .int p4)] [.int 1, .ref (z 0)] := by
    intro h89
    refine z_wi (ws' := (wM cI cJ z (s_X3_fails_co 1) d ti sL bL mD mT sy sm sd mi yr mo dy X)) (rest := []) (ci := 3) (q0 := 0) C (c_X3_fails l hfl D cI cJ X z co d ti sL bL mD mT sy sm sd mi yr mo dy (1 : Int32) ) q_X3_fails rfl rfl rfl gX3_with_X3_fails ⟨rfl, rfl⟩ rfl rfl (Nat.le_of_ble_eq_true rfl) ⟨Nat.le_of_ble_eq_true rfl, Nat.le_of_ble_eq_true rfl⟩ ⟨Nat.le_of_ble_eq_true rfl, Nat.le_of_ble_eq_true rfl⟩ dX3_with_49 ?_
    refine z_eqst (st' := [.int 1]) (congrArg (fun v => Value.int v :: _) (by decide : (f_X3_fails 1) = (1 : Int32))) ?_
    refine z_if_eq (tgt := 57) C dX3_with_52 (by decide) (fun h => absurd h (by decide)) (fun _ => ?_)
    refine z_lconst (v := 0) C dX3_with_55 (by decide) ?_
    exact z_lret C ⟨congrArg (fun v => some (Value.long v)) (by rw [f_X3_with, if_neg (by rw [h89]; decide : ¬ f_X3_with_j1 p1 p2 p4 = 0), if_pos h89] : (0 : Int64) = (f_X3_with d p1 p2 p3 p4)), by rw [s_X3_with_co, if_neg (by rw [h89]; decide : ¬ f_X3_with_j1 p1 p2 p4 = 0), if_pos h89, s_X3_with_d, if_neg (by rw [h89]; decide : ¬ f_X3_with_j1 p1 p2 p4 = 0), if_pos h89, s_X3_with_yr, if_neg (by rw [h89]; decide : ¬ f_X3_with_j1 p1 p2 p4 = 0), if_pos h89, s_X3_with_mo, if_neg (by rw [h89]; decide : ¬ f_X3_with_j1 p1 p2 p4 = 0), if_pos h89, s_X3_with_dy, if_neg (by rw [h89]; decide : ¬ f_X3_with_j1 p1 p2 p4 = 0), if_pos h89]⟩ (by decide) (by decide) dX3_with_56
  have K1_2 : f_X3_with_j1 p1 p2 p4 = 2 → (¬ (f_X3_isDate p1) = 0) → (¬ (f_X3_isDate p4) = 0) → (¬ p2 = 100) → (¬ p2 = 109) → (¬ p2 = 110) → (¬ p2 = 121) → ZW p l e { frames := 7, cells := 0, slots := 0, locals := 159 } s m args below meth c 8 D (zTys cI cJ) A (zE D (zTys cI cJ) A below args s (fun v w => v = some (.long (f_X3_with d p1 p2 p3 p4)) ∧ w = (wM cI cJ z (s_X3_with_co d p1 p2 p3 p4) (s_X3_with_d d p1 p2 p3 p4) ti sL bL mD mT sy sm sd mi (s_X3_with_yr d yr p1 p2 p3 p4) (s_X3_with_mo d mo p1 p2 p3 p4) (s_X3_with_dy d dy p1 p2 p3 p4) X)) (fun _ _ => False) 0 0) 0 0 (wM cI cJ z co d ti sL bL mD mT sy sm sd mi yr mo dy X) 49 [(0, .ref (z 0)), (1, .int p1), (2, .int p2), (3, .int p3), (4, .int p4)] [.int 2, .ref (z 0)] := by
    intro h90 h91 h92 h93 h94 h95 h96
    refine z_wi (ws' := (wM cI cJ z (s_X3_fails_co 2) d ti sL bL mD mT sy sm sd mi yr mo dy X)) (rest := []) (ci := 3) (q0 := 0) C (c_X3_fails l hfl D cI cJ X z co d ti sL bL mD mT sy sm sd mi yr mo dy (2 : Int32) ) q_X3_fails rfl rfl rfl gX3_with_X3_fails ⟨rfl, rfl⟩ rfl rfl (Nat.le_of_ble_eq_true rfl) ⟨Nat.le_of_ble_eq_true rfl, Nat.le_of_ble_eq_true rfl⟩ ⟨Nat.le_of_ble_eq_true rfl, Nat.le_of_ble_eq_true rfl⟩ dX3_with_49 ?_
    refine z_eqst (st' := [.int 1]) (congrArg (fun v => Value.int v :: _) (by decide : (f_X3_fails 2) = (1 : Int32))) ?_
    refine z_if_eq (tgt := 57) C dX3_with_52 (by decide) (fun h => absurd h (by decide)) (fun _ => ?_)
    refine z_lconst (v := 0) C dX3_with_55 (by decide) ?_
    exact z_lret C ⟨congrArg (fun v => some (Value.long v)) (by rw [f_X3_with, if_neg (by rw [h90]; decide : ¬ f_X3_with_j1 p1 p2 p4 = 0), if_neg (by rw [h90]; decide : ¬ f_X3_with_j1 p1 p2 p4 = 1)] : (0 : Int64) = (f_X3_with d p1 p2 p3 p4)), by rw [s_X3_with_co, if_neg (by rw [h90]; decide : ¬ f_X3_with_j1 p1 p2 p4 = 0), if_neg (by rw [h90]; decide : ¬ f_X3_with_j1 p1 p2 p4 = 1), s_X3_with_d, if_neg (by rw [h90]; decide : ¬ f_X3_with_j1 p1 p2 p4 = 0), if_neg (by rw [h90]; decide : ¬ f_X3_with_j1 p1 p2 p4 = 1), s_X3_with_yr, if_neg (by rw [h90]; decide : ¬ f_X3_with_j1 p1 p2 p4 = 0), if_neg (by rw [h90]; decide : ¬ f_X3_with_j1 p1 p2 p4 = 1), s_X3_with_mo, if_neg (by rw [h90]; decide : ¬ f_X3_with_j1 p1 p2 p4 = 0), if_neg (by rw [h90]; decide : ¬ f_X3_with_j1 p1 p2 p4 = 1), s_X3_with_dy, if_neg (by rw [h90]; decide : ¬ f_X3_with_j1 p1 p2 p4 = 0), if_neg (by rw [h90]; decide : ¬ f_X3_with_j1 p1 p2 p4 = 1)]⟩ (by decide) (by decide) dX3_with_56
  refine z_if_eq (tgt := 16) C dX3_with_5 (by decide) (fun h1 => ?_) (fun h1 => ?_)
  · refine z_iconst (v := 1) C dX3_with_16 (by decide) ?_
    refine z_goto (tgt := 49) C dX3_with_17 (by decide) ?_
    exact K1_1 (by rw [f_X3_with_j1, if_pos h1]) 
  · refine z_iload C dX3_with_8 4 rfl ?_
    refine z_si (rest := [.ref (z 0)]) C (c_X3_isDate l hfl D cI cJ _ p4 ) q_X3_isDate gX3_with_X3_isDate ⟨rfl, rfl⟩ rfl rfl (Nat.le_of_ble_eq_true rfl) ⟨Nat.le_of_ble_eq_true rfl, Nat.le_of_ble_eq_true rfl⟩ ⟨Nat.le_of_ble_eq_true rfl, Nat.le_of_ble_eq_true rfl⟩ dX3_with_10 ?_
    refine z_if_ne (tgt := 20) C dX3_with_13 (by decide) (fun h2 => ?_) (fun h2 => ?_)
    · refine z_iload_n C dX3_with_20 rfl 2 rfl ?_
      refine z_bipush (v := 100) C dX3_with_21 (by decide) ?_
      refine z_icmp_eq (tgt := 44) C dX3_with_23 (by decide) (fun h3 => ?_) (fun h3 => ?_)
      · refine z_iconst (v := 0) C dX3_with_44 (by decide) ?_
        refine z_goto (tgt := 49) C dX3_with_45 (by decide) ?_
        exact K1_0 (by rw [f_X3_with_j1, if_neg h1, if_neg h2, if_pos h3]) h1 h2
      · refine z_iload_n C dX3_with_26 rfl 2 rfl ?_
        refine z_bipush (v := 110) C dX3_with_27 (by decide) ?_
        refine z_icmp_eq (tgt := 44) C dX3_with_29 (by decide) (fun h4 => ?_) (fun h4 => ?_)
        · refine z_iconst (v := 0) C dX3_with_44 (by decide) ?_
          refine z_goto (tgt := 49) C dX3_with_45 (by decide) ?_
          exact K1_0 (by rw [f_X3_with_j1, if_neg h1, if_neg h2, if_neg h3, if_pos h4]) h1 h2
        · refine z_iload_n C dX3_with_32 rfl 2 rfl ?_
          refine z_bipush (v := 109) C dX3_with_33 (by decide) ?_
          refine z_icmp_eq (tgt := 44) C dX3_with_35 (by decide) (fun h5 => ?_) (fun h5 => ?_)
          · refine z_iconst (v := 0) C dX3_with_44 (by decide) ?_
            refine z_goto (tgt := 49) C dX3_with_45 (by decide) ?_
            exact K1_0 (by rw [f_X3_with_j1, if_neg h1, if_neg h2, if_neg h3, if_neg h4, if_pos h5]) h1 h2
          · refine z_iload_n C dX3_with_38 rfl 2 rfl ?_
            refine z_bipush (v := 121) C dX3_with_39 (by decide) ?_
            refine z_icmp_ne (tgt := 48) C dX3_with_41 (by decide) (fun h6 => ?_) (fun h6 => ?_)
            · refine z_iconst (v := 2) C dX3_with_48 (by decide) ?_
              exact K1_2 (by rw [f_X3_with_j1, if_neg h1, if_neg h2, if_neg h3, if_neg h4, if_neg h5, if_neg h6]) h1 h2 h3 h5 h4 h6
            · refine z_iconst (v := 0) C dX3_with_44 (by decide) ?_
              refine z_goto (tgt := 49) C dX3_with_45 (by decide) ?_
              exact K1_0 (by rw [f_X3_with_j1, if_neg h1, if_neg h2, if_neg h3, if_neg h4, if_neg h5, if_pos h6]) h1 h2
    · refine z_iconst (v := 1) C dX3_with_16 (by decide) ?_
      refine z_goto (tgt := 49) C dX3_with_17 (by decide) ?_
      exact K1_1 (by rw [f_X3_with_j1, if_neg h1, if_pos h2]) 
def f_X3_adjust_j1 (p1 : Int32) (p2 : Int32) (p3 : Int32) : Int32 := (if (f_X3_isDate p1) = 0 then 1 else (if (f_X3_isDate p3) = 0 then 1 else (if p2 = 102 then 0 else (if p2 = 108 then 0 else (if p2 = 110 then 0 else (if p2 = 70 then 0 else (if p2 = 76 then 0 else (if p2 = 78 then 0 else 2))))))))
def f_X3_adjust_j2 (d : Nat → Int64) (p1 : Int32) (p2 : Int32) : Int64 := (if p2 = 102 then (f_X3_number (s_X3_parts_yr (d p1.toNatClampNeg)) (s_X3_parts_mo (d p1.toNatClampNeg)) 1) else (if p2 = 108 then (((f_X3_number (s_X3_parts_yr (d p1.toNatClampNeg)) (s_X3_parts_mo (d p1.toNatClampNeg)) 1) + ((f_X3_many (s_X3_parts_yr (d p1.toNatClampNeg)) (s_X3_parts_mo (d p1.toNatClampNeg)))).toInt64) - 1) else (if p2 = 110 then ((f_X3_number (s_X3_parts_yr (d p1.toNatClampNeg)) (s_X3_parts_mo (d p1.toNatClampNeg)) 1) + ((f_X3_many (s_X3_parts_yr (d p1.toNatClampNeg)) (s_X3_parts_mo (d p1.toNatClampNeg)))).toInt64) else (if p2 = 70 then (f_X3_first (s_X3_parts_yr (d p1.toNatClampNeg))) else (if p2 = 76 then ((f_X3_first ((s_X3_parts_yr (d p1.toNatClampNeg)) + 1)) - 1) else (f_X3_first ((s_X3_parts_yr (d p1.toNatClampNeg)) + 1)))))))
def f_X3_adjust (d : Nat → Int64) (p1 : Int32) (p2 : Int32) (p3 : Int32) : Int64 := (if f_X3_adjust_j1 p1 p2 p3 = 0 then (f_X3_becomes (f_X3_adjust_j2 d p1 p2) 3) else (if f_X3_adjust_j1 p1 p2 p3 = 1 then 0 else 0))
def s_X3_adjust_co (d : Nat → Int64) (p1 : Int32) (p2 : Int32) (p3 : Int32) : Int32 := (if f_X3_adjust_j1 p1 p2 p3 = 0 then (s_X3_becomes_co (f_X3_adjust_j2 d p1 p2) 3) else (if f_X3_adjust_j1 p1 p2 p3 = 1 then (s_X3_fails_co 1) else (s_X3_fails_co 2)))
def s_X3_adjust_d (d : Nat → Int64) (p1 : Int32) (p2 : Int32) (p3 : Int32) : Nat → Int64 := (if f_X3_adjust_j1 p1 p2 p3 = 0 then (s_X3_becomes_d d p3 (f_X3_adjust_j2 d p1 p2) 3) else (if f_X3_adjust_j1 p1 p2 p3 = 1 then d else d))
def s_X3_adjust_yr (d : Nat → Int64) (yr : Int64) (p1 : Int32) (p2 : Int32) (p3 : Int32) : Int64 := (if f_X3_adjust_j1 p1 p2 p3 = 0 then (s_X3_becomes_yr (f_X3_adjust_j2 d p1 p2) 3) else (if f_X3_adjust_j1 p1 p2 p3 = 1 then yr else yr))
def s_X3_adjust_mo (d : Nat → Int64) (mo : Int32) (p1 : Int32) (p2 : Int32) (p3 : Int32) : Int32 := (if f_X3_adjust_j1 p1 p2 p3 = 0 then (s_X3_becomes_mo (f_X3_adjust_j2 d p1 p2) 3) else (if f_X3_adjust_j1 p1 p2 p3 = 1 then mo else mo))
def s_X3_adjust_dy (d : Nat → Int64) (dy : Int32) (p1 : Int32) (p2 : Int32) (p3 : Int32) : Int32 := (if f_X3_adjust_j1 p1 p2 p3 = 0 then (s_X3_becomes_dy (f_X3_adjust_j2 d p1 p2) 3) else (if f_X3_adjust_j1 p1 p2 p3 = 1 then dy else dy))
def pre_X3_adjust (d : Nat → Int64) (p1 : Int32) (p2 : Int32) (p3 : Int32) : Prop := (((f_X3_adjust_j1 p1 p2 p3) = 0) → (¬ (f_X3_isDate p1) = 0) → (¬ (f_X3_isDate p3) = 0) → (pre_X3_parts (d p1.toNatClampNeg))) ∧ (((f_X3_adjust_j1 p1 p2 p3) = 0) → (¬ (f_X3_isDate p1) = 0) → (¬ (f_X3_isDate p3) = 0) → ((s_X3_parts_mo (d p1.toNatClampNeg)) ≤ 12)) ∧ (((f_X3_adjust_j1 p1 p2 p3) = 0) → (¬ (f_X3_isDate p1) = 0) → (¬ (f_X3_isDate p3) = 0) → (pre_X3_becomes p3 (f_X3_adjust_j2 d p1 p2) 3))
theorem q_X3_adjust : ZY yX3_adjust wsX3_adjust cX3_adjust 10 (some .long) 3 := ⟨⟨_, rfl⟩, by decide +kernel, by decide +kernel, by decide +kernel⟩
set_option maxHeartbeats 4000000 in
set_option maxRecDepth 100000 in
theorem c_X3_adjust (l : Launch) (hfl : l.stackTraces = false) (D : va_G) (cI cJ : ClassId) (X : va_W) (z : Nat → Nat) (co : Int32) (d : Nat → Int64) (ti : Nat → Int64) (sL : Nat → Int64) (bL : Nat → Int64) (mD : Nat → Int64) (mT : Nat → Int64) (sy : Nat → Int64) (sm : Nat → Int64) (sd : Nat → Int64) (mi : Nat → Int64) (yr : Int64) (mo : Int32) (dy : Int32) (p1 : Int32) (p2 : Int32) (p3 : Int32)  (h_g : pre_X3_adjust d p1 p2 p3) : ZM l yX3_adjust wsX3_adjust { frames := 7, cells := 0, slots := 0, locals := 159 } [.ref (z 0), .int p1, .int p2, .int p3] D (zTys cI cJ) (wM cI cJ z co d ti sL bL mD mT sy sm sd mi yr mo dy X) 0 0 (fun v w => v = some (.long (f_X3_adjust d p1 p2 p3)) ∧ w = (wM cI cJ z (s_X3_adjust_co d p1 p2 p3) (s_X3_adjust_d d p1 p2 p3) ti sL bL mD mT sy sm sd mi (s_X3_adjust_yr d yr p1 p2 p3) (s_X3_adjust_mo d mo p1 p2 p3) (s_X3_adjust_dy d dy p1 p2 p3) X)) (fun _ _ => False) := by
  refine z_open (own := RX3) hfl (cc := cX3_adjust) (maxL := 10) (ret := (some .long)) (lv := [(0, .ref (z 0)), (1, .int p1), (2, .int p2), (3, .int p3)]) rfl (by decide) rfl rfl (Nat.le_of_ble_eq_true rfl) ?_
  intro p e s m args below meth c A C hno hnm hargs
  have hin : ∀ w ∈ wsX30, w ∈ wsX3_adjust := by decide +kernel
  have w1 := C.1.2.2.2.2 (.fieldLink RX3 13 "YearwheelModel" "dates" "[J") (by decide +kernel)
  have w2 := C.1.2.2.2.2 (.fieldLink RX3 86 "YearwheelModel" "year" "J") (by decide +kernel)
  have w3 := C.1.2.2.2.2 (.fieldLink RX3 90 "YearwheelModel" "month" "I") (by decide +kernel)
  obtain ⟨g_0, g_1, g_2⟩ := h_g
  refine z_aload_n C dX3_adjust_0 rfl 0 rfl ?_
  refine z_iload_n C dX3_adjust_1 rfl 1 rfl ?_
  refine z_si (rest := [.ref (z 0)]) C (c_X3_isDate l hfl D cI cJ _ p1 ) q_X3_isDate gX3_adjust_X3_isDate ⟨rfl, rfl⟩ rfl rfl (Nat.le_of_ble_eq_true rfl) ⟨Nat.le_of_ble_eq_true rfl, Nat.le_of_ble_eq_true rfl⟩ ⟨Nat.le_of_ble_eq_true rfl, Nat.le_of_ble_eq_true rfl⟩ dX3_adjust_2 ?_
  have K1_0 : f_X3_adjust_j1 p1 p2 p3 = 0 → (¬ (f_X3_isDate p1) = 0) → (¬ (f_X3_isDate p3) = 0) → ZW p l e { frames := 7, cells := 0, slots := 0, locals := 159 } s m args below meth c 10 D (zTys cI cJ) A (zE D (zTys cI cJ) A below args s (fun v w => v = some (.long (f_X3_adjust d p1 p2 p3)) ∧ w = (wM cI cJ z (s_X3_adjust_co d p1 p2 p3) (s_X3_adjust_d d p1 p2 p3) ti sL bL mD mT sy sm sd mi (s_X3_adjust_yr d yr p1 p2 p3) (s_X3_adjust_mo d mo p1 p2 p3) (s_X3_adjust_dy d dy p1 p2 p3) X)) (fun _ _ => False) 0 0) 0 0 (wM cI cJ z co d ti sL bL mD mT sy sm sd mi yr mo dy X) 60 [(0, .ref (z 0)), (1, .int p1), (2, .int p2), (3, .int p3)] [.int 0, .ref (z 0)] := by
    intro h9 h10 h11
    refine z_wi (ws' := (wM cI cJ z (s_X3_fails_co 0) d ti sL bL mD mT sy sm sd mi yr mo dy X)) (rest := []) (ci := 3) (q0 := 0) C (c_X3_fails l hfl D cI cJ X z co d ti sL bL mD mT sy sm sd mi yr mo dy (0 : Int32) ) q_X3_fails rfl rfl rfl gX3_adjust_X3_fails ⟨rfl, rfl⟩ rfl rfl (Nat.le_of_ble_eq_true rfl) ⟨Nat.le_of_ble_eq_true rfl, Nat.le_of_ble_eq_true rfl⟩ ⟨Nat.le_of_ble_eq_true rfl, Nat.le_of_ble_eq_true rfl⟩ dX3_adjust_60 ?_
    refine z_eqst (st' := [.int 0]) (congrArg (fun v => Value.int v :: _) (by decide : (f_X3_fails 0) = (0 : Int32))) ?_
    refine z_if_eq (tgt := 68) C dX3_adjust_63 (by decide) (fun _ => ?_) (fun h => absurd (by decide) h)
    refine z_aload_n C dX3_adjust_68 rfl 0 rfl ?_
    refine z_aload_n C dX3_adjust_69 rfl 0 rfl ?_
    refine z_get (CC := RX3) (T := TX3) (N := 14) (ci := 3) C hin 0 rfl rfl 1 (by decide) w1 rfl rfl dX3_adjust_70 ?_
    refine z_iload_n C dX3_adjust_73 rfl 1 rfl ?_
    refine z_lald C 1 1 rfl rfl (vpMDate h10) dX3_adjust_74 ?_
    refine z_wv (ws' := (wM cI cJ z (s_X3_fails_co 0) d ti sL bL mD mT sy sm sd mi (s_X3_parts_yr (d p1.toNatClampNeg)) (s_X3_parts_mo (d p1.toNatClampNeg)) (s_X3_parts_dy (d p1.toNatClampNeg)) X)) (rest := []) (ci := 3) (q0 := 0) C (c_X3_parts l hfl D cI cJ X z (s_X3_fails_co 0) d ti sL bL mD mT sy sm sd mi yr mo dy (d p1.toNatClampNeg) (g_0 h9 h10 h11)) q_X3_parts rfl rfl rfl gX3_adjust_X3_parts ⟨rfl, rfl⟩ rfl rfl (Nat.le_of_ble_eq_true rfl) ⟨Nat.le_of_ble_eq_true rfl, Nat.le_of_ble_eq_true rfl⟩ ⟨Nat.le_of_ble_eq_true rfl, Nat.le_of_ble_eq_true rfl⟩ dX3_adjust_75 ?_
    refine z_aload_n C dX3_adjust_78 rfl 0 rfl ?_
    refine z_get (CC := RX3) (T := TX3) (N := 14) (ci := 3) C hin 0 rfl rfl 11 (by decide) w2 rfl rfl dX3_adjust_79 ?_
    refine z_aload_n C dX3_adjust_82 rfl 0 rfl ?_
    refine z_get (CC := RX3) (T := TX3) (N := 14) (ci := 3) C hin 0 rfl rfl 12 (by decide) w3 rfl rfl dX3_adjust_83 ?_
    refine z_iconst (v := 1) C dX3_adjust_86 (by decide) ?_
    refine z_sl (rest := []) C (c_X3_number l hfl D cI cJ _ (s_X3_parts_yr (d p1.toNatClampNeg)) (s_X3_parts_mo (d p1.toNatClampNeg)) (1 : Int32) (g_1 h9 h10 h11)) q_X3_number gX3_adjust_X3_number ⟨rfl, rfl⟩ rfl rfl (Nat.le_of_ble_eq_true rfl) ⟨Nat.le_of_ble_eq_true rfl, Nat.le_of_ble_eq_true rfl⟩ ⟨Nat.le_of_ble_eq_true rfl, Nat.le_of_ble_eq_true rfl⟩ dX3_adjust_87 ?_
    refine z_lstore (lv' := [(4, .long (f_X3_number (s_X3_parts_yr (d p1.toNatClampNeg)) (s_X3_parts_mo (d p1.toNatClampNeg)) 1)), (0, .ref (z 0)), (1, .int p1), (2, .int p2), (3, .int p3)]) C dX3_adjust_90 (by decide) rfl ?_
    refine z_lload C dX3_adjust_92 0 rfl ?_
    refine z_aload_n C dX3_adjust_94 rfl 1 rfl ?_
    refine z_get (CC := RX3) (T := TX3) (N := 14) (ci := 3) C hin 0 rfl rfl 11 (by decide) w2 rfl rfl dX3_adjust_95 ?_
    refine z_aload_n C dX3_adjust_98 rfl 1 rfl ?_
    refine z_get (CC := RX3) (T := TX3) (N := 14) (ci := 3) C hin 0 rfl rfl 12 (by decide) w3 rfl rfl dX3_adjust_99 ?_
    refine z_si (rest := [.long (f_X3_number (s_X3_parts_yr (d p1.toNatClampNeg)) (s_X3_parts_mo (d p1.toNatClampNeg)) 1)]) C (c_X3_many l hfl D cI cJ _ (s_X3_parts_yr (d p1.toNatClampNeg)) (s_X3_parts_mo (d p1.toNatClampNeg)) ) q_X3_many gX3_adjust_X3_many ⟨rfl, rfl⟩ rfl rfl (Nat.le_of_ble_eq_true rfl) ⟨Nat.le_of_ble_eq_true rfl, Nat.le_of_ble_eq_true rfl⟩ ⟨Nat.le_of_ble_eq_true rfl, Nat.le_of_ble_eq_true rfl⟩ dX3_adjust_102 ?_
    refine z_i2l (v := ((f_X3_many (s_X3_parts_yr (d p1.toNatClampNeg)) (s_X3_parts_mo (d p1.toNatClampNeg)))).toInt64) C dX3_adjust_105 rfl ?_
    refine z_ladd C dX3_adjust_106 ?_
    refine z_lstore (lv' := [(6, .long ((f_X3_number (s_X3_parts_yr (d p1.toNatClampNeg)) (s_X3_parts_mo (d p1.toNatClampNeg)) 1) + ((f_X3_many (s_X3_parts_yr (d p1.toNatClampNeg)) (s_X3_parts_mo (d p1.toNatClampNeg)))).toInt64)), (4, .long (f_X3_number (s_X3_parts_yr (d p1.toNatClampNeg)) (s_X3_parts_mo (d p1.toNatClampNeg)) 1)), (0, .ref (z 0)), (1, .int p1), (2, .int p2), (3, .int p3)]) C dX3_adjust_107 (by decide) rfl ?_
    refine z_iload_n C dX3_adjust_109 rfl 4 rfl ?_
    refine z_bipush (v := 102) C dX3_adjust_110 (by decide) ?_
    have K2 : ∀ (v2_0 : Int64), (f_X3_adjust_j2 d p1 p2) = v2_0 → ZW p l e { frames := 7, cells := 0, slots := 0, locals := 159 } s m args below meth c 10 D (zTys cI cJ) A (zE D (zTys cI cJ) A below args s (fun v w => v = some (.long (f_X3_adjust d p1 p2 p3)) ∧ w = (wM cI cJ z (s_X3_adjust_co d p1 p2 p3) (s_X3_adjust_d d p1 p2 p3) ti sL bL mD mT sy sm sd mi (s_X3_adjust_yr d yr p1 p2 p3) (s_X3_adjust_mo d mo p1 p2 p3) (s_X3_adjust_dy d dy p1 p2 p3) X)) (fun _ _ => False) 0 0) 0 0 (wM cI cJ z (s_X3_fails_co 0) d ti sL bL mD mT sy sm sd mi (s_X3_parts_yr (d p1.toNatClampNeg)) (s_X3_parts_mo (d p1.toNatClampNeg)) (s_X3_parts_dy (d p1.toNatClampNeg)) X) 189 [(6, .long ((f_X3_number (s_X3_parts_yr (d p1.toNatClampNeg)) (s_X3_parts_mo (d p1.toNatClampNeg)) 1) + ((f_X3_many (s_X3_parts_yr (d p1.toNatClampNeg)) (s_X3_parts_mo (d p1.toNatClampNeg)))).toInt64)), (4, .long (f_X3_number (s_X3_parts_yr (d p1.toNatClampNeg)) (s_X3_parts_mo (d p1.toNatClampNeg)) 1)), (0, .ref (z 0)), (1, .int p1), (2, .int p2), (3, .int p3)] [.long v2_0] := by
      rintro _ rfl
      refine z_lstore (lv' := [(8, .long (f_X3_adjust_j2 d p1 p2)), (6, .long ((f_X3_number (s_X3_parts_yr (d p1.toNatClampNeg)) (s_X3_parts_mo (d p1.toNatClampNeg)) 1) + ((f_X3_many (s_X3_parts_yr (d p1.toNatClampNeg)) (s_X3_parts_mo (d p1.toNatClampNeg)))).toInt64)), (4, .long (f_X3_number (s_X3_parts_yr (d p1.toNatClampNeg)) (s_X3_parts_mo (d p1.toNatClampNeg)) 1)), (0, .ref (z 0)), (1, .int p1), (2, .int p2), (3, .int p3)]) C dX3_adjust_189 (by decide) rfl ?_
      refine z_aload_n C dX3_adjust_191 rfl 3 rfl ?_
      refine z_iload_n C dX3_adjust_192 rfl 6 rfl ?_
      refine z_lload C dX3_adjust_193 0 rfl ?_
      refine z_iconst (v := 3) C dX3_adjust_195 (by decide) ?_
      refine z_wl (ws' := (wM cI cJ z (s_X3_becomes_co (f_X3_adjust_j2 d p1 p2) 3) (s_X3_becomes_d d p3 (f_X3_adjust_j2 d p1 p2) 3) ti sL bL mD mT sy sm sd mi (s_X3_becomes_yr (f_X3_adjust_j2 d p1 p2) 3) (s_X3_becomes_mo (f_X3_adjust_j2 d p1 p2) 3) (s_X3_becomes_dy (f_X3_adjust_j2 d p1 p2) 3) X)) (rest := []) (ci := 3) (q0 := 0) C (c_X3_becomes l hfl D cI cJ X z (s_X3_fails_co 0) d ti sL bL mD mT sy sm sd mi (s_X3_parts_yr (d p1.toNatClampNeg)) (s_X3_parts_mo (d p1.toNatClampNeg)) (s_X3_parts_dy (d p1.toNatClampNeg)) p3 (f_X3_adjust_j2 d p1 p2) (3 : Int32) (g_2 h9 h10 h11)) q_X3_becomes rfl rfl rfl gX3_adjust_X3_becomes ⟨rfl, rfl⟩ rfl rfl (Nat.le_of_ble_eq_true rfl) ⟨Nat.le_of_ble_eq_true rfl, Nat.le_of_ble_eq_true rfl⟩ ⟨Nat.le_of_ble_eq_true rfl, Nat.le_of_ble_eq_true rfl⟩ dX3_adjust_196 ?_
      exact z_lret C ⟨congrArg (fun v => some (Value.long v)) (by rw [f_X3_adjust, if_pos h9] : (f_X3_becomes (f_X3_adjust_j2 d p1 p2) 3) = (f_X3_adjust d p1 p2 p3)), by rw [s_X3_adjust_co, if_pos h9, s_X3_adjust_d, if_pos h9, s_X3_adjust_yr, if_pos h9, s_X3_adjust_mo, if_pos h9, s_X3_adjust_dy, if_pos h9]⟩ (by decide) (by decide) dX3_adjust_199
    refine z_icmp_ne (tgt := 120) C dX3_adjust_112 (by decide) (fun h12 => ?_) (fun h12 => ?_)
    · refine z_iload_n C dX3_adjust_120 rfl 4 rfl ?_
      refine z_bipush (v := 108) C dX3_adjust_121 (by decide) ?_
      refine z_icmp_ne (tgt := 133) C dX3_adjust_123 (by decide) (fun h13 => ?_) (fun h13 => ?_)
      · refine z_iload_n C dX3_adjust_133 rfl 4 rfl ?_
        refine z_bipush (v := 110) C dX3_adjust_134 (by decide) ?_
        refine z_icmp_ne (tgt := 144) C dX3_adjust_136 (by decide) (fun h14 => ?_) (fun h14 => ?_)
        · refine z_iload_n C dX3_adjust_144 rfl 4 rfl ?_
          refine z_bipush (v := 70) C dX3_adjust_145 (by decide) ?_
          refine z_icmp_ne (tgt := 160) C dX3_adjust_147 (by decide) (fun h15 => ?_) (fun h15 => ?_)
          · refine z_iload_n C dX3_adjust_160 rfl 4 rfl ?_
            refine z_bipush (v := 76) C dX3_adjust_161 (by decide) ?_
            refine z_icmp_ne (tgt := 180) C dX3_adjust_163 (by decide) (fun h16 => ?_) (fun h16 => ?_)
            · refine z_aload_n C dX3_adjust_180 rfl 2 rfl ?_
              refine z_get (CC := RX3) (T := TX3) (N := 14) (ci := 3) C hin 0 rfl rfl 11 (by decide) w2 rfl rfl dX3_adjust_181 ?_
              refine z_lconst (v := 1) C dX3_adjust_184 (by decide) ?_
              refine z_ladd C dX3_adjust_185 ?_
              refine z_sl (rest := []) C (c_X3_first l hfl D cI cJ _ ((s_X3_parts_yr (d p1.toNatClampNeg)) + 1) ) q_X3_first gX3_adjust_X3_first ⟨rfl, rfl⟩ rfl rfl (Nat.le_of_ble_eq_true rfl) ⟨Nat.le_of_ble_eq_true rfl, Nat.le_of_ble_eq_true rfl⟩ ⟨Nat.le_of_ble_eq_true rfl, Nat.le_of_ble_eq_true rfl⟩ dX3_adjust_186 ?_
              exact K2 _ (by rw [f_X3_adjust_j2, if_neg h12, if_neg h13, if_neg h14, if_neg h15, if_neg h16])
            · refine z_aload_n C dX3_adjust_166 rfl 2 rfl ?_
              refine z_get (CC := RX3) (T := TX3) (N := 14) (ci := 3) C hin 0 rfl rfl 11 (by decide) w2 rfl rfl dX3_adjust_167 ?_
              refine z_lconst (v := 1) C dX3_adjust_170 (by decide) ?_
              refine z_ladd C dX3_adjust_171 ?_
              refine z_sl (rest := []) C (c_X3_first l hfl D cI cJ _ ((s_X3_parts_yr (d p1.toNatClampNeg)) + 1) ) q_X3_first gX3_adjust_X3_first ⟨rfl, rfl⟩ rfl rfl (Nat.le_of_ble_eq_true rfl) ⟨Nat.le_of_ble_eq_true rfl, Nat.le_of_ble_eq_true rfl⟩ ⟨Nat.le_of_ble_eq_true rfl, Nat.le_of_ble_eq_true rfl⟩ dX3_adjust_172 ?_
              refine z_lconst (v := 1) C dX3_adjust_175 (by decide) ?_
              refine z_lsub C dX3_adjust_176 ?_
              refine z_goto (tgt := 189) C dX3_adjust_177 (by decide) ?_
              exact K2 _ (by rw [f_X3_adjust_j2, if_neg h12, if_neg h13, if_neg h14, if_neg h15, if_pos h16])
          · refine z_aload_n C dX3_adjust_150 rfl 2 rfl ?_
            refine z_get (CC := RX3) (T := TX3) (N := 14) (ci := 3) C hin 0 rfl rfl 11 (by decide) w2 rfl rfl dX3_adjust_151 ?_
            refine z_sl (rest := []) C (c_X3_first l hfl D cI cJ _ (s_X3_parts_yr (d p1.toNatClampNeg)) ) q_X3_first gX3_adjust_X3_first ⟨rfl, rfl⟩ rfl rfl (Nat.le_of_ble_eq_true rfl) ⟨Nat.le_of_ble_eq_true rfl, Nat.le_of_ble_eq_true rfl⟩ ⟨Nat.le_of_ble_eq_true rfl, Nat.le_of_ble_eq_true rfl⟩ dX3_adjust_154 ?_
            refine z_goto (tgt := 189) C dX3_adjust_157 (by decide) ?_
            exact K2 _ (by rw [f_X3_adjust_j2, if_neg h12, if_neg h13, if_neg h14, if_pos h15])
        · refine z_lload C dX3_adjust_139 0 rfl ?_
          refine z_goto (tgt := 189) C dX3_adjust_141 (by decide) ?_
          exact K2 _ (by rw [f_X3_adjust_j2, if_neg h12, if_neg h13, if_pos h14])
      · refine z_lload C dX3_adjust_126 0 rfl ?_
        refine z_lconst (v := 1) C dX3_adjust_128 (by decide) ?_
        refine z_lsub C dX3_adjust_129 ?_
        refine z_goto (tgt := 189) C dX3_adjust_130 (by decide) ?_
        exact K2 _ (by rw [f_X3_adjust_j2, if_neg h12, if_pos h13])
    · refine z_lload C dX3_adjust_115 1 rfl ?_
      refine z_goto (tgt := 189) C dX3_adjust_117 (by decide) ?_
      exact K2 _ (by rw [f_X3_adjust_j2, if_pos h12])
  have K1_1 : f_X3_adjust_j1 p1 p2 p3 = 1 → ZW p l e { frames := 7, cells := 0, slots := 0, locals := 159 } s m args below meth c 10 D (zTys cI cJ) A (zE D (zTys cI cJ) A below args s (fun v w => v = some (.long (f_X3_adjust d p1 p2 p3)) ∧ w = (wM cI cJ z (s_X3_adjust_co d p1 p2 p3) (s_X3_adjust_d d p1 p2 p3) ti sL bL mD mT sy sm sd mi (s_X3_adjust_yr d yr p1 p2 p3) (s_X3_adjust_mo d mo p1 p2 p3) (s_X3_adjust_dy d dy p1 p2 p3) X)) (fun _ _ => False) 0 0) 0 0 (wM cI cJ z co d ti sL bL mD mT sy sm sd mi yr mo dy X) 60 [(0, .ref (z 0)), (1, .int p1), (2, .int p2), (3, .int p3)] [.int 1, .ref (z 0)] := by
    intro h17
    refine z_wi (ws' := (wM cI cJ z (s_X3_fails_co 1) d ti sL bL mD mT sy sm sd mi yr mo dy X)) (rest := []) (ci := 3) (q0 := 0) C (c_X3_fails l hfl D cI cJ X z co d ti sL bL mD mT sy sm sd mi yr mo dy (1 : Int32) ) q_X3_fails rfl rfl rfl gX3_adjust_X3_fails ⟨rfl, rfl⟩ rfl rfl (Nat.le_of_ble_eq_true rfl) ⟨Nat.le_of_ble_eq_true rfl, Nat.le_of_ble_eq_true rfl⟩ ⟨Nat.le_of_ble_eq_true rfl, Nat.le_of_ble_eq_true rfl⟩ dX3_adjust_60 ?_
    refine z_eqst (st' := [.int 1]) (congrArg (fun v => Value.int v :: _) (by decide : (f_X3_fails 1) = (1 : Int32))) ?_
    refine z_if_eq (tgt := 68) C dX3_adjust_63 (by decide) (fun h => absurd h (by decide)) (fun _ => ?_)
    refine z_lconst (v := 0) C dX3_adjust_66 (by decide) ?_
    exact z_lret C ⟨congrArg (fun v => some (Value.long v)) (by rw [f_X3_adjust, if_neg (by rw [h17]; decide : ¬ f_X3_adjust_j1 p1 p2 p3 = 0), if_pos h17] : (0 : Int64) = (f_X3_adjust d p1 p2 p3)), by rw [s_X3_adjust_co, if_neg (by rw [h17]; decide : ¬ f_X3_adjust_j1 p1 p2 p3 = 0), if_pos h17, s_X3_adjust_d, if_neg (by rw [h17]; decide : ¬ f_X3_adjust_j1 p1 p2 p3 = 0), if_pos h17, s_X3_adjust_yr, if_neg (by rw [h17]; decide : ¬ f_X3_adjust_j1 p1 p2 p3 = 0), if_pos h17, s_X3_adjust_mo, if_neg (by rw [h17]; decide : ¬ f_X3_adjust_j1 p1 p2 p3 = 0), if_pos h17, s_X3_adjust_dy, if_neg (by rw [h17]; decide : ¬ f_X3_adjust_j1 p1 p2 p3 = 0), if_pos h17]⟩ (by decide) (by decide) dX3_adjust_67
  have K1_2 : f_X3_adjust_j1 p1 p2 p3 = 2 → (¬ (f_X3_isDate p1) = 0) → (¬ (f_X3_isDate p3) = 0) → (¬ p2 = 102) → (¬ p2 = 108) → (¬ p2 = 110) → (¬ p2 = 70) → (¬ p2 = 76) → (¬ p2 = 78) → ZW p l e { frames := 7, cells := 0, slots := 0, locals := 159 } s m args below meth c 10 D (zTys cI cJ) A (zE D (zTys cI cJ) A below args s (fun v w => v = some (.long (f_X3_adjust d p1 p2 p3)) ∧ w = (wM cI cJ z (s_X3_adjust_co d p1 p2 p3) (s_X3_adjust_d d p1 p2 p3) ti sL bL mD mT sy sm sd mi (s_X3_adjust_yr d yr p1 p2 p3) (s_X3_adjust_mo d mo p1 p2 p3) (s_X3_adjust_dy d dy p1 p2 p3) X)) (fun _ _ => False) 0 0) 0 0 (wM cI cJ z co d ti sL bL mD mT sy sm sd mi yr mo dy X) 60 [(0, .ref (z 0)), (1, .int p1), (2, .int p2), (3, .int p3)] [.int 2, .ref (z 0)] := by
    intro h18 h19 h20 h21 h22 h23 h24 h25 h26
    refine z_wi (ws' := (wM cI cJ z (s_X3_fails_co 2) d ti sL bL mD mT sy sm sd mi yr mo dy X)) (rest := []) (ci := 3) (q0 := 0) C (c_X3_fails l hfl D cI cJ X z co d ti sL bL mD mT sy sm sd mi yr mo dy (2 : Int32) ) q_X3_fails rfl rfl rfl gX3_adjust_X3_fails ⟨rfl, rfl⟩ rfl rfl (Nat.le_of_ble_eq_true rfl) ⟨Nat.le_of_ble_eq_true rfl, Nat.le_of_ble_eq_true rfl⟩ ⟨Nat.le_of_ble_eq_true rfl, Nat.le_of_ble_eq_true rfl⟩ dX3_adjust_60 ?_
    refine z_eqst (st' := [.int 1]) (congrArg (fun v => Value.int v :: _) (by decide : (f_X3_fails 2) = (1 : Int32))) ?_
    refine z_if_eq (tgt := 68) C dX3_adjust_63 (by decide) (fun h => absurd h (by decide)) (fun _ => ?_)
    refine z_lconst (v := 0) C dX3_adjust_66 (by decide) ?_
    exact z_lret C ⟨congrArg (fun v => some (Value.long v)) (by rw [f_X3_adjust, if_neg (by rw [h18]; decide : ¬ f_X3_adjust_j1 p1 p2 p3 = 0), if_neg (by rw [h18]; decide : ¬ f_X3_adjust_j1 p1 p2 p3 = 1)] : (0 : Int64) = (f_X3_adjust d p1 p2 p3)), by rw [s_X3_adjust_co, if_neg (by rw [h18]; decide : ¬ f_X3_adjust_j1 p1 p2 p3 = 0), if_neg (by rw [h18]; decide : ¬ f_X3_adjust_j1 p1 p2 p3 = 1), s_X3_adjust_d, if_neg (by rw [h18]; decide : ¬ f_X3_adjust_j1 p1 p2 p3 = 0), if_neg (by rw [h18]; decide : ¬ f_X3_adjust_j1 p1 p2 p3 = 1), s_X3_adjust_yr, if_neg (by rw [h18]; decide : ¬ f_X3_adjust_j1 p1 p2 p3 = 0), if_neg (by rw [h18]; decide : ¬ f_X3_adjust_j1 p1 p2 p3 = 1), s_X3_adjust_mo, if_neg (by rw [h18]; decide : ¬ f_X3_adjust_j1 p1 p2 p3 = 0), if_neg (by rw [h18]; decide : ¬ f_X3_adjust_j1 p1 p2 p3 = 1), s_X3_adjust_dy, if_neg (by rw [h18]; decide : ¬ f_X3_adjust_j1 p1 p2 p3 = 0), if_neg (by rw [h18]; decide : ¬ f_X3_adjust_j1 p1 p2 p3 = 1)]⟩ (by decide) (by decide) dX3_adjust_67
  refine z_if_eq (tgt := 15) C dX3_adjust_5 (by decide) (fun h1 => ?_) (fun h1 => ?_)
  · refine z_iconst (v := 1) C dX3_adjust_15 (by decide) ?_
    refine z_goto (tgt := 60) C dX3_adjust_16 (by decide) ?_
    exact K1_1 (by rw [f_X3_adjust_j1, if_pos h1]) 
  · refine z_iload_n C dX3_adjust_8 rfl 3 rfl ?_
    refine z_si (rest := [.ref (z 0)]) C (c_X3_isDate l hfl D cI cJ _ p3 ) q_X3_isDate gX3_adjust_X3_isDate ⟨rfl, rfl⟩ rfl rfl (Nat.le_of_ble_eq_true rfl) ⟨Nat.le_of_ble_eq_true rfl, Nat.le_of_ble_eq_true rfl⟩ ⟨Nat.le_of_ble_eq_true rfl, Nat.le_of_ble_eq_true rfl⟩ dX3_adjust_9 ?_
    refine z_if_ne (tgt := 19) C dX3_adjust_12 (by decide) (fun h2 => ?_) (fun h2 => ?_)
    · refine z_iload_n C dX3_adjust_19 rfl 2 rfl ?_
      refine z_bipush (v := 102) C dX3_adjust_20 (by decide) ?_
      refine z_icmp_eq (tgt := 55) C dX3_adjust_22 (by decide) (fun h3 => ?_) (fun h3 => ?_)
      · refine z_iconst (v := 0) C dX3_adjust_55 (by decide) ?_
        refine z_goto (tgt := 60) C dX3_adjust_56 (by decide) ?_
        exact K1_0 (by rw [f_X3_adjust_j1, if_neg h1, if_neg h2, if_pos h3]) h1 h2
      · refine z_iload_n C dX3_adjust_25 rfl 2 rfl ?_
        refine z_bipush (v := 108) C dX3_adjust_26 (by decide) ?_
        refine z_icmp_eq (tgt := 55) C dX3_adjust_28 (by decide) (fun h4 => ?_) (fun h4 => ?_)
        · refine z_iconst (v := 0) C dX3_adjust_55 (by decide) ?_
          refine z_goto (tgt := 60) C dX3_adjust_56 (by decide) ?_
          exact K1_0 (by rw [f_X3_adjust_j1, if_neg h1, if_neg h2, if_neg h3, if_pos h4]) h1 h2
        · refine z_iload_n C dX3_adjust_31 rfl 2 rfl ?_
          refine z_bipush (v := 110) C dX3_adjust_32 (by decide) ?_
          refine z_icmp_eq (tgt := 55) C dX3_adjust_34 (by decide) (fun h5 => ?_) (fun h5 => ?_)
          · refine z_iconst (v := 0) C dX3_adjust_55 (by decide) ?_
            refine z_goto (tgt := 60) C dX3_adjust_56 (by decide) ?_
            exact K1_0 (by rw [f_X3_adjust_j1, if_neg h1, if_neg h2, if_neg h3, if_neg h4, if_pos h5]) h1 h2
          · refine z_iload_n C dX3_adjust_37 rfl 2 rfl ?_
            refine z_bipush (v := 70) C dX3_adjust_38 (by decide) ?_
            refine z_icmp_eq (tgt := 55) C dX3_adjust_40 (by decide) (fun h6 => ?_) (fun h6 => ?_)
            · refine z_iconst (v := 0) C dX3_adjust_55 (by decide) ?_
              refine z_goto (tgt := 60) C dX3_adjust_56 (by decide) ?_
              exact K1_0 (by rw [f_X3_adjust_j1, if_neg h1, if_neg h2, if_neg h3, if_neg h4, if_neg h5, if_pos h6]) h1 h2
            · refine z_iload_n C dX3_adjust_43 rfl 2 rfl ?_
              refine z_bipush (v := 76) C dX3_adjust_44 (by decide) ?_
              refine z_icmp_eq (tgt := 55) C dX3_adjust_46 (by decide) (fun h7 => ?_) (fun h7 => ?_)
              · refine z_iconst (v := 0) C dX3_adjust_55 (by decide) ?_
                refine z_goto (tgt := 60) C dX3_adjust_56 (by decide) ?_
                exact K1_0 (by rw [f_X3_adjust_j1, if_neg h1, if_neg h2, if_neg h3, if_neg h4, if_neg h5, if_neg h6, if_pos h7]) h1 h2
              · refine z_iload_n C dX3_adjust_49 rfl 2 rfl ?_
                refine z_bipush (v := 78) C dX3_adjust_50 (by decide) ?_
                refine z_icmp_ne (tgt := 59) C dX3_adjust_52 (by decide) (fun h8 => ?_) (fun h8 => ?_)
                · refine z_iconst (v := 2) C dX3_adjust_59 (by decide) ?_
                  exact K1_2 (by rw [f_X3_adjust_j1, if_neg h1, if_neg h2, if_neg h3, if_neg h4, if_neg h5, if_neg h6, if_neg h7, if_neg h8]) h1 h2 h3 h4 h5 h6 h7 h8
                · refine z_iconst (v := 0) C dX3_adjust_55 (by decide) ?_
                  refine z_goto (tgt := 60) C dX3_adjust_56 (by decide) ?_
                  exact K1_0 (by rw [f_X3_adjust_j1, if_neg h1, if_neg h2, if_neg h3, if_neg h4, if_neg h5, if_neg h6, if_neg h7, if_pos h8]) h1 h2
    · refine z_iconst (v := 1) C dX3_adjust_15 (by decide) ?_
      refine z_goto (tgt := 60) C dX3_adjust_16 (by decide) ?_
      exact K1_1 (by rw [f_X3_adjust_j1, if_neg h1, if_pos h2]) 
def f_X3_weekday_j1 (p1 : Int32) (p2 : Int32) (p3 : Int32) (p4 : Int32) : Int32 := (if (f_X3_isDate p1) = 0 then 1 else (if (f_X3_isDate p4) = 0 then 1 else (if p2 = 110 then (if (f_X3_in ((p3).toInt64) 1 7) = 0 then 2 else 0) else (if p2 = 112 then (if (f_X3_in ((p3).toInt64) 1 7) = 0 then 2 else 0) else (if p2 = 78 then (if (f_X3_in ((p3).toInt64) 1 7) = 0 then 2 else 0) else (if p2 = 80 then (if (f_X3_in ((p3).toInt64) 1 7) = 0 then 2 else 0) else (if p2 = 102 then (if (f_X3_in ((p3).toInt64) 1 7) = 0 then 2 else 0) else (if p2 = 108 then (if (f_X3_in ((p3).toInt64) 1 7) = 0 then 2 else 0) else 2))))))))
def f_X3_weekday_j2 (d : Nat → Int64) (p1 : Int32) (p2 : Int32) : Int64 := (if p2 = 110 then ((d p1.toNatClampNeg) + 1) else (if p2 = 112 then ((d p1.toNatClampNeg) - 1) else (if p2 = 102 then (f_X3_number (s_X3_parts_yr (d p1.toNatClampNeg)) (s_X3_parts_mo (d p1.toNatClampNeg)) 1) else (if p2 = 108 then (((f_X3_number (s_X3_parts_yr (d p1.toNatClampNeg)) (s_X3_parts_mo (d p1.toNatClampNeg)) 1) + ((f_X3_many (s_X3_parts_yr (d p1.toNatClampNeg)) (s_X3_parts_mo (d p1.toNatClampNeg)))).toInt64) - 1) else (d p1.toNatClampNeg)))))
def f_X3_weekday_j3 (p2 : Int32) : Int32 := (if p2 = 110 then 1 else (if p2 = 78 then 1 else (if p2 = 102 then 1 else (-1))))
def f_X3_weekday (d : Nat → Int64) (p1 : Int32) (p2 : Int32) (p3 : Int32) (p4 : Int32) : Int64 := (if f_X3_weekday_j1 p1 p2 p3 p4 = 0 then (if f_X3_weekday_j3 p2 = (-1) then (f_X3_becomes (f_X3_sought (f_X3_weekday_j2 d p1 p2) p3 (-1)) 3) else (f_X3_becomes (f_X3_sought (f_X3_weekday_j2 d p1 p2) p3 1) 3)) else (if f_X3_weekday_j1 p1 p2 p3 p4 = 1 then 0 else 0))
def s_X3_weekday_co (d : Nat → Int64) (p1 : Int32) (p2 : Int32) (p3 : Int32) (p4 : Int32) : Int32 := (if f_X3_weekday_j1 p1 p2 p3 p4 = 0 then (if f_X3_weekday_j3 p2 = (-1) then (s_X3_becomes_co (f_X3_sought (f_X3_weekday_j2 d p1 p2) p3 (-1)) 3) else (s_X3_becomes_co (f_X3_sought (f_X3_weekday_j2 d p1 p2) p3 1) 3)) else (if f_X3_weekday_j1 p1 p2 p3 p4 = 1 then (s_X3_fails_co 1) else (s_X3_fails_co 2)))
def s_X3_weekday_d (d : Nat → Int64) (p1 : Int32) (p2 : Int32) (p3 : Int32) (p4 : Int32) : Nat → Int64 := (if f_X3_weekday_j1 p1 p2 p3 p4 = 0 then (if f_X3_weekday_j3 p2 = (-1) then (s_X3_becomes_d d p4 (f_X3_sought (f_X3_weekday_j2 d p1 p2) p3 (-1)) 3) else (s_X3_becomes_d d p4 (f_X3_sought (f_X3_weekday_j2 d p1 p2) p3 1) 3)) else (if f_X3_weekday_j1 p1 p2 p3 p4 = 1 then d else d))
def s_X3_weekday_yr (d : Nat → Int64) (yr : Int64) (p1 : Int32) (p2 : Int32) (p3 : Int32) (p4 : Int32) : Int64 := (if f_X3_weekday_j1 p1 p2 p3 p4 = 0 then (if f_X3_weekday_j3 p2 = (-1) then (s_X3_becomes_yr (f_X3_sought (f_X3_weekday_j2 d p1 p2) p3 (-1)) 3) else (s_X3_becomes_yr (f_X3_sought (f_X3_weekday_j2 d p1 p2) p3 1) 3)) else (if f_X3_weekday_j1 p1 p2 p3 p4 = 1 then yr else yr))
def s_X3_weekday_mo (d : Nat → Int64) (mo : Int32) (p1 : Int32) (p2 : Int32) (p3 : Int32) (p4 : Int32) : Int32 := (if f_X3_weekday_j1 p1 p2 p3 p4 = 0 then (if f_X3_weekday_j3 p2 = (-1) then (s_X3_becomes_mo (f_X3_sought (f_X3_weekday_j2 d p1 p2) p3 (-1)) 3) else (s_X3_becomes_mo (f_X3_sought (f_X3_weekday_j2 d p1 p2) p3 1) 3)) else (if f_X3_weekday_j1 p1 p2 p3 p4 = 1 then mo else mo))
def s_X3_weekday_dy (d : Nat → Int64) (dy : Int32) (p1 : Int32) (p2 : Int32) (p3 : Int32) (p4 : Int32) : Int32 := (if f_X3_weekday_j1 p1 p2 p3 p4 = 0 then (if f_X3_weekday_j3 p2 = (-1) then (s_X3_becomes_dy (f_X3_sought (f_X3_weekday_j2 d p1 p2) p3 (-1)) 3) else (s_X3_becomes_dy (f_X3_sought (f_X3_weekday_j2 d p1 p2) p3 1) 3)) else (if f_X3_weekday_j1 p1 p2 p3 p4 = 1 then dy else dy))
def pre_X3_weekday (d : Nat → Int64) (p1 : Int32) (p2 : Int32) (p3 : Int32) (p4 : Int32) : Prop := (((f_X3_weekday_j1 p1 p2 p3 p4) = 0) → (¬ (f_X3_in ((p3).toInt64) 1 7) = 0) → (¬ (f_X3_isDate p1) = 0) → (¬ (f_X3_isDate p4) = 0) → (pre_X3_parts (d p1.toNatClampNeg))) ∧ (((f_X3_weekday_j1 p1 p2 p3 p4) = 0) → (¬ (f_X3_in ((p3).toInt64) 1 7) = 0) → (¬ (f_X3_isDate p1) = 0) → (¬ (f_X3_isDate p4) = 0) → ((s_X3_parts_mo (d p1.toNatClampNeg)) ≤ 12)) ∧ (((f_X3_weekday_j1 p1 p2 p3 p4) = 0) → (¬ (f_X3_in ((p3).toInt64) 1 7) = 0) → (¬ (f_X3_isDate p1) = 0) → (¬ (f_X3_isDate p4) = 0) → ((f_X3_weekday_j3 p2) = (-1)) → (¬ p2 = 102) → (¬ p2 = 110) → (¬ p2 = 78) → (pre_X3_sought (f_X3_weekday_j2 d p1 p2) p3 (-1))) ∧ (((f_X3_weekday_j1 p1 p2 p3 p4) = 0) → (¬ (f_X3_in ((p3).toInt64) 1 7) = 0) → (¬ (f_X3_isDate p1) = 0) → (¬ (f_X3_isDate p4) = 0) → ((f_X3_weekday_j3 p2) = (-1)) → (¬ p2 = 102) → (¬ p2 = 110) → (¬ p2 = 78) → (pre_X3_becomes p4 (f_X3_sought (f_X3_weekday_j2 d p1 p2) p3 (-1)) 3)) ∧ (((f_X3_weekday_j1 p1 p2 p3 p4) = 0) → (¬ (f_X3_in ((p3).toInt64) 1 7) = 0) → (¬ (f_X3_isDate p1) = 0) → (¬ (f_X3_isDate p4) = 0) → ((f_X3_weekday_j3 p2) = 1) → (pre_X3_sought (f_X3_weekday_j2 d p1 p2) p3 1)) ∧ (((f_X3_weekday_j1 p1 p2 p3 p4) = 0) → (¬ (f_X3_in ((p3).toInt64) 1 7) = 0) → (¬ (f_X3_isDate p1) = 0) → (¬ (f_X3_isDate p4) = 0) → ((f_X3_weekday_j3 p2) = 1) → (pre_X3_becomes p4 (f_X3_sought (f_X3_weekday_j2 d p1 p2) p3 1) 3))
theorem q_X3_weekday : ZY yX3_weekday wsX3_weekday cX3_weekday 13 (some .long) 4 := ⟨⟨_, rfl⟩, by decide +kernel, by decide +kernel, by decide +kernel⟩
set_option maxHeartbeats 4000000 in
set_option maxRecDepth 100000 in
theorem c_X3_weekday (l : Launch) (hfl : l.stackTraces = false) (D : va_G) (cI cJ : ClassId) (X : va_W) (z : Nat → Nat) (co : Int32) (d : Nat → Int64) (ti : Nat → Int64) (sL : Nat → Int64) (bL : Nat → Int64) (mD : Nat → Int64) (mT : Nat → Int64) (sy : Nat → Int64) (sm : Nat → Int64) (sd : Nat → Int64) (mi : Nat → Int64) (yr : Int64) (mo : Int32) (dy : Int32) (p1 : Int32) (p2 : Int32) (p3 : Int32) (p4 : Int32)  (h_g : pre_X3_weekday d p1 p2 p3 p4) : ZM l yX3_weekday wsX3_weekday { frames := 7, cells := 0, slots := 0, locals := 159 } [.ref (z 0), .int p1, .int p2, .int p3, .int p4] D (zTys cI cJ) (wM cI cJ z co d ti sL bL mD mT sy sm sd mi yr mo dy X) 0 0 (fun v w => v = some (.long (f_X3_weekday d p1 p2 p3 p4)) ∧ w = (wM cI cJ z (s_X3_weekday_co d p1 p2 p3 p4) (s_X3_weekday_d d p1 p2 p3 p4) ti sL bL mD mT sy sm sd mi (s_X3_weekday_yr d yr p1 p2 p3 p4) (s_X3_weekday_mo d mo p1 p2 p3 p4) (s_X3_weekday_dy d dy p1 p2 p3 p4) X)) (fun _ _ => False) := by
  refine z_open (own := RX3) hfl (cc := cX3_weekday) (maxL := 13) (ret := (some .long)) (lv := [(0, .ref (z 0)), (1, .int p1), (2, .int p2), (3, .int p3), (4, .int p4)]) rfl (by decide) rfl rfl (Nat.le_of_ble_eq_true rfl) ?_
  intro p e s m args below meth c A C hno hnm hargs
  have hin : ∀ w ∈ wsX30, w ∈ wsX3_weekday := by decide +kernel
  have w1 := C.1.2.2.2.2 (.constantLong RX3 111 (7)) (by decide +kernel)
  have w2 := C.1.2.2.2.2 (.fieldLink RX3 13 "YearwheelModel" "dates" "[J") (by decide +kernel)
  have w3 := C.1.2.2.2.2 (.fieldLink RX3 86 "YearwheelModel" "year" "J") (by decide +kernel)
  have w4 := C.1.2.2.2.2 (.fieldLink RX3 90 "YearwheelModel" "month" "I") (by decide +kernel)
  obtain ⟨g_0, g_1, g_2, g_3, g_4, g_5⟩ := h_g
  refine z_aload_n C dX3_weekday_0 rfl 0 rfl ?_
  refine z_iload_n C dX3_weekday_1 rfl 1 rfl ?_
  refine z_si (rest := [.ref (z 0)]) C (c_X3_isDate l hfl D cI cJ _ p1 ) q_X3_isDate gX3_weekday_X3_isDate ⟨rfl, rfl⟩ rfl rfl (Nat.le_of_ble_eq_true rfl) ⟨Nat.le_of_ble_eq_true rfl, Nat.le_of_ble_eq_true rfl⟩ ⟨Nat.le_of_ble_eq_true rfl, Nat.le_of_ble_eq_true rfl⟩ dX3_weekday_2 ?_
  have K1_0 : f_X3_weekday_j1 p1 p2 p3 p4 = 0 → (¬ (f_X3_in ((p3).toInt64) 1 7) = 0) → (¬ (f_X3_isDate p1) = 0) → (¬ (f_X3_isDate p4) = 0) → ZW p l e { frames := 7, cells := 0, slots := 0, locals := 159 } s m args below meth c 13 D (zTys cI cJ) A (zE D (zTys cI cJ) A below args s (fun v w => v = some (.long (f_X3_weekday d p1 p2 p3 p4)) ∧ w = (wM cI cJ z (s_X3_weekday_co d p1 p2 p3 p4) (s_X3_weekday_d d p1 p2 p3 p4) ti sL bL mD mT sy sm sd mi (s_X3_weekday_yr d yr p1 p2 p3 p4) (s_X3_weekday_mo d mo p1 p2 p3 p4) (s_X3_weekday_dy d dy p1 p2 p3 p4) X)) (fun _ _ => False) 0 0) 0 0 (wM cI cJ z co d ti sL bL mD mT sy sm sd mi yr mo dy X) 73 [(0, .ref (z 0)), (1, .int p1), (2, .int p2), (3, .int p3), (4, .int p4)] [.int 0, .ref (z 0)] := by
    intro h15 h16 h17 h18
    refine z_wi (ws' := (wM cI cJ z (s_X3_fails_co 0) d ti sL bL mD mT sy sm sd mi yr mo dy X)) (rest := []) (ci := 3) (q0 := 0) C (c_X3_fails l hfl D cI cJ X z co d ti sL bL mD mT sy sm sd mi yr mo dy (0 : Int32) ) q_X3_fails rfl rfl rfl gX3_weekday_X3_fails ⟨rfl, rfl⟩ rfl rfl (Nat.le_of_ble_eq_true rfl) ⟨Nat.le_of_ble_eq_true rfl, Nat.le_of_ble_eq_true rfl⟩ ⟨Nat.le_of_ble_eq_true rfl, Nat.le_of_ble_eq_true rfl⟩ dX3_weekday_73 ?_
    refine z_eqst (st' := [.int 0]) (congrArg (fun v => Value.int v :: _) (by decide : (f_X3_fails 0) = (0 : Int32))) ?_
    refine z_if_eq (tgt := 81) C dX3_weekday_76 (by decide) (fun _ => ?_) (fun h => absurd (by decide) h)
    refine z_aload_n C dX3_weekday_81 rfl 0 rfl ?_
    refine z_get (CC := RX3) (T := TX3) (N := 14) (ci := 3) C hin 0 rfl rfl 1 (by decide) w2 rfl rfl dX3_weekday_82 ?_
    refine z_iload_n C dX3_weekday_85 rfl 1 rfl ?_
    refine z_lald C 1 1 rfl rfl (vpMDate h17) dX3_weekday_86 ?_
    refine z_lstore (lv' := [(5, .long (d p1.toNatClampNeg)), (0, .ref (z 0)), (1, .int p1), (2, .int p2), (3, .int p3), (4, .int p4)]) C dX3_weekday_87 (by decide) rfl ?_
    refine z_aload_n C dX3_weekday_89 rfl 1 rfl ?_
    refine z_lload C dX3_weekday_90 0 rfl ?_
    refine z_wv (ws' := (wM cI cJ z (s_X3_fails_co 0) d ti sL bL mD mT sy sm sd mi (s_X3_parts_yr (d p1.toNatClampNeg)) (s_X3_parts_mo (d p1.toNatClampNeg)) (s_X3_parts_dy (d p1.toNatClampNeg)) X)) (rest := []) (ci := 3) (q0 := 0) C (c_X3_parts l hfl D cI cJ X z (s_X3_fails_co 0) d ti sL bL mD mT sy sm sd mi yr mo dy (d p1.toNatClampNeg) (g_0 h15 h16 h17 h18)) q_X3_parts rfl rfl rfl gX3_weekday_X3_parts ⟨rfl, rfl⟩ rfl rfl (Nat.le_of_ble_eq_true rfl) ⟨Nat.le_of_ble_eq_true rfl, Nat.le_of_ble_eq_true rfl⟩ ⟨Nat.le_of_ble_eq_true rfl, Nat.le_of_ble_eq_true rfl⟩ dX3_weekday_92 ?_
    refine z_aload_n C dX3_weekday_95 rfl 1 rfl ?_
    refine z_get (CC := RX3) (T := TX3) (N := 14) (ci := 3) C hin 0 rfl rfl 11 (by decide) w3 rfl rfl dX3_weekday_96 ?_
    refine z_aload_n C dX3_weekday_99 rfl 1 rfl ?_
    refine z_get (CC := RX3) (T := TX3) (N := 14) (ci := 3) C hin 0 rfl rfl 12 (by decide) w4 rfl rfl dX3_weekday_100 ?_
    refine z_iconst (v := 1) C dX3_weekday_103 (by decide) ?_
    refine z_sl (rest := []) C (c_X3_number l hfl D cI cJ _ (s_X3_parts_yr (d p1.toNatClampNeg)) (s_X3_parts_mo (d p1.toNatClampNeg)) (1 : Int32) (g_1 h15 h16 h17 h18)) q_X3_number gX3_weekday_X3_number ⟨rfl, rfl⟩ rfl rfl (Nat.le_of_ble_eq_true rfl) ⟨Nat.le_of_ble_eq_true rfl, Nat.le_of_ble_eq_true rfl⟩ ⟨Nat.le_of_ble_eq_true rfl, Nat.le_of_ble_eq_true rfl⟩ dX3_weekday_104 ?_
    refine z_lstore (lv' := [(7, .long (f_X3_number (s_X3_parts_yr (d p1.toNatClampNeg)) (s_X3_parts_mo (d p1.toNatClampNeg)) 1)), (5, .long (d p1.toNatClampNeg)), (0, .ref (z 0)), (1, .int p1), (2, .int p2), (3, .int p3), (4, .int p4)]) C dX3_weekday_107 (by decide) rfl ?_
    refine z_lload C dX3_weekday_109 0 rfl ?_
    refine z_aload_n C dX3_weekday_111 rfl 2 rfl ?_
    refine z_get (CC := RX3) (T := TX3) (N := 14) (ci := 3) C hin 0 rfl rfl 11 (by decide) w3 rfl rfl dX3_weekday_112 ?_
    refine z_aload_n C dX3_weekday_115 rfl 2 rfl ?_
    refine z_get (CC := RX3) (T := TX3) (N := 14) (ci := 3) C hin 0 rfl rfl 12 (by decide) w4 rfl rfl dX3_weekday_116 ?_
    refine z_si (rest := [.long (f_X3_number (s_X3_parts_yr (d p1.toNatClampNeg)) (s_X3_parts_mo (d p1.toNatClampNeg)) 1)]) C (c_X3_many l hfl D cI cJ _ (s_X3_parts_yr (d p1.toNatClampNeg)) (s_X3_parts_mo (d p1.toNatClampNeg)) ) q_X3_many gX3_weekday_X3_many ⟨rfl, rfl⟩ rfl rfl (Nat.le_of_ble_eq_true rfl) ⟨Nat.le_of_ble_eq_true rfl, Nat.le_of_ble_eq_true rfl⟩ ⟨Nat.le_of_ble_eq_true rfl, Nat.le_of_ble_eq_true rfl⟩ dX3_weekday_119 ?_
    refine z_i2l (v := ((f_X3_many (s_X3_parts_yr (d p1.toNatClampNeg)) (s_X3_parts_mo (d p1.toNatClampNeg)))).toInt64) C dX3_weekday_122 rfl ?_
    refine z_ladd C dX3_weekday_123 ?_
    refine z_lconst (v := 1) C dX3_weekday_124 (by decide) ?_
    refine z_lsub C dX3_weekday_125 ?_
    refine z_lstore (lv' := [(9, .long (((f_X3_number (s_X3_parts_yr (d p1.toNatClampNeg)) (s_X3_parts_mo (d p1.toNatClampNeg)) 1) + ((f_X3_many (s_X3_parts_yr (d p1.toNatClampNeg)) (s_X3_parts_mo (d p1.toNatClampNeg)))).toInt64) - 1)), (7, .long (f_X3_number (s_X3_parts_yr (d p1.toNatClampNeg)) (s_X3_parts_mo (d p1.toNatClampNeg)) 1)), (5, .long (d p1.toNatClampNeg)), (0, .ref (z 0)), (1, .int p1), (2, .int p2), (3, .int p3), (4, .int p4)]) C dX3_weekday_126 (by decide) rfl ?_
    refine z_iload_n C dX3_weekday_128 rfl 5 rfl ?_
    refine z_bipush (v := 110) C dX3_weekday_129 (by decide) ?_
    have K2 : ∀ (v2_0 : Int64), (f_X3_weekday_j2 d p1 p2) = v2_0 → ZW p l e { frames := 7, cells := 0, slots := 0, locals := 159 } s m args below meth c 13 D (zTys cI cJ) A (zE D (zTys cI cJ) A below args s (fun v w => v = some (.long (f_X3_weekday d p1 p2 p3 p4)) ∧ w = (wM cI cJ z (s_X3_weekday_co d p1 p2 p3 p4) (s_X3_weekday_d d p1 p2 p3 p4) ti sL bL mD mT sy sm sd mi (s_X3_weekday_yr d yr p1 p2 p3 p4) (s_X3_weekday_mo d mo p1 p2 p3 p4) (s_X3_weekday_dy d dy p1 p2 p3 p4) X)) (fun _ _ => False) 0 0) 0 0 (wM cI cJ z (s_X3_fails_co 0) d ti sL bL mD mT sy sm sd mi (s_X3_parts_yr (d p1.toNatClampNeg)) (s_X3_parts_mo (d p1.toNatClampNeg)) (s_X3_parts_dy (d p1.toNatClampNeg)) X) 178 [(9, .long (((f_X3_number (s_X3_parts_yr (d p1.toNatClampNeg)) (s_X3_parts_mo (d p1.toNatClampNeg)) 1) + ((f_X3_many (s_X3_parts_yr (d p1.toNatClampNeg)) (s_X3_parts_mo (d p1.toNatClampNeg)))).toInt64) - 1)), (7, .long (f_X3_number (s_X3_parts_yr (d p1.toNatClampNeg)) (s_X3_parts_mo (d p1.toNatClampNeg)) 1)), (5, .long (d p1.toNatClampNeg)), (0, .ref (z 0)), (1, .int p1), (2, .int p2), (3, .int p3), (4, .int p4)] [.long v2_0] := by
      rintro _ rfl
      refine z_lstore (lv' := [(11, .long (f_X3_weekday_j2 d p1 p2)), (9, .long (((f_X3_number (s_X3_parts_yr (d p1.toNatClampNeg)) (s_X3_parts_mo (d p1.toNatClampNeg)) 1) + ((f_X3_many (s_X3_parts_yr (d p1.toNatClampNeg)) (s_X3_parts_mo (d p1.toNatClampNeg)))).toInt64) - 1)), (7, .long (f_X3_number (s_X3_parts_yr (d p1.toNatClampNeg)) (s_X3_parts_mo (d p1.toNatClampNeg)) 1)), (5, .long (d p1.toNatClampNeg)), (0, .ref (z 0)), (1, .int p1), (2, .int p2), (3, .int p3), (4, .int p4)]) C dX3_weekday_178 (by decide) rfl ?_
      refine z_aload_n C dX3_weekday_180 rfl 4 rfl ?_
      refine z_iload C dX3_weekday_181 8 rfl ?_
      refine z_lload C dX3_weekday_183 0 rfl ?_
      refine z_iload_n C dX3_weekday_185 rfl 7 rfl ?_
      refine z_iload_n C dX3_weekday_186 rfl 6 rfl ?_
      refine z_bipush (v := 110) C dX3_weekday_187 (by decide) ?_
      have K3_m1 : f_X3_weekday_j3 p2 = (-1) → (¬ p2 = 102) → (¬ p2 = 110) → (¬ p2 = 78) → ZW p l e { frames := 7, cells := 0, slots := 0, locals := 159 } s m args below meth c 13 D (zTys cI cJ) A (zE D (zTys cI cJ) A below args s (fun v w => v = some (.long (f_X3_weekday d p1 p2 p3 p4)) ∧ w = (wM cI cJ z (s_X3_weekday_co d p1 p2 p3 p4) (s_X3_weekday_d d p1 p2 p3 p4) ti sL bL mD mT sy sm sd mi (s_X3_weekday_yr d yr p1 p2 p3 p4) (s_X3_weekday_mo d mo p1 p2 p3 p4) (s_X3_weekday_dy d dy p1 p2 p3 p4) X)) (fun _ _ => False) 0 0) 0 0 (wM cI cJ z (s_X3_fails_co 0) d ti sL bL mD mT sy sm sd mi (s_X3_parts_yr (d p1.toNatClampNeg)) (s_X3_parts_mo (d p1.toNatClampNeg)) (s_X3_parts_dy (d p1.toNatClampNeg)) X) 209 [(11, .long (f_X3_weekday_j2 d p1 p2)), (9, .long (((f_X3_number (s_X3_parts_yr (d p1.toNatClampNeg)) (s_X3_parts_mo (d p1.toNatClampNeg)) 1) + ((f_X3_many (s_X3_parts_yr (d p1.toNatClampNeg)) (s_X3_parts_mo (d p1.toNatClampNeg)))).toInt64) - 1)), (7, .long (f_X3_number (s_X3_parts_yr (d p1.toNatClampNeg)) (s_X3_parts_mo (d p1.toNatClampNeg)) 1)), (5, .long (d p1.toNatClampNeg)), (0, .ref (z 0)), (1, .int p1), (2, .int p2), (3, .int p3), (4, .int p4)] [.int (-1), .int p3, .long (f_X3_weekday_j2 d p1 p2), .int p4, .ref (z 0)] := by
        intro h26 h27 h28 h29
        refine z_sl (rest := [.int p4, .ref (z 0)]) C (c_X3_sought l hfl D cI cJ _ (f_X3_weekday_j2 d p1 p2) p3 ((-1) : Int32) (g_2 h15 h16 h17 h18 h26 h27 h28 h29)) q_X3_sought gX3_weekday_X3_sought ⟨rfl, rfl⟩ rfl rfl (Nat.le_of_ble_eq_true rfl) ⟨Nat.le_of_ble_eq_true rfl, Nat.le_of_ble_eq_true rfl⟩ ⟨Nat.le_of_ble_eq_true rfl, Nat.le_of_ble_eq_true rfl⟩ dX3_weekday_209 ?_
        refine z_iconst (v := 3) C dX3_weekday_212 (by decide) ?_
        refine z_wl (ws' := (wM cI cJ z (s_X3_becomes_co (f_X3_sought (f_X3_weekday_j2 d p1 p2) p3 (-1)) 3) (s_X3_becomes_d d p4 (f_X3_sought (f_X3_weekday_j2 d p1 p2) p3 (-1)) 3) ti sL bL mD mT sy sm sd mi (s_X3_becomes_yr (f_X3_sought (f_X3_weekday_j2 d p1 p2) p3 (-1)) 3) (s_X3_becomes_mo (f_X3_sought (f_X3_weekday_j2 d p1 p2) p3 (-1)) 3) (s_X3_becomes_dy (f_X3_sought (f_X3_weekday_j2 d p1 p2) p3 (-1)) 3) X)) (rest := []) (ci := 3) (q0 := 0) C (c_X3_becomes l hfl D cI cJ X z (s_X3_fails_co 0) d ti sL bL mD mT sy sm sd mi (s_X3_parts_yr (d p1.toNatClampNeg)) (s_X3_parts_mo (d p1.toNatClampNeg)) (s_X3_parts_dy (d p1.toNatClampNeg)) p4 (f_X3_sought (f_X3_weekday_j2 d p1 p2) p3 (-1)) (3 : Int32) (g_3 h15 h16 h17 h18 h26 h27 h28 h29)) q_X3_becomes rfl rfl rfl gX3_weekday_X3_becomes ⟨rfl, rfl⟩ rfl rfl (Nat.le_of_ble_eq_true rfl) ⟨Nat.le_of_ble_eq_true rfl, Nat.le_of_ble_eq_true rfl⟩ ⟨Nat.le_of_ble_eq_true rfl, Nat.le_of_ble_eq_true rfl⟩ dX3_weekday_213 ?_
        exact z_lret C ⟨congrArg (fun v => some (Value.long v)) (by rw [f_X3_weekday, if_pos h15, if_pos h26] : (f_X3_becomes (f_X3_sought (f_X3_weekday_j2 d p1 p2) p3 (-1)) 3) = (f_X3_weekday d p1 p2 p3 p4)), by rw [s_X3_weekday_co, if_pos h15, if_pos h26, s_X3_weekday_d, if_pos h15, if_pos h26, s_X3_weekday_yr, if_pos h15, if_pos h26, s_X3_weekday_mo, if_pos h15, if_pos h26, s_X3_weekday_dy, if_pos h15, if_pos h26]⟩ (by decide) (by decide) dX3_weekday_216
      have K3_1 : f_X3_weekday_j3 p2 = 1 → ZW p l e { frames := 7, cells := 0, slots := 0, locals := 159 } s m args below meth c 13 D (zTys cI cJ) A (zE D (zTys cI cJ) A below args s (fun v w => v = some (.long (f_X3_weekday d p1 p2 p3 p4)) ∧ w = (wM cI cJ z (s_X3_weekday_co d p1 p2 p3 p4) (s_X3_weekday_d d p1 p2 p3 p4) ti sL bL mD mT sy sm sd mi (s_X3_weekday_yr d yr p1 p2 p3 p4) (s_X3_weekday_mo d mo p1 p2 p3 p4) (s_X3_weekday_dy d dy p1 p2 p3 p4) X)) (fun _ _ => False) 0 0) 0 0 (wM cI cJ z (s_X3_fails_co 0) d ti sL bL mD mT sy sm sd mi (s_X3_parts_yr (d p1.toNatClampNeg)) (s_X3_parts_mo (d p1.toNatClampNeg)) (s_X3_parts_dy (d p1.toNatClampNeg)) X) 209 [(11, .long (f_X3_weekday_j2 d p1 p2)), (9, .long (((f_X3_number (s_X3_parts_yr (d p1.toNatClampNeg)) (s_X3_parts_mo (d p1.toNatClampNeg)) 1) + ((f_X3_many (s_X3_parts_yr (d p1.toNatClampNeg)) (s_X3_parts_mo (d p1.toNatClampNeg)))).toInt64) - 1)), (7, .long (f_X3_number (s_X3_parts_yr (d p1.toNatClampNeg)) (s_X3_parts_mo (d p1.toNatClampNeg)) 1)), (5, .long (d p1.toNatClampNeg)), (0, .ref (z 0)), (1, .int p1), (2, .int p2), (3, .int p3), (4, .int p4)] [.int 1, .int p3, .long (f_X3_weekday_j2 d p1 p2), .int p4, .ref (z 0)] := by
        intro h30
        refine z_sl (rest := [.int p4, .ref (z 0)]) C (c_X3_sought l hfl D cI cJ _ (f_X3_weekday_j2 d p1 p2) p3 (1 : Int32) (g_4 h15 h16 h17 h18 h30)) q_X3_sought gX3_weekday_X3_sought ⟨rfl, rfl⟩ rfl rfl (Nat.le_of_ble_eq_true rfl) ⟨Nat.le_of_ble_eq_true rfl, Nat.le_of_ble_eq_true rfl⟩ ⟨Nat.le_of_ble_eq_true rfl, Nat.le_of_ble_eq_true rfl⟩ dX3_weekday_209 ?_
        refine z_iconst (v := 3) C dX3_weekday_212 (by decide) ?_
        refine z_wl (ws' := (wM cI cJ z (s_X3_becomes_co (f_X3_sought (f_X3_weekday_j2 d p1 p2) p3 1) 3) (s_X3_becomes_d d p4 (f_X3_sought (f_X3_weekday_j2 d p1 p2) p3 1) 3) ti sL bL mD mT sy sm sd mi (s_X3_becomes_yr (f_X3_sought (f_X3_weekday_j2 d p1 p2) p3 1) 3) (s_X3_becomes_mo (f_X3_sought (f_X3_weekday_j2 d p1 p2) p3 1) 3) (s_X3_becomes_dy (f_X3_sought (f_X3_weekday_j2 d p1 p2) p3 1) 3) X)) (rest := []) (ci := 3) (q0 := 0) C (c_X3_becomes l hfl D cI cJ X z (s_X3_fails_co 0) d ti sL bL mD mT sy sm sd mi (s_X3_parts_yr (d p1.toNatClampNeg)) (s_X3_parts_mo (d p1.toNatClampNeg)) (s_X3_parts_dy (d p1.toNatClampNeg)) p4 (f_X3_sought (f_X3_weekday_j2 d p1 p2) p3 1) (3 : Int32) (g_5 h15 h16 h17 h18 h30)) q_X3_becomes rfl rfl rfl gX3_weekday_X3_becomes ⟨rfl, rfl⟩ rfl rfl (Nat.le_of_ble_eq_true rfl) ⟨Nat.le_of_ble_eq_true rfl, Nat.le_of_ble_eq_true rfl⟩ ⟨Nat.le_of_ble_eq_true rfl, Nat.le_of_ble_eq_true rfl⟩ dX3_weekday_213 ?_
        exact z_lret C ⟨congrArg (fun v => some (Value.long v)) (by rw [f_X3_weekday, if_pos h15, if_neg (by rw [h30]; decide : ¬ f_X3_weekday_j3 p2 = (-1))] : (f_X3_becomes (f_X3_sought (f_X3_weekday_j2 d p1 p2) p3 1) 3) = (f_X3_weekday d p1 p2 p3 p4)), by rw [s_X3_weekday_co, if_pos h15, if_neg (by rw [h30]; decide : ¬ f_X3_weekday_j3 p2 = (-1)), s_X3_weekday_d, if_pos h15, if_neg (by rw [h30]; decide : ¬ f_X3_weekday_j3 p2 = (-1)), s_X3_weekday_yr, if_pos h15, if_neg (by rw [h30]; decide : ¬ f_X3_weekday_j3 p2 = (-1)), s_X3_weekday_mo, if_pos h15, if_neg (by rw [h30]; decide : ¬ f_X3_weekday_j3 p2 = (-1)), s_X3_weekday_dy, if_pos h15, if_neg (by rw [h30]; decide : ¬ f_X3_weekday_j3 p2 = (-1))]⟩ (by decide) (by decide) dX3_weekday_216
      refine z_icmp_eq (tgt := 204) C dX3_weekday_189 (by decide) (fun h23 => ?_) (fun h23 => ?_)
      · refine z_iconst (v := 1) C dX3_weekday_204 (by decide) ?_
        refine z_goto (tgt := 209) C dX3_weekday_205 (by decide) ?_
        exact K3_1 (by rw [f_X3_weekday_j3, if_pos h23]) 
      · refine z_iload_n C dX3_weekday_192 rfl 6 rfl ?_
        refine z_bipush (v := 78) C dX3_weekday_193 (by decide) ?_
        refine z_icmp_eq (tgt := 204) C dX3_weekday_195 (by decide) (fun h24 => ?_) (fun h24 => ?_)
        · refine z_iconst (v := 1) C dX3_weekday_204 (by decide) ?_
          refine z_goto (tgt := 209) C dX3_weekday_205 (by decide) ?_
          exact K3_1 (by rw [f_X3_weekday_j3, if_neg h23, if_pos h24]) 
        · refine z_iload_n C dX3_weekday_198 rfl 6 rfl ?_
          refine z_bipush (v := 102) C dX3_weekday_199 (by decide) ?_
          refine z_icmp_ne (tgt := 208) C dX3_weekday_201 (by decide) (fun h25 => ?_) (fun h25 => ?_)
          · refine z_iconst (v := (-1)) C dX3_weekday_208 (by decide) ?_
            exact K3_m1 (by rw [f_X3_weekday_j3, if_neg h23, if_neg h24, if_neg h25]) h25 h23 h24
          · refine z_iconst (v := 1) C dX3_weekday_204 (by decide) ?_
            refine z_goto (tgt := 209) C dX3_weekday_205 (by decide) ?_
            exact K3_1 (by rw [f_X3_weekday_j3, if_neg h23, if_neg h24, if_pos h25]) 
    refine z_icmp_ne (tgt := 141) C dX3_weekday_131 (by decide) (fun h19 => ?_) (fun h19 => ?_)
    · refine z_iload_n C dX3_weekday_141 rfl 5 rfl ?_
      refine z_bipush (v := 112) C dX3_weekday_142 (by decide) ?_
      refine z_icmp_ne (tgt := 154) C dX3_weekday_144 (by decide) (fun h20 => ?_) (fun h20 => ?_)
      · refine z_iload_n C dX3_weekday_154 rfl 5 rfl ?_
        refine z_bipush (v := 102) C dX3_weekday_155 (by decide) ?_
        refine z_icmp_ne (tgt := 165) C dX3_weekday_157 (by decide) (fun h21 => ?_) (fun h21 => ?_)
        · refine z_iload_n C dX3_weekday_165 rfl 5 rfl ?_
          refine z_bipush (v := 108) C dX3_weekday_166 (by decide) ?_
          refine z_icmp_ne (tgt := 176) C dX3_weekday_168 (by decide) (fun h22 => ?_) (fun h22 => ?_)
          · refine z_lload C dX3_weekday_176 2 rfl ?_
            exact K2 _ (by rw [f_X3_weekday_j2, if_neg h19, if_neg h20, if_neg h21, if_neg h22])
          · refine z_lload C dX3_weekday_171 0 rfl ?_
            refine z_goto (tgt := 178) C dX3_weekday_173 (by decide) ?_
            exact K2 _ (by rw [f_X3_weekday_j2, if_neg h19, if_neg h20, if_neg h21, if_pos h22])
        · refine z_lload C dX3_weekday_160 1 rfl ?_
          refine z_goto (tgt := 178) C dX3_weekday_162 (by decide) ?_
          exact K2 _ (by rw [f_X3_weekday_j2, if_neg h19, if_neg h20, if_pos h21])
      · refine z_lload C dX3_weekday_147 2 rfl ?_
        refine z_lconst (v := 1) C dX3_weekday_149 (by decide) ?_
        refine z_lsub C dX3_weekday_150 ?_
        refine z_goto (tgt := 178) C dX3_weekday_151 (by decide) ?_
        exact K2 _ (by rw [f_X3_weekday_j2, if_neg h19, if_pos h20])
    · refine z_lload C dX3_weekday_134 2 rfl ?_
      refine z_lconst (v := 1) C dX3_weekday_136 (by decide) ?_
      refine z_ladd C dX3_weekday_137 ?_
      refine z_goto (tgt := 178) C dX3_weekday_138 (by decide) ?_
      exact K2 _ (by rw [f_X3_weekday_j2, if_pos h19])
  have K1_1 : f_X3_weekday_j1 p1 p2 p3 p4 = 1 → ZW p l e { frames := 7, cells := 0, slots := 0, locals := 159 } s m args below meth c 13 D (zTys cI cJ) A (zE D (zTys cI cJ) A below args s (fun v w => v = some (.long (f_X3_weekday d p1 p2 p3 p4)) ∧ w = (wM cI cJ z (s_X3_weekday_co d p1 p2 p3 p4) (s_X3_weekday_d d p1 p2 p3 p4) ti sL bL mD mT sy sm sd mi (s_X3_weekday_yr d yr p1 p2 p3 p4) (s_X3_weekday_mo d mo p1 p2 p3 p4) (s_X3_weekday_dy d dy p1 p2 p3 p4) X)) (fun _ _ => False) 0 0) 0 0 (wM cI cJ z co d ti sL bL mD mT sy sm sd mi yr mo dy X) 73 [(0, .ref (z 0)), (1, .int p1), (2, .int p2), (3, .int p3), (4, .int p4)] [.int 1, .ref (z 0)] := by
    intro h31
    refine z_wi (ws' := (wM cI cJ z (s_X3_fails_co 1) d ti sL bL mD mT sy sm sd mi yr mo dy X)) (rest := []) (ci := 3) (q0 := 0) C (c_X3_fails l hfl D cI cJ X z co d ti sL bL mD mT sy sm sd mi yr mo dy (1 : Int32) ) q_X3_fails rfl rfl rfl gX3_weekday_X3_fails ⟨rfl, rfl⟩ rfl rfl (Nat.le_of_ble_eq_true rfl) ⟨Nat.le_of_ble_eq_true rfl, Nat.le_of_ble_eq_true rfl⟩ ⟨Nat.le_of_ble_eq_true rfl, Nat.le_of_ble_eq_true rfl⟩ dX3_weekday_73 ?_
    refine z_eqst (st' := [.int 1]) (congrArg (fun v => Value.int v :: _) (by decide : (f_X3_fails 1) = (1 : Int32))) ?_
    refine z_if_eq (tgt := 81) C dX3_weekday_76 (by decide) (fun h => absurd h (by decide)) (fun _ => ?_)
    refine z_lconst (v := 0) C dX3_weekday_79 (by decide) ?_
    exact z_lret C ⟨congrArg (fun v => some (Value.long v)) (by rw [f_X3_weekday, if_neg (by rw [h31]; decide : ¬ f_X3_weekday_j1 p1 p2 p3 p4 = 0), if_pos h31] : (0 : Int64) = (f_X3_weekday d p1 p2 p3 p4)), by rw [s_X3_weekday_co, if_neg (by rw [h31]; decide : ¬ f_X3_weekday_j1 p1 p2 p3 p4 = 0), if_pos h31, s_X3_weekday_d, if_neg (by rw [h31]; decide : ¬ f_X3_weekday_j1 p1 p2 p3 p4 = 0), if_pos h31, s_X3_weekday_yr, if_neg (by rw [h31]; decide : ¬ f_X3_weekday_j1 p1 p2 p3 p4 = 0), if_pos h31, s_X3_weekday_mo, if_neg (by rw [h31]; decide : ¬ f_X3_weekday_j1 p1 p2 p3 p4 = 0), if_pos h31, s_X3_weekday_dy, if_neg (by rw [h31]; decide : ¬ f_X3_weekday_j1 p1 p2 p3 p4 = 0), if_pos h31]⟩ (by decide) (by decide) dX3_weekday_80
  have K1_2 : f_X3_weekday_j1 p1 p2 p3 p4 = 2 → (¬ (f_X3_isDate p1) = 0) → (¬ (f_X3_isDate p4) = 0) → ZW p l e { frames := 7, cells := 0, slots := 0, locals := 159 } s m args below meth c 13 D (zTys cI cJ) A (zE D (zTys cI cJ) A below args s (fun v w => v = some (.long (f_X3_weekday d p1 p2 p3 p4)) ∧ w = (wM cI cJ z (s_X3_weekday_co d p1 p2 p3 p4) (s_X3_weekday_d d p1 p2 p3 p4) ti sL bL mD mT sy sm sd mi (s_X3_weekday_yr d yr p1 p2 p3 p4) (s_X3_weekday_mo d mo p1 p2 p3 p4) (s_X3_weekday_dy d dy p1 p2 p3 p4) X)) (fun _ _ => False) 0 0) 0 0 (wM cI cJ z co d ti sL bL mD mT sy sm sd mi yr mo dy X) 73 [(0, .ref (z 0)), (1, .int p1), (2, .int p2), (3, .int p3), (4, .int p4)] [.int 2, .ref (z 0)] := by
    intro h32 h33 h34
    refine z_wi (ws' := (wM cI cJ z (s_X3_fails_co 2) d ti sL bL mD mT sy sm sd mi yr mo dy X)) (rest := []) (ci := 3) (q0 := 0) C (c_X3_fails l hfl D cI cJ X z co d ti sL bL mD mT sy sm sd mi yr mo dy (2 : Int32) ) q_X3_fails rfl rfl rfl gX3_weekday_X3_fails ⟨rfl, rfl⟩ rfl rfl (Nat.le_of_ble_eq_true rfl) ⟨Nat.le_of_ble_eq_true rfl, Nat.le_of_ble_eq_true rfl⟩ ⟨Nat.le_of_ble_eq_true rfl, Nat.le_of_ble_eq_true rfl⟩ dX3_weekday_73 ?_
    refine z_eqst (st' := [.int 1]) (congrArg (fun v => Value.int v :: _) (by decide : (f_X3_fails 2) = (1 : Int32))) ?_
    refine z_if_eq (tgt := 81) C dX3_weekday_76 (by decide) (fun h => absurd h (by decide)) (fun _ => ?_)
    refine z_lconst (v := 0) C dX3_weekday_79 (by decide) ?_
    exact z_lret C ⟨congrArg (fun v => some (Value.long v)) (by rw [f_X3_weekday, if_neg (by rw [h32]; decide : ¬ f_X3_weekday_j1 p1 p2 p3 p4 = 0), if_neg (by rw [h32]; decide : ¬ f_X3_weekday_j1 p1 p2 p3 p4 = 1)] : (0 : Int64) = (f_X3_weekday d p1 p2 p3 p4)), by rw [s_X3_weekday_co, if_neg (by rw [h32]; decide : ¬ f_X3_weekday_j1 p1 p2 p3 p4 = 0), if_neg (by rw [h32]; decide : ¬ f_X3_weekday_j1 p1 p2 p3 p4 = 1), s_X3_weekday_d, if_neg (by rw [h32]; decide : ¬ f_X3_weekday_j1 p1 p2 p3 p4 = 0), if_neg (by rw [h32]; decide : ¬ f_X3_weekday_j1 p1 p2 p3 p4 = 1), s_X3_weekday_yr, if_neg (by rw [h32]; decide : ¬ f_X3_weekday_j1 p1 p2 p3 p4 = 0), if_neg (by rw [h32]; decide : ¬ f_X3_weekday_j1 p1 p2 p3 p4 = 1), s_X3_weekday_mo, if_neg (by rw [h32]; decide : ¬ f_X3_weekday_j1 p1 p2 p3 p4 = 0), if_neg (by rw [h32]; decide : ¬ f_X3_weekday_j1 p1 p2 p3 p4 = 1), s_X3_weekday_dy, if_neg (by rw [h32]; decide : ¬ f_X3_weekday_j1 p1 p2 p3 p4 = 0), if_neg (by rw [h32]; decide : ¬ f_X3_weekday_j1 p1 p2 p3 p4 = 1)]⟩ (by decide) (by decide) dX3_weekday_80
  refine z_if_eq (tgt := 16) C dX3_weekday_5 (by decide) (fun h1 => ?_) (fun h1 => ?_)
  · refine z_iconst (v := 1) C dX3_weekday_16 (by decide) ?_
    refine z_goto (tgt := 73) C dX3_weekday_17 (by decide) ?_
    exact K1_1 (by rw [f_X3_weekday_j1, if_pos h1]) 
  · refine z_iload C dX3_weekday_8 4 rfl ?_
    refine z_si (rest := [.ref (z 0)]) C (c_X3_isDate l hfl D cI cJ _ p4 ) q_X3_isDate gX3_weekday_X3_isDate ⟨rfl, rfl⟩ rfl rfl (Nat.le_of_ble_eq_true rfl) ⟨Nat.le_of_ble_eq_true rfl, Nat.le_of_ble_eq_true rfl⟩ ⟨Nat.le_of_ble_eq_true rfl, Nat.le_of_ble_eq_true rfl⟩ dX3_weekday_10 ?_
    refine z_if_ne (tgt := 20) C dX3_weekday_13 (by decide) (fun h2 => ?_) (fun h2 => ?_)
    · refine z_iload_n C dX3_weekday_20 rfl 2 rfl ?_
      refine z_bipush (v := 110) C dX3_weekday_21 (by decide) ?_
      refine z_icmp_eq (tgt := 56) C dX3_weekday_23 (by decide) (fun h3 => ?_) (fun h3 => ?_)
      · refine z_iload_n C dX3_weekday_56 rfl 3 rfl ?_
        refine z_i2l (v := (p3).toInt64) C dX3_weekday_57 rfl ?_
        refine z_lconst (v := 1) C dX3_weekday_58 (by decide) ?_
        refine z_ldc2 (v := 7) C w1 dX3_weekday_59 ?_
        refine z_si (rest := [.ref (z 0)]) C (c_X3_in l hfl D cI cJ _ ((p3).toInt64) (1 : Int64) (7 : Int64) ) q_X3_in gX3_weekday_X3_in ⟨rfl, rfl⟩ rfl rfl (Nat.le_of_ble_eq_true rfl) ⟨Nat.le_of_ble_eq_true rfl, Nat.le_of_ble_eq_true rfl⟩ ⟨Nat.le_of_ble_eq_true rfl, Nat.le_of_ble_eq_true rfl⟩ dX3_weekday_62 ?_
        refine z_if_eq (tgt := 72) C dX3_weekday_65 (by decide) (fun h4 => ?_) (fun h4 => ?_)
        · refine z_iconst (v := 2) C dX3_weekday_72 (by decide) ?_
          exact K1_2 (by rw [f_X3_weekday_j1, if_neg h1, if_neg h2, if_pos h3, if_pos h4]) h1 h2
        · refine z_iconst (v := 0) C dX3_weekday_68 (by decide) ?_
          refine z_goto (tgt := 73) C dX3_weekday_69 (by decide) ?_
          exact K1_0 (by rw [f_X3_weekday_j1, if_neg h1, if_neg h2, if_pos h3, if_neg h4]) h4 h1 h2
      · refine z_iload_n C dX3_weekday_26 rfl 2 rfl ?_
        refine z_bipush (v := 112) C dX3_weekday_27 (by decide) ?_
        refine z_icmp_eq (tgt := 56) C dX3_weekday_29 (by decide) (fun h5 => ?_) (fun h5 => ?_)
        · refine z_iload_n C dX3_weekday_56 rfl 3 rfl ?_
          refine z_i2l (v := (p3).toInt64) C dX3_weekday_57 rfl ?_
          refine z_lconst (v := 1) C dX3_weekday_58 (by decide) ?_
          refine z_ldc2 (v := 7) C w1 dX3_weekday_59 ?_
          refine z_si (rest := [.ref (z 0)]) C (c_X3_in l hfl D cI cJ _ ((p3).toInt64) (1 : Int64) (7 : Int64) ) q_X3_in gX3_weekday_X3_in ⟨rfl, rfl⟩ rfl rfl (Nat.le_of_ble_eq_true rfl) ⟨Nat.le_of_ble_eq_true rfl, Nat.le_of_ble_eq_true rfl⟩ ⟨Nat.le_of_ble_eq_true rfl, Nat.le_of_ble_eq_true rfl⟩ dX3_weekday_62 ?_
          refine z_if_eq (tgt := 72) C dX3_weekday_65 (by decide) (fun h6 => ?_) (fun h6 => ?_)
          · refine z_iconst (v := 2) C dX3_weekday_72 (by decide) ?_
            exact K1_2 (by rw [f_X3_weekday_j1, if_neg h1, if_neg h2, if_neg h3, if_pos h5, if_pos h6]) h1 h2
          · refine z_iconst (v := 0) C dX3_weekday_68 (by decide) ?_
            refine z_goto (tgt := 73) C dX3_weekday_69 (by decide) ?_
            exact K1_0 (by rw [f_X3_weekday_j1, if_neg h1, if_neg h2, if_neg h3, if_pos h5, if_neg h6]) h6 h1 h2
        · refine z_iload_n C dX3_weekday_32 rfl 2 rfl ?_
          refine z_bipush (v := 78) C dX3_weekday_33 (by decide) ?_
          refine z_icmp_eq (tgt := 56) C dX3_weekday_35 (by decide) (fun h7 => ?_) (fun h7 => ?_)
          · refine z_iload_n C dX3_weekday_56 rfl 3 rfl ?_
            refine z_i2l (v := (p3).toInt64) C dX3_weekday_57 rfl ?_
            refine z_lconst (v := 1) C dX3_weekday_58 (by decide) ?_
            refine z_ldc2 (v := 7) C w1 dX3_weekday_59 ?_
            refine z_si (rest := [.ref (z 0)]) C (c_X3_in l hfl D cI cJ _ ((p3).toInt64) (1 : Int64) (7 : Int64) ) q_X3_in gX3_weekday_X3_in ⟨rfl, rfl⟩ rfl rfl (Nat.le_of_ble_eq_true rfl) ⟨Nat.le_of_ble_eq_true rfl, Nat.le_of_ble_eq_true rfl⟩ ⟨Nat.le_of_ble_eq_true rfl, Nat.le_of_ble_eq_true rfl⟩ dX3_weekday_62 ?_
            refine z_if_eq (tgt := 72) C dX3_weekday_65 (by decide) (fun h8 => ?_) (fun h8 => ?_)
            · refine z_iconst (v := 2) C dX3_weekday_72 (by decide) ?_
              exact K1_2 (by rw [f_X3_weekday_j1, if_neg h1, if_neg h2, if_neg h3, if_neg h5, if_pos h7, if_pos h8]) h1 h2
            · refine z_iconst (v := 0) C dX3_weekday_68 (by decide) ?_
              refine z_goto (tgt := 73) C dX3_weekday_69 (by decide) ?_
              exact K1_0 (by rw [f_X3_weekday_j1, if_neg h1, if_neg h2, if_neg h3, if_neg h5, if_pos h7, if_neg h8]) h8 h1 h2
          · refine z_iload_n C dX3_weekday_38 rfl 2 rfl ?_
            refine z_bipush (v := 80) C dX3_weekday_39 (by decide) ?_
            refine z_icmp_eq (tgt := 56) C dX3_weekday_41 (by decide) (fun h9 => ?_) (fun h9 => ?_)
            · refine z_iload_n C dX3_weekday_56 rfl 3 rfl ?_
              refine z_i2l (v := (p3).toInt64) C dX3_weekday_57 rfl ?_
              refine z_lconst (v := 1) C dX3_weekday_58 (by decide) ?_
              refine z_ldc2 (v := 7) C w1 dX3_weekday_59 ?_
              refine z_si (rest := [.ref (z 0)]) C (c_X3_in l hfl D cI cJ _ ((p3).toInt64) (1 : Int64) (7 : Int64) ) q_X3_in gX3_weekday_X3_in ⟨rfl, rfl⟩ rfl rfl (Nat.le_of_ble_eq_true rfl) ⟨Nat.le_of_ble_eq_true rfl, Nat.le_of_ble_eq_true rfl⟩ ⟨Nat.le_of_ble_eq_true rfl, Nat.le_of_ble_eq_true rfl⟩ dX3_weekday_62 ?_
              refine z_if_eq (tgt := 72) C dX3_weekday_65 (by decide) (fun h10 => ?_) (fun h10 => ?_)
              · refine z_iconst (v := 2) C dX3_weekday_72 (by decide) ?_
                exact K1_2 (by rw [f_X3_weekday_j1, if_neg h1, if_neg h2, if_neg h3, if_neg h5, if_neg h7, if_pos h9, if_pos h10]) h1 h2
              · refine z_iconst (v := 0) C dX3_weekday_68 (by decide) ?_
                refine z_goto (tgt := 73) C dX3_weekday_69 (by decide) ?_
                exact K1_0 (by rw [f_X3_weekday_j1, if_neg h1, if_neg h2, if_neg h3, if_neg h5, if_neg h7, if_pos h9, if_neg h10]) h10 h1 h2
            · refine z_iload_n C dX3_weekday_44 rfl 2 rfl ?_
              refine z_bipush (v := 102) C dX3_weekday_45 (by decide) ?_
              refine z_icmp_eq (tgt := 56) C dX3_weekday_47 (by decide) (fun h11 => ?_) (fun h11 => ?_)
              · refine z_iload_n C dX3_weekday_56 rfl 3 rfl ?_
                refine z_i2l (v := (p3).toInt64) C dX3_weekday_57 rfl ?_
                refine z_lconst (v := 1) C dX3_weekday_58 (by decide) ?_
                refine z_ldc2 (v := 7) C w1 dX3_weekday_59 ?_
                refine z_si (rest := [.ref (z 0)]) C (c_X3_in l hfl D cI cJ _ ((p3).toInt64) (1 : Int64) (7 : Int64) ) q_X3_in gX3_weekday_X3_in ⟨rfl, rfl⟩ rfl rfl (Nat.le_of_ble_eq_true rfl) ⟨Nat.le_of_ble_eq_true rfl, Nat.le_of_ble_eq_true rfl⟩ ⟨Nat.le_of_ble_eq_true rfl, Nat.le_of_ble_eq_true rfl⟩ dX3_weekday_62 ?_
                refine z_if_eq (tgt := 72) C dX3_weekday_65 (by decide) (fun h12 => ?_) (fun h12 => ?_)
                · refine z_iconst (v := 2) C dX3_weekday_72 (by decide) ?_
                  exact K1_2 (by rw [f_X3_weekday_j1, if_neg h1, if_neg h2, if_neg h3, if_neg h5, if_neg h7, if_neg h9, if_pos h11, if_pos h12]) h1 h2
                · refine z_iconst (v := 0) C dX3_weekday_68 (by decide) ?_
                  refine z_goto (tgt := 73) C dX3_weekday_69 (by decide) ?_
                  exact K1_0 (by rw [f_X3_weekday_j1, if_neg h1, if_neg h2, if_neg h3, if_neg h5, if_neg h7, if_neg h9, if_pos h11, if_neg h12]) h12 h1 h2
              · refine z_iload_n C dX3_weekday_50 rfl 2 rfl ?_
                refine z_bipush (v := 108) C dX3_weekday_51 (by decide) ?_
                refine z_icmp_ne (tgt := 72) C dX3_weekday_53 (by decide) (fun h13 => ?_) (fun h13 => ?_)
                · refine z_iconst (v := 2) C dX3_weekday_72 (by decide) ?_
                  exact K1_2 (by rw [f_X3_weekday_j1, if_neg h1, if_neg h2, if_neg h3, if_neg h5, if_neg h7, if_neg h9, if_neg h11, if_neg h13]) h1 h2
                · refine z_iload_n C dX3_weekday_56 rfl 3 rfl ?_
                  refine z_i2l (v := (p3).toInt64) C dX3_weekday_57 rfl ?_
                  refine z_lconst (v := 1) C dX3_weekday_58 (by decide) ?_
                  refine z_ldc2 (v := 7) C w1 dX3_weekday_59 ?_
                  refine z_si (rest := [.ref (z 0)]) C (c_X3_in l hfl D cI cJ _ ((p3).toInt64) (1 : Int64) (7 : Int64) ) q_X3_in gX3_weekday_X3_in ⟨rfl, rfl⟩ rfl rfl (Nat.le_of_ble_eq_true rfl) ⟨Nat.le_of_ble_eq_true rfl, Nat.le_of_ble_eq_true rfl⟩ ⟨Nat.le_of_ble_eq_true rfl, Nat.le_of_ble_eq_true rfl⟩ dX3_weekday_62 ?_
                  refine z_if_eq (tgt := 72) C dX3_weekday_65 (by decide) (fun h14 => ?_) (fun h14 => ?_)
                  · refine z_iconst (v := 2) C dX3_weekday_72 (by decide) ?_
                    exact K1_2 (by rw [f_X3_weekday_j1, if_neg h1, if_neg h2, if_neg h3, if_neg h5, if_neg h7, if_neg h9, if_neg h11, if_pos h13, if_pos h14]) h1 h2
                  · refine z_iconst (v := 0) C dX3_weekday_68 (by decide) ?_
                    refine z_goto (tgt := 73) C dX3_weekday_69 (by decide) ?_
                    exact K1_0 (by rw [f_X3_weekday_j1, if_neg h1, if_neg h2, if_neg h3, if_neg h5, if_neg h7, if_neg h9, if_neg h11, if_pos h13, if_neg h14]) h14 h1 h2
    · refine z_iconst (v := 1) C dX3_weekday_16 (by decide) ?_
      refine z_goto (tgt := 73) C dX3_weekday_17 (by decide) ?_
      exact K1_1 (by rw [f_X3_weekday_j1, if_neg h1, if_pos h2]) 
def f_X3_inMonth_j1 (p1 : Int32) (p2 : Int32) (p3 : Int32) (p4 : Int32) : Int32 := (if (f_X3_isDate p1) = 0 then 1 else (if (f_X3_isDate p4) = 0 then 1 else (if (f_X3_in ((p2).toInt64) (-6) 6) = 0 then 2 else (if (f_X3_in ((p3).toInt64) 1 7) = 0 then 2 else 0))))
def f_X3_inMonth_j2 (d : Nat → Int64) (p1 : Int32) (p2 : Int32) (p3 : Int32) : Int64 := (if p2 < 0 then ((f_X3_sought (((f_X3_number (s_X3_parts_yr (d p1.toNatClampNeg)) (s_X3_parts_mo (d p1.toNatClampNeg)) 1) + ((f_X3_many (s_X3_parts_yr (d p1.toNatClampNeg)) (s_X3_parts_mo (d p1.toNatClampNeg)))).toInt64) - 1) p3 (-1)) + (7 * ((p2).toInt64 + 1))) else ((f_X3_sought (f_X3_number (s_X3_parts_yr (d p1.toNatClampNeg)) (s_X3_parts_mo (d p1.toNatClampNeg)) 1) p3 1) + (7 * ((p2).toInt64 - 1))))
def f_X3_inMonth (d : Nat → Int64) (p1 : Int32) (p2 : Int32) (p3 : Int32) (p4 : Int32) : Int64 := (if f_X3_inMonth_j1 p1 p2 p3 p4 = 0 then (f_X3_becomes (f_X3_inMonth_j2 d p1 p2 p3) 3) else (if f_X3_inMonth_j1 p1 p2 p3 p4 = 1 then 0 else 0))
def s_X3_inMonth_co (d : Nat → Int64) (p1 : Int32) (p2 : Int32) (p3 : Int32) (p4 : Int32) : Int32 := (if f_X3_inMonth_j1 p1 p2 p3 p4 = 0 then (s_X3_becomes_co (f_X3_inMonth_j2 d p1 p2 p3) 3) else (if f_X3_inMonth_j1 p1 p2 p3 p4 = 1 then (s_X3_fails_co 1) else (s_X3_fails_co 2)))
def s_X3_inMonth_d (d : Nat → Int64) (p1 : Int32) (p2 : Int32) (p3 : Int32) (p4 : Int32) : Nat → Int64 := (if f_X3_inMonth_j1 p1 p2 p3 p4 = 0 then (s_X3_becomes_d d p4 (f_X3_inMonth_j2 d p1 p2 p3) 3) else (if f_X3_inMonth_j1 p1 p2 p3 p4 = 1 then d else d))
def s_X3_inMonth_yr (d : Nat → Int64) (yr : Int64) (p1 : Int32) (p2 : Int32) (p3 : Int32) (p4 : Int32) : Int64 := (if f_X3_inMonth_j1 p1 p2 p3 p4 = 0 then (s_X3_becomes_yr (f_X3_inMonth_j2 d p1 p2 p3) 3) else (if f_X3_inMonth_j1 p1 p2 p3 p4 = 1 then yr else yr))
def s_X3_inMonth_mo (d : Nat → Int64) (mo : Int32) (p1 : Int32) (p2 : Int32) (p3 : Int32) (p4 : Int32) : Int32 := (if f_X3_inMonth_j1 p1 p2 p3 p4 = 0 then (s_X3_becomes_mo (f_X3_inMonth_j2 d p1 p2 p3) 3) else (if f_X3_inMonth_j1 p1 p2 p3 p4 = 1 then mo else mo))
def s_X3_inMonth_dy (d : Nat → Int64) (dy : Int32) (p1 : Int32) (p2 : Int32) (p3 : Int32) (p4 : Int32) : Int32 := (if f_X3_inMonth_j1 p1 p2 p3 p4 = 0 then (s_X3_becomes_dy (f_X3_inMonth_j2 d p1 p2 p3) 3) else (if f_X3_inMonth_j1 p1 p2 p3 p4 = 1 then dy else dy))
def pre_X3_inMonth (d : Nat → Int64) (p1 : Int32) (p2 : Int32) (p3 : Int32) (p4 : Int32) : Prop := (((f_X3_inMonth_j1 p1 p2 p3 p4) = 0) → (¬ (f_X3_in ((p2).toInt64) (-6) 6) = 0) → (¬ (f_X3_in ((p3).toInt64) 1 7) = 0) → (¬ (f_X3_isDate p1) = 0) → (¬ (f_X3_isDate p4) = 0) → (pre_X3_parts (d p1.toNatClampNeg))) ∧ (((f_X3_inMonth_j1 p1 p2 p3 p4) = 0) → (¬ (f_X3_in ((p2).toInt64) (-6) 6) = 0) → (¬ (f_X3_in ((p3).toInt64) 1 7) = 0) → (¬ (f_X3_isDate p1) = 0) → (¬ (f_X3_isDate p4) = 0) → ((s_X3_parts_mo (d p1.toNatClampNeg)) ≤ 12)) ∧ (((f_X3_inMonth_j1 p1 p2 p3 p4) = 0) → (¬ (f_X3_in ((p2).toInt64) (-6) 6) = 0) → (¬ (f_X3_in ((p3).toInt64) 1 7) = 0) → (¬ (f_X3_isDate p1) = 0) → (¬ (f_X3_isDate p4) = 0) → (p2 < 0) → (pre_X3_sought (((f_X3_number (s_X3_parts_yr (d p1.toNatClampNeg)) (s_X3_parts_mo (d p1.toNatClampNeg)) 1) + ((f_X3_many (s_X3_parts_yr (d p1.toNatClampNeg)) (s_X3_parts_mo (d p1.toNatClampNeg)))).toInt64) - 1) p3 (-1))) ∧ (((f_X3_inMonth_j1 p1 p2 p3 p4) = 0) → (¬ (f_X3_in ((p2).toInt64) (-6) 6) = 0) → (¬ (f_X3_in ((p3).toInt64) 1 7) = 0) → (¬ (f_X3_isDate p1) = 0) → (¬ (f_X3_isDate p4) = 0) → (¬ p2 < 0) → (pre_X3_sought (f_X3_number (s_X3_parts_yr (d p1.toNatClampNeg)) (s_X3_parts_mo (d p1.toNatClampNeg)) 1) p3 1)) ∧ (((f_X3_inMonth_j1 p1 p2 p3 p4) = 0) → (¬ (f_X3_in ((p2).toInt64) (-6) 6) = 0) → (¬ (f_X3_in ((p3).toInt64) 1 7) = 0) → (¬ (f_X3_isDate p1) = 0) → (¬ (f_X3_isDate p4) = 0) → (pre_X3_becomes p4 (f_X3_inMonth_j2 d p1 p2 p3) 3))
theorem q_X3_inMonth : ZY yX3_inMonth wsX3_inMonth cX3_inMonth 11 (some .long) 4 := ⟨⟨_, rfl⟩, by decide +kernel, by decide +kernel, by decide +kernel⟩
set_option maxHeartbeats 4000000 in
set_option maxRecDepth 100000 in
theorem c_X3_inMonth (l : Launch) (hfl : l.stackTraces = false) (D : va_G) (cI cJ : ClassId) (X : va_W) (z : Nat → Nat) (co : Int32) (d : Nat → Int64) (ti : Nat → Int64) (sL : Nat → Int64) (bL : Nat → Int64) (mD : Nat → Int64) (mT : Nat → Int64) (sy : Nat → Int64) (sm : Nat → Int64) (sd : Nat → Int64) (mi : Nat → Int64) (yr : Int64) (mo : Int32) (dy : Int32) (p1 : Int32) (p2 : Int32) (p3 : Int32) (p4 : Int32)  (h_g : pre_X3_inMonth d p1 p2 p3 p4) : ZM l yX3_inMonth wsX3_inMonth { frames := 7, cells := 0, slots := 0, locals := 159 } [.ref (z 0), .int p1, .int p2, .int p3, .int p4] D (zTys cI cJ) (wM cI cJ z co d ti sL bL mD mT sy sm sd mi yr mo dy X) 0 0 (fun v w => v = some (.long (f_X3_inMonth d p1 p2 p3 p4)) ∧ w = (wM cI cJ z (s_X3_inMonth_co d p1 p2 p3 p4) (s_X3_inMonth_d d p1 p2 p3 p4) ti sL bL mD mT sy sm sd mi (s_X3_inMonth_yr d yr p1 p2 p3 p4) (s_X3_inMonth_mo d mo p1 p2 p3 p4) (s_X3_inMonth_dy d dy p1 p2 p3 p4) X)) (fun _ _ => False) := by
  refine z_open (own := RX3) hfl (cc := cX3_inMonth) (maxL := 11) (ret := (some .long)) (lv := [(0, .ref (z 0)), (1, .int p1), (2, .int p2), (3, .int p3), (4, .int p4)]) rfl (by decide) rfl rfl (Nat.le_of_ble_eq_true rfl) ?_
  intro p e s m args below meth c A C hno hnm hargs
  have hin : ∀ w ∈ wsX30, w ∈ wsX3_inMonth := by decide +kernel
  have w1 := C.1.2.2.2.2 (.constantLong RX3 159 (-6)) (by decide +kernel)
  have w2 := C.1.2.2.2.2 (.constantLong RX3 161 (6)) (by decide +kernel)
  have w3 := C.1.2.2.2.2 (.constantLong RX3 111 (7)) (by decide +kernel)
  have w4 := C.1.2.2.2.2 (.fieldLink RX3 13 "YearwheelModel" "dates" "[J") (by decide +kernel)
  have w5 := C.1.2.2.2.2 (.fieldLink RX3 86 "YearwheelModel" "year" "J") (by decide +kernel)
  have w6 := C.1.2.2.2.2 (.fieldLink RX3 90 "YearwheelModel" "month" "I") (by decide +kernel)
  obtain ⟨g_0, g_1, g_2, g_3, g_4⟩ := h_g
  refine z_aload_n C dX3_inMonth_0 rfl 0 rfl ?_
  refine z_iload_n C dX3_inMonth_1 rfl 1 rfl ?_
  refine z_si (rest := [.ref (z 0)]) C (c_X3_isDate l hfl D cI cJ _ p1 ) q_X3_isDate gX3_inMonth_X3_isDate ⟨rfl, rfl⟩ rfl rfl (Nat.le_of_ble_eq_true rfl) ⟨Nat.le_of_ble_eq_true rfl, Nat.le_of_ble_eq_true rfl⟩ ⟨Nat.le_of_ble_eq_true rfl, Nat.le_of_ble_eq_true rfl⟩ dX3_inMonth_2 ?_
  have K1_0 : f_X3_inMonth_j1 p1 p2 p3 p4 = 0 → (¬ (f_X3_in ((p2).toInt64) (-6) 6) = 0) → (¬ (f_X3_in ((p3).toInt64) 1 7) = 0) → (¬ (f_X3_isDate p1) = 0) → (¬ (f_X3_isDate p4) = 0) → ZW p l e { frames := 7, cells := 0, slots := 0, locals := 159 } s m args below meth c 11 D (zTys cI cJ) A (zE D (zTys cI cJ) A below args s (fun v w => v = some (.long (f_X3_inMonth d p1 p2 p3 p4)) ∧ w = (wM cI cJ z (s_X3_inMonth_co d p1 p2 p3 p4) (s_X3_inMonth_d d p1 p2 p3 p4) ti sL bL mD mT sy sm sd mi (s_X3_inMonth_yr d yr p1 p2 p3 p4) (s_X3_inMonth_mo d mo p1 p2 p3 p4) (s_X3_inMonth_dy d dy p1 p2 p3 p4) X)) (fun _ _ => False) 0 0) 0 0 (wM cI cJ z co d ti sL bL mD mT sy sm sd mi yr mo dy X) 51 [(0, .ref (z 0)), (1, .int p1), (2, .int p2), (3, .int p3), (4, .int p4)] [.int 0, .ref (z 0)] := by
    intro h5 h6 h7 h8 h9
    refine z_wi (ws' := (wM cI cJ z (s_X3_fails_co 0) d ti sL bL mD mT sy sm sd mi yr mo dy X)) (rest := []) (ci := 3) (q0 := 0) C (c_X3_fails l hfl D cI cJ X z co d ti sL bL mD mT sy sm sd mi yr mo dy (0 : Int32) ) q_X3_fails rfl rfl rfl gX3_inMonth_X3_fails ⟨rfl, rfl⟩ rfl rfl (Nat.le_of_ble_eq_true rfl) ⟨Nat.le_of_ble_eq_true rfl, Nat.le_of_ble_eq_true rfl⟩ ⟨Nat.le_of_ble_eq_true rfl, Nat.le_of_ble_eq_true rfl⟩ dX3_inMonth_51 ?_
    refine z_eqst (st' := [.int 0]) (congrArg (fun v => Value.int v :: _) (by decide : (f_X3_fails 0) = (0 : Int32))) ?_
    refine z_if_eq (tgt := 59) C dX3_inMonth_54 (by decide) (fun _ => ?_) (fun h => absurd (by decide) h)
    refine z_aload_n C dX3_inMonth_59 rfl 0 rfl ?_
    refine z_aload_n C dX3_inMonth_60 rfl 0 rfl ?_
    refine z_get (CC := RX3) (T := TX3) (N := 14) (ci := 3) C hin 0 rfl rfl 1 (by decide) w4 rfl rfl dX3_inMonth_61 ?_
    refine z_iload_n C dX3_inMonth_64 rfl 1 rfl ?_
    refine z_lald C 1 1 rfl rfl (vpMDate h8) dX3_inMonth_65 ?_
    refine z_wv (ws' := (wM cI cJ z (s_X3_fails_co 0) d ti sL bL mD mT sy sm sd mi (s_X3_parts_yr (d p1.toNatClampNeg)) (s_X3_parts_mo (d p1.toNatClampNeg)) (s_X3_parts_dy (d p1.toNatClampNeg)) X)) (rest := []) (ci := 3) (q0 := 0) C (c_X3_parts l hfl D cI cJ X z (s_X3_fails_co 0) d ti sL bL mD mT sy sm sd mi yr mo dy (d p1.toNatClampNeg) (g_0 h5 h6 h7 h8 h9)) q_X3_parts rfl rfl rfl gX3_inMonth_X3_parts ⟨rfl, rfl⟩ rfl rfl (Nat.le_of_ble_eq_true rfl) ⟨Nat.le_of_ble_eq_true rfl, Nat.le_of_ble_eq_true rfl⟩ ⟨Nat.le_of_ble_eq_true rfl, Nat.le_of_ble_eq_true rfl⟩ dX3_inMonth_66 ?_
    refine z_aload_n C dX3_inMonth_69 rfl 0 rfl ?_
    refine z_get (CC := RX3) (T := TX3) (N := 14) (ci := 3) C hin 0 rfl rfl 11 (by decide) w5 rfl rfl dX3_inMonth_70 ?_
    refine z_aload_n C dX3_inMonth_73 rfl 0 rfl ?_
    refine z_get (CC := RX3) (T := TX3) (N := 14) (ci := 3) C hin 0 rfl rfl 12 (by decide) w6 rfl rfl dX3_inMonth_74 ?_
    refine z_iconst (v := 1) C dX3_inMonth_77 (by decide) ?_
    refine z_sl (rest := []) C (c_X3_number l hfl D cI cJ _ (s_X3_parts_yr (d p1.toNatClampNeg)) (s_X3_parts_mo (d p1.toNatClampNeg)) (1 : Int32) (g_1 h5 h6 h7 h8 h9)) q_X3_number gX3_inMonth_X3_number ⟨rfl, rfl⟩ rfl rfl (Nat.le_of_ble_eq_true rfl) ⟨Nat.le_of_ble_eq_true rfl, Nat.le_of_ble_eq_true rfl⟩ ⟨Nat.le_of_ble_eq_true rfl, Nat.le_of_ble_eq_true rfl⟩ dX3_inMonth_78 ?_
    refine z_lstore (lv' := [(5, .long (f_X3_number (s_X3_parts_yr (d p1.toNatClampNeg)) (s_X3_parts_mo (d p1.toNatClampNeg)) 1)), (0, .ref (z 0)), (1, .int p1), (2, .int p2), (3, .int p3), (4, .int p4)]) C dX3_inMonth_81 (by decide) rfl ?_
    refine z_lload C dX3_inMonth_83 0 rfl ?_
    refine z_aload_n C dX3_inMonth_85 rfl 1 rfl ?_
    refine z_get (CC := RX3) (T := TX3) (N := 14) (ci := 3) C hin 0 rfl rfl 11 (by decide) w5 rfl rfl dX3_inMonth_86 ?_
    refine z_aload_n C dX3_inMonth_89 rfl 1 rfl ?_
    refine z_get (CC := RX3) (T := TX3) (N := 14) (ci := 3) C hin 0 rfl rfl 12 (by decide) w6 rfl rfl dX3_inMonth_90 ?_
    refine z_si (rest := [.long (f_X3_number (s_X3_parts_yr (d p1.toNatClampNeg)) (s_X3_parts_mo (d p1.toNatClampNeg)) 1)]) C (c_X3_many l hfl D cI cJ _ (s_X3_parts_yr (d p1.toNatClampNeg)) (s_X3_parts_mo (d p1.toNatClampNeg)) ) q_X3_many gX3_inMonth_X3_many ⟨rfl, rfl⟩ rfl rfl (Nat.le_of_ble_eq_true rfl) ⟨Nat.le_of_ble_eq_true rfl, Nat.le_of_ble_eq_true rfl⟩ ⟨Nat.le_of_ble_eq_true rfl, Nat.le_of_ble_eq_true rfl⟩ dX3_inMonth_93 ?_
    refine z_i2l (v := ((f_X3_many (s_X3_parts_yr (d p1.toNatClampNeg)) (s_X3_parts_mo (d p1.toNatClampNeg)))).toInt64) C dX3_inMonth_96 rfl ?_
    refine z_ladd C dX3_inMonth_97 ?_
    refine z_lconst (v := 1) C dX3_inMonth_98 (by decide) ?_
    refine z_lsub C dX3_inMonth_99 ?_
    refine z_lstore (lv' := [(7, .long (((f_X3_number (s_X3_parts_yr (d p1.toNatClampNeg)) (s_X3_parts_mo (d p1.toNatClampNeg)) 1) + ((f_X3_many (s_X3_parts_yr (d p1.toNatClampNeg)) (s_X3_parts_mo (d p1.toNatClampNeg)))).toInt64) - 1)), (5, .long (f_X3_number (s_X3_parts_yr (d p1.toNatClampNeg)) (s_X3_parts_mo (d p1.toNatClampNeg)) 1)), (0, .ref (z 0)), (1, .int p1), (2, .int p2), (3, .int p3), (4, .int p4)]) C dX3_inMonth_100 (by decide) rfl ?_
    refine z_iload_n C dX3_inMonth_102 rfl 4 rfl ?_
    have K2 : ∀ (v2_0 : Int64), (f_X3_inMonth_j2 d p1 p2 p3) = v2_0 → ZW p l e { frames := 7, cells := 0, slots := 0, locals := 159 } s m args below meth c 11 D (zTys cI cJ) A (zE D (zTys cI cJ) A below args s (fun v w => v = some (.long (f_X3_inMonth d p1 p2 p3 p4)) ∧ w = (wM cI cJ z (s_X3_inMonth_co d p1 p2 p3 p4) (s_X3_inMonth_d d p1 p2 p3 p4) ti sL bL mD mT sy sm sd mi (s_X3_inMonth_yr d yr p1 p2 p3 p4) (s_X3_inMonth_mo d mo p1 p2 p3 p4) (s_X3_inMonth_dy d dy p1 p2 p3 p4) X)) (fun _ _ => False) 0 0) 0 0 (wM cI cJ z (s_X3_fails_co 0) d ti sL bL mD mT sy sm sd mi (s_X3_parts_yr (d p1.toNatClampNeg)) (s_X3_parts_mo (d p1.toNatClampNeg)) (s_X3_parts_dy (d p1.toNatClampNeg)) X) 141 [(7, .long (((f_X3_number (s_X3_parts_yr (d p1.toNatClampNeg)) (s_X3_parts_mo (d p1.toNatClampNeg)) 1) + ((f_X3_many (s_X3_parts_yr (d p1.toNatClampNeg)) (s_X3_parts_mo (d p1.toNatClampNeg)))).toInt64) - 1)), (5, .long (f_X3_number (s_X3_parts_yr (d p1.toNatClampNeg)) (s_X3_parts_mo (d p1.toNatClampNeg)) 1)), (0, .ref (z 0)), (1, .int p1), (2, .int p2), (3, .int p3), (4, .int p4)] [.long v2_0] := by
      rintro _ rfl
      refine z_lstore (lv' := [(9, .long (f_X3_inMonth_j2 d p1 p2 p3)), (7, .long (((f_X3_number (s_X3_parts_yr (d p1.toNatClampNeg)) (s_X3_parts_mo (d p1.toNatClampNeg)) 1) + ((f_X3_many (s_X3_parts_yr (d p1.toNatClampNeg)) (s_X3_parts_mo (d p1.toNatClampNeg)))).toInt64) - 1)), (5, .long (f_X3_number (s_X3_parts_yr (d p1.toNatClampNeg)) (s_X3_parts_mo (d p1.toNatClampNeg)) 1)), (0, .ref (z 0)), (1, .int p1), (2, .int p2), (3, .int p3), (4, .int p4)]) C dX3_inMonth_141 (by decide) rfl ?_
      refine z_aload_n C dX3_inMonth_143 rfl 3 rfl ?_
      refine z_iload C dX3_inMonth_144 7 rfl ?_
      refine z_lload C dX3_inMonth_146 0 rfl ?_
      refine z_iconst (v := 3) C dX3_inMonth_148 (by decide) ?_
      refine z_wl (ws' := (wM cI cJ z (s_X3_becomes_co (f_X3_inMonth_j2 d p1 p2 p3) 3) (s_X3_becomes_d d p4 (f_X3_inMonth_j2 d p1 p2 p3) 3) ti sL bL mD mT sy sm sd mi (s_X3_becomes_yr (f_X3_inMonth_j2 d p1 p2 p3) 3) (s_X3_becomes_mo (f_X3_inMonth_j2 d p1 p2 p3) 3) (s_X3_becomes_dy (f_X3_inMonth_j2 d p1 p2 p3) 3) X)) (rest := []) (ci := 3) (q0 := 0) C (c_X3_becomes l hfl D cI cJ X z (s_X3_fails_co 0) d ti sL bL mD mT sy sm sd mi (s_X3_parts_yr (d p1.toNatClampNeg)) (s_X3_parts_mo (d p1.toNatClampNeg)) (s_X3_parts_dy (d p1.toNatClampNeg)) p4 (f_X3_inMonth_j2 d p1 p2 p3) (3 : Int32) (g_4 h5 h6 h7 h8 h9)) q_X3_becomes rfl rfl rfl gX3_inMonth_X3_becomes ⟨rfl, rfl⟩ rfl rfl (Nat.le_of_ble_eq_true rfl) ⟨Nat.le_of_ble_eq_true rfl, Nat.le_of_ble_eq_true rfl⟩ ⟨Nat.le_of_ble_eq_true rfl, Nat.le_of_ble_eq_true rfl⟩ dX3_inMonth_149 ?_
      exact z_lret C ⟨congrArg (fun v => some (Value.long v)) (by rw [f_X3_inMonth, if_pos h5] : (f_X3_becomes (f_X3_inMonth_j2 d p1 p2 p3) 3) = (f_X3_inMonth d p1 p2 p3 p4)), by rw [s_X3_inMonth_co, if_pos h5, s_X3_inMonth_d, if_pos h5, s_X3_inMonth_yr, if_pos h5, s_X3_inMonth_mo, if_pos h5, s_X3_inMonth_dy, if_pos h5]⟩ (by decide) (by decide) dX3_inMonth_152
    refine z_if_lt (tgt := 125) C dX3_inMonth_103 (by decide) (fun h10 => ?_) (fun h10 => ?_)
    · refine z_lload C dX3_inMonth_125 0 rfl ?_
      refine z_iload_n C dX3_inMonth_127 rfl 5 rfl ?_
      refine z_iconst (v := (-1)) C dX3_inMonth_128 (by decide) ?_
      refine z_sl (rest := []) C (c_X3_sought l hfl D cI cJ _ (((f_X3_number (s_X3_parts_yr (d p1.toNatClampNeg)) (s_X3_parts_mo (d p1.toNatClampNeg)) 1) + ((f_X3_many (s_X3_parts_yr (d p1.toNatClampNeg)) (s_X3_parts_mo (d p1.toNatClampNeg)))).toInt64) - 1) p3 ((-1) : Int32) (g_2 h5 h6 h7 h8 h9 h10)) q_X3_sought gX3_inMonth_X3_sought ⟨rfl, rfl⟩ rfl rfl (Nat.le_of_ble_eq_true rfl) ⟨Nat.le_of_ble_eq_true rfl, Nat.le_of_ble_eq_true rfl⟩ ⟨Nat.le_of_ble_eq_true rfl, Nat.le_of_ble_eq_true rfl⟩ dX3_inMonth_129 ?_
      refine z_ldc2 (v := 7) C w3 dX3_inMonth_132 ?_
      refine z_iload_n C dX3_inMonth_135 rfl 4 rfl ?_
      refine z_i2l (v := (p2).toInt64) C dX3_inMonth_136 rfl ?_
      refine z_lconst (v := 1) C dX3_inMonth_137 (by decide) ?_
      refine z_ladd C dX3_inMonth_138 ?_
      refine z_lmul C dX3_inMonth_139 ?_
      refine z_ladd C dX3_inMonth_140 ?_
      exact K2 _ (by rw [f_X3_inMonth_j2, if_pos h10])
    · refine z_lload C dX3_inMonth_106 1 rfl ?_
      refine z_iload_n C dX3_inMonth_108 rfl 5 rfl ?_
      refine z_iconst (v := 1) C dX3_inMonth_109 (by decide) ?_
      refine z_sl (rest := []) C (c_X3_sought l hfl D cI cJ _ (f_X3_number (s_X3_parts_yr (d p1.toNatClampNeg)) (s_X3_parts_mo (d p1.toNatClampNeg)) 1) p3 (1 : Int32) (g_3 h5 h6 h7 h8 h9 h10)) q_X3_sought gX3_inMonth_X3_sought ⟨rfl, rfl⟩ rfl rfl (Nat.le_of_ble_eq_true rfl) ⟨Nat.le_of_ble_eq_true rfl, Nat.le_of_ble_eq_true rfl⟩ ⟨Nat.le_of_ble_eq_true rfl, Nat.le_of_ble_eq_true rfl⟩ dX3_inMonth_110 ?_
      refine z_ldc2 (v := 7) C w3 dX3_inMonth_113 ?_
      refine z_iload_n C dX3_inMonth_116 rfl 4 rfl ?_
      refine z_i2l (v := (p2).toInt64) C dX3_inMonth_117 rfl ?_
      refine z_lconst (v := 1) C dX3_inMonth_118 (by decide) ?_
      refine z_lsub C dX3_inMonth_119 ?_
      refine z_lmul C dX3_inMonth_120 ?_
      refine z_ladd C dX3_inMonth_121 ?_
      refine z_goto (tgt := 141) C dX3_inMonth_122 (by decide) ?_
      exact K2 _ (by rw [f_X3_inMonth_j2, if_neg h10])
  have K1_1 : f_X3_inMonth_j1 p1 p2 p3 p4 = 1 → ZW p l e { frames := 7, cells := 0, slots := 0, locals := 159 } s m args below meth c 11 D (zTys cI cJ) A (zE D (zTys cI cJ) A below args s (fun v w => v = some (.long (f_X3_inMonth d p1 p2 p3 p4)) ∧ w = (wM cI cJ z (s_X3_inMonth_co d p1 p2 p3 p4) (s_X3_inMonth_d d p1 p2 p3 p4) ti sL bL mD mT sy sm sd mi (s_X3_inMonth_yr d yr p1 p2 p3 p4) (s_X3_inMonth_mo d mo p1 p2 p3 p4) (s_X3_inMonth_dy d dy p1 p2 p3 p4) X)) (fun _ _ => False) 0 0) 0 0 (wM cI cJ z co d ti sL bL mD mT sy sm sd mi yr mo dy X) 51 [(0, .ref (z 0)), (1, .int p1), (2, .int p2), (3, .int p3), (4, .int p4)] [.int 1, .ref (z 0)] := by
    intro h11
    refine z_wi (ws' := (wM cI cJ z (s_X3_fails_co 1) d ti sL bL mD mT sy sm sd mi yr mo dy X)) (rest := []) (ci := 3) (q0 := 0) C (c_X3_fails l hfl D cI cJ X z co d ti sL bL mD mT sy sm sd mi yr mo dy (1 : Int32) ) q_X3_fails rfl rfl rfl gX3_inMonth_X3_fails ⟨rfl, rfl⟩ rfl rfl (Nat.le_of_ble_eq_true rfl) ⟨Nat.le_of_ble_eq_true rfl, Nat.le_of_ble_eq_true rfl⟩ ⟨Nat.le_of_ble_eq_true rfl, Nat.le_of_ble_eq_true rfl⟩ dX3_inMonth_51 ?_
    refine z_eqst (st' := [.int 1]) (congrArg (fun v => Value.int v :: _) (by decide : (f_X3_fails 1) = (1 : Int32))) ?_
    refine z_if_eq (tgt := 59) C dX3_inMonth_54 (by decide) (fun h => absurd h (by decide)) (fun _ => ?_)
    refine z_lconst (v := 0) C dX3_inMonth_57 (by decide) ?_
    exact z_lret C ⟨congrArg (fun v => some (Value.long v)) (by rw [f_X3_inMonth, if_neg (by rw [h11]; decide : ¬ f_X3_inMonth_j1 p1 p2 p3 p4 = 0), if_pos h11] : (0 : Int64) = (f_X3_inMonth d p1 p2 p3 p4)), by rw [s_X3_inMonth_co, if_neg (by rw [h11]; decide : ¬ f_X3_inMonth_j1 p1 p2 p3 p4 = 0), if_pos h11, s_X3_inMonth_d, if_neg (by rw [h11]; decide : ¬ f_X3_inMonth_j1 p1 p2 p3 p4 = 0), if_pos h11, s_X3_inMonth_yr, if_neg (by rw [h11]; decide : ¬ f_X3_inMonth_j1 p1 p2 p3 p4 = 0), if_pos h11, s_X3_inMonth_mo, if_neg (by rw [h11]; decide : ¬ f_X3_inMonth_j1 p1 p2 p3 p4 = 0), if_pos h11, s_X3_inMonth_dy, if_neg (by rw [h11]; decide : ¬ f_X3_inMonth_j1 p1 p2 p3 p4 = 0), if_pos h11]⟩ (by decide) (by decide) dX3_inMonth_58
  have K1_2 : f_X3_inMonth_j1 p1 p2 p3 p4 = 2 → (¬ (f_X3_isDate p1) = 0) → (¬ (f_X3_isDate p4) = 0) → ZW p l e { frames := 7, cells := 0, slots := 0, locals := 159 } s m args below meth c 11 D (zTys cI cJ) A (zE D (zTys cI cJ) A below args s (fun v w => v = some (.long (f_X3_inMonth d p1 p2 p3 p4)) ∧ w = (wM cI cJ z (s_X3_inMonth_co d p1 p2 p3 p4) (s_X3_inMonth_d d p1 p2 p3 p4) ti sL bL mD mT sy sm sd mi (s_X3_inMonth_yr d yr p1 p2 p3 p4) (s_X3_inMonth_mo d mo p1 p2 p3 p4) (s_X3_inMonth_dy d dy p1 p2 p3 p4) X)) (fun _ _ => False) 0 0) 0 0 (wM cI cJ z co d ti sL bL mD mT sy sm sd mi yr mo dy X) 51 [(0, .ref (z 0)), (1, .int p1), (2, .int p2), (3, .int p3), (4, .int p4)] [.int 2, .ref (z 0)] := by
    intro h12 h13 h14
    refine z_wi (ws' := (wM cI cJ z (s_X3_fails_co 2) d ti sL bL mD mT sy sm sd mi yr mo dy X)) (rest := []) (ci := 3) (q0 := 0) C (c_X3_fails l hfl D cI cJ X z co d ti sL bL mD mT sy sm sd mi yr mo dy (2 : Int32) ) q_X3_fails rfl rfl rfl gX3_inMonth_X3_fails ⟨rfl, rfl⟩ rfl rfl (Nat.le_of_ble_eq_true rfl) ⟨Nat.le_of_ble_eq_true rfl, Nat.le_of_ble_eq_true rfl⟩ ⟨Nat.le_of_ble_eq_true rfl, Nat.le_of_ble_eq_true rfl⟩ dX3_inMonth_51 ?_
    refine z_eqst (st' := [.int 1]) (congrArg (fun v => Value.int v :: _) (by decide : (f_X3_fails 2) = (1 : Int32))) ?_
    refine z_if_eq (tgt := 59) C dX3_inMonth_54 (by decide) (fun h => absurd h (by decide)) (fun _ => ?_)
    refine z_lconst (v := 0) C dX3_inMonth_57 (by decide) ?_
    exact z_lret C ⟨congrArg (fun v => some (Value.long v)) (by rw [f_X3_inMonth, if_neg (by rw [h12]; decide : ¬ f_X3_inMonth_j1 p1 p2 p3 p4 = 0), if_neg (by rw [h12]; decide : ¬ f_X3_inMonth_j1 p1 p2 p3 p4 = 1)] : (0 : Int64) = (f_X3_inMonth d p1 p2 p3 p4)), by rw [s_X3_inMonth_co, if_neg (by rw [h12]; decide : ¬ f_X3_inMonth_j1 p1 p2 p3 p4 = 0), if_neg (by rw [h12]; decide : ¬ f_X3_inMonth_j1 p1 p2 p3 p4 = 1), s_X3_inMonth_d, if_neg (by rw [h12]; decide : ¬ f_X3_inMonth_j1 p1 p2 p3 p4 = 0), if_neg (by rw [h12]; decide : ¬ f_X3_inMonth_j1 p1 p2 p3 p4 = 1), s_X3_inMonth_yr, if_neg (by rw [h12]; decide : ¬ f_X3_inMonth_j1 p1 p2 p3 p4 = 0), if_neg (by rw [h12]; decide : ¬ f_X3_inMonth_j1 p1 p2 p3 p4 = 1), s_X3_inMonth_mo, if_neg (by rw [h12]; decide : ¬ f_X3_inMonth_j1 p1 p2 p3 p4 = 0), if_neg (by rw [h12]; decide : ¬ f_X3_inMonth_j1 p1 p2 p3 p4 = 1), s_X3_inMonth_dy, if_neg (by rw [h12]; decide : ¬ f_X3_inMonth_j1 p1 p2 p3 p4 = 0), if_neg (by rw [h12]; decide : ¬ f_X3_inMonth_j1 p1 p2 p3 p4 = 1)]⟩ (by decide) (by decide) dX3_inMonth_58
  refine z_if_eq (tgt := 16) C dX3_inMonth_5 (by decide) (fun h1 => ?_) (fun h1 => ?_)
  · refine z_iconst (v := 1) C dX3_inMonth_16 (by decide) ?_
    refine z_goto (tgt := 51) C dX3_inMonth_17 (by decide) ?_
    exact K1_1 (by rw [f_X3_inMonth_j1, if_pos h1]) 
  · refine z_iload C dX3_inMonth_8 4 rfl ?_
    refine z_si (rest := [.ref (z 0)]) C (c_X3_isDate l hfl D cI cJ _ p4 ) q_X3_isDate gX3_inMonth_X3_isDate ⟨rfl, rfl⟩ rfl rfl (Nat.le_of_ble_eq_true rfl) ⟨Nat.le_of_ble_eq_true rfl, Nat.le_of_ble_eq_true rfl⟩ ⟨Nat.le_of_ble_eq_true rfl, Nat.le_of_ble_eq_true rfl⟩ dX3_inMonth_10 ?_
    refine z_if_ne (tgt := 20) C dX3_inMonth_13 (by decide) (fun h2 => ?_) (fun h2 => ?_)
    · refine z_iload_n C dX3_inMonth_20 rfl 2 rfl ?_
      refine z_i2l (v := (p2).toInt64) C dX3_inMonth_21 rfl ?_
      refine z_ldc2 (v := (-6)) C w1 dX3_inMonth_22 ?_
      refine z_ldc2 (v := 6) C w2 dX3_inMonth_25 ?_
      refine z_si (rest := [.ref (z 0)]) C (c_X3_in l hfl D cI cJ _ ((p2).toInt64) ((-6) : Int64) (6 : Int64) ) q_X3_in gX3_inMonth_X3_in ⟨rfl, rfl⟩ rfl rfl (Nat.le_of_ble_eq_true rfl) ⟨Nat.le_of_ble_eq_true rfl, Nat.le_of_ble_eq_true rfl⟩ ⟨Nat.le_of_ble_eq_true rfl, Nat.le_of_ble_eq_true rfl⟩ dX3_inMonth_28 ?_
      refine z_if_eq (tgt := 50) C dX3_inMonth_31 (by decide) (fun h3 => ?_) (fun h3 => ?_)
      · refine z_iconst (v := 2) C dX3_inMonth_50 (by decide) ?_
        exact K1_2 (by rw [f_X3_inMonth_j1, if_neg h1, if_neg h2, if_pos h3]) h1 h2
      · refine z_iload_n C dX3_inMonth_34 rfl 3 rfl ?_
        refine z_i2l (v := (p3).toInt64) C dX3_inMonth_35 rfl ?_
        refine z_lconst (v := 1) C dX3_inMonth_36 (by decide) ?_
        refine z_ldc2 (v := 7) C w3 dX3_inMonth_37 ?_
        refine z_si (rest := [.ref (z 0)]) C (c_X3_in l hfl D cI cJ _ ((p3).toInt64) (1 : Int64) (7 : Int64) ) q_X3_in gX3_inMonth_X3_in ⟨rfl, rfl⟩ rfl rfl (Nat.le_of_ble_eq_true rfl) ⟨Nat.le_of_ble_eq_true rfl, Nat.le_of_ble_eq_true rfl⟩ ⟨Nat.le_of_ble_eq_true rfl, Nat.le_of_ble_eq_true rfl⟩ dX3_inMonth_40 ?_
        refine z_if_eq (tgt := 50) C dX3_inMonth_43 (by decide) (fun h4 => ?_) (fun h4 => ?_)
        · refine z_iconst (v := 2) C dX3_inMonth_50 (by decide) ?_
          exact K1_2 (by rw [f_X3_inMonth_j1, if_neg h1, if_neg h2, if_neg h3, if_pos h4]) h1 h2
        · refine z_iconst (v := 0) C dX3_inMonth_46 (by decide) ?_
          refine z_goto (tgt := 51) C dX3_inMonth_47 (by decide) ?_
          exact K1_0 (by rw [f_X3_inMonth_j1, if_neg h1, if_neg h2, if_neg h3, if_neg h4]) h3 h4 h1 h2
    · refine z_iconst (v := 1) C dX3_inMonth_16 (by decide) ?_
      refine z_goto (tgt := 51) C dX3_inMonth_17 (by decide) ?_
      exact K1_1 (by rw [f_X3_inMonth_j1, if_neg h1, if_pos h2]) 
def f_X3_atYear_j1 (p1 : Int32) (p2 : Int32) (p3 : Int32) (p4 : Int32) : Int32 := (if (f_X3_isDate p4) = 0 then 1 else (if (f_X3_in ((p1).toInt64) 1 12) = 0 then 2 else (if (f_X3_in ((p2).toInt64) 1 (((f_X3_many 0 p1)).toInt64)) = 0 then 2 else (if (f_X3_isYear ((p3).toInt64)) = 0 then 2 else 0))))
def f_X3_atYear_j2 (p1 : Int32) (p2 : Int32) (p3 : Int32) : Int32 := (if p2 ≤ (f_X3_many ((p3).toInt64) p1) then p2 else (f_X3_many ((p3).toInt64) p1))
def f_X3_atYear (p1 : Int32) (p2 : Int32) (p3 : Int32) (p4 : Int32) : Int64 := (if f_X3_atYear_j1 p1 p2 p3 p4 = 0 then (f_X3_becomes (f_X3_number ((p3).toInt64) p1 (f_X3_atYear_j2 p1 p2 p3)) 3) else (if f_X3_atYear_j1 p1 p2 p3 p4 = 1 then 0 else 0))
def s_X3_atYear_co (p1 : Int32) (p2 : Int32) (p3 : Int32) (p4 : Int32) : Int32 := (if f_X3_atYear_j1 p1 p2 p3 p4 = 0 then (s_X3_becomes_co (f_X3_number ((p3).toInt64) p1 (f_X3_atYear_j2 p1 p2 p3)) 3) else (if f_X3_atYear_j1 p1 p2 p3 p4 = 1 then (s_X3_fails_co 1) else (s_X3_fails_co 2)))
def s_X3_atYear_d (d : Nat → Int64) (p1 : Int32) (p2 : Int32) (p3 : Int32) (p4 : Int32) : Nat → Int64 := (if f_X3_atYear_j1 p1 p2 p3 p4 = 0 then (s_X3_becomes_d d p4 (f_X3_number ((p3).toInt64) p1 (f_X3_atYear_j2 p1 p2 p3)) 3) else (if f_X3_atYear_j1 p1 p2 p3 p4 = 1 then d else d))
def s_X3_atYear_yr (yr : Int64) (p1 : Int32) (p2 : Int32) (p3 : Int32) (p4 : Int32) : Int64 := (if f_X3_atYear_j1 p1 p2 p3 p4 = 0 then (s_X3_becomes_yr (f_X3_number ((p3).toInt64) p1 (f_X3_atYear_j2 p1 p2 p3)) 3) else (if f_X3_atYear_j1 p1 p2 p3 p4 = 1 then yr else yr))
def s_X3_atYear_mo (mo : Int32) (p1 : Int32) (p2 : Int32) (p3 : Int32) (p4 : Int32) : Int32 := (if f_X3_atYear_j1 p1 p2 p3 p4 = 0 then (s_X3_becomes_mo (f_X3_number ((p3).toInt64) p1 (f_X3_atYear_j2 p1 p2 p3)) 3) else (if f_X3_atYear_j1 p1 p2 p3 p4 = 1 then mo else mo))
def s_X3_atYear_dy (dy : Int32) (p1 : Int32) (p2 : Int32) (p3 : Int32) (p4 : Int32) : Int32 := (if f_X3_atYear_j1 p1 p2 p3 p4 = 0 then (s_X3_becomes_dy (f_X3_number ((p3).toInt64) p1 (f_X3_atYear_j2 p1 p2 p3)) 3) else (if f_X3_atYear_j1 p1 p2 p3 p4 = 1 then dy else dy))
def pre_X3_atYear (p1 : Int32) (p2 : Int32) (p3 : Int32) (p4 : Int32) : Prop := (((f_X3_atYear_j1 p1 p2 p3 p4) = 0) → (¬ (f_X3_in ((p1).toInt64) 1 12) = 0) → (¬ (f_X3_in ((p2).toInt64) 1 (((f_X3_many 0 p1)).toInt64)) = 0) → (¬ (f_X3_isDate p4) = 0) → (¬ (f_X3_isYear ((p3).toInt64)) = 0) → (p1 ≤ 12)) ∧ (((f_X3_atYear_j1 p1 p2 p3 p4) = 0) → (¬ (f_X3_in ((p1).toInt64) 1 12) = 0) → (¬ (f_X3_in ((p2).toInt64) 1 (((f_X3_many 0 p1)).toInt64)) = 0) → (¬ (f_X3_isDate p4) = 0) → (¬ (f_X3_isYear ((p3).toInt64)) = 0) → (pre_X3_becomes p4 (f_X3_number ((p3).toInt64) p1 (f_X3_atYear_j2 p1 p2 p3)) 3))
theorem q_X3_atYear : ZY yX3_atYear wsX3_atYear cX3_atYear 5 (some .long) 4 := ⟨⟨_, rfl⟩, by decide +kernel, by decide +kernel, by decide +kernel⟩
set_option maxHeartbeats 4000000 in
set_option maxRecDepth 100000 in
theorem c_X3_atYear (l : Launch) (hfl : l.stackTraces = false) (D : va_G) (cI cJ : ClassId) (X : va_W) (z : Nat → Nat) (co : Int32) (d : Nat → Int64) (ti : Nat → Int64) (sL : Nat → Int64) (bL : Nat → Int64) (mD : Nat → Int64) (mT : Nat → Int64) (sy : Nat → Int64) (sm : Nat → Int64) (sd : Nat → Int64) (mi : Nat → Int64) (yr : Int64) (mo : Int32) (dy : Int32) (p1 : Int32) (p2 : Int32) (p3 : Int32) (p4 : Int32)  (h_g : pre_X3_atYear p1 p2 p3 p4) : ZM l yX3_atYear wsX3_atYear { frames := 7, cells := 0, slots := 0, locals := 159 } [.ref (z 0), .int p1, .int p2, .int p3, .int p4] D (zTys cI cJ) (wM cI cJ z co d ti sL bL mD mT sy sm sd mi yr mo dy X) 0 0 (fun v w => v = some (.long (f_X3_atYear p1 p2 p3 p4)) ∧ w = (wM cI cJ z (s_X3_atYear_co p1 p2 p3 p4) (s_X3_atYear_d d p1 p2 p3 p4) ti sL bL mD mT sy sm sd mi (s_X3_atYear_yr yr p1 p2 p3 p4) (s_X3_atYear_mo mo p1 p2 p3 p4) (s_X3_atYear_dy dy p1 p2 p3 p4) X)) (fun _ _ => False) := by
  refine z_open (own := RX3) hfl (cc := cX3_atYear) (maxL := 5) (ret := (some .long)) (lv := [(0, .ref (z 0)), (1, .int p1), (2, .int p2), (3, .int p3), (4, .int p4)]) rfl (by decide) rfl rfl (Nat.le_of_ble_eq_true rfl) ?_
  intro p e s m args below meth c A C hno hnm hargs
  have hin : ∀ w ∈ wsX30, w ∈ wsX3_atYear := by decide +kernel
  have w1 := C.1.2.2.2.2 (.constantLong RX3 113 (12)) (by decide +kernel)
  obtain ⟨g_0, g_1⟩ := h_g
  refine z_aload_n C dX3_atYear_0 rfl 0 rfl ?_
  refine z_iload C dX3_atYear_1 4 rfl ?_
  refine z_si (rest := [.ref (z 0)]) C (c_X3_isDate l hfl D cI cJ _ p4 ) q_X3_isDate gX3_atYear_X3_isDate ⟨rfl, rfl⟩ rfl rfl (Nat.le_of_ble_eq_true rfl) ⟨Nat.le_of_ble_eq_true rfl, Nat.le_of_ble_eq_true rfl⟩ ⟨Nat.le_of_ble_eq_true rfl, Nat.le_of_ble_eq_true rfl⟩ dX3_atYear_3 ?_
  have K1_0 : f_X3_atYear_j1 p1 p2 p3 p4 = 0 → (¬ (f_X3_in ((p1).toInt64) 1 12) = 0) → (¬ (f_X3_in ((p2).toInt64) 1 (((f_X3_many 0 p1)).toInt64)) = 0) → (¬ (f_X3_isDate p4) = 0) → (¬ (f_X3_isYear ((p3).toInt64)) = 0) → ZW p l e { frames := 7, cells := 0, slots := 0, locals := 159 } s m args below meth c 5 D (zTys cI cJ) A (zE D (zTys cI cJ) A below args s (fun v w => v = some (.long (f_X3_atYear p1 p2 p3 p4)) ∧ w = (wM cI cJ z (s_X3_atYear_co p1 p2 p3 p4) (s_X3_atYear_d d p1 p2 p3 p4) ti sL bL mD mT sy sm sd mi (s_X3_atYear_yr yr p1 p2 p3 p4) (s_X3_atYear_mo mo p1 p2 p3 p4) (s_X3_atYear_dy dy p1 p2 p3 p4) X)) (fun _ _ => False) 0 0) 0 0 (wM cI cJ z co d ti sL bL mD mT sy sm sd mi yr mo dy X) 69 [(0, .ref (z 0)), (1, .int p1), (2, .int p2), (3, .int p3), (4, .int p4)] [.int 0, .ref (z 0)] := by
    intro h5 h6 h7 h8 h9
    refine z_wi (ws' := (wM cI cJ z (s_X3_fails_co 0) d ti sL bL mD mT sy sm sd mi yr mo dy X)) (rest := []) (ci := 3) (q0 := 0) C (c_X3_fails l hfl D cI cJ X z co d ti sL bL mD mT sy sm sd mi yr mo dy (0 : Int32) ) q_X3_fails rfl rfl rfl gX3_atYear_X3_fails ⟨rfl, rfl⟩ rfl rfl (Nat.le_of_ble_eq_true rfl) ⟨Nat.le_of_ble_eq_true rfl, Nat.le_of_ble_eq_true rfl⟩ ⟨Nat.le_of_ble_eq_true rfl, Nat.le_of_ble_eq_true rfl⟩ dX3_atYear_69 ?_
    refine z_eqst (st' := [.int 0]) (congrArg (fun v => Value.int v :: _) (by decide : (f_X3_fails 0) = (0 : Int32))) ?_
    refine z_if_eq (tgt := 77) C dX3_atYear_72 (by decide) (fun _ => ?_) (fun h => absurd (by decide) h)
    refine z_aload_n C dX3_atYear_77 rfl 0 rfl ?_
    refine z_iload C dX3_atYear_78 4 rfl ?_
    refine z_iload_n C dX3_atYear_80 rfl 3 rfl ?_
    refine z_i2l (v := (p3).toInt64) C dX3_atYear_81 rfl ?_
    refine z_iload_n C dX3_atYear_82 rfl 1 rfl ?_
    refine z_iload_n C dX3_atYear_83 rfl 2 rfl ?_
    refine z_iload_n C dX3_atYear_84 rfl 3 rfl ?_
    refine z_i2l (v := (p3).toInt64) C dX3_atYear_85 rfl ?_
    refine z_iload_n C dX3_atYear_86 rfl 1 rfl ?_
    refine z_si (rest := [.int p2, .int p1, .long (p3).toInt64, .int p4, .ref (z 0)]) C (c_X3_many l hfl D cI cJ _ ((p3).toInt64) p1 ) q_X3_many gX3_atYear_X3_many ⟨rfl, rfl⟩ rfl rfl (Nat.le_of_ble_eq_true rfl) ⟨Nat.le_of_ble_eq_true rfl, Nat.le_of_ble_eq_true rfl⟩ ⟨Nat.le_of_ble_eq_true rfl, Nat.le_of_ble_eq_true rfl⟩ dX3_atYear_87 ?_
    have K2 : ∀ (v2_0 : Int32), (f_X3_atYear_j2 p1 p2 p3) = v2_0 → ZW p l e { frames := 7, cells := 0, slots := 0, locals := 159 } s m args below meth c 5 D (zTys cI cJ) A (zE D (zTys cI cJ) A below args s (fun v w => v = some (.long (f_X3_atYear p1 p2 p3 p4)) ∧ w = (wM cI cJ z (s_X3_atYear_co p1 p2 p3 p4) (s_X3_atYear_d d p1 p2 p3 p4) ti sL bL mD mT sy sm sd mi (s_X3_atYear_yr yr p1 p2 p3 p4) (s_X3_atYear_mo mo p1 p2 p3 p4) (s_X3_atYear_dy dy p1 p2 p3 p4) X)) (fun _ _ => False) 0 0) 0 0 (wM cI cJ z (s_X3_fails_co 0) d ti sL bL mD mT sy sm sd mi yr mo dy X) 103 [(0, .ref (z 0)), (1, .int p1), (2, .int p2), (3, .int p3), (4, .int p4)] [.int v2_0, .int p1, .long (p3).toInt64, .int p4, .ref (z 0)] := by
      rintro _ rfl
      refine z_sl (rest := [.int p4, .ref (z 0)]) C (c_X3_number l hfl D cI cJ _ ((p3).toInt64) p1 (f_X3_atYear_j2 p1 p2 p3) (g_0 h5 h6 h7 h8 h9)) q_X3_number gX3_atYear_X3_number ⟨rfl, rfl⟩ rfl rfl (Nat.le_of_ble_eq_true rfl) ⟨Nat.le_of_ble_eq_true rfl, Nat.le_of_ble_eq_true rfl⟩ ⟨Nat.le_of_ble_eq_true rfl, Nat.le_of_ble_eq_true rfl⟩ dX3_atYear_103 ?_
      refine z_iconst (v := 3) C dX3_atYear_106 (by decide) ?_
      refine z_wl (ws' := (wM cI cJ z (s_X3_becomes_co (f_X3_number ((p3).toInt64) p1 (f_X3_atYear_j2 p1 p2 p3)) 3) (s_X3_becomes_d d p4 (f_X3_number ((p3).toInt64) p1 (f_X3_atYear_j2 p1 p2 p3)) 3) ti sL bL mD mT sy sm sd mi (s_X3_becomes_yr (f_X3_number ((p3).toInt64) p1 (f_X3_atYear_j2 p1 p2 p3)) 3) (s_X3_becomes_mo (f_X3_number ((p3).toInt64) p1 (f_X3_atYear_j2 p1 p2 p3)) 3) (s_X3_becomes_dy (f_X3_number ((p3).toInt64) p1 (f_X3_atYear_j2 p1 p2 p3)) 3) X)) (rest := []) (ci := 3) (q0 := 0) C (c_X3_becomes l hfl D cI cJ X z (s_X3_fails_co 0) d ti sL bL mD mT sy sm sd mi yr mo dy p4 (f_X3_number ((p3).toInt64) p1 (f_X3_atYear_j2 p1 p2 p3)) (3 : Int32) (g_1 h5 h6 h7 h8 h9)) q_X3_becomes rfl rfl rfl gX3_atYear_X3_becomes ⟨rfl, rfl⟩ rfl rfl (Nat.le_of_ble_eq_true rfl) ⟨Nat.le_of_ble_eq_true rfl, Nat.le_of_ble_eq_true rfl⟩ ⟨Nat.le_of_ble_eq_true rfl, Nat.le_of_ble_eq_true rfl⟩ dX3_atYear_107 ?_
      exact z_lret C ⟨congrArg (fun v => some (Value.long v)) (by rw [f_X3_atYear, if_pos h5] : (f_X3_becomes (f_X3_number ((p3).toInt64) p1 (f_X3_atYear_j2 p1 p2 p3)) 3) = (f_X3_atYear p1 p2 p3 p4)), by rw [s_X3_atYear_co, if_pos h5, s_X3_atYear_d, if_pos h5, s_X3_atYear_yr, if_pos h5, s_X3_atYear_mo, if_pos h5, s_X3_atYear_dy, if_pos h5]⟩ (by decide) (by decide) dX3_atYear_110
    refine z_icmp_le (tgt := 102) C dX3_atYear_90 (by decide) (fun h10 => ?_) (fun h10 => ?_)
    · refine z_iload_n C dX3_atYear_102 rfl 2 rfl ?_
      exact K2 _ (by rw [f_X3_atYear_j2, if_pos h10])
    · refine z_iload_n C dX3_atYear_93 rfl 3 rfl ?_
      refine z_i2l (v := (p3).toInt64) C dX3_atYear_94 rfl ?_
      refine z_iload_n C dX3_atYear_95 rfl 1 rfl ?_
      refine z_si (rest := [.int p1, .long (p3).toInt64, .int p4, .ref (z 0)]) C (c_X3_many l hfl D cI cJ _ ((p3).toInt64) p1 ) q_X3_many gX3_atYear_X3_many ⟨rfl, rfl⟩ rfl rfl (Nat.le_of_ble_eq_true rfl) ⟨Nat.le_of_ble_eq_true rfl, Nat.le_of_ble_eq_true rfl⟩ ⟨Nat.le_of_ble_eq_true rfl, Nat.le_of_ble_eq_true rfl⟩ dX3_atYear_96 ?_
      refine z_goto (tgt := 103) C dX3_atYear_99 (by decide) ?_
      exact K2 _ (by rw [f_X3_atYear_j2, if_neg h10])
  have K1_1 : f_X3_atYear_j1 p1 p2 p3 p4 = 1 → ((f_X3_isDate p4) = 0) → ZW p l e { frames := 7, cells := 0, slots := 0, locals := 159 } s m args below meth c 5 D (zTys cI cJ) A (zE D (zTys cI cJ) A below args s (fun v w => v = some (.long (f_X3_atYear p1 p2 p3 p4)) ∧ w = (wM cI cJ z (s_X3_atYear_co p1 p2 p3 p4) (s_X3_atYear_d d p1 p2 p3 p4) ti sL bL mD mT sy sm sd mi (s_X3_atYear_yr yr p1 p2 p3 p4) (s_X3_atYear_mo mo p1 p2 p3 p4) (s_X3_atYear_dy dy p1 p2 p3 p4) X)) (fun _ _ => False) 0 0) 0 0 (wM cI cJ z co d ti sL bL mD mT sy sm sd mi yr mo dy X) 69 [(0, .ref (z 0)), (1, .int p1), (2, .int p2), (3, .int p3), (4, .int p4)] [.int 1, .ref (z 0)] := by
    intro h11 h12
    refine z_wi (ws' := (wM cI cJ z (s_X3_fails_co 1) d ti sL bL mD mT sy sm sd mi yr mo dy X)) (rest := []) (ci := 3) (q0 := 0) C (c_X3_fails l hfl D cI cJ X z co d ti sL bL mD mT sy sm sd mi yr mo dy (1 : Int32) ) q_X3_fails rfl rfl rfl gX3_atYear_X3_fails ⟨rfl, rfl⟩ rfl rfl (Nat.le_of_ble_eq_true rfl) ⟨Nat.le_of_ble_eq_true rfl, Nat.le_of_ble_eq_true rfl⟩ ⟨Nat.le_of_ble_eq_true rfl, Nat.le_of_ble_eq_true rfl⟩ dX3_atYear_69 ?_
    refine z_eqst (st' := [.int 1]) (congrArg (fun v => Value.int v :: _) (by decide : (f_X3_fails 1) = (1 : Int32))) ?_
    refine z_if_eq (tgt := 77) C dX3_atYear_72 (by decide) (fun h => absurd h (by decide)) (fun _ => ?_)
    refine z_lconst (v := 0) C dX3_atYear_75 (by decide) ?_
    exact z_lret C ⟨congrArg (fun v => some (Value.long v)) (by rw [f_X3_atYear, if_neg (by rw [h11]; decide : ¬ f_X3_atYear_j1 p1 p2 p3 p4 = 0), if_pos h11] : (0 : Int64) = (f_X3_atYear p1 p2 p3 p4)), by rw [s_X3_atYear_co, if_neg (by rw [h11]; decide : ¬ f_X3_atYear_j1 p1 p2 p3 p4 = 0), if_pos h11, s_X3_atYear_d, if_neg (by rw [h11]; decide : ¬ f_X3_atYear_j1 p1 p2 p3 p4 = 0), if_pos h11, s_X3_atYear_yr, if_neg (by rw [h11]; decide : ¬ f_X3_atYear_j1 p1 p2 p3 p4 = 0), if_pos h11, s_X3_atYear_mo, if_neg (by rw [h11]; decide : ¬ f_X3_atYear_j1 p1 p2 p3 p4 = 0), if_pos h11, s_X3_atYear_dy, if_neg (by rw [h11]; decide : ¬ f_X3_atYear_j1 p1 p2 p3 p4 = 0), if_pos h11]⟩ (by decide) (by decide) dX3_atYear_76
  have K1_2 : f_X3_atYear_j1 p1 p2 p3 p4 = 2 → (¬ (f_X3_isDate p4) = 0) → ZW p l e { frames := 7, cells := 0, slots := 0, locals := 159 } s m args below meth c 5 D (zTys cI cJ) A (zE D (zTys cI cJ) A below args s (fun v w => v = some (.long (f_X3_atYear p1 p2 p3 p4)) ∧ w = (wM cI cJ z (s_X3_atYear_co p1 p2 p3 p4) (s_X3_atYear_d d p1 p2 p3 p4) ti sL bL mD mT sy sm sd mi (s_X3_atYear_yr yr p1 p2 p3 p4) (s_X3_atYear_mo mo p1 p2 p3 p4) (s_X3_atYear_dy dy p1 p2 p3 p4) X)) (fun _ _ => False) 0 0) 0 0 (wM cI cJ z co d ti sL bL mD mT sy sm sd mi yr mo dy X) 69 [(0, .ref (z 0)), (1, .int p1), (2, .int p2), (3, .int p3), (4, .int p4)] [.int 2, .ref (z 0)] := by
    intro h13 h14
    refine z_wi (ws' := (wM cI cJ z (s_X3_fails_co 2) d ti sL bL mD mT sy sm sd mi yr mo dy X)) (rest := []) (ci := 3) (q0 := 0) C (c_X3_fails l hfl D cI cJ X z co d ti sL bL mD mT sy sm sd mi yr mo dy (2 : Int32) ) q_X3_fails rfl rfl rfl gX3_atYear_X3_fails ⟨rfl, rfl⟩ rfl rfl (Nat.le_of_ble_eq_true rfl) ⟨Nat.le_of_ble_eq_true rfl, Nat.le_of_ble_eq_true rfl⟩ ⟨Nat.le_of_ble_eq_true rfl, Nat.le_of_ble_eq_true rfl⟩ dX3_atYear_69 ?_
    refine z_eqst (st' := [.int 1]) (congrArg (fun v => Value.int v :: _) (by decide : (f_X3_fails 2) = (1 : Int32))) ?_
    refine z_if_eq (tgt := 77) C dX3_atYear_72 (by decide) (fun h => absurd h (by decide)) (fun _ => ?_)
    refine z_lconst (v := 0) C dX3_atYear_75 (by decide) ?_
    exact z_lret C ⟨congrArg (fun v => some (Value.long v)) (by rw [f_X3_atYear, if_neg (by rw [h13]; decide : ¬ f_X3_atYear_j1 p1 p2 p3 p4 = 0), if_neg (by rw [h13]; decide : ¬ f_X3_atYear_j1 p1 p2 p3 p4 = 1)] : (0 : Int64) = (f_X3_atYear p1 p2 p3 p4)), by rw [s_X3_atYear_co, if_neg (by rw [h13]; decide : ¬ f_X3_atYear_j1 p1 p2 p3 p4 = 0), if_neg (by rw [h13]; decide : ¬ f_X3_atYear_j1 p1 p2 p3 p4 = 1), s_X3_atYear_d, if_neg (by rw [h13]; decide : ¬ f_X3_atYear_j1 p1 p2 p3 p4 = 0), if_neg (by rw [h13]; decide : ¬ f_X3_atYear_j1 p1 p2 p3 p4 = 1), s_X3_atYear_yr, if_neg (by rw [h13]; decide : ¬ f_X3_atYear_j1 p1 p2 p3 p4 = 0), if_neg (by rw [h13]; decide : ¬ f_X3_atYear_j1 p1 p2 p3 p4 = 1), s_X3_atYear_mo, if_neg (by rw [h13]; decide : ¬ f_X3_atYear_j1 p1 p2 p3 p4 = 0), if_neg (by rw [h13]; decide : ¬ f_X3_atYear_j1 p1 p2 p3 p4 = 1), s_X3_atYear_dy, if_neg (by rw [h13]; decide : ¬ f_X3_atYear_j1 p1 p2 p3 p4 = 0), if_neg (by rw [h13]; decide : ¬ f_X3_atYear_j1 p1 p2 p3 p4 = 1)]⟩ (by decide) (by decide) dX3_atYear_76
  refine z_if_ne (tgt := 13) C dX3_atYear_6 (by decide) (fun h1 => ?_) (fun h1 => ?_)
  · refine z_iload_n C dX3_atYear_13 rfl 1 rfl ?_
    refine z_i2l (v := (p1).toInt64) C dX3_atYear_14 rfl ?_
    refine z_lconst (v := 1) C dX3_atYear_15 (by decide) ?_
    refine z_ldc2 (v := 12) C w1 dX3_atYear_16 ?_
    refine z_si (rest := [.ref (z 0)]) C (c_X3_in l hfl D cI cJ _ ((p1).toInt64) (1 : Int64) (12 : Int64) ) q_X3_in gX3_atYear_X3_in ⟨rfl, rfl⟩ rfl rfl (Nat.le_of_ble_eq_true rfl) ⟨Nat.le_of_ble_eq_true rfl, Nat.le_of_ble_eq_true rfl⟩ ⟨Nat.le_of_ble_eq_true rfl, Nat.le_of_ble_eq_true rfl⟩ dX3_atYear_19 ?_
    refine z_if_eq (tgt := 68) C dX3_atYear_22 (by decide) (fun h2 => ?_) (fun h2 => ?_)
    · refine z_iconst (v := 2) C dX3_atYear_68 (by decide) ?_
      exact K1_2 (by rw [f_X3_atYear_j1, if_neg h1, if_pos h2]) h1
    · refine z_iload_n C dX3_atYear_25 rfl 2 rfl ?_
      refine z_i2l (v := (p2).toInt64) C dX3_atYear_26 rfl ?_
      refine z_lconst (v := 1) C dX3_atYear_27 (by decide) ?_
      refine z_iload_n C dX3_atYear_28 rfl 1 rfl ?_
      refine z_i2l (v := (p1).toInt64) C dX3_atYear_29 rfl ?_
      refine z_lconst (v := 1) C dX3_atYear_30 (by decide) ?_
      refine z_ldc2 (v := 12) C w1 dX3_atYear_31 ?_
      refine z_si (rest := [.long 1, .long (p2).toInt64, .ref (z 0)]) C (c_X3_in l hfl D cI cJ _ ((p1).toInt64) (1 : Int64) (12 : Int64) ) q_X3_in gX3_atYear_X3_in ⟨rfl, rfl⟩ rfl rfl (Nat.le_of_ble_eq_true rfl) ⟨Nat.le_of_ble_eq_true rfl, Nat.le_of_ble_eq_true rfl⟩ ⟨Nat.le_of_ble_eq_true rfl, Nat.le_of_ble_eq_true rfl⟩ dX3_atYear_34 ?_
      refine z_if_eq (tgt := 49) C dX3_atYear_37 (by decide) (fun h => absurd h h2) (fun _ => ?_)
      refine z_lconst (v := 0) C dX3_atYear_40 (by decide) ?_
      refine z_iload_n C dX3_atYear_41 rfl 1 rfl ?_
      refine z_si (rest := [.long 1, .long (p2).toInt64, .ref (z 0)]) C (c_X3_many l hfl D cI cJ _ (0 : Int64) p1 ) q_X3_many gX3_atYear_X3_many ⟨rfl, rfl⟩ rfl rfl (Nat.le_of_ble_eq_true rfl) ⟨Nat.le_of_ble_eq_true rfl, Nat.le_of_ble_eq_true rfl⟩ ⟨Nat.le_of_ble_eq_true rfl, Nat.le_of_ble_eq_true rfl⟩ dX3_atYear_42 ?_
      refine z_i2l (v := ((f_X3_many 0 p1)).toInt64) C dX3_atYear_45 rfl ?_
      refine z_goto (tgt := 50) C dX3_atYear_46 (by decide) ?_
      refine z_si (rest := [.ref (z 0)]) C (c_X3_in l hfl D cI cJ _ ((p2).toInt64) (1 : Int64) (((f_X3_many 0 p1)).toInt64) ) q_X3_in gX3_atYear_X3_in ⟨rfl, rfl⟩ rfl rfl (Nat.le_of_ble_eq_true rfl) ⟨Nat.le_of_ble_eq_true rfl, Nat.le_of_ble_eq_true rfl⟩ ⟨Nat.le_of_ble_eq_true rfl, Nat.le_of_ble_eq_true rfl⟩ dX3_atYear_50 ?_
      refine z_if_eq (tgt := 68) C dX3_atYear_53 (by decide) (fun h3 => ?_) (fun h3 => ?_)
      · refine z_iconst (v := 2) C dX3_atYear_68 (by decide) ?_
        exact K1_2 (by rw [f_X3_atYear_j1, if_neg h1, if_neg h2, if_pos h3]) h1
      · refine z_iload_n C dX3_atYear_56 rfl 3 rfl ?_
        refine z_i2l (v := (p3).toInt64) C dX3_atYear_57 rfl ?_
        refine z_si (rest := [.ref (z 0)]) C (c_X3_isYear l hfl D cI cJ _ ((p3).toInt64) ) q_X3_isYear gX3_atYear_X3_isYear ⟨rfl, rfl⟩ rfl rfl (Nat.le_of_ble_eq_true rfl) ⟨Nat.le_of_ble_eq_true rfl, Nat.le_of_ble_eq_true rfl⟩ ⟨Nat.le_of_ble_eq_true rfl, Nat.le_of_ble_eq_true rfl⟩ dX3_atYear_58 ?_
        refine z_if_eq (tgt := 68) C dX3_atYear_61 (by decide) (fun h4 => ?_) (fun h4 => ?_)
        · refine z_iconst (v := 2) C dX3_atYear_68 (by decide) ?_
          exact K1_2 (by rw [f_X3_atYear_j1, if_neg h1, if_neg h2, if_neg h3, if_pos h4]) h1
        · refine z_iconst (v := 0) C dX3_atYear_64 (by decide) ?_
          refine z_goto (tgt := 69) C dX3_atYear_65 (by decide) ?_
          exact K1_0 (by rw [f_X3_atYear_j1, if_neg h1, if_neg h2, if_neg h3, if_neg h4]) h2 h3 h1 h4
  · refine z_iconst (v := 1) C dX3_atYear_9 (by decide) ?_
    refine z_goto (tgt := 69) C dX3_atYear_10 (by decide) ?_
    exact K1_1 (by rw [f_X3_atYear_j1, if_pos h1]) h1
def f_X3_order_j1 (p1 : Int32) (p2 : Int32) : Int32 := (if (f_X3_isDate p1) = 0 then 1 else (if (f_X3_isDate p2) = 0 then 1 else 0))
def f_X3_order (d : Nat → Int64) (p1 : Int32) (p2 : Int32) : Int32 := (if f_X3_order_j1 p1 p2 = 0 then (f_X3_ordered (d p1.toNatClampNeg) (d p2.toNatClampNeg)) else 0)
def s_X3_order_co (p1 : Int32) (p2 : Int32) : Int32 := (if f_X3_order_j1 p1 p2 = 0 then (s_X3_fails_co 0) else (s_X3_fails_co 1))
theorem q_X3_order : ZY yX3_order wsX3_order cX3_order 3 (some .int) 2 := ⟨⟨_, rfl⟩, by decide +kernel, by decide +kernel, by decide +kernel⟩
set_option maxHeartbeats 4000000 in
set_option maxRecDepth 100000 in
theorem c_X3_order (l : Launch) (hfl : l.stackTraces = false) (D : va_G) (cI cJ : ClassId) (X : va_W) (z : Nat → Nat) (co : Int32) (d : Nat → Int64) (ti : Nat → Int64) (sL : Nat → Int64) (bL : Nat → Int64) (mD : Nat → Int64) (mT : Nat → Int64) (sy : Nat → Int64) (sm : Nat → Int64) (sd : Nat → Int64) (mi : Nat → Int64) (yr : Int64) (mo : Int32) (dy : Int32) (p1 : Int32) (p2 : Int32)  : ZM l yX3_order wsX3_order { frames := 2, cells := 0, slots := 0, locals := 45 } [.ref (z 0), .int p1, .int p2] D (zTys cI cJ) (wM cI cJ z co d ti sL bL mD mT sy sm sd mi yr mo dy X) 0 0 (fun v w => v = some (.int (f_X3_order d p1 p2)) ∧ w = (wM cI cJ z (s_X3_order_co p1 p2) d ti sL bL mD mT sy sm sd mi yr mo dy X)) (fun _ _ => False) := by
  refine z_open (own := RX3) hfl (cc := cX3_order) (maxL := 3) (ret := (some .int)) (lv := [(0, .ref (z 0)), (1, .int p1), (2, .int p2)]) rfl (by decide) rfl rfl (Nat.le_of_ble_eq_true rfl) ?_
  intro p e s m args below meth c A C hno hnm hargs
  have hin : ∀ w ∈ wsX30, w ∈ wsX3_order := by decide +kernel
  have w1 := C.1.2.2.2.2 (.fieldLink RX3 13 "YearwheelModel" "dates" "[J") (by decide +kernel)
  refine z_aload_n C dX3_order_0 rfl 0 rfl ?_
  refine z_iload_n C dX3_order_1 rfl 1 rfl ?_
  refine z_si (rest := [.ref (z 0)]) C (c_X3_isDate l hfl D cI cJ _ p1 ) q_X3_isDate gX3_order_X3_isDate ⟨rfl, rfl⟩ rfl rfl (Nat.le_of_ble_eq_true rfl) ⟨Nat.le_of_ble_eq_true rfl, Nat.le_of_ble_eq_true rfl⟩ ⟨Nat.le_of_ble_eq_true rfl, Nat.le_of_ble_eq_true rfl⟩ dX3_order_2 ?_
  have K1_0 : f_X3_order_j1 p1 p2 = 0 → (¬ (f_X3_isDate p1) = 0) → (¬ (f_X3_isDate p2) = 0) → ZW p l e { frames := 2, cells := 0, slots := 0, locals := 45 } s m args below meth c 3 D (zTys cI cJ) A (zE D (zTys cI cJ) A below args s (fun v w => v = some (.int (f_X3_order d p1 p2)) ∧ w = (wM cI cJ z (s_X3_order_co p1 p2) d ti sL bL mD mT sy sm sd mi yr mo dy X)) (fun _ _ => False) 0 0) 0 0 (wM cI cJ z co d ti sL bL mD mT sy sm sd mi yr mo dy X) 20 [(0, .ref (z 0)), (1, .int p1), (2, .int p2)] [.int 0, .ref (z 0)] := by
    intro h3 h4 h5
    refine z_wi (ws' := (wM cI cJ z (s_X3_fails_co 0) d ti sL bL mD mT sy sm sd mi yr mo dy X)) (rest := []) (ci := 3) (q0 := 0) C (c_X3_fails l hfl D cI cJ X z co d ti sL bL mD mT sy sm sd mi yr mo dy (0 : Int32) ) q_X3_fails rfl rfl rfl gX3_order_X3_fails ⟨rfl, rfl⟩ rfl rfl (Nat.le_of_ble_eq_true rfl) ⟨Nat.le_of_ble_eq_true rfl, Nat.le_of_ble_eq_true rfl⟩ ⟨Nat.le_of_ble_eq_true rfl, Nat.le_of_ble_eq_true rfl⟩ dX3_order_20 ?_
    refine z_eqst (st' := [.int 0]) (congrArg (fun v => Value.int v :: _) (by decide : (f_X3_fails 0) = (0 : Int32))) ?_
    refine z_if_eq (tgt := 30) C dX3_order_23 (by decide) (fun _ => ?_) (fun h => absurd (by decide) h)
    refine z_aload_n C dX3_order_30 rfl 0 rfl ?_
    refine z_get (CC := RX3) (T := TX3) (N := 14) (ci := 3) C hin 0 rfl rfl 1 (by decide) w1 rfl rfl dX3_order_31 ?_
    refine z_iload_n C dX3_order_34 rfl 1 rfl ?_
    refine z_lald C 1 1 rfl rfl (vpMDate h4) dX3_order_35 ?_
    refine z_aload_n C dX3_order_36 rfl 0 rfl ?_
    refine z_get (CC := RX3) (T := TX3) (N := 14) (ci := 3) C hin 0 rfl rfl 1 (by decide) w1 rfl rfl dX3_order_37 ?_
    refine z_iload_n C dX3_order_40 rfl 2 rfl ?_
    refine z_lald C 1 1 rfl rfl (vpMDate h5) dX3_order_41 ?_
    refine z_si (rest := []) C (c_X3_ordered l hfl D cI cJ _ (d p1.toNatClampNeg) (d p2.toNatClampNeg) ) q_X3_ordered gX3_order_X3_ordered ⟨rfl, rfl⟩ rfl rfl (Nat.le_of_ble_eq_true rfl) ⟨Nat.le_of_ble_eq_true rfl, Nat.le_of_ble_eq_true rfl⟩ ⟨Nat.le_of_ble_eq_true rfl, Nat.le_of_ble_eq_true rfl⟩ dX3_order_42 ?_
    exact z_iret C ⟨congrArg (fun v => some (Value.int v)) (by rw [f_X3_order, if_pos h3] : (f_X3_ordered (d p1.toNatClampNeg) (d p2.toNatClampNeg)) = (f_X3_order d p1 p2)), by rw [s_X3_order_co, if_pos h3]⟩ (by decide) (by decide) dX3_order_45
  have K1_1 : f_X3_order_j1 p1 p2 = 1 → ZW p l e { frames := 2, cells := 0, slots := 0, locals := 45 } s m args below meth c 3 D (zTys cI cJ) A (zE D (zTys cI cJ) A below args s (fun v w => v = some (.int (f_X3_order d p1 p2)) ∧ w = (wM cI cJ z (s_X3_order_co p1 p2) d ti sL bL mD mT sy sm sd mi yr mo dy X)) (fun _ _ => False) 0 0) 0 0 (wM cI cJ z co d ti sL bL mD mT sy sm sd mi yr mo dy X) 20 [(0, .ref (z 0)), (1, .int p1), (2, .int p2)] [.int 1, .ref (z 0)] := by
    intro h6
    refine z_wi (ws' := (wM cI cJ z (s_X3_fails_co 1) d ti sL bL mD mT sy sm sd mi yr mo dy X)) (rest := []) (ci := 3) (q0 := 0) C (c_X3_fails l hfl D cI cJ X z co d ti sL bL mD mT sy sm sd mi yr mo dy (1 : Int32) ) q_X3_fails rfl rfl rfl gX3_order_X3_fails ⟨rfl, rfl⟩ rfl rfl (Nat.le_of_ble_eq_true rfl) ⟨Nat.le_of_ble_eq_true rfl, Nat.le_of_ble_eq_true rfl⟩ ⟨Nat.le_of_ble_eq_true rfl, Nat.le_of_ble_eq_true rfl⟩ dX3_order_20 ?_
    refine z_eqst (st' := [.int 1]) (congrArg (fun v => Value.int v :: _) (by decide : (f_X3_fails 1) = (1 : Int32))) ?_
    refine z_if_eq (tgt := 30) C dX3_order_23 (by decide) (fun h => absurd h (by decide)) (fun _ => ?_)
    refine z_iconst (v := 0) C dX3_order_26 (by decide) ?_
    refine z_goto (tgt := 45) C dX3_order_27 (by decide) ?_
    exact z_iret C ⟨congrArg (fun v => some (Value.int v)) (by rw [f_X3_order, if_neg (by rw [h6]; decide : ¬ f_X3_order_j1 p1 p2 = 0)] : (0 : Int32) = (f_X3_order d p1 p2)), by rw [s_X3_order_co, if_neg (by rw [h6]; decide : ¬ f_X3_order_j1 p1 p2 = 0)]⟩ (by decide) (by decide) dX3_order_45
  refine z_if_eq (tgt := 19) C dX3_order_5 (by decide) (fun h1 => ?_) (fun h1 => ?_)
  · refine z_iconst (v := 1) C dX3_order_19 (by decide) ?_
    exact K1_1 (by rw [f_X3_order_j1, if_pos h1]) 
  · refine z_iload_n C dX3_order_8 rfl 2 rfl ?_
    refine z_si (rest := [.ref (z 0)]) C (c_X3_isDate l hfl D cI cJ _ p2 ) q_X3_isDate gX3_order_X3_isDate ⟨rfl, rfl⟩ rfl rfl (Nat.le_of_ble_eq_true rfl) ⟨Nat.le_of_ble_eq_true rfl, Nat.le_of_ble_eq_true rfl⟩ ⟨Nat.le_of_ble_eq_true rfl, Nat.le_of_ble_eq_true rfl⟩ dX3_order_9 ?_
    refine z_if_eq (tgt := 19) C dX3_order_12 (by decide) (fun h2 => ?_) (fun h2 => ?_)
    · refine z_iconst (v := 1) C dX3_order_19 (by decide) ?_
      exact K1_1 (by rw [f_X3_order_j1, if_neg h1, if_pos h2]) 
    · refine z_iconst (v := 0) C dX3_order_15 (by decide) ?_
      refine z_goto (tgt := 20) C dX3_order_16 (by decide) ?_
      exact K1_0 (by rw [f_X3_order_j1, if_neg h1, if_neg h2]) h1 h2
def f_X3_between_j1 (p1 : Int32) (p2 : Int32) (p3 : Int32) : Int32 := (if (f_X3_isDate p1) = 0 then 1 else (if (f_X3_isDate p2) = 0 then 1 else (if (f_X3_isUnit p3) = 0 then 2 else 0)))
def f_X3_between (d : Nat → Int64) (p1 : Int32) (p2 : Int32) (p3 : Int32) : Int64 := (if f_X3_between_j1 p1 p2 p3 = 0 then (if p3 = 100 then ((d p2.toNatClampNeg) - (d p1.toNatClampNeg)) else (if p3 = 119 then (((d p2.toNatClampNeg) - (d p1.toNatClampNeg)) / 7) else (if p3 = 109 then (f_X3_monthsFrom (d p1.toNatClampNeg) (d p2.toNatClampNeg)) else ((f_X3_monthsFrom (d p1.toNatClampNeg) (d p2.toNatClampNeg)) / 12)))) else (if f_X3_between_j1 p1 p2 p3 = 1 then 0 else 0))
def s_X3_between_co (p1 : Int32) (p2 : Int32) (p3 : Int32) : Int32 := (if f_X3_between_j1 p1 p2 p3 = 0 then (if p3 = 100 then (s_X3_fails_co 0) else (if p3 = 119 then (s_X3_fails_co 0) else (if p3 = 109 then (s_X3_fails_co 0) else (s_X3_fails_co 0)))) else (if f_X3_between_j1 p1 p2 p3 = 1 then (s_X3_fails_co 1) else (s_X3_fails_co 2)))
def s_X3_between_yr (d : Nat → Int64) (yr : Int64) (p1 : Int32) (p2 : Int32) (p3 : Int32) : Int64 := (if f_X3_between_j1 p1 p2 p3 = 0 then (if p3 = 100 then yr else (if p3 = 119 then yr else (if p3 = 109 then (s_X3_monthsFrom_yr (d p1.toNatClampNeg) (d p2.toNatClampNeg)) else (s_X3_monthsFrom_yr (d p1.toNatClampNeg) (d p2.toNatClampNeg))))) else (if f_X3_between_j1 p1 p2 p3 = 1 then yr else yr))
def s_X3_between_mo (d : Nat → Int64) (mo : Int32) (p1 : Int32) (p2 : Int32) (p3 : Int32) : Int32 := (if f_X3_between_j1 p1 p2 p3 = 0 then (if p3 = 100 then mo else (if p3 = 119 then mo else (if p3 = 109 then (s_X3_monthsFrom_mo (d p1.toNatClampNeg) (d p2.toNatClampNeg)) else (s_X3_monthsFrom_mo (d p1.toNatClampNeg) (d p2.toNatClampNeg))))) else (if f_X3_between_j1 p1 p2 p3 = 1 then mo else mo))
def s_X3_between_dy (d : Nat → Int64) (dy : Int32) (p1 : Int32) (p2 : Int32) (p3 : Int32) : Int32 := (if f_X3_between_j1 p1 p2 p3 = 0 then (if p3 = 100 then dy else (if p3 = 119 then dy else (if p3 = 109 then (s_X3_monthsFrom_dy (d p1.toNatClampNeg) (d p2.toNatClampNeg)) else (s_X3_monthsFrom_dy (d p1.toNatClampNeg) (d p2.toNatClampNeg))))) else (if f_X3_between_j1 p1 p2 p3 = 1 then dy else dy))
def pre_X3_between (d : Nat → Int64) (p1 : Int32) (p2 : Int32) (p3 : Int32) : Prop := (((f_X3_between_j1 p1 p2 p3) = 0) → (¬ (f_X3_isDate p1) = 0) → (¬ (f_X3_isDate p2) = 0) → (¬ (f_X3_isUnit p3) = 0) → (¬ p3 = 100) → (¬ p3 = 119) → (¬ p3 = 109) → (pre_X3_monthsFrom (d p1.toNatClampNeg) (d p2.toNatClampNeg))) ∧ (((f_X3_between_j1 p1 p2 p3) = 0) → (¬ (f_X3_isDate p1) = 0) → (¬ (f_X3_isDate p2) = 0) → (¬ (f_X3_isUnit p3) = 0) → (¬ p3 = 100) → (¬ p3 = 119) → (p3 = 109) → (pre_X3_monthsFrom (d p1.toNatClampNeg) (d p2.toNatClampNeg)))
theorem q_X3_between : ZY yX3_between wsX3_between cX3_between 8 (some .long) 3 := ⟨⟨_, rfl⟩, by decide +kernel, by decide +kernel, by decide +kernel⟩
set_option maxHeartbeats 4000000 in
set_option maxRecDepth 100000 in
theorem c_X3_between (l : Launch) (hfl : l.stackTraces = false) (D : va_G) (cI cJ : ClassId) (X : va_W) (z : Nat → Nat) (co : Int32) (d : Nat → Int64) (ti : Nat → Int64) (sL : Nat → Int64) (bL : Nat → Int64) (mD : Nat → Int64) (mT : Nat → Int64) (sy : Nat → Int64) (sm : Nat → Int64) (sd : Nat → Int64) (mi : Nat → Int64) (yr : Int64) (mo : Int32) (dy : Int32) (p1 : Int32) (p2 : Int32) (p3 : Int32)  (h_g : pre_X3_between d p1 p2 p3) : ZM l yX3_between wsX3_between { frames := 6, cells := 0, slots := 0, locals := 142 } [.ref (z 0), .int p1, .int p2, .int p3] D (zTys cI cJ) (wM cI cJ z co d ti sL bL mD mT sy sm sd mi yr mo dy X) 0 0 (fun v w => v = some (.long (f_X3_between d p1 p2 p3)) ∧ w = (wM cI cJ z (s_X3_between_co p1 p2 p3) d ti sL bL mD mT sy sm sd mi (s_X3_between_yr d yr p1 p2 p3) (s_X3_between_mo d mo p1 p2 p3) (s_X3_between_dy d dy p1 p2 p3) X)) (fun _ _ => False) := by
  refine z_open (own := RX3) hfl (cc := cX3_between) (maxL := 8) (ret := (some .long)) (lv := [(0, .ref (z 0)), (1, .int p1), (2, .int p2), (3, .int p3)]) rfl (by decide) rfl rfl (Nat.le_of_ble_eq_true rfl) ?_
  intro p e s m args below meth c A C hno hnm hargs
  have hin : ∀ w ∈ wsX30, w ∈ wsX3_between := by decide +kernel
  have w1 := C.1.2.2.2.2 (.fieldLink RX3 13 "YearwheelModel" "dates" "[J") (by decide +kernel)
  have w2 := C.1.2.2.2.2 (.constantLong RX3 113 (12)) (by decide +kernel)
  have w3 := C.1.2.2.2.2 (.constantLong RX3 111 (7)) (by decide +kernel)
  obtain ⟨g_0, g_1⟩ := h_g
  refine z_aload_n C dX3_between_0 rfl 0 rfl ?_
  refine z_iload_n C dX3_between_1 rfl 1 rfl ?_
  refine z_si (rest := [.ref (z 0)]) C (c_X3_isDate l hfl D cI cJ _ p1 ) q_X3_isDate gX3_between_X3_isDate ⟨rfl, rfl⟩ rfl rfl (Nat.le_of_ble_eq_true rfl) ⟨Nat.le_of_ble_eq_true rfl, Nat.le_of_ble_eq_true rfl⟩ ⟨Nat.le_of_ble_eq_true rfl, Nat.le_of_ble_eq_true rfl⟩ dX3_between_2 ?_
  have K1_0 : f_X3_between_j1 p1 p2 p3 = 0 → (¬ (f_X3_isDate p1) = 0) → (¬ (f_X3_isDate p2) = 0) → (¬ (f_X3_isUnit p3) = 0) → ZW p l e { frames := 6, cells := 0, slots := 0, locals := 142 } s m args below meth c 8 D (zTys cI cJ) A (zE D (zTys cI cJ) A below args s (fun v w => v = some (.long (f_X3_between d p1 p2 p3)) ∧ w = (wM cI cJ z (s_X3_between_co p1 p2 p3) d ti sL bL mD mT sy sm sd mi (s_X3_between_yr d yr p1 p2 p3) (s_X3_between_mo d mo p1 p2 p3) (s_X3_between_dy d dy p1 p2 p3) X)) (fun _ _ => False) 0 0) 0 0 (wM cI cJ z co d ti sL bL mD mT sy sm sd mi yr mo dy X) 31 [(0, .ref (z 0)), (1, .int p1), (2, .int p2), (3, .int p3)] [.int 0, .ref (z 0)] := by
    intro h4 h5 h6 h7
    refine z_wi (ws' := (wM cI cJ z (s_X3_fails_co 0) d ti sL bL mD mT sy sm sd mi yr mo dy X)) (rest := []) (ci := 3) (q0 := 0) C (c_X3_fails l hfl D cI cJ X z co d ti sL bL mD mT sy sm sd mi yr mo dy (0 : Int32) ) q_X3_fails rfl rfl rfl gX3_between_X3_fails ⟨rfl, rfl⟩ rfl rfl (Nat.le_of_ble_eq_true rfl) ⟨Nat.le_of_ble_eq_true rfl, Nat.le_of_ble_eq_true rfl⟩ ⟨Nat.le_of_ble_eq_true rfl, Nat.le_of_ble_eq_true rfl⟩ dX3_between_31 ?_
    refine z_eqst (st' := [.int 0]) (congrArg (fun v => Value.int v :: _) (by decide : (f_X3_fails 0) = (0 : Int32))) ?_
    refine z_if_eq (tgt := 39) C dX3_between_34 (by decide) (fun _ => ?_) (fun h => absurd (by decide) h)
    refine z_aload_n C dX3_between_39 rfl 0 rfl ?_
    refine z_get (CC := RX3) (T := TX3) (N := 14) (ci := 3) C hin 0 rfl rfl 1 (by decide) w1 rfl rfl dX3_between_40 ?_
    refine z_iload_n C dX3_between_43 rfl 1 rfl ?_
    refine z_lald C 1 1 rfl rfl (vpMDate h5) dX3_between_44 ?_
    refine z_lstore (lv' := [(4, .long (d p1.toNatClampNeg)), (0, .ref (z 0)), (1, .int p1), (2, .int p2), (3, .int p3)]) C dX3_between_45 (by decide) rfl ?_
    refine z_aload_n C dX3_between_47 rfl 1 rfl ?_
    refine z_get (CC := RX3) (T := TX3) (N := 14) (ci := 3) C hin 0 rfl rfl 1 (by decide) w1 rfl rfl dX3_between_48 ?_
    refine z_iload_n C dX3_between_51 rfl 3 rfl ?_
    refine z_lald C 1 1 rfl rfl (vpMDate h6) dX3_between_52 ?_
    refine z_lstore (lv' := [(6, .long (d p2.toNatClampNeg)), (4, .long (d p1.toNatClampNeg)), (0, .ref (z 0)), (1, .int p1), (2, .int p2), (3, .int p3)]) C dX3_between_53 (by decide) rfl ?_
    refine z_iload_n C dX3_between_55 rfl 5 rfl ?_
    refine z_bipush (v := 100) C dX3_between_56 (by decide) ?_
    refine z_icmp_ne (tgt := 69) C dX3_between_58 (by decide) (fun h8 => ?_) (fun h8 => ?_)
    · refine z_iload_n C dX3_between_69 rfl 5 rfl ?_
      refine z_bipush (v := 119) C dX3_between_70 (by decide) ?_
      refine z_icmp_ne (tgt := 87) C dX3_between_72 (by decide) (fun h9 => ?_) (fun h9 => ?_)
      · refine z_iload_n C dX3_between_87 rfl 5 rfl ?_
        refine z_bipush (v := 109) C dX3_between_88 (by decide) ?_
        refine z_icmp_ne (tgt := 104) C dX3_between_90 (by decide) (fun h10 => ?_) (fun h10 => ?_)
        · refine z_aload_n C dX3_between_104 rfl 2 rfl ?_
          refine z_lload C dX3_between_105 1 rfl ?_
          refine z_lload C dX3_between_107 0 rfl ?_
          refine z_wl (ws' := (wM cI cJ z (s_X3_fails_co 0) d ti sL bL mD mT sy sm sd mi (s_X3_monthsFrom_yr (d p1.toNatClampNeg) (d p2.toNatClampNeg)) (s_X3_monthsFrom_mo (d p1.toNatClampNeg) (d p2.toNatClampNeg)) (s_X3_monthsFrom_dy (d p1.toNatClampNeg) (d p2.toNatClampNeg)) X)) (rest := []) (ci := 3) (q0 := 0) C (c_X3_monthsFrom l hfl D cI cJ X z (s_X3_fails_co 0) d ti sL bL mD mT sy sm sd mi yr mo dy (d p1.toNatClampNeg) (d p2.toNatClampNeg) (g_0 h4 h5 h6 h7 h8 h9 h10)) q_X3_monthsFrom rfl rfl rfl gX3_between_X3_monthsFrom ⟨rfl, rfl⟩ rfl rfl (Nat.le_of_ble_eq_true rfl) ⟨Nat.le_of_ble_eq_true rfl, Nat.le_of_ble_eq_true rfl⟩ ⟨Nat.le_of_ble_eq_true rfl, Nat.le_of_ble_eq_true rfl⟩ dX3_between_109 ?_
          refine z_ldc2 (v := 12) C w2 dX3_between_112 ?_
          refine z_ldiv C dX3_between_115 (by decide) ?_
          exact z_lret C ⟨congrArg (fun v => some (Value.long v)) (by rw [f_X3_between, if_pos h4, if_neg h8, if_neg h9, if_neg h10] : ((f_X3_monthsFrom (d p1.toNatClampNeg) (d p2.toNatClampNeg)) / 12) = (f_X3_between d p1 p2 p3)), by rw [s_X3_between_co, if_pos h4, if_neg h8, if_neg h9, if_neg h10, s_X3_between_yr, if_pos h4, if_neg h8, if_neg h9, if_neg h10, s_X3_between_mo, if_pos h4, if_neg h8, if_neg h9, if_neg h10, s_X3_between_dy, if_pos h4, if_neg h8, if_neg h9, if_neg h10]⟩ (by decide) (by decide) dX3_between_116
        · refine z_aload_n C dX3_between_93 rfl 2 rfl ?_
          refine z_lload C dX3_between_94 1 rfl ?_
          refine z_lload C dX3_between_96 0 rfl ?_
          refine z_wl (ws' := (wM cI cJ z (s_X3_fails_co 0) d ti sL bL mD mT sy sm sd mi (s_X3_monthsFrom_yr (d p1.toNatClampNeg) (d p2.toNatClampNeg)) (s_X3_monthsFrom_mo (d p1.toNatClampNeg) (d p2.toNatClampNeg)) (s_X3_monthsFrom_dy (d p1.toNatClampNeg) (d p2.toNatClampNeg)) X)) (rest := []) (ci := 3) (q0 := 0) C (c_X3_monthsFrom l hfl D cI cJ X z (s_X3_fails_co 0) d ti sL bL mD mT sy sm sd mi yr mo dy (d p1.toNatClampNeg) (d p2.toNatClampNeg) (g_1 h4 h5 h6 h7 h8 h9 h10)) q_X3_monthsFrom rfl rfl rfl gX3_between_X3_monthsFrom ⟨rfl, rfl⟩ rfl rfl (Nat.le_of_ble_eq_true rfl) ⟨Nat.le_of_ble_eq_true rfl, Nat.le_of_ble_eq_true rfl⟩ ⟨Nat.le_of_ble_eq_true rfl, Nat.le_of_ble_eq_true rfl⟩ dX3_between_98 ?_
          refine z_goto (tgt := 116) C dX3_between_101 (by decide) ?_
          exact z_lret C ⟨congrArg (fun v => some (Value.long v)) (by rw [f_X3_between, if_pos h4, if_neg h8, if_neg h9, if_pos h10] : (f_X3_monthsFrom (d p1.toNatClampNeg) (d p2.toNatClampNeg)) = (f_X3_between d p1 p2 p3)), by rw [s_X3_between_co, if_pos h4, if_neg h8, if_neg h9, if_pos h10, s_X3_between_yr, if_pos h4, if_neg h8, if_neg h9, if_pos h10, s_X3_between_mo, if_pos h4, if_neg h8, if_neg h9, if_pos h10, s_X3_between_dy, if_pos h4, if_neg h8, if_neg h9, if_pos h10]⟩ (by decide) (by decide) dX3_between_116
      · refine z_lload C dX3_between_75 0 rfl ?_
        refine z_lload C dX3_between_77 1 rfl ?_
        refine z_lsub C dX3_between_79 ?_
        refine z_ldc2 (v := 7) C w3 dX3_between_80 ?_
        refine z_ldiv C dX3_between_83 (by decide) ?_
        refine z_goto (tgt := 116) C dX3_between_84 (by decide) ?_
        exact z_lret C ⟨congrArg (fun v => some (Value.long v)) (by rw [f_X3_between, if_pos h4, if_neg h8, if_pos h9] : (((d p2.toNatClampNeg) - (d p1.toNatClampNeg)) / 7) = (f_X3_between d p1 p2 p3)), by rw [s_X3_between_co, if_pos h4, if_neg h8, if_pos h9, s_X3_between_yr, if_pos h4, if_neg h8, if_pos h9, s_X3_between_mo, if_pos h4, if_neg h8, if_pos h9, s_X3_between_dy, if_pos h4, if_neg h8, if_pos h9]⟩ (by decide) (by decide) dX3_between_116
    · refine z_lload C dX3_between_61 0 rfl ?_
      refine z_lload C dX3_between_63 1 rfl ?_
      refine z_lsub C dX3_between_65 ?_
      refine z_goto (tgt := 116) C dX3_between_66 (by decide) ?_
      exact z_lret C ⟨congrArg (fun v => some (Value.long v)) (by rw [f_X3_between, if_pos h4, if_pos h8] : ((d p2.toNatClampNeg) - (d p1.toNatClampNeg)) = (f_X3_between d p1 p2 p3)), by rw [s_X3_between_co, if_pos h4, if_pos h8, s_X3_between_yr, if_pos h4, if_pos h8, s_X3_between_mo, if_pos h4, if_pos h8, s_X3_between_dy, if_pos h4, if_pos h8]⟩ (by decide) (by decide) dX3_between_116
  have K1_1 : f_X3_between_j1 p1 p2 p3 = 1 → ZW p l e { frames := 6, cells := 0, slots := 0, locals := 142 } s m args below meth c 8 D (zTys cI cJ) A (zE D (zTys cI cJ) A below args s (fun v w => v = some (.long (f_X3_between d p1 p2 p3)) ∧ w = (wM cI cJ z (s_X3_between_co p1 p2 p3) d ti sL bL mD mT sy sm sd mi (s_X3_between_yr d yr p1 p2 p3) (s_X3_between_mo d mo p1 p2 p3) (s_X3_between_dy d dy p1 p2 p3) X)) (fun _ _ => False) 0 0) 0 0 (wM cI cJ z co d ti sL bL mD mT sy sm sd mi yr mo dy X) 31 [(0, .ref (z 0)), (1, .int p1), (2, .int p2), (3, .int p3)] [.int 1, .ref (z 0)] := by
    intro h11
    refine z_wi (ws' := (wM cI cJ z (s_X3_fails_co 1) d ti sL bL mD mT sy sm sd mi yr mo dy X)) (rest := []) (ci := 3) (q0 := 0) C (c_X3_fails l hfl D cI cJ X z co d ti sL bL mD mT sy sm sd mi yr mo dy (1 : Int32) ) q_X3_fails rfl rfl rfl gX3_between_X3_fails ⟨rfl, rfl⟩ rfl rfl (Nat.le_of_ble_eq_true rfl) ⟨Nat.le_of_ble_eq_true rfl, Nat.le_of_ble_eq_true rfl⟩ ⟨Nat.le_of_ble_eq_true rfl, Nat.le_of_ble_eq_true rfl⟩ dX3_between_31 ?_
    refine z_eqst (st' := [.int 1]) (congrArg (fun v => Value.int v :: _) (by decide : (f_X3_fails 1) = (1 : Int32))) ?_
    refine z_if_eq (tgt := 39) C dX3_between_34 (by decide) (fun h => absurd h (by decide)) (fun _ => ?_)
    refine z_lconst (v := 0) C dX3_between_37 (by decide) ?_
    exact z_lret C ⟨congrArg (fun v => some (Value.long v)) (by rw [f_X3_between, if_neg (by rw [h11]; decide : ¬ f_X3_between_j1 p1 p2 p3 = 0), if_pos h11] : (0 : Int64) = (f_X3_between d p1 p2 p3)), by rw [s_X3_between_co, if_neg (by rw [h11]; decide : ¬ f_X3_between_j1 p1 p2 p3 = 0), if_pos h11, s_X3_between_yr, if_neg (by rw [h11]; decide : ¬ f_X3_between_j1 p1 p2 p3 = 0), if_pos h11, s_X3_between_mo, if_neg (by rw [h11]; decide : ¬ f_X3_between_j1 p1 p2 p3 = 0), if_pos h11, s_X3_between_dy, if_neg (by rw [h11]; decide : ¬ f_X3_between_j1 p1 p2 p3 = 0), if_pos h11]⟩ (by decide) (by decide) dX3_between_38
  have K1_2 : f_X3_between_j1 p1 p2 p3 = 2 → (¬ (f_X3_isDate p1) = 0) → (¬ (f_X3_isDate p2) = 0) → ((f_X3_isUnit p3) = 0) → ZW p l e { frames := 6, cells := 0, slots := 0, locals := 142 } s m args below meth c 8 D (zTys cI cJ) A (zE D (zTys cI cJ) A below args s (fun v w => v = some (.long (f_X3_between d p1 p2 p3)) ∧ w = (wM cI cJ z (s_X3_between_co p1 p2 p3) d ti sL bL mD mT sy sm sd mi (s_X3_between_yr d yr p1 p2 p3) (s_X3_between_mo d mo p1 p2 p3) (s_X3_between_dy d dy p1 p2 p3) X)) (fun _ _ => False) 0 0) 0 0 (wM cI cJ z co d ti sL bL mD mT sy sm sd mi yr mo dy X) 31 [(0, .ref (z 0)), (1, .int p1), (2, .int p2), (3, .int p3)] [.int 2, .ref (z 0)] := by
    intro h12 h13 h14 h15
    refine z_wi (ws' := (wM cI cJ z (s_X3_fails_co 2) d ti sL bL mD mT sy sm sd mi yr mo dy X)) (rest := []) (ci := 3) (q0 := 0) C (c_X3_fails l hfl D cI cJ X z co d ti sL bL mD mT sy sm sd mi yr mo dy (2 : Int32) ) q_X3_fails rfl rfl rfl gX3_between_X3_fails ⟨rfl, rfl⟩ rfl rfl (Nat.le_of_ble_eq_true rfl) ⟨Nat.le_of_ble_eq_true rfl, Nat.le_of_ble_eq_true rfl⟩ ⟨Nat.le_of_ble_eq_true rfl, Nat.le_of_ble_eq_true rfl⟩ dX3_between_31 ?_
    refine z_eqst (st' := [.int 1]) (congrArg (fun v => Value.int v :: _) (by decide : (f_X3_fails 2) = (1 : Int32))) ?_
    refine z_if_eq (tgt := 39) C dX3_between_34 (by decide) (fun h => absurd h (by decide)) (fun _ => ?_)
    refine z_lconst (v := 0) C dX3_between_37 (by decide) ?_
    exact z_lret C ⟨congrArg (fun v => some (Value.long v)) (by rw [f_X3_between, if_neg (by rw [h12]; decide : ¬ f_X3_between_j1 p1 p2 p3 = 0), if_neg (by rw [h12]; decide : ¬ f_X3_between_j1 p1 p2 p3 = 1)] : (0 : Int64) = (f_X3_between d p1 p2 p3)), by rw [s_X3_between_co, if_neg (by rw [h12]; decide : ¬ f_X3_between_j1 p1 p2 p3 = 0), if_neg (by rw [h12]; decide : ¬ f_X3_between_j1 p1 p2 p3 = 1), s_X3_between_yr, if_neg (by rw [h12]; decide : ¬ f_X3_between_j1 p1 p2 p3 = 0), if_neg (by rw [h12]; decide : ¬ f_X3_between_j1 p1 p2 p3 = 1), s_X3_between_mo, if_neg (by rw [h12]; decide : ¬ f_X3_between_j1 p1 p2 p3 = 0), if_neg (by rw [h12]; decide : ¬ f_X3_between_j1 p1 p2 p3 = 1), s_X3_between_dy, if_neg (by rw [h12]; decide : ¬ f_X3_between_j1 p1 p2 p3 = 0), if_neg (by rw [h12]; decide : ¬ f_X3_between_j1 p1 p2 p3 = 1)]⟩ (by decide) (by decide) dX3_between_38
  refine z_if_eq (tgt := 15) C dX3_between_5 (by decide) (fun h1 => ?_) (fun h1 => ?_)
  · refine z_iconst (v := 1) C dX3_between_15 (by decide) ?_
    refine z_goto (tgt := 31) C dX3_between_16 (by decide) ?_
    exact K1_1 (by rw [f_X3_between_j1, if_pos h1]) 
  · refine z_iload_n C dX3_between_8 rfl 2 rfl ?_
    refine z_si (rest := [.ref (z 0)]) C (c_X3_isDate l hfl D cI cJ _ p2 ) q_X3_isDate gX3_between_X3_isDate ⟨rfl, rfl⟩ rfl rfl (Nat.le_of_ble_eq_true rfl) ⟨Nat.le_of_ble_eq_true rfl, Nat.le_of_ble_eq_true rfl⟩ ⟨Nat.le_of_ble_eq_true rfl, Nat.le_of_ble_eq_true rfl⟩ dX3_between_9 ?_
    refine z_if_ne (tgt := 19) C dX3_between_12 (by decide) (fun h2 => ?_) (fun h2 => ?_)
    · refine z_iload_n C dX3_between_19 rfl 3 rfl ?_
      refine z_si (rest := [.ref (z 0)]) C (c_X3_isUnit l hfl D cI cJ _ p3 ) q_X3_isUnit gX3_between_X3_isUnit ⟨rfl, rfl⟩ rfl rfl (Nat.le_of_ble_eq_true rfl) ⟨Nat.le_of_ble_eq_true rfl, Nat.le_of_ble_eq_true rfl⟩ ⟨Nat.le_of_ble_eq_true rfl, Nat.le_of_ble_eq_true rfl⟩ dX3_between_20 ?_
      refine z_if_eq (tgt := 30) C dX3_between_23 (by decide) (fun h3 => ?_) (fun h3 => ?_)
      · refine z_iconst (v := 2) C dX3_between_30 (by decide) ?_
        exact K1_2 (by rw [f_X3_between_j1, if_neg h1, if_neg h2, if_pos h3]) h1 h2 h3
      · refine z_iconst (v := 0) C dX3_between_26 (by decide) ?_
        refine z_goto (tgt := 31) C dX3_between_27 (by decide) ?_
        exact K1_0 (by rw [f_X3_between_j1, if_neg h1, if_neg h2, if_neg h3]) h1 h2 h3
    · refine z_iconst (v := 1) C dX3_between_15 (by decide) ?_
      refine z_goto (tgt := 31) C dX3_between_16 (by decide) ?_
      exact K1_1 (by rw [f_X3_between_j1, if_neg h1, if_pos h2]) 
