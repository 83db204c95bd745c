def pre_Lc32 (sL : Nat → Int64) (bL : Nat → Int64) (ou : Nat → Int64) (q1 : Int32) (q2 : Int32) : Prop := ((pre_L_lengthPart q1 ((q2.toUInt32 % 65536).toInt32))) ∧ (((s_X3_lengthPart_co q1 ((q2.toUInt32 % 65536).toInt32)) = (f_L_lengthPart q1 ((q2.toUInt32 % 65536).toInt32)))) ∧ (((f_L_lengthPart q1 ((q2.toUInt32 % 65536).toInt32)) = 0) → (((s_L_lengthPart_ou sL bL ou q1 ((q2.toUInt32 % 65536).toInt32)) 0) = (f_X3_lengthPart sL bL q1 ((q2.toUInt32 % 65536).toInt32))))
set_option maxHeartbeats 4000000 in
set_option maxRecDepth 100000 in
theorem law_c32 {p : Program} {l : Launch} {e : Env} {s : State} {m : MethodId} {args : Array Value} {below : List Frame} {meth : Method} {c : Code} {D : va_G} {cI cJ : ClassId} {A : Nat → Prop} {Q : State → Prop} {ret : Option FieldType} (C : ZC p l s m args meth c 9 D (zTys cI cJ) A cL_law wsL_law RL ret) (hfl : l.stackTraces = false) {b Ln : Nat} {xs : Nat → Int32} (hX : va_X b Ln xs s s.heap) (hbl : b < s.heap.size) (hbA : ¬ A b) (y z : Nat → Nat) (o : Nat) (d : Nat → Int64) (sy : Nat → Int32) (sm : Nat → Int32) (sd : Nat → Int32) (mi : Nat → Int32) (ti : Nat → Int64) (sL : Nat → Int64) (bL : Nat → Int64) (mD : Nat → Int64) (mT : Nat → Int64) (co : Int32) (yr : Int64) (mo : Int32) (dy : Int32) (ou : Nat → Int64) (q1 : Int32) (q2 : Int32) (q3 : Int32) (q4 : Int32) (q5 : Int32) (i4 : Int32) (hv1 : vp_in (i4 + 1) Ln) (hq1 : xs (i4 + 1).toNatClampNeg = q1) (hv2 : vp_in (i4 + 2) Ln) (hq2 : xs (i4 + 2).toNatClampNeg = q2) (hv3 : vp_in (i4 + 3) Ln) (hq3 : xs (i4 + 3).toNatClampNeg = q3) (hv4 : vp_in (i4 + 4) Ln) (hq4 : xs (i4 + 4).toNatClampNeg = q4) (hv5 : vp_in (i4 + 5) Ln) (hq5 : xs (i4 + 5).toNatClampNeg = q5) (nc ns : Nat) (hnc : nc + 6 ≤ room_1.cells) (hns : ns + 36 ≤ room_1.slots) (h_g : pre_Lc32 sL bL ou q1 q2) (kk : ZW p l e room_1 s m args below meth c 9 D (zTys cI cJ) A Q (nc + 6) (ns + 36) (wY cI cJ y d sy sm sd mi ti sL bL mD mT ((o, .inl (cJ, 1, .inr (.inl (s_L_lengthPart_ou sL bL ou q1 ((q2.toUInt32 % 65536).toInt32))))) :: (wM cI cJ z (s_X3_lengthPart_co q1 ((q2.toUInt32 % 65536).toInt32)) d ti sL bL mD mT (zw sy) (zw sm) (zw sd) (zw mi) yr mo dy []))) 4233 [(4, .int i4), (3, .ref o), (2, .ref (z 0)), (1, .ref (y 0)), (0, .ref b)] []) : ZW p l e room_1 s m args below meth c 9 D (zTys cI cJ) A Q nc ns (wY cI cJ y d sy sm sd mi ti sL bL mD mT ((o, .inl (cJ, 1, .inr (.inl ou))) :: (wM cI cJ z co d ti sL bL mD mT (zw sy) (zw sm) (zw sd) (zw mi) yr mo dy []))) 3047 [(4, .int i4), (3, .ref o), (2, .ref (z 0)), (1, .ref (y 0)), (0, .ref b)] [] := by
  obtain ⟨g_0, g_1, g_2⟩ := h_g
  refine z_aload_n C dL_law_3047 rfl 3 rfl ?_
  refine z_aload_n C dL_law_3048 rfl 4 rfl ?_
  refine z_iload C dL_law_3049 0 rfl ?_
  refine z_iconst (v := 1) C dL_law_3051 (by decide) ?_
  refine z_iadd C dL_law_3052 ?_
  refine z_sld C hX hbl hbA hv1 dL_law_3053 ?_
  refine z_eqst (st' := [.int q1, .ref (y 0)]) (congrArg (fun v => Value.int v :: _) hq1) ?_
  refine z_aload_n C dL_law_3054 rfl 4 rfl ?_
  refine z_iload C dL_law_3055 0 rfl ?_
  refine z_iconst (v := 2) C dL_law_3057 (by decide) ?_
  refine z_iadd C dL_law_3058 ?_
  refine z_sld C hX hbl hbA hv2 dL_law_3059 ?_
  refine z_eqst (st' := [.int q2, .int q1, .ref (y 0)]) (congrArg (fun v => Value.int v :: _) hq2) ?_
  refine z_i2c (v := (q2.toUInt32 % 65536).toInt32) C dL_law_3060 rfl ?_
  refine z_aload_n C dL_law_3061 rfl 1 rfl ?_
  refine z_siH (ws' := (wY cI cJ y d sy sm sd mi ti sL bL mD mT ((o, .inl (cJ, 1, .inr (.inl (s_L_lengthPart_ou sL bL ou q1 ((q2.toUInt32 % 65536).toInt32))))) :: (wM cI cJ z co d ti sL bL mD mT (zw sy) (zw sm) (zw sd) (zw mi) yr mo dy [])))) C (rest := []) (c_L_lengthPart l hfl D cI cJ (wM cI cJ z co d ti sL bL mD mT (zw sy) (zw sm) (zw sd) (zw mi) yr mo dy []) y o d sy sm sd mi ti sL bL mD mT ou q1 ((q2.toUInt32 % 65536).toInt32) (g_0)) q_L_lengthPart gL_law_L_lengthPart ⟨rfl, rfl⟩ rfl rfl (Nat.le_of_ble_eq_true rfl) ⟨Nat.le_of_ble_eq_true rfl, Nat.le_of_ble_eq_true rfl⟩ ⟨Nat.le_trans (by omega) hnc, Nat.le_trans (by omega) hns⟩ dL_law_3062 ?_
  refine z_istore (lv' := [(5, .int (f_L_lengthPart q1 ((q2.toUInt32 % 65536).toInt32))), (4, .int i4), (3, .ref o), (2, .ref (z 0)), (1, .ref (y 0)), (0, .ref b)]) C dL_law_3065 (by decide) rfl ?_
  refine z_aload_n C dL_law_3067 rfl 3 rfl ?_
  refine z_aload_n C dL_law_3068 rfl 5 rfl ?_
  refine z_iload C dL_law_3069 1 rfl ?_
  refine z_iconst (v := 1) C dL_law_3071 (by decide) ?_
  refine z_iadd C dL_law_3072 ?_
  refine z_sld C hX hbl hbA hv1 dL_law_3073 ?_
  refine z_eqst (st' := [.int q1, .ref (z 0)]) (congrArg (fun v => Value.int v :: _) hq1) ?_
  refine z_aload_n C dL_law_3074 rfl 5 rfl ?_
  refine z_iload C dL_law_3075 1 rfl ?_
  refine z_iconst (v := 2) C dL_law_3077 (by decide) ?_
  refine z_iadd C dL_law_3078 ?_
  refine z_sld C hX hbl hbA hv2 dL_law_3079 ?_
  refine z_eqst (st' := [.int q2, .int q1, .ref (z 0)]) (congrArg (fun v => Value.int v :: _) hq2) ?_
  refine z_i2c (v := (q2.toUInt32 % 65536).toInt32) C dL_law_3080 rfl ?_
  refine z_ws (ws' := (wM cI cJ z co d ti sL bL mD mT (zw sy) (zw sm) (zw sd) (zw mi) yr mo dy (wY cI cJ y d sy sm sd mi ti sL bL mD mT [(o, .inl (cJ, 1, .inr (.inl (s_L_lengthPart_ou sL bL ou q1 ((q2.toUInt32 % 65536).toInt32)))))]))) [12, 13, 14, 15, 16, 17, 18, 19, 20, 21, 22, 0, 1, 2, 3, 4, 5, 6, 7, 8, 9, 10, 11] rfl (by decide) rfl ?_
  refine z_wl (ws' := (wM cI cJ z (s_X3_lengthPart_co q1 ((q2.toUInt32 % 65536).toInt32)) d ti sL bL mD mT (zw sy) (zw sm) (zw sd) (zw mi) yr mo dy (wY cI cJ y d sy sm sd mi ti sL bL mD mT [(o, .inl (cJ, 1, .inr (.inl (s_L_lengthPart_ou sL bL ou q1 ((q2.toUInt32 % 65536).toInt32)))))]))) (rest := []) (ci := 3) (q0 := 0) C (c_X3_lengthPart l hfl D cI cJ (wY cI cJ y d sy sm sd mi ti sL bL mD mT [(o, .inl (cJ, 1, .inr (.inl (s_L_lengthPart_ou sL bL ou q1 ((q2.toUInt32 % 65536).toInt32)))))]) z co d ti sL bL mD mT (zw sy) (zw sm) (zw sd) (zw mi) yr mo dy q1 ((q2.toUInt32 % 65536).toInt32) ) q_X3_lengthPart rfl rfl rfl gL_law_X3_lengthPart ⟨rfl, rfl⟩ rfl rfl (Nat.le_of_ble_eq_true rfl) ⟨Nat.le_of_ble_eq_true rfl, Nat.le_of_ble_eq_true rfl⟩ ⟨Nat.le_trans (by omega) hnc, Nat.le_trans (by omega) hns⟩ dL_law_3081 ?_
  refine z_ws (ws' := (wY cI cJ y d sy sm sd mi ti sL bL mD mT ((o, .inl (cJ, 1, .inr (.inl (s_L_lengthPart_ou sL bL ou q1 ((q2.toUInt32 % 65536).toInt32))))) :: (wM cI cJ z (s_X3_lengthPart_co q1 ((q2.toUInt32 % 65536).toInt32)) d ti sL bL mD mT (zw sy) (zw sm) (zw sd) (zw mi) yr mo dy [])))) [11, 12, 13, 14, 15, 16, 17, 18, 19, 20, 21, 22, 0, 1, 2, 3, 4, 5, 6, 7, 8, 9, 10] rfl (by decide) rfl ?_
  refine z_lstore (lv' := [(6, .long (f_X3_lengthPart sL bL q1 ((q2.toUInt32 % 65536).toInt32))), (5, .int (f_L_lengthPart q1 ((q2.toUInt32 % 65536).toInt32))), (4, .int i4), (3, .ref o), (2, .ref (z 0)), (1, .ref (y 0)), (0, .ref b)]) C dL_law_3084 (by decide) rfl ?_
  refine z_aload_n C dL_law_3086 rfl 4 rfl ?_
  refine z_ws (ws' := (wM cI cJ z (s_X3_lengthPart_co q1 ((q2.toUInt32 % 65536).toInt32)) d ti sL bL mD mT (zw sy) (zw sm) (zw sd) (zw mi) yr mo dy (wY cI cJ y d sy sm sd mi ti sL bL mD mT [(o, .inl (cJ, 1, .inr (.inl (s_L_lengthPart_ou sL bL ou q1 ((q2.toUInt32 % 65536).toInt32)))))]))) [12, 13, 14, 15, 16, 17, 18, 19, 20, 21, 22, 0, 1, 2, 3, 4, 5, 6, 7, 8, 9, 10, 11] rfl (by decide) rfl ?_
  refine z_wi (ws' := (wM cI cJ z (s_X3_lengthPart_co q1 ((q2.toUInt32 % 65536).toInt32)) d ti sL bL mD mT (zw sy) (zw sm) (zw sd) (zw mi) yr mo dy (wY cI cJ y d sy sm sd mi ti sL bL mD mT [(o, .inl (cJ, 1, .inr (.inl (s_L_lengthPart_ou sL bL ou q1 ((q2.toUInt32 % 65536).toInt32)))))]))) (rest := []) (ci := 3) (q0 := 0) C (c_X3_thrown l hfl D cI cJ (wY cI cJ y d sy sm sd mi ti sL bL mD mT [(o, .inl (cJ, 1, .inr (.inl (s_L_lengthPart_ou sL bL ou q1 ((q2.toUInt32 % 65536).toInt32)))))]) z (s_X3_lengthPart_co q1 ((q2.toUInt32 % 65536).toInt32)) d ti sL bL mD mT (zw sy) (zw sm) (zw sd) (zw mi) yr mo dy  ) q_X3_thrown rfl rfl rfl gL_law_X3_thrown ⟨rfl, rfl⟩ rfl rfl (Nat.le_of_ble_eq_true rfl) ⟨Nat.le_of_ble_eq_true rfl, Nat.le_of_ble_eq_true rfl⟩ ⟨Nat.le_trans (by omega) hnc, Nat.le_trans (by omega) hns⟩ dL_law_3087 ?_
  refine z_ws (ws' := (wY cI cJ y d sy sm sd mi ti sL bL mD mT ((o, .inl (cJ, 1, .inr (.inl (s_L_lengthPart_ou sL bL ou q1 ((q2.toUInt32 % 65536).toInt32))))) :: (wM cI cJ z (s_X3_lengthPart_co q1 ((q2.toUInt32 % 65536).toInt32)) d ti sL bL mD mT (zw sy) (zw sm) (zw sd) (zw mi) yr mo dy [])))) [11, 12, 13, 14, 15, 16, 17, 18, 19, 20, 21, 22, 0, 1, 2, 3, 4, 5, 6, 7, 8, 9, 10] rfl (by decide) rfl ?_
  refine z_iload C dL_law_3090 1 rfl ?_
  refine z_icmp_eq (tgt := 3097) C dL_law_3092 (by decide) (fun _ => ?_) (fun h => absurd (g_1) h)
  refine z_iload C dL_law_3097 1 rfl ?_
  refine z_if_ne (tgt := 3113) C dL_law_3099 (by decide) (fun h1 => ?_) (fun h1 => ?_)
  · refine z_goto (tgt := 4233) C dL_law_3113 (by decide) ?_
    refine z_sub [2, 3, 4, 5, 6] rfl ?_
    exact z_widen (by omega) (by omega) kk
  · refine z_aload_n C dL_law_3102 rfl 3 rfl ?_
    refine z_iconst (v := 0) C dL_law_3103 (by decide) ?_
    refine z_lald C 11 1 rfl rfl (zvpl 0 1 (by decide)) dL_law_3104 ?_
    refine z_eqst (st' := [.long ((s_L_lengthPart_ou sL bL ou q1 ((q2.toUInt32 % 65536).toInt32)) 0)]) rfl ?_
    refine z_lload C dL_law_3105 0 rfl ?_
    refine z_lcmp_eq (tgt := 3113) C dL_law_3107 dL_law_3108 (by decide) (fun _ => ?_) (fun h => absurd (g_2 h1) h)
    refine z_goto (tgt := 4233) C dL_law_3113 (by decide) ?_
    refine z_sub [2, 3, 4, 5, 6] rfl ?_
    exact z_widen (by omega) (by omega) kk
def f_Lc33_j1 (q3 : Int32) : Int32 := (if q3 = 0 then 0 else 1)
def pre_Lc33 (sL : Nat → Int64) (bL : Nat → Int64) (ou : Nat → Int64) (q1 : Int32) (q2 : Int32) (q3 : Int32) (q4 : Int32) : Prop := ((pre_L_addLength sL bL q1 q2 (f_Lc33_j1 q3) q4)) ∧ (((s_X3_addLength_co sL bL q1 q2 (f_Lc33_j1 q3) q4) = (f_L_addLength sL bL q1 q2 (f_Lc33_j1 q3) q4))) ∧ (((f_L_addLength sL bL q1 q2 (f_Lc33_j1 q3) q4) = 0) → (((s_L_addLength_ou sL bL ou q1 q2 (f_Lc33_j1 q3) q4) 0) = (f_X3_addLength sL bL q1 q2 (f_Lc33_j1 q3) q4)))
set_option maxHeartbeats 4000000 in
set_option maxRecDepth 100000 in
theorem law_c33 {p : Program} {l : Launch} {e : Env} {s : State} {m : MethodId} {args : Array Value} {below : List Frame} {meth : Method} {c : Code} {D : va_G} {cI cJ : ClassId} {A : Nat → Prop} {Q : State → Prop} {ret : Option FieldType} (C : ZC p l s m args meth c 9 D (zTys cI cJ) A cL_law wsL_law RL ret) (hfl : l.stackTraces = false) {b Ln : Nat} {xs : Nat → Int32} (hX : va_X b Ln xs s s.heap) (hbl : b < s.heap.size) (hbA : ¬ A b) (y z : Nat → Nat) (o : Nat) (d : Nat → Int64) (sy : Nat → Int32) (sm : Nat → Int32) (sd : Nat → Int32) (mi : Nat → Int32) (ti : Nat → Int64) (sL : Nat → Int64) (bL : Nat → Int64) (mD : Nat → Int64) (mT : Nat → Int64) (co : Int32) (yr : Int64) (mo : Int32) (dy : Int32) (ou : Nat → Int64) (q1 : Int32) (q2 : Int32) (q3 : Int32) (q4 : Int32) (q5 : Int32) (i4 : Int32) (hv1 : vp_in (i4 + 1) Ln) (hq1 : xs (i4 + 1).toNatClampNeg = q1) (hv2 : vp_in (i4 + 2) Ln) (hq2 : xs (i4 + 2).toNatClampNeg = q2) (hv3 : vp_in (i4 + 3) Ln) (hq3 : xs (i4 + 3).toNatClampNeg = q3) (hv4 : vp_in (i4 + 4) Ln) (hq4 : xs (i4 + 4).toNatClampNeg = q4) (hv5 : vp_in (i4 + 5) Ln) (hq5 : xs (i4 + 5).toNatClampNeg = q5) (nc ns : Nat) (hnc : nc + 6 ≤ room_1.cells) (hns : ns + 36 ≤ room_1.slots) (h_g : pre_Lc33 sL bL ou q1 q2 q3 q4) (kk : ZW p l e room_1 s m args below meth c 9 D (zTys cI cJ) A Q (nc + 6) (ns + 36) (wY cI cJ y d sy sm sd mi ti (s_L_addLength_sL sL bL q1 q2 (f_Lc33_j1 q3) q4) (s_L_addLength_bL sL bL q1 q2 (f_Lc33_j1 q3) q4) mD mT ((o, .inl (cJ, 1, .inr (.inl (s_L_addLength_ou sL bL ou q1 q2 (f_Lc33_j1 q3) q4)))) :: (wM cI cJ z (s_X3_addLength_co sL bL q1 q2 (f_Lc33_j1 q3) q4) d ti (s_X3_addLength_sL sL bL q1 q2 (f_Lc33_j1 q3) q4) (s_X3_addLength_bL sL bL q1 q2 (f_Lc33_j1 q3) q4) mD mT (zw sy) (zw sm) (zw sd) (zw mi) yr mo dy []))) 4233 [(4, .int i4), (3, .ref o), (2, .ref (z 0)), (1, .ref (y 0)), (0, .ref b)] []) : ZW p l e room_1 s m args below meth c 9 D (zTys cI cJ) A Q nc ns (wY cI cJ y d sy sm sd mi ti sL bL mD mT ((o, .inl (cJ, 1, .inr (.inl ou))) :: (wM cI cJ z co d ti sL bL mD mT (zw sy) (zw sm) (zw sd) (zw mi) yr mo dy []))) 3116 [(4, .int i4), (3, .ref o), (2, .ref (z 0)), (1, .ref (y 0)), (0, .ref b)] [] := by
  obtain ⟨g_0, g_1, g_2⟩ := h_g
  refine z_aload_n C dL_law_3116 rfl 3 rfl ?_
  refine z_aload_n C dL_law_3117 rfl 4 rfl ?_
  refine z_iload C dL_law_3118 0 rfl ?_
  refine z_iconst (v := 1) C dL_law_3120 (by decide) ?_
  refine z_iadd C dL_law_3121 ?_
  refine z_sld C hX hbl hbA hv1 dL_law_3122 ?_
  refine z_eqst (st' := [.int q1, .ref (y 0)]) (congrArg (fun v => Value.int v :: _) hq1) ?_
  refine z_aload_n C dL_law_3123 rfl 4 rfl ?_
  refine z_iload C dL_law_3124 0 rfl ?_
  refine z_iconst (v := 2) C dL_law_3126 (by decide) ?_
  refine z_iadd C dL_law_3127 ?_
  refine z_sld C hX hbl hbA hv2 dL_law_3128 ?_
  refine z_eqst (st' := [.int q2, .int q1, .ref (y 0)]) (congrArg (fun v => Value.int v :: _) hq2) ?_
  refine z_aload_n C dL_law_3129 rfl 4 rfl ?_
  refine z_iload C dL_law_3130 0 rfl ?_
  refine z_iconst (v := 3) C dL_law_3132 (by decide) ?_
  refine z_iadd C dL_law_3133 ?_
  refine z_sld C hX hbl hbA hv3 dL_law_3134 ?_
  refine z_eqst (st' := [.int q3, .int q2, .int q1, .ref (y 0)]) (congrArg (fun v => Value.int v :: _) hq3) ?_
  have K1 : ∀ (v1_0 : Int32), (f_Lc33_j1 q3) = v1_0 → ZW p l e room_1 s m args below meth c 9 D (zTys cI cJ) A Q nc ns (wY cI cJ y d sy sm sd mi ti sL bL mD mT ((o, .inl (cJ, 1, .inr (.inl ou))) :: (wM cI cJ z co d ti sL bL mD mT (zw sy) (zw sm) (zw sd) (zw mi) yr mo dy []))) 3143 [(4, .int i4), (3, .ref o), (2, .ref (z 0)), (1, .ref (y 0)), (0, .ref b)] [.int v1_0, .int q2, .int q1, .ref (y 0)] := by
    rintro _ rfl
    refine z_aload_n C dL_law_3143 rfl 4 rfl ?_
    refine z_iload C dL_law_3144 0 rfl ?_
    refine z_iconst (v := 4) C dL_law_3146 (by decide) ?_
    refine z_iadd C dL_law_3147 ?_
    refine z_sld C hX hbl hbA hv4 dL_law_3148 ?_
    refine z_eqst (st' := [.int q4, .int (f_Lc33_j1 q3), .int q2, .int q1, .ref (y 0)]) (congrArg (fun v => Value.int v :: _) hq4) ?_
    refine z_aload_n C dL_law_3149 rfl 1 rfl ?_
    refine z_siH (ws' := (wY cI cJ y d sy sm sd mi ti (s_L_addLength_sL sL bL q1 q2 (f_Lc33_j1 q3) q4) (s_L_addLength_bL sL bL q1 q2 (f_Lc33_j1 q3) q4) mD mT ((o, .inl (cJ, 1, .inr (.inl (s_L_addLength_ou sL bL ou q1 q2 (f_Lc33_j1 q3) q4)))) :: (wM cI cJ z co d ti sL bL mD mT (zw sy) (zw sm) (zw sd) (zw mi) yr mo dy [])))) C (rest := []) (c_L_addLength l hfl D cI cJ (wM cI cJ z co d ti sL bL mD mT (zw sy) (zw sm) (zw sd) (zw mi) yr mo dy []) y o d sy sm sd mi ti sL bL mD mT ou q1 q2 (f_Lc33_j1 q3) q4 (g_0)) q_L_addLength gL_law_L_addLength ⟨rfl, rfl⟩ rfl rfl (Nat.le_of_ble_eq_true rfl) ⟨Nat.le_of_ble_eq_true rfl, Nat.le_of_ble_eq_true rfl⟩ ⟨Nat.le_trans (by omega) hnc, Nat.le_trans (by omega) hns⟩ dL_law_3150 ?_
    refine z_istore (lv' := [(5, .int (f_L_addLength sL bL q1 q2 (f_Lc33_j1 q3) q4)), (4, .int i4), (3, .ref o), (2, .ref (z 0)), (1, .ref (y 0)), (0, .ref b)]) C dL_law_3153 (by decide) rfl ?_
    refine z_aload_n C dL_law_3155 rfl 3 rfl ?_
    refine z_aload_n C dL_law_3156 rfl 5 rfl ?_
    refine z_iload C dL_law_3157 1 rfl ?_
    refine z_iconst (v := 1) C dL_law_3159 (by decide) ?_
    refine z_iadd C dL_law_3160 ?_
    refine z_sld C hX hbl hbA hv1 dL_law_3161 ?_
    refine z_eqst (st' := [.int q1, .ref (z 0)]) (congrArg (fun v => Value.int v :: _) hq1) ?_
    refine z_aload_n C dL_law_3162 rfl 5 rfl ?_
    refine z_iload C dL_law_3163 1 rfl ?_
    refine z_iconst (v := 2) C dL_law_3165 (by decide) ?_
    refine z_iadd C dL_law_3166 ?_
    refine z_sld C hX hbl hbA hv2 dL_law_3167 ?_
    refine z_eqst (st' := [.int q2, .int q1, .ref (z 0)]) (congrArg (fun v => Value.int v :: _) hq2) ?_
    refine z_aload_n C dL_law_3168 rfl 5 rfl ?_
    refine z_iload C dL_law_3169 1 rfl ?_
    refine z_iconst (v := 3) C dL_law_3171 (by decide) ?_
    refine z_iadd C dL_law_3172 ?_
    refine z_sld C hX hbl hbA hv3 dL_law_3173 ?_
    refine z_eqst (st' := [.int q3, .int q2, .int q1, .ref (z 0)]) (congrArg (fun v => Value.int v :: _) hq3) ?_
    have K2 : ∀ (v2_0 : Int32), (f_Lc33_j1 q3) = v2_0 → ZW p l e room_1 s m args below meth c 9 D (zTys cI cJ) A Q (nc + 4) (ns + 24) (wY cI cJ y d sy sm sd mi ti (s_L_addLength_sL sL bL q1 q2 (f_Lc33_j1 q3) q4) (s_L_addLength_bL sL bL q1 q2 (f_Lc33_j1 q3) q4) mD mT ((o, .inl (cJ, 1, .inr (.inl (s_L_addLength_ou sL bL ou q1 q2 (f_Lc33_j1 q3) q4)))) :: (wM cI cJ z co d ti sL bL mD mT (zw sy) (zw sm) (zw sd) (zw mi) yr mo dy []))) 3182 [(5, .int (f_L_addLength sL bL q1 q2 (f_Lc33_j1 q3) q4)), (4, .int i4), (3, .ref o), (2, .ref (z 0)), (1, .ref (y 0)), (0, .ref b)] [.int v2_0, .int q2, .int q1, .ref (z 0)] := by
      rintro _ rfl
      refine z_aload_n C dL_law_3182 rfl 5 rfl ?_
      refine z_iload C dL_law_3183 1 rfl ?_
      refine z_iconst (v := 4) C dL_law_3185 (by decide) ?_
      refine z_iadd C dL_law_3186 ?_
      refine z_sld C hX hbl hbA hv4 dL_law_3187 ?_
      refine z_eqst (st' := [.int q4, .int (f_Lc33_j1 q3), .int q2, .int q1, .ref (z 0)]) (congrArg (fun v => Value.int v :: _) hq4) ?_
      refine z_ws (ws' := (wM cI cJ z co d ti sL bL mD mT (zw sy) (zw sm) (zw sd) (zw mi) yr mo dy (wY cI cJ y d sy sm sd mi ti (s_L_addLength_sL sL bL q1 q2 (f_Lc33_j1 q3) q4) (s_L_addLength_bL sL bL q1 q2 (f_Lc33_j1 q3) q4) mD mT [(o, .inl (cJ, 1, .inr (.inl (s_L_addLength_ou sL bL ou q1 q2 (f_Lc33_j1 q3) q4))))]))) [12, 13, 14, 15, 16, 17, 18, 19, 20, 21, 22, 0, 1, 2, 3, 4, 5, 6, 7, 8, 9, 10, 11] rfl (by decide) rfl ?_
      refine z_wl (ws' := (wM cI cJ z (s_X3_addLength_co sL bL q1 q2 (f_Lc33_j1 q3) q4) d ti (s_X3_addLength_sL sL bL q1 q2 (f_Lc33_j1 q3) q4) (s_X3_addLength_bL sL bL q1 q2 (f_Lc33_j1 q3) q4) mD mT (zw sy) (zw sm) (zw sd) (zw mi) yr mo dy (wY cI cJ y d sy sm sd mi ti (s_L_addLength_sL sL bL q1 q2 (f_Lc33_j1 q3) q4) (s_L_addLength_bL sL bL q1 q2 (f_Lc33_j1 q3) q4) mD mT [(o, .inl (cJ, 1, .inr (.inl (s_L_addLength_ou sL bL ou q1 q2 (f_Lc33_j1 q3) q4))))]))) (rest := []) (ci := 3) (q0 := 0) C (c_X3_addLength l hfl D cI cJ (wY cI cJ y d sy sm sd mi ti (s_L_addLength_sL sL bL q1 q2 (f_Lc33_j1 q3) q4) (s_L_addLength_bL sL bL q1 q2 (f_Lc33_j1 q3) q4) mD mT [(o, .inl (cJ, 1, .inr (.inl (s_L_addLength_ou sL bL ou q1 q2 (f_Lc33_j1 q3) q4))))]) z co d ti sL bL mD mT (zw sy) (zw sm) (zw sd) (zw mi) yr mo dy q1 q2 (f_Lc33_j1 q3) q4 ) q_X3_addLength rfl rfl rfl gL_law_X3_addLength ⟨rfl, rfl⟩ rfl rfl (Nat.le_of_ble_eq_true rfl) ⟨Nat.le_of_ble_eq_true rfl, Nat.le_of_ble_eq_true rfl⟩ ⟨Nat.le_trans (by omega) hnc, Nat.le_trans (by omega) hns⟩ dL_law_3188 ?_
      refine z_ws (ws' := (wY cI cJ y d sy sm sd mi ti (s_L_addLength_sL sL bL q1 q2 (f_Lc33_j1 q3) q4) (s_L_addLength_bL sL bL q1 q2 (f_Lc33_j1 q3) q4) mD mT ((o, .inl (cJ, 1, .inr (.inl (s_L_addLength_ou sL bL ou q1 q2 (f_Lc33_j1 q3) q4)))) :: (wM cI cJ z (s_X3_addLength_co sL bL q1 q2 (f_Lc33_j1 q3) q4) d ti (s_X3_addLength_sL sL bL q1 q2 (f_Lc33_j1 q3) q4) (s_X3_addLength_bL sL bL q1 q2 (f_Lc33_j1 q3) q4) mD mT (zw sy) (zw sm) (zw sd) (zw mi) yr mo dy [])))) [11, 12, 13, 14, 15, 16, 17, 18, 19, 20, 21, 22, 0, 1, 2, 3, 4, 5, 6, 7, 8, 9, 10] rfl (by decide) rfl ?_
      refine z_lstore (lv' := [(6, .long (f_X3_addLength sL bL q1 q2 (f_Lc33_j1 q3) q4)), (5, .int (f_L_addLength sL bL q1 q2 (f_Lc33_j1 q3) q4)), (4, .int i4), (3, .ref o), (2, .ref (z 0)), (1, .ref (y 0)), (0, .ref b)]) C dL_law_3191 (by decide) rfl ?_
      refine z_aload_n C dL_law_3193 rfl 4 rfl ?_
      refine z_ws (ws' := (wM cI cJ z (s_X3_addLength_co sL bL q1 q2 (f_Lc33_j1 q3) q4) d ti (s_X3_addLength_sL sL bL q1 q2 (f_Lc33_j1 q3) q4) (s_X3_addLength_bL sL bL q1 q2 (f_Lc33_j1 q3) q4) mD mT (zw sy) (zw sm) (zw sd) (zw mi) yr mo dy (wY cI cJ y d sy sm sd mi ti (s_L_addLength_sL sL bL q1 q2 (f_Lc33_j1 q3) q4) (s_L_addLength_bL sL bL q1 q2 (f_Lc33_j1 q3) q4) mD mT [(o, .inl (cJ, 1, .inr (.inl (s_L_addLength_ou sL bL ou q1 q2 (f_Lc33_j1 q3) q4))))]))) [12, 13, 14, 15, 16, 17, 18, 19, 20, 21, 22, 0, 1, 2, 3, 4, 5, 6, 7, 8, 9, 10, 11] rfl (by decide) rfl ?_
      refine z_wi (ws' := (wM cI cJ z (s_X3_addLength_co sL bL q1 q2 (f_Lc33_j1 q3) q4) d ti (s_X3_addLength_sL sL bL q1 q2 (f_Lc33_j1 q3) q4) (s_X3_addLength_bL sL bL q1 q2 (f_Lc33_j1 q3) q4) mD mT (zw sy) (zw sm) (zw sd) (zw mi) yr mo dy (wY cI cJ y d sy sm sd mi ti (s_L_addLength_sL sL bL q1 q2 (f_Lc33_j1 q3) q4) (s_L_addLength_bL sL bL q1 q2 (f_Lc33_j1 q3) q4) mD mT [(o, .inl (cJ, 1, .inr (.inl (s_L_addLength_ou sL bL ou q1 q2 (f_Lc33_j1 q3) q4))))]))) (rest := []) (ci := 3) (q0 := 0) C (c_X3_thrown l hfl D cI cJ (wY cI cJ y d sy sm sd mi ti (s_L_addLength_sL sL bL q1 q2 (f_Lc33_j1 q3) q4) (s_L_addLength_bL sL bL q1 q2 (f_Lc33_j1 q3) q4) mD mT [(o, .inl (cJ, 1, .inr (.inl (s_L_addLength_ou sL bL ou q1 q2 (f_Lc33_j1 q3) q4))))]) z (s_X3_addLength_co sL bL q1 q2 (f_Lc33_j1 q3) q4) d ti (s_X3_addLength_sL sL bL q1 q2 (f_Lc33_j1 q3) q4) (s_X3_addLength_bL sL bL q1 q2 (f_Lc33_j1 q3) q4) mD mT (zw sy) (zw sm) (zw sd) (zw mi) yr mo dy  ) q_X3_thrown rfl rfl rfl gL_law_X3_thrown ⟨rfl, rfl⟩ rfl rfl (Nat.le_of_ble_eq_true rfl) ⟨Nat.le_of_ble_eq_true rfl, Nat.le_of_ble_eq_true rfl⟩ ⟨Nat.le_trans (by omega) hnc, Nat.le_trans (by omega) hns⟩ dL_law_3194 ?_
      refine z_ws (ws' := (wY cI cJ y d sy sm sd mi ti (s_L_addLength_sL sL bL q1 q2 (f_Lc33_j1 q3) q4) (s_L_addLength_bL sL bL q1 q2 (f_Lc33_j1 q3) q4) mD mT ((o, .inl (cJ, 1, .inr (.inl (s_L_addLength_ou sL bL ou q1 q2 (f_Lc33_j1 q3) q4)))) :: (wM cI cJ z (s_X3_addLength_co sL bL q1 q2 (f_Lc33_j1 q3) q4) d ti (s_X3_addLength_sL sL bL q1 q2 (f_Lc33_j1 q3) q4) (s_X3_addLength_bL sL bL q1 q2 (f_Lc33_j1 q3) q4) mD mT (zw sy) (zw sm) (zw sd) (zw mi) yr mo dy [])))) [11, 12, 13, 14, 15, 16, 17, 18, 19, 20, 21, 22, 0, 1, 2, 3, 4, 5, 6, 7, 8, 9, 10] rfl (by decide) rfl ?_
      refine z_iload C dL_law_3197 1 rfl ?_
      refine z_icmp_eq (tgt := 3204) C dL_law_3199 (by decide) (fun _ => ?_) (fun h => absurd (g_1) h)
      refine z_iload C dL_law_3204 1 rfl ?_
      refine z_if_ne (tgt := 3220) C dL_law_3206 (by decide) (fun h3 => ?_) (fun h3 => ?_)
      · refine z_goto (tgt := 4233) C dL_law_3220 (by decide) ?_
        refine z_sub [2, 3, 4, 5, 6] rfl ?_
        exact z_widen (by omega) (by omega) kk
      · refine z_aload_n C dL_law_3209 rfl 3 rfl ?_
        refine z_iconst (v := 0) C dL_law_3210 (by decide) ?_
        refine z_lald C 11 1 rfl rfl (zvpl 0 1 (by decide)) dL_law_3211 ?_
        refine z_eqst (st' := [.long ((s_L_addLength_ou sL bL ou q1 q2 (f_Lc33_j1 q3) q4) 0)]) rfl ?_
        refine z_lload C dL_law_3212 0 rfl ?_
        refine z_lcmp_eq (tgt := 3220) C dL_law_3214 dL_law_3215 (by decide) (fun _ => ?_) (fun h => absurd (g_2 h3) h)
        refine z_goto (tgt := 4233) C dL_law_3220 (by decide) ?_
        refine z_sub [2, 3, 4, 5, 6] rfl ?_
        exact z_widen (by omega) (by omega) kk
    refine z_if_eq (tgt := 3181) C dL_law_3174 (by decide) (fun h2 => ?_) (fun h2 => ?_)
    · refine z_iconst (v := 0) C dL_law_3181 (by decide) ?_
      exact K2 _ (by rw [f_Lc33_j1, if_pos h2])
    · refine z_iconst (v := 1) C dL_law_3177 (by decide) ?_
      refine z_goto (tgt := 3182) C dL_law_3178 (by decide) ?_
      exact K2 _ (by rw [f_Lc33_j1, if_neg h2])
  refine z_if_eq (tgt := 3142) C dL_law_3135 (by decide) (fun h1 => ?_) (fun h1 => ?_)
  · refine z_iconst (v := 0) C dL_law_3142 (by decide) ?_
    exact K1 _ (by rw [f_Lc33_j1, if_pos h1])
  · refine z_iconst (v := 1) C dL_law_3138 (by decide) ?_
    refine z_goto (tgt := 3143) C dL_law_3139 (by decide) ?_
    exact K1 _ (by rw [f_Lc33_j1, if_neg h1])
def pre_Lc34 (sL : Nat → Int64) (bL : Nat → Int64) (ou : Nat → Int64) (q1 : Int32) (q2 : Int32) (q3 : Int32) : Prop := (((s_X3_timesLength_co sL bL q1 q2 q3) = (f_L_timesLength sL bL q1 q2 q3))) ∧ (((f_L_timesLength sL bL q1 q2 q3) = 0) → (((s_L_timesLength_ou sL bL ou q1 q2 q3) 0) = (f_X3_timesLength sL bL q1 q2 q3)))
set_option maxHeartbeats 4000000 in
set_option maxRecDepth 100000 in
theorem law_c34 {p : Program} {l : Launch} {e : Env} {s : State} {m : MethodId} {args : Array Value} {below : List Frame} {meth : Method} {c : Code} {D : va_G} {cI cJ : ClassId} {A : Nat → Prop} {Q : State → Prop} {ret : Option FieldType} (C : ZC p l s m args meth c 9 D (zTys cI cJ) A cL_law wsL_law RL ret) (hfl : l.stackTraces = false) {b Ln : Nat} {xs : Nat → Int32} (hX : va_X b Ln xs s s.heap) (hbl : b < s.heap.size) (hbA : ¬ A b) (y z : Nat → Nat) (o : Nat) (d : Nat → Int64) (sy : Nat → Int32) (sm : Nat → Int32) (sd : Nat → Int32) (mi : Nat → Int32) (ti : Nat → Int64) (sL : Nat → Int64) (bL : Nat → Int64) (mD : Nat → Int64) (mT : Nat → Int64) (co : Int32) (yr : Int64) (mo : Int32) (dy : Int32) (ou : Nat → Int64) (q1 : Int32) (q2 : Int32) (q3 : Int32) (q4 : Int32) (q5 : Int32) (i4 : Int32) (hv1 : vp_in (i4 + 1) Ln) (hq1 : xs (i4 + 1).toNatClampNeg = q1) (hv2 : vp_in (i4 + 2) Ln) (hq2 : xs (i4 + 2).toNatClampNeg = q2) (hv3 : vp_in (i4 + 3) Ln) (hq3 : xs (i4 + 3).toNatClampNeg = q3) (hv4 : vp_in (i4 + 4) Ln) (hq4 : xs (i4 + 4).toNatClampNeg = q4) (hv5 : vp_in (i4 + 5) Ln) (hq5 : xs (i4 + 5).toNatClampNeg = q5) (nc ns : Nat) (hnc : nc + 6 ≤ room_1.cells) (hns : ns + 36 ≤ room_1.slots) (h_g : pre_Lc34 sL bL ou q1 q2 q3) (kk : ZW p l e room_1 s m args below meth c 9 D (zTys cI cJ) A Q (nc + 6) (ns + 36) (wY cI cJ y d sy sm sd mi ti (s_L_timesLength_sL sL bL q1 q2 q3) (s_L_timesLength_bL sL bL q1 q2 q3) mD mT ((o, .inl (cJ, 1, .inr (.inl (s_L_timesLength_ou sL bL ou q1 q2 q3)))) :: (wM cI cJ z (s_X3_timesLength_co sL bL q1 q2 q3) d ti (s_X3_timesLength_sL sL bL q1 q2 q3) (s_X3_timesLength_bL sL bL q1 q2 q3) mD mT (zw sy) (zw sm) (zw sd) (zw mi) yr mo dy []))) 4233 [(4, .int i4), (3, .ref o), (2, .ref (z 0)), (1, .ref (y 0)), (0, .ref b)] []) : ZW p l e room_1 s m args below meth c 9 D (zTys cI cJ) A Q nc ns (wY cI cJ y d sy sm sd mi ti sL bL mD mT ((o, .inl (cJ, 1, .inr (.inl ou))) :: (wM cI cJ z co d ti sL bL mD mT (zw sy) (zw sm) (zw sd) (zw mi) yr mo dy []))) 3223 [(4, .int i4), (3, .ref o), (2, .ref (z 0)), (1, .ref (y 0)), (0, .ref b)] [] := by
  obtain ⟨g_0, g_1⟩ := h_g
  refine z_aload_n C dL_law_3223 rfl 3 rfl ?_
  refine z_aload_n C dL_law_3224 rfl 4 rfl ?_
  refine z_iload C dL_law_3225 0 rfl ?_
  refine z_iconst (v := 1) C dL_law_3227 (by decide) ?_
  refine z_iadd C dL_law_3228 ?_
  refine z_sld C hX hbl hbA hv1 dL_law_3229 ?_
  refine z_eqst (st' := [.int q1, .ref (y 0)]) (congrArg (fun v => Value.int v :: _) hq1) ?_
  refine z_aload_n C dL_law_3230 rfl 4 rfl ?_
  refine z_iload C dL_law_3231 0 rfl ?_
  refine z_iconst (v := 2) C dL_law_3233 (by decide) ?_
  refine z_iadd C dL_law_3234 ?_
  refine z_sld C hX hbl hbA hv2 dL_law_3235 ?_
  refine z_eqst (st' := [.int q2, .int q1, .ref (y 0)]) (congrArg (fun v => Value.int v :: _) hq2) ?_
  refine z_aload_n C dL_law_3236 rfl 4 rfl ?_
  refine z_iload C dL_law_3237 0 rfl ?_
  refine z_iconst (v := 3) C dL_law_3239 (by decide) ?_
  refine z_iadd C dL_law_3240 ?_
  refine z_sld C hX hbl hbA hv3 dL_law_3241 ?_
  refine z_eqst (st' := [.int q3, .int q2, .int q1, .ref (y 0)]) (congrArg (fun v => Value.int v :: _) hq3) ?_
  refine z_aload_n C dL_law_3242 rfl 1 rfl ?_
  refine z_siH (ws' := (wY cI cJ y d sy sm sd mi ti (s_L_timesLength_sL sL bL q1 q2 q3) (s_L_timesLength_bL sL bL q1 q2 q3) mD mT ((o, .inl (cJ, 1, .inr (.inl (s_L_timesLength_ou sL bL ou q1 q2 q3)))) :: (wM cI cJ z co d ti sL bL mD mT (zw sy) (zw sm) (zw sd) (zw mi) yr mo dy [])))) C (rest := []) (c_L_timesLength l hfl D cI cJ (wM cI cJ z co d ti sL bL mD mT (zw sy) (zw sm) (zw sd) (zw mi) yr mo dy []) y o d sy sm sd mi ti sL bL mD mT ou q1 q2 q3 ) q_L_timesLength gL_law_L_timesLength ⟨rfl, rfl⟩ rfl rfl (Nat.le_of_ble_eq_true rfl) ⟨Nat.le_of_ble_eq_true rfl, Nat.le_of_ble_eq_true rfl⟩ ⟨Nat.le_trans (by omega) hnc, Nat.le_trans (by omega) hns⟩ dL_law_3243 ?_
  refine z_istore (lv' := [(5, .int (f_L_timesLength sL bL q1 q2 q3)), (4, .int i4), (3, .ref o), (2, .ref (z 0)), (1, .ref (y 0)), (0, .ref b)]) C dL_law_3246 (by decide) rfl ?_
  refine z_aload_n C dL_law_3248 rfl 3 rfl ?_
  refine z_aload_n C dL_law_3249 rfl 5 rfl ?_
  refine z_iload C dL_law_3250 1 rfl ?_
  refine z_iconst (v := 1) C dL_law_3252 (by decide) ?_
  refine z_iadd C dL_law_3253 ?_
  refine z_sld C hX hbl hbA hv1 dL_law_3254 ?_
  refine z_eqst (st' := [.int q1, .ref (z 0)]) (congrArg (fun v => Value.int v :: _) hq1) ?_
  refine z_aload_n C dL_law_3255 rfl 5 rfl ?_
  refine z_iload C dL_law_3256 1 rfl ?_
  refine z_iconst (v := 2) C dL_law_3258 (by decide) ?_
  refine z_iadd C dL_law_3259 ?_
  refine z_sld C hX hbl hbA hv2 dL_law_3260 ?_
  refine z_eqst (st' := [.int q2, .int q1, .ref (z 0)]) (congrArg (fun v => Value.int v :: _) hq2) ?_
  refine z_aload_n C dL_law_3261 rfl 5 rfl ?_
  refine z_iload C dL_law_3262 1 rfl ?_
  refine z_iconst (v := 3) C dL_law_3264 (by decide) ?_
  refine z_iadd C dL_law_3265 ?_
  refine z_sld C hX hbl hbA hv3 dL_law_3266 ?_
  refine z_eqst (st' := [.int q3, .int q2, .int q1, .ref (z 0)]) (congrArg (fun v => Value.int v :: _) hq3) ?_
  refine z_ws (ws' := (wM cI cJ z co d ti sL bL mD mT (zw sy) (zw sm) (zw sd) (zw mi) yr mo dy (wY cI cJ y d sy sm sd mi ti (s_L_timesLength_sL sL bL q1 q2 q3) (s_L_timesLength_bL sL bL q1 q2 q3) mD mT [(o, .inl (cJ, 1, .inr (.inl (s_L_timesLength_ou sL bL ou q1 q2 q3))))]))) [12, 13, 14, 15, 16, 17, 18, 19, 20, 21, 22, 0, 1, 2, 3, 4, 5, 6, 7, 8, 9, 10, 11] rfl (by decide) rfl ?_
  refine z_wl (ws' := (wM cI cJ z (s_X3_timesLength_co sL bL q1 q2 q3) d ti (s_X3_timesLength_sL sL bL q1 q2 q3) (s_X3_timesLength_bL sL bL q1 q2 q3) mD mT (zw sy) (zw sm) (zw sd) (zw mi) yr mo dy (wY cI cJ y d sy sm sd mi ti (s_L_timesLength_sL sL bL q1 q2 q3) (s_L_timesLength_bL sL bL q1 q2 q3) mD mT [(o, .inl (cJ, 1, .inr (.inl (s_L_timesLength_ou sL bL ou q1 q2 q3))))]))) (rest := []) (ci := 3) (q0 := 0) C (c_X3_timesLength l hfl D cI cJ (wY cI cJ y d sy sm sd mi ti (s_L_timesLength_sL sL bL q1 q2 q3) (s_L_timesLength_bL sL bL q1 q2 q3) mD mT [(o, .inl (cJ, 1, .inr (.inl (s_L_timesLength_ou sL bL ou q1 q2 q3))))]) z co d ti sL bL mD mT (zw sy) (zw sm) (zw sd) (zw mi) yr mo dy q1 q2 q3 ) q_X3_timesLength rfl rfl rfl gL_law_X3_timesLength ⟨rfl, rfl⟩ rfl rfl (Nat.le_of_ble_eq_true rfl) ⟨Nat.le_of_ble_eq_true rfl, Nat.le_of_ble_eq_true rfl⟩ ⟨Nat.le_trans (by omega) hnc, Nat.le_trans (by omega) hns⟩ dL_law_3267 ?_
  refine z_ws (ws' := (wY cI cJ y d sy sm sd mi ti (s_L_timesLength_sL sL bL q1 q2 q3) (s_L_timesLength_bL sL bL q1 q2 q3) mD mT ((o, .inl (cJ, 1, .inr (.inl (s_L_timesLength_ou sL bL ou q1 q2 q3)))) :: (wM cI cJ z (s_X3_timesLength_co sL bL q1 q2 q3) d ti (s_X3_timesLength_sL sL bL q1 q2 q3) (s_X3_timesLength_bL sL bL q1 q2 q3) mD mT (zw sy) (zw sm) (zw sd) (zw mi) yr mo dy [])))) [11, 12, 13, 14, 15, 16, 17, 18, 19, 20, 21, 22, 0, 1, 2, 3, 4, 5, 6, 7, 8, 9, 10] rfl (by decide) rfl ?_
  refine z_lstore (lv' := [(6, .long (f_X3_timesLength sL bL q1 q2 q3)), (5, .int (f_L_timesLength sL bL q1 q2 q3)), (4, .int i4), (3, .ref o), (2, .ref (z 0)), (1, .ref (y 0)), (0, .ref b)]) C dL_law_3270 (by decide) rfl ?_
  refine z_aload_n C dL_law_3272 rfl 4 rfl ?_
  refine z_ws (ws' := (wM cI cJ z (s_X3_timesLength_co sL bL q1 q2 q3) d ti (s_X3_timesLength_sL sL bL q1 q2 q3) (s_X3_timesLength_bL sL bL q1 q2 q3) mD mT (zw sy) (zw sm) (zw sd) (zw mi) yr mo dy (wY cI cJ y d sy sm sd mi ti (s_L_timesLength_sL sL bL q1 q2 q3) (s_L_timesLength_bL sL bL q1 q2 q3) mD mT [(o, .inl (cJ, 1, .inr (.inl (s_L_timesLength_ou sL bL ou q1 q2 q3))))]))) [12, 13, 14, 15, 16, 17, 18, 19, 20, 21, 22, 0, 1, 2, 3, 4, 5, 6, 7, 8, 9, 10, 11] rfl (by decide) rfl ?_
  refine z_wi (ws' := (wM cI cJ z (s_X3_timesLength_co sL bL q1 q2 q3) d ti (s_X3_timesLength_sL sL bL q1 q2 q3) (s_X3_timesLength_bL sL bL q1 q2 q3) mD mT (zw sy) (zw sm) (zw sd) (zw mi) yr mo dy (wY cI cJ y d sy sm sd mi ti (s_L_timesLength_sL sL bL q1 q2 q3) (s_L_timesLength_bL sL bL q1 q2 q3) mD mT [(o, .inl (cJ, 1, .inr (.inl (s_L_timesLength_ou sL bL ou q1 q2 q3))))]))) (rest := []) (ci := 3) (q0 := 0) C (c_X3_thrown l hfl D cI cJ (wY cI cJ y d sy sm sd mi ti (s_L_timesLength_sL sL bL q1 q2 q3) (s_L_timesLength_bL sL bL q1 q2 q3) mD mT [(o, .inl (cJ, 1, .inr (.inl (s_L_timesLength_ou sL bL ou q1 q2 q3))))]) z (s_X3_timesLength_co sL bL q1 q2 q3) d ti (s_X3_timesLength_sL sL bL q1 q2 q3) (s_X3_timesLength_bL sL bL q1 q2 q3) mD mT (zw sy) (zw sm) (zw sd) (zw mi) yr mo dy  ) q_X3_thrown rfl rfl rfl gL_law_X3_thrown ⟨rfl, rfl⟩ rfl rfl (Nat.le_of_ble_eq_true rfl) ⟨Nat.le_of_ble_eq_true rfl, Nat.le_of_ble_eq_true rfl⟩ ⟨Nat.le_trans (by omega) hnc, Nat.le_trans (by omega) hns⟩ dL_law_3273 ?_
  refine z_ws (ws' := (wY cI cJ y d sy sm sd mi ti (s_L_timesLength_sL sL bL q1 q2 q3) (s_L_timesLength_bL sL bL q1 q2 q3) mD mT ((o, .inl (cJ, 1, .inr (.inl (s_L_timesLength_ou sL bL ou q1 q2 q3)))) :: (wM cI cJ z (s_X3_timesLength_co sL bL q1 q2 q3) d ti (s_X3_timesLength_sL sL bL q1 q2 q3) (s_X3_timesLength_bL sL bL q1 q2 q3) mD mT (zw sy) (zw sm) (zw sd) (zw mi) yr mo dy [])))) [11, 12, 13, 14, 15, 16, 17, 18, 19, 20, 21, 22, 0, 1, 2, 3, 4, 5, 6, 7, 8, 9, 10] rfl (by decide) rfl ?_
  refine z_iload C dL_law_3276 1 rfl ?_
  refine z_icmp_eq (tgt := 3283) C dL_law_3278 (by decide) (fun _ => ?_) (fun h => absurd (g_0) h)
  refine z_iload C dL_law_3283 1 rfl ?_
  refine z_if_ne (tgt := 3299) C dL_law_3285 (by decide) (fun h1 => ?_) (fun h1 => ?_)
  · refine z_goto (tgt := 4233) C dL_law_3299 (by decide) ?_
    refine z_sub [2, 3, 4, 5, 6] rfl ?_
    exact z_widen (by omega) (by omega) kk
  · refine z_aload_n C dL_law_3288 rfl 3 rfl ?_
    refine z_iconst (v := 0) C dL_law_3289 (by decide) ?_
    refine z_lald C 11 1 rfl rfl (zvpl 0 1 (by decide)) dL_law_3290 ?_
    refine z_eqst (st' := [.long ((s_L_timesLength_ou sL bL ou q1 q2 q3) 0)]) rfl ?_
    refine z_lload C dL_law_3291 0 rfl ?_
    refine z_lcmp_eq (tgt := 3299) C dL_law_3293 dL_law_3294 (by decide) (fun _ => ?_) (fun h => absurd (g_1 h1) h)
    refine z_goto (tgt := 4233) C dL_law_3299 (by decide) ?_
    refine z_sub [2, 3, 4, 5, 6] rfl ?_
    exact z_widen (by omega) (by omega) kk
def pre_Lc35 (ti : Nat → Int64) (ou : Nat → Int64) (q1 : Int32) (q2 : Int32) (q3 : Int32) : Prop := ((pre_L_lengthOfTimes ti q1 q2 q3)) ∧ (((s_X3_lengthOfTimes_co ti q1 q2 q3) = (f_L_lengthOfTimes ti q1 q2 q3))) ∧ (((f_L_lengthOfTimes ti q1 q2 q3) = 0) → (((s_L_lengthOfTimes_ou ti ou q1 q2 q3) 0) = (f_X3_lengthOfTimes ti q1 q2 q3)))
set_option maxHeartbeats 4000000 in
set_option maxRecDepth 100000 in
theorem law_c35 {p : Program} {l : Launch} {e : Env} {s : State} {m : MethodId} {args : Array Value} {below : List Frame} {meth : Method} {c : Code} {D : va_G} {cI cJ : ClassId} {A : Nat → Prop} {Q : State → Prop} {ret : Option FieldType} (C : ZC p l s m args meth c 9 D (zTys cI cJ) A cL_law wsL_law RL ret) (hfl : l.stackTraces = false) {b Ln : Nat} {xs : Nat → Int32} (hX : va_X b Ln xs s s.heap) (hbl : b < s.heap.size) (hbA : ¬ A b) (y z : Nat → Nat) (o : Nat) (d : Nat → Int64) (sy : Nat → Int32) (sm : Nat → Int32) (sd : Nat → Int32) (mi : Nat → Int32) (ti : Nat → Int64) (sL : Nat → Int64) (bL : Nat → Int64) (mD : Nat → Int64) (mT : Nat → Int64) (co : Int32) (yr : Int64) (mo : Int32) (dy : Int32) (ou : Nat → Int64) (q1 : Int32) (q2 : Int32) (q3 : Int32) (q4 : Int32) (q5 : Int32) (i4 : Int32) (hv1 : vp_in (i4 + 1) Ln) (hq1 : xs (i4 + 1).toNatClampNeg = q1) (hv2 : vp_in (i4 + 2) Ln) (hq2 : xs (i4 + 2).toNatClampNeg = q2) (hv3 : vp_in (i4 + 3) Ln) (hq3 : xs (i4 + 3).toNatClampNeg = q3) (hv4 : vp_in (i4 + 4) Ln) (hq4 : xs (i4 + 4).toNatClampNeg = q4) (hv5 : vp_in (i4 + 5) Ln) (hq5 : xs (i4 + 5).toNatClampNeg = q5) (nc ns : Nat) (hnc : nc + 6 ≤ room_1.cells) (hns : ns + 36 ≤ room_1.slots) (h_g : pre_Lc35 ti ou q1 q2 q3) (kk : ZW p l e room_1 s m args below meth c 9 D (zTys cI cJ) A Q (nc + 6) (ns + 36) (wY cI cJ y d sy sm sd mi ti (s_L_lengthOfTimes_sL ti sL q1 q2 q3) (s_L_lengthOfTimes_bL ti bL q1 q2 q3) mD mT ((o, .inl (cJ, 1, .inr (.inl (s_L_lengthOfTimes_ou ti ou q1 q2 q3)))) :: (wM cI cJ z (s_X3_lengthOfTimes_co ti q1 q2 q3) d ti (s_X3_lengthOfTimes_sL ti sL q1 q2 q3) (s_X3_lengthOfTimes_bL ti bL q1 q2 q3) mD mT (zw sy) (zw sm) (zw sd) (zw mi) yr mo dy []))) 4233 [(4, .int i4), (3, .ref o), (2, .ref (z 0)), (1, .ref (y 0)), (0, .ref b)] []) : ZW p l e room_1 s m args below meth c 9 D (zTys cI cJ) A Q nc ns (wY cI cJ y d sy sm sd mi ti sL bL mD mT ((o, .inl (cJ, 1, .inr (.inl ou))) :: (wM cI cJ z co d ti sL bL mD mT (zw sy) (zw sm) (zw sd) (zw mi) yr mo dy []))) 3302 [(4, .int i4), (3, .ref o), (2, .ref (z 0)), (1, .ref (y 0)), (0, .ref b)] [] := by
  obtain ⟨g_0, g_1, g_2⟩ := h_g
  refine z_aload_n C dL_law_3302 rfl 3 rfl ?_
  refine z_aload_n C dL_law_3303 rfl 4 rfl ?_
  refine z_iload C dL_law_3304 0 rfl ?_
  refine z_iconst (v := 1) C dL_law_3306 (by decide) ?_
  refine z_iadd C dL_law_3307 ?_
  refine z_sld C hX hbl hbA hv1 dL_law_3308 ?_
  refine z_eqst (st' := [.int q1, .ref (y 0)]) (congrArg (fun v => Value.int v :: _) hq1) ?_
  refine z_aload_n C dL_law_3309 rfl 4 rfl ?_
  refine z_iload C dL_law_3310 0 rfl ?_
  refine z_iconst (v := 2) C dL_law_3312 (by decide) ?_
  refine z_iadd C dL_law_3313 ?_
  refine z_sld C hX hbl hbA hv2 dL_law_3314 ?_
  refine z_eqst (st' := [.int q2, .int q1, .ref (y 0)]) (congrArg (fun v => Value.int v :: _) hq2) ?_
  refine z_aload_n C dL_law_3315 rfl 4 rfl ?_
  refine z_iload C dL_law_3316 0 rfl ?_
  refine z_iconst (v := 3) C dL_law_3318 (by decide) ?_
  refine z_iadd C dL_law_3319 ?_
  refine z_sld C hX hbl hbA hv3 dL_law_3320 ?_
  refine z_eqst (st' := [.int q3, .int q2, .int q1, .ref (y 0)]) (congrArg (fun v => Value.int v :: _) hq3) ?_
  refine z_aload_n C dL_law_3321 rfl 1 rfl ?_
  refine z_siH (ws' := (wY cI cJ y d sy sm sd mi ti (s_L_lengthOfTimes_sL ti sL q1 q2 q3) (s_L_lengthOfTimes_bL ti bL q1 q2 q3) mD mT ((o, .inl (cJ, 1, .inr (.inl (s_L_lengthOfTimes_ou ti ou q1 q2 q3)))) :: (wM cI cJ z co d ti sL bL mD mT (zw sy) (zw sm) (zw sd) (zw mi) yr mo dy [])))) C (rest := []) (c_L_lengthOfTimes l hfl D cI cJ (wM cI cJ z co d ti sL bL mD mT (zw sy) (zw sm) (zw sd) (zw mi) yr mo dy []) y o d sy sm sd mi ti sL bL mD mT ou q1 q2 q3 (g_0)) q_L_lengthOfTimes gL_law_L_lengthOfTimes ⟨rfl, rfl⟩ rfl rfl (Nat.le_of_ble_eq_true rfl) ⟨Nat.le_of_ble_eq_true rfl, Nat.le_of_ble_eq_true rfl⟩ ⟨Nat.le_trans (by omega) hnc, Nat.le_trans (by omega) hns⟩ dL_law_3322 ?_
  refine z_istore (lv' := [(5, .int (f_L_lengthOfTimes ti q1 q2 q3)), (4, .int i4), (3, .ref o), (2, .ref (z 0)), (1, .ref (y 0)), (0, .ref b)]) C dL_law_3325 (by decide) rfl ?_
  refine z_aload_n C dL_law_3327 rfl 3 rfl ?_
  refine z_aload_n C dL_law_3328 rfl 5 rfl ?_
  refine z_iload C dL_law_3329 1 rfl ?_
  refine z_iconst (v := 1) C dL_law_3331 (by decide) ?_
  refine z_iadd C dL_law_3332 ?_
  refine z_sld C hX hbl hbA hv1 dL_law_3333 ?_
  refine z_eqst (st' := [.int q1, .ref (z 0)]) (congrArg (fun v => Value.int v :: _) hq1) ?_
  refine z_aload_n C dL_law_3334 rfl 5 rfl ?_
  refine z_iload C dL_law_3335 1 rfl ?_
  refine z_iconst (v := 2) C dL_law_3337 (by decide) ?_
  refine z_iadd C dL_law_3338 ?_
  refine z_sld C hX hbl hbA hv2 dL_law_3339 ?_
  refine z_eqst (st' := [.int q2, .int q1, .ref (z 0)]) (congrArg (fun v => Value.int v :: _) hq2) ?_
  refine z_aload_n C dL_law_3340 rfl 5 rfl ?_
  refine z_iload C dL_law_3341 1 rfl ?_
  refine z_iconst (v := 3) C dL_law_3343 (by decide) ?_
  refine z_iadd C dL_law_3344 ?_
  refine z_sld C hX hbl hbA hv3 dL_law_3345 ?_
  refine z_eqst (st' := [.int q3, .int q2, .int q1, .ref (z 0)]) (congrArg (fun v => Value.int v :: _) hq3) ?_
  refine z_ws (ws' := (wM cI cJ z co d ti sL bL mD mT (zw sy) (zw sm) (zw sd) (zw mi) yr mo dy (wY cI cJ y d sy sm sd mi ti (s_L_lengthOfTimes_sL ti sL q1 q2 q3) (s_L_lengthOfTimes_bL ti bL q1 q2 q3) mD mT [(o, .inl (cJ, 1, .inr (.inl (s_L_lengthOfTimes_ou ti ou q1 q2 q3))))]))) [12, 13, 14, 15, 16, 17, 18, 19, 20, 21, 22, 0, 1, 2, 3, 4, 5, 6, 7, 8, 9, 10, 11] rfl (by decide) rfl ?_
  refine z_wl (ws' := (wM cI cJ z (s_X3_lengthOfTimes_co ti q1 q2 q3) d ti (s_X3_lengthOfTimes_sL ti sL q1 q2 q3) (s_X3_lengthOfTimes_bL ti bL q1 q2 q3) mD mT (zw sy) (zw sm) (zw sd) (zw mi) yr mo dy (wY cI cJ y d sy sm sd mi ti (s_L_lengthOfTimes_sL ti sL q1 q2 q3) (s_L_lengthOfTimes_bL ti bL q1 q2 q3) mD mT [(o, .inl (cJ, 1, .inr (.inl (s_L_lengthOfTimes_ou ti ou q1 q2 q3))))]))) (rest := []) (ci := 3) (q0 := 0) C (c_X3_lengthOfTimes l hfl D cI cJ (wY cI cJ y d sy sm sd mi ti (s_L_lengthOfTimes_sL ti sL q1 q2 q3) (s_L_lengthOfTimes_bL ti bL q1 q2 q3) mD mT [(o, .inl (cJ, 1, .inr (.inl (s_L_lengthOfTimes_ou ti ou q1 q2 q3))))]) z co d ti sL bL mD mT (zw sy) (zw sm) (zw sd) (zw mi) yr mo dy q1 q2 q3 ) q_X3_lengthOfTimes rfl rfl rfl gL_law_X3_lengthOfTimes ⟨rfl, rfl⟩ rfl rfl (Nat.le_of_ble_eq_true rfl) ⟨Nat.le_of_ble_eq_true rfl, Nat.le_of_ble_eq_true rfl⟩ ⟨Nat.le_trans (by omega) hnc, Nat.le_trans (by omega) hns⟩ dL_law_3346 ?_
  refine z_ws (ws' := (wY cI cJ y d sy sm sd mi ti (s_L_lengthOfTimes_sL ti sL q1 q2 q3) (s_L_lengthOfTimes_bL ti bL q1 q2 q3) mD mT ((o, .inl (cJ, 1, .inr (.inl (s_L_lengthOfTimes_ou ti ou q1 q2 q3)))) :: (wM cI cJ z (s_X3_lengthOfTimes_co ti q1 q2 q3) d ti (s_X3_lengthOfTimes_sL ti sL q1 q2 q3) (s_X3_lengthOfTimes_bL ti bL q1 q2 q3) mD mT (zw sy) (zw sm) (zw sd) (zw mi) yr mo dy [])))) [11, 12, 13, 14, 15, 16, 17, 18, 19, 20, 21, 22, 0, 1, 2, 3, 4, 5, 6, 7, 8, 9, 10] rfl (by decide) rfl ?_
  refine z_lstore (lv' := [(6, .long (f_X3_lengthOfTimes ti q1 q2 q3)), (5, .int (f_L_lengthOfTimes ti q1 q2 q3)), (4, .int i4), (3, .ref o), (2, .ref (z 0)), (1, .ref (y 0)), (0, .ref b)]) C dL_law_3349 (by decide) rfl ?_
  refine z_aload_n C dL_law_3351 rfl 4 rfl ?_
  refine z_ws (ws' := (wM cI cJ z (s_X3_lengthOfTimes_co ti q1 q2 q3) d ti (s_X3_lengthOfTimes_sL ti sL q1 q2 q3) (s_X3_lengthOfTimes_bL ti bL q1 q2 q3) mD mT (zw sy) (zw sm) (zw sd) (zw mi) yr mo dy (wY cI cJ y d sy sm sd mi ti (s_L_lengthOfTimes_sL ti sL q1 q2 q3) (s_L_lengthOfTimes_bL ti bL q1 q2 q3) mD mT [(o, .inl (cJ, 1, .inr (.inl (s_L_lengthOfTimes_ou ti ou q1 q2 q3))))]))) [12, 13, 14, 15, 16, 17, 18, 19, 20, 21, 22, 0, 1, 2, 3, 4, 5, 6, 7, 8, 9, 10, 11] rfl (by decide) rfl ?_
  refine z_wi (ws' := (wM cI cJ z (s_X3_lengthOfTimes_co ti q1 q2 q3) d ti (s_X3_lengthOfTimes_sL ti sL q1 q2 q3) (s_X3_lengthOfTimes_bL ti bL q1 q2 q3) mD mT (zw sy) (zw sm) (zw sd) (zw mi) yr mo dy (wY cI cJ y d sy sm sd mi ti (s_L_lengthOfTimes_sL ti sL q1 q2 q3) (s_L_lengthOfTimes_bL ti bL q1 q2 q3) mD mT [(o, .inl (cJ, 1, .inr (.inl (s_L_lengthOfTimes_ou ti ou q1 q2 q3))))]))) (rest := []) (ci := 3) (q0 := 0) C (c_X3_thrown l hfl D cI cJ (wY cI cJ y d sy sm sd mi ti (s_L_lengthOfTimes_sL ti sL q1 q2 q3) (s_L_lengthOfTimes_bL ti bL q1 q2 q3) mD mT [(o, .inl (cJ, 1, .inr (.inl (s_L_lengthOfTimes_ou ti ou q1 q2 q3))))]) z (s_X3_lengthOfTimes_co ti q1 q2 q3) d ti (s_X3_lengthOfTimes_sL ti sL q1 q2 q3) (s_X3_lengthOfTimes_bL ti bL q1 q2 q3) mD mT (zw sy) (zw sm) (zw sd) (zw mi) yr mo dy  ) q_X3_thrown rfl rfl rfl gL_law_X3_thrown ⟨rfl, rfl⟩ rfl rfl (Nat.le_of_ble_eq_true rfl) ⟨Nat.le_of_ble_eq_true rfl, Nat.le_of_ble_eq_true rfl⟩ ⟨Nat.le_trans (by omega) hnc, Nat.le_trans (by omega) hns⟩ dL_law_3352 ?_
  refine z_ws (ws' := (wY cI cJ y d sy sm sd mi ti (s_L_lengthOfTimes_sL ti sL q1 q2 q3) (s_L_lengthOfTimes_bL ti bL q1 q2 q3) mD mT ((o, .inl (cJ, 1, .inr (.inl (s_L_lengthOfTimes_ou ti ou q1 q2 q3)))) :: (wM cI cJ z (s_X3_lengthOfTimes_co ti q1 q2 q3) d ti (s_X3_lengthOfTimes_sL ti sL q1 q2 q3) (s_X3_lengthOfTimes_bL ti bL q1 q2 q3) mD mT (zw sy) (zw sm) (zw sd) (zw mi) yr mo dy [])))) [11, 12, 13, 14, 15, 16, 17, 18, 19, 20, 21, 22, 0, 1, 2, 3, 4, 5, 6, 7, 8, 9, 10] rfl (by decide) rfl ?_
  refine z_iload C dL_law_3355 1 rfl ?_
  refine z_icmp_eq (tgt := 3362) C dL_law_3357 (by decide) (fun _ => ?_) (fun h => absurd (g_1) h)
  refine z_iload C dL_law_3362 1 rfl ?_
  refine z_if_ne (tgt := 3378) C dL_law_3364 (by decide) (fun h1 => ?_) (fun h1 => ?_)
  · refine z_goto (tgt := 4233) C dL_law_3378 (by decide) ?_
    refine z_sub [2, 3, 4, 5, 6] rfl ?_
    exact z_widen (by omega) (by omega) kk
  · refine z_aload_n C dL_law_3367 rfl 3 rfl ?_
    refine z_iconst (v := 0) C dL_law_3368 (by decide) ?_
    refine z_lald C 11 1 rfl rfl (zvpl 0 1 (by decide)) dL_law_3369 ?_
    refine z_eqst (st' := [.long ((s_L_lengthOfTimes_ou ti ou q1 q2 q3) 0)]) rfl ?_
    refine z_lload C dL_law_3370 0 rfl ?_
    refine z_lcmp_eq (tgt := 3378) C dL_law_3372 dL_law_3373 (by decide) (fun _ => ?_) (fun h => absurd (g_2 h1) h)
    refine z_goto (tgt := 4233) C dL_law_3378 (by decide) ?_
    refine z_sub [2, 3, 4, 5, 6] rfl ?_
    exact z_widen (by omega) (by omega) kk
def pre_Lc36 (sL : Nat → Int64) (bL : Nat → Int64) (ou : Nat → Int64) (q1 : Int32) (q2 : Int32) : Prop := ((pre_L_orderLengths sL q1 q2)) ∧ (((s_X3_orderLengths_co sL q1 q2) = (f_L_orderLengths sL q1 q2))) ∧ (((f_L_orderLengths sL q1 q2) = 0) → (((s_L_orderLengths_ou sL bL ou q1 q2) 0) = ((f_X3_orderLengths sL bL q1 q2)).toInt64))
set_option maxHeartbeats 4000000 in
set_option maxRecDepth 100000 in
theorem law_c36 {p : Program} {l : Launch} {e : Env} {s : State} {m : MethodId} {args : Array Value} {below : List Frame} {meth : Method} {c : Code} {D : va_G} {cI cJ : ClassId} {A : Nat → Prop} {Q : State → Prop} {ret : Option FieldType} (C : ZC p l s m args meth c 9 D (zTys cI cJ) A cL_law wsL_law RL ret) (hfl : l.stackTraces = false) {b Ln : Nat} {xs : Nat → Int32} (hX : va_X b Ln xs s s.heap) (hbl : b < s.heap.size) (hbA : ¬ A b) (y z : Nat → Nat) (o : Nat) (d : Nat → Int64) (sy : Nat → Int32) (sm : Nat → Int32) (sd : Nat → Int32) (mi : Nat → Int32) (ti : Nat → Int64) (sL : Nat → Int64) (bL : Nat → Int64) (mD : Nat → Int64) (mT : Nat → Int64) (co : Int32) (yr : Int64) (mo : Int32) (dy : Int32) (ou : Nat → Int64) (q1 : Int32) (q2 : Int32) (q3 : Int32) (q4 : Int32) (q5 : Int32) (i4 : Int32) (hv1 : vp_in (i4 + 1) Ln) (hq1 : xs (i4 + 1).toNatClampNeg = q1) (hv2 : vp_in (i4 + 2) Ln) (hq2 : xs (i4 + 2).toNatClampNeg = q2) (hv3 : vp_in (i4 + 3) Ln) (hq3 : xs (i4 + 3).toNatClampNeg = q3) (hv4 : vp_in (i4 + 4) Ln) (hq4 : xs (i4 + 4).toNatClampNeg = q4) (hv5 : vp_in (i4 + 5) Ln) (hq5 : xs (i4 + 5).toNatClampNeg = q5) (nc ns : Nat) (hnc : nc + 6 ≤ room_1.cells) (hns : ns + 36 ≤ room_1.slots) (h_g : pre_Lc36 sL bL ou q1 q2) (kk : ZW p l e room_1 s m args below meth c 9 D (zTys cI cJ) A Q (nc + 6) (ns + 36) (wY cI cJ y d sy sm sd mi ti sL bL mD mT ((o, .inl (cJ, 1, .inr (.inl (s_L_orderLengths_ou sL bL ou q1 q2)))) :: (wM cI cJ z (s_X3_orderLengths_co sL q1 q2) d ti sL bL mD mT (zw sy) (zw sm) (zw sd) (zw mi) yr mo dy []))) 4233 [(4, .int i4), (3, .ref o), (2, .ref (z 0)), (1, .ref (y 0)), (0, .ref b)] []) : ZW p l e room_1 s m args below meth c 9 D (zTys cI cJ) A Q nc ns (wY cI cJ y d sy sm sd mi ti sL bL mD mT ((o, .inl (cJ, 1, .inr (.inl ou))) :: (wM cI cJ z co d ti sL bL mD mT (zw sy) (zw sm) (zw sd) (zw mi) yr mo dy []))) 3381 [(4, .int i4), (3, .ref o), (2, .ref (z 0)), (1, .ref (y 0)), (0, .ref b)] [] := by
  obtain ⟨g_0, g_1, g_2⟩ := h_g
  refine z_aload_n C dL_law_3381 rfl 3 rfl ?_
  refine z_aload_n C dL_law_3382 rfl 4 rfl ?_
  refine z_iload C dL_law_3383 0 rfl ?_
  refine z_iconst (v := 1) C dL_law_3385 (by decide) ?_
  refine z_iadd C dL_law_3386 ?_
  refine z_sld C hX hbl hbA hv1 dL_law_3387 ?_
  refine z_eqst (st' := [.int q1, .ref (y 0)]) (congrArg (fun v => Value.int v :: _) hq1) ?_
  refine z_aload_n C dL_law_3388 rfl 4 rfl ?_
  refine z_iload C dL_law_3389 0 rfl ?_
  refine z_iconst (v := 2) C dL_law_3391 (by decide) ?_
  refine z_iadd C dL_law_3392 ?_
  refine z_sld C hX hbl hbA hv2 dL_law_3393 ?_
  refine z_eqst (st' := [.int q2, .int q1, .ref (y 0)]) (congrArg (fun v => Value.int v :: _) hq2) ?_
  refine z_aload_n C dL_law_3394 rfl 1 rfl ?_
  refine z_siH (ws' := (wY cI cJ y d sy sm sd mi ti sL bL mD mT ((o, .inl (cJ, 1, .inr (.inl (s_L_orderLengths_ou sL bL ou q1 q2)))) :: (wM cI cJ z co d ti sL bL mD mT (zw sy) (zw sm) (zw sd) (zw mi) yr mo dy [])))) C (rest := []) (c_L_orderLengths l hfl D cI cJ (wM cI cJ z co d ti sL bL mD mT (zw sy) (zw sm) (zw sd) (zw mi) yr mo dy []) y o d sy sm sd mi ti sL bL mD mT ou q1 q2 (g_0)) q_L_orderLengths gL_law_L_orderLengths ⟨rfl, rfl⟩ rfl rfl (Nat.le_of_ble_eq_true rfl) ⟨Nat.le_of_ble_eq_true rfl, Nat.le_of_ble_eq_true rfl⟩ ⟨Nat.le_trans (by omega) hnc, Nat.le_trans (by omega) hns⟩ dL_law_3395 ?_
  refine z_istore (lv' := [(5, .int (f_L_orderLengths sL q1 q2)), (4, .int i4), (3, .ref o), (2, .ref (z 0)), (1, .ref (y 0)), (0, .ref b)]) C dL_law_3398 (by decide) rfl ?_
  refine z_aload_n C dL_law_3400 rfl 3 rfl ?_
  refine z_aload_n C dL_law_3401 rfl 5 rfl ?_
  refine z_iload C dL_law_3402 1 rfl ?_
  refine z_iconst (v := 1) C dL_law_3404 (by decide) ?_
  refine z_iadd C dL_law_3405 ?_
  refine z_sld C hX hbl hbA hv1 dL_law_3406 ?_
  refine z_eqst (st' := [.int q1, .ref (z 0)]) (congrArg (fun v => Value.int v :: _) hq1) ?_
  refine z_aload_n C dL_law_3407 rfl 5 rfl ?_
  refine z_iload C dL_law_3408 1 rfl ?_
  refine z_iconst (v := 2) C dL_law_3410 (by decide) ?_
  refine z_iadd C dL_law_3411 ?_
  refine z_sld C hX hbl hbA hv2 dL_law_3412 ?_
  refine z_eqst (st' := [.int q2, .int q1, .ref (z 0)]) (congrArg (fun v => Value.int v :: _) hq2) ?_
  refine z_ws (ws' := (wM cI cJ z co d ti sL bL mD mT (zw sy) (zw sm) (zw sd) (zw mi) yr mo dy (wY cI cJ y d sy sm sd mi ti sL bL mD mT [(o, .inl (cJ, 1, .inr (.inl (s_L_orderLengths_ou sL bL ou q1 q2))))]))) [12, 13, 14, 15, 16, 17, 18, 19, 20, 21, 22, 0, 1, 2, 3, 4, 5, 6, 7, 8, 9, 10, 11] rfl (by decide) rfl ?_
  refine z_wi (ws' := (wM cI cJ z (s_X3_orderLengths_co sL q1 q2) d ti sL bL mD mT (zw sy) (zw sm) (zw sd) (zw mi) yr mo dy (wY cI cJ y d sy sm sd mi ti sL bL mD mT [(o, .inl (cJ, 1, .inr (.inl (s_L_orderLengths_ou sL bL ou q1 q2))))]))) (rest := []) (ci := 3) (q0 := 0) C (c_X3_orderLengths l hfl D cI cJ (wY cI cJ y d sy sm sd mi ti sL bL mD mT [(o, .inl (cJ, 1, .inr (.inl (s_L_orderLengths_ou sL bL ou q1 q2))))]) z co d ti sL bL mD mT (zw sy) (zw sm) (zw sd) (zw mi) yr mo dy q1 q2 ) q_X3_orderLengths rfl rfl rfl gL_law_X3_orderLengths ⟨rfl, rfl⟩ rfl rfl (Nat.le_of_ble_eq_true rfl) ⟨Nat.le_of_ble_eq_true rfl, Nat.le_of_ble_eq_true rfl⟩ ⟨Nat.le_trans (by omega) hnc, Nat.le_trans (by omega) hns⟩ dL_law_3413 ?_
  refine z_ws (ws' := (wY cI cJ y d sy sm sd mi ti sL bL mD mT ((o, .inl (cJ, 1, .inr (.inl (s_L_orderLengths_ou sL bL ou q1 q2)))) :: (wM cI cJ z (s_X3_orderLengths_co sL q1 q2) d ti sL bL mD mT (zw sy) (zw sm) (zw sd) (zw mi) yr mo dy [])))) [11, 12, 13, 14, 15, 16, 17, 18, 19, 20, 21, 22, 0, 1, 2, 3, 4, 5, 6, 7, 8, 9, 10] rfl (by decide) rfl ?_
  refine z_istore (lv' := [(6, .int (f_X3_orderLengths sL bL q1 q2)), (5, .int (f_L_orderLengths sL q1 q2)), (4, .int i4), (3, .ref o), (2, .ref (z 0)), (1, .ref (y 0)), (0, .ref b)]) C dL_law_3416 (by decide) rfl ?_
  refine z_aload_n C dL_law_3418 rfl 4 rfl ?_
  refine z_ws (ws' := (wM cI cJ z (s_X3_orderLengths_co sL q1 q2) d ti sL bL mD mT (zw sy) (zw sm) (zw sd) (zw mi) yr mo dy (wY cI cJ y d sy sm sd mi ti sL bL mD mT [(o, .inl (cJ, 1, .inr (.inl (s_L_orderLengths_ou sL bL ou q1 q2))))]))) [12, 13, 14, 15, 16, 17, 18, 19, 20, 21, 22, 0, 1, 2, 3, 4, 5, 6, 7, 8, 9, 10, 11] rfl (by decide) rfl ?_
  refine z_wi (ws' := (wM cI cJ z (s_X3_orderLengths_co sL q1 q2) d ti sL bL mD mT (zw sy) (zw sm) (zw sd) (zw mi) yr mo dy (wY cI cJ y d sy sm sd mi ti sL bL mD mT [(o, .inl (cJ, 1, .inr (.inl (s_L_orderLengths_ou sL bL ou q1 q2))))]))) (rest := []) (ci := 3) (q0 := 0) C (c_X3_thrown l hfl D cI cJ (wY cI cJ y d sy sm sd mi ti sL bL mD mT [(o, .inl (cJ, 1, .inr (.inl (s_L_orderLengths_ou sL bL ou q1 q2))))]) z (s_X3_orderLengths_co sL q1 q2) d ti sL bL mD mT (zw sy) (zw sm) (zw sd) (zw mi) yr mo dy  ) q_X3_thrown rfl rfl rfl gL_law_X3_thrown ⟨rfl, rfl⟩ rfl rfl (Nat.le_of_ble_eq_true rfl) ⟨Nat.le_of_ble_eq_true rfl, Nat.le_of_ble_eq_true rfl⟩ ⟨Nat.le_trans (by omega) hnc, Nat.le_trans (by omega) hns⟩ dL_law_3419 ?_
  refine z_ws (ws' := (wY cI cJ y d sy sm sd mi ti sL bL mD mT ((o, .inl (cJ, 1, .inr (.inl (s_L_orderLengths_ou sL bL ou q1 q2)))) :: (wM cI cJ z (s_X3_orderLengths_co sL q1 q2) d ti sL bL mD mT (zw sy) (zw sm) (zw sd) (zw mi) yr mo dy [])))) [11, 12, 13, 14, 15, 16, 17, 18, 19, 20, 21, 22, 0, 1, 2, 3, 4, 5, 6, 7, 8, 9, 10] rfl (by decide) rfl ?_
  refine z_iload C dL_law_3422 1 rfl ?_
  refine z_icmp_eq (tgt := 3429) C dL_law_3424 (by decide) (fun _ => ?_) (fun h => absurd (g_1) h)
  refine z_iload C dL_law_3429 1 rfl ?_
  refine z_if_ne (tgt := 3446) C dL_law_3431 (by decide) (fun h1 => ?_) (fun h1 => ?_)
  · refine z_goto (tgt := 4233) C dL_law_3446 (by decide) ?_
    refine z_sub [2, 3, 4, 5, 6] rfl ?_
    exact z_widen (by omega) (by omega) kk
  · refine z_aload_n C dL_law_3434 rfl 3 rfl ?_
    refine z_iconst (v := 0) C dL_law_3435 (by decide) ?_
    refine z_lald C 11 1 rfl rfl (zvpl 0 1 (by decide)) dL_law_3436 ?_
    refine z_eqst (st' := [.long ((s_L_orderLengths_ou sL bL ou q1 q2) 0)]) rfl ?_
    refine z_iload C dL_law_3437 0 rfl ?_
    refine z_i2l (v := ((f_X3_orderLengths sL bL q1 q2)).toInt64) C dL_law_3439 rfl ?_
    refine z_lcmp_eq (tgt := 3446) C dL_law_3440 dL_law_3441 (by decide) (fun _ => ?_) (fun h => absurd (g_2 h1) h)
    refine z_goto (tgt := 4233) C dL_law_3446 (by decide) ?_
    refine z_sub [2, 3, 4, 5, 6] rfl ?_
    exact z_widen (by omega) (by omega) kk
def pre_Lc37 (d : Nat → Int64) (ti : Nat → Int64) (mD : Nat → Int64) (ou : Nat → Int64) (q1 : Int32) (q2 : Int32) (q3 : Int32) : Prop := ((pre_L_moment d ti q1 q2 q3)) ∧ (((s_X3_moment_co q1 q2 q3) = (f_L_moment d ti q1 q2 q3))) ∧ (((f_L_moment d ti q1 q2 q3) = 0) → (((s_L_moment_ou d ti ou q1 q2 q3) 0) = (f_X3_moment d mD q1 q2 q3)))
set_option maxHeartbeats 4000000 in
set_option maxRecDepth 100000 in
theorem law_c37 {p : Program} {l : Launch} {e : Env} {s : State} {m : MethodId} {args : Array Value} {below : List Frame} {meth : Method} {c : Code} {D : va_G} {cI cJ : ClassId} {A : Nat → Prop} {Q : State → Prop} {ret : Option FieldType} (C : ZC p l s m args meth c 9 D (zTys cI cJ) A cL_law wsL_law RL ret) (hfl : l.stackTraces = false) {b Ln : Nat} {xs : Nat → Int32} (hX : va_X b Ln xs s s.heap) (hbl : b < s.heap.size) (hbA : ¬ A b) (y z : Nat → Nat) (o : Nat) (d : Nat → Int64) (sy : Nat → Int32) (sm : Nat → Int32) (sd : Nat → Int32) (mi : Nat → Int32) (ti : Nat → Int64) (sL : Nat → Int64) (bL : Nat → Int64) (mD : Nat → Int64) (mT : Nat → Int64) (co : Int32) (yr : Int64) (mo : Int32) (dy : Int32) (ou : Nat → Int64) (q1 : Int32) (q2 : Int32) (q3 : Int32) (q4 : Int32) (q5 : Int32) (i4 : Int32) (hv1 : vp_in (i4 + 1) Ln) (hq1 : xs (i4 + 1).toNatClampNeg = q1) (hv2 : vp_in (i4 + 2) Ln) (hq2 : xs (i4 + 2).toNatClampNeg = q2) (hv3 : vp_in (i4 + 3) Ln) (hq3 : xs (i4 + 3).toNatClampNeg = q3) (hv4 : vp_in (i4 + 4) Ln) (hq4 : xs (i4 + 4).toNatClampNeg = q4) (hv5 : vp_in (i4 + 5) Ln) (hq5 : xs (i4 + 5).toNatClampNeg = q5) (nc ns : Nat) (hnc : nc + 6 ≤ room_1.cells) (hns : ns + 36 ≤ room_1.slots) (h_g : pre_Lc37 d ti mD ou q1 q2 q3) (kk : ZW p l e room_1 s m args below meth c 9 D (zTys cI cJ) A Q (nc + 6) (ns + 36) (wY cI cJ y d sy sm sd mi ti sL bL (s_L_moment_mD d ti mD q1 q2 q3) (s_L_moment_mT d ti mT q1 q2 q3) ((o, .inl (cJ, 1, .inr (.inl (s_L_moment_ou d ti ou q1 q2 q3)))) :: (wM cI cJ z (s_X3_moment_co q1 q2 q3) d ti sL bL (s_X3_moment_mD d mD q1 q2 q3) (s_X3_moment_mT ti mT q1 q2 q3) (zw sy) (zw sm) (zw sd) (zw mi) yr mo dy []))) 4233 [(4, .int i4), (3, .ref o), (2, .ref (z 0)), (1, .ref (y 0)), (0, .ref b)] []) : ZW p l e room_1 s m args below meth c 9 D (zTys cI cJ) A Q nc ns (wY cI cJ y d sy sm sd mi ti sL bL mD mT ((o, .inl (cJ, 1, .inr (.inl ou))) :: (wM cI cJ z co d ti sL bL mD mT (zw sy) (zw sm) (zw sd) (zw mi) yr mo dy []))) 3449 [(4, .int i4), (3, .ref o), (2, .ref (z 0)), (1, .ref (y 0)), (0, .ref b)] [] := by
  obtain ⟨g_0, g_1, g_2⟩ := h_g
  refine z_aload_n C dL_law_3449 rfl 3 rfl ?_
  refine z_aload_n C dL_law_3450 rfl 4 rfl ?_
  refine z_iload C dL_law_3451 0 rfl ?_
  refine z_iconst (v := 1) C dL_law_3453 (by decide) ?_
  refine z_iadd C dL_law_3454 ?_
  refine z_sld C hX hbl hbA hv1 dL_law_3455 ?_
  refine z_eqst (st' := [.int q1, .ref (y 0)]) (congrArg (fun v => Value.int v :: _) hq1) ?_
  refine z_aload_n C dL_law_3456 rfl 4 rfl ?_
  refine z_iload C dL_law_3457 0 rfl ?_
  refine z_iconst (v := 2) C dL_law_3459 (by decide) ?_
  refine z_iadd C dL_law_3460 ?_
  refine z_sld C hX hbl hbA hv2 dL_law_3461 ?_
  refine z_eqst (st' := [.int q2, .int q1, .ref (y 0)]) (congrArg (fun v => Value.int v :: _) hq2) ?_
  refine z_aload_n C dL_law_3462 rfl 4 rfl ?_
  refine z_iload C dL_law_3463 0 rfl ?_
  refine z_iconst (v := 3) C dL_law_3465 (by decide) ?_
  refine z_iadd C dL_law_3466 ?_
  refine z_sld C hX hbl hbA hv3 dL_law_3467 ?_
  refine z_eqst (st' := [.int q3, .int q2, .int q1, .ref (y 0)]) (congrArg (fun v => Value.int v :: _) hq3) ?_
  refine z_aload_n C dL_law_3468 rfl 1 rfl ?_
  refine z_siH (ws' := (wY cI cJ y d sy sm sd mi ti sL bL (s_L_moment_mD d ti mD q1 q2 q3) (s_L_moment_mT d ti mT q1 q2 q3) ((o, .inl (cJ, 1, .inr (.inl (s_L_moment_ou d ti ou q1 q2 q3)))) :: (wM cI cJ z co d ti sL bL mD mT (zw sy) (zw sm) (zw sd) (zw mi) yr mo dy [])))) C (rest := []) (c_L_moment l hfl D cI cJ (wM cI cJ z co d ti sL bL mD mT (zw sy) (zw sm) (zw sd) (zw mi) yr mo dy []) y o d sy sm sd mi ti sL bL mD mT ou q1 q2 q3 (g_0)) q_L_moment gL_law_L_moment ⟨rfl, rfl⟩ rfl rfl (Nat.le_of_ble_eq_true rfl) ⟨Nat.le_of_ble_eq_true rfl, Nat.le_of_ble_eq_true rfl⟩ ⟨Nat.le_trans (by omega) hnc, Nat.le_trans (by omega) hns⟩ dL_law_3469 ?_
  refine z_istore (lv' := [(5, .int (f_L_moment d ti q1 q2 q3)), (4, .int i4), (3, .ref o), (2, .ref (z 0)), (1, .ref (y 0)), (0, .ref b)]) C dL_law_3472 (by decide) rfl ?_
  refine z_aload_n C dL_law_3474 rfl 3 rfl ?_
  refine z_aload_n C dL_law_3475 rfl 5 rfl ?_
  refine z_iload C dL_law_3476 1 rfl ?_
  refine z_iconst (v := 1) C dL_law_3478 (by decide) ?_
  refine z_iadd C dL_law_3479 ?_
  refine z_sld C hX hbl hbA hv1 dL_law_3480 ?_
  refine z_eqst (st' := [.int q1, .ref (z 0)]) (congrArg (fun v => Value.int v :: _) hq1) ?_
  refine z_aload_n C dL_law_3481 rfl 5 rfl ?_
  refine z_iload C dL_law_3482 1 rfl ?_
  refine z_iconst (v := 2) C dL_law_3484 (by decide) ?_
  refine z_iadd C dL_law_3485 ?_
  refine z_sld C hX hbl hbA hv2 dL_law_3486 ?_
  refine z_eqst (st' := [.int q2, .int q1, .ref (z 0)]) (congrArg (fun v => Value.int v :: _) hq2) ?_
  refine z_aload_n C dL_law_3487 rfl 5 rfl ?_
  refine z_iload C dL_law_3488 1 rfl ?_
  refine z_iconst (v := 3) C dL_law_3490 (by decide) ?_
  refine z_iadd C dL_law_3491 ?_
  refine z_sld C hX hbl hbA hv3 dL_law_3492 ?_
  refine z_eqst (st' := [.int q3, .int q2, .int q1, .ref (z 0)]) (congrArg (fun v => Value.int v :: _) hq3) ?_
  refine z_ws (ws' := (wM cI cJ z co d ti sL bL mD mT (zw sy) (zw sm) (zw sd) (zw mi) yr mo dy (wY cI cJ y d sy sm sd mi ti sL bL (s_L_moment_mD d ti mD q1 q2 q3) (s_L_moment_mT d ti mT q1 q2 q3) [(o, .inl (cJ, 1, .inr (.inl (s_L_moment_ou d ti ou q1 q2 q3))))]))) [12, 13, 14, 15, 16, 17, 18, 19, 20, 21, 22, 0, 1, 2, 3, 4, 5, 6, 7, 8, 9, 10, 11] rfl (by decide) rfl ?_
  refine z_wl (ws' := (wM cI cJ z (s_X3_moment_co q1 q2 q3) d ti sL bL (s_X3_moment_mD d mD q1 q2 q3) (s_X3_moment_mT ti mT q1 q2 q3) (zw sy) (zw sm) (zw sd) (zw mi) yr mo dy (wY cI cJ y d sy sm sd mi ti sL bL (s_L_moment_mD d ti mD q1 q2 q3) (s_L_moment_mT d ti mT q1 q2 q3) [(o, .inl (cJ, 1, .inr (.inl (s_L_moment_ou d ti ou q1 q2 q3))))]))) (rest := []) (ci := 3) (q0 := 0) C (c_X3_moment l hfl D cI cJ (wY cI cJ y d sy sm sd mi ti sL bL (s_L_moment_mD d ti mD q1 q2 q3) (s_L_moment_mT d ti mT q1 q2 q3) [(o, .inl (cJ, 1, .inr (.inl (s_L_moment_ou d ti ou q1 q2 q3))))]) z co d ti sL bL mD mT (zw sy) (zw sm) (zw sd) (zw mi) yr mo dy q1 q2 q3 ) q_X3_moment rfl rfl rfl gL_law_X3_moment ⟨rfl, rfl⟩ rfl rfl (Nat.le_of_ble_eq_true rfl) ⟨Nat.le_of_ble_eq_true rfl, Nat.le_of_ble_eq_true rfl⟩ ⟨Nat.le_trans (by omega) hnc, Nat.le_trans (by omega) hns⟩ dL_law_3493 ?_
  refine z_ws (ws' := (wY cI cJ y d sy sm sd mi ti sL bL (s_L_moment_mD d ti mD q1 q2 q3) (s_L_moment_mT d ti mT q1 q2 q3) ((o, .inl (cJ, 1, .inr (.inl (s_L_moment_ou d ti ou q1 q2 q3)))) :: (wM cI cJ z (s_X3_moment_co q1 q2 q3) d ti sL bL (s_X3_moment_mD d mD q1 q2 q3) (s_X3_moment_mT ti mT q1 q2 q3) (zw sy) (zw sm) (zw sd) (zw mi) yr mo dy [])))) [11, 12, 13, 14, 15, 16, 17, 18, 19, 20, 21, 22, 0, 1, 2, 3, 4, 5, 6, 7, 8, 9, 10] rfl (by decide) rfl ?_
  refine z_lstore (lv' := [(6, .long (f_X3_moment d mD q1 q2 q3)), (5, .int (f_L_moment d ti q1 q2 q3)), (4, .int i4), (3, .ref o), (2, .ref (z 0)), (1, .ref (y 0)), (0, .ref b)]) C dL_law_3496 (by decide) rfl ?_
  refine z_aload_n C dL_law_3498 rfl 4 rfl ?_
  refine z_ws (ws' := (wM cI cJ z (s_X3_moment_co q1 q2 q3) d ti sL bL (s_X3_moment_mD d mD q1 q2 q3) (s_X3_moment_mT ti mT q1 q2 q3) (zw sy) (zw sm) (zw sd) (zw mi) yr mo dy (wY cI cJ y d sy sm sd mi ti sL bL (s_L_moment_mD d ti mD q1 q2 q3) (s_L_moment_mT d ti mT q1 q2 q3) [(o, .inl (cJ, 1, .inr (.inl (s_L_moment_ou d ti ou q1 q2 q3))))]))) [12, 13, 14, 15, 16, 17, 18, 19, 20, 21, 22, 0, 1, 2, 3, 4, 5, 6, 7, 8, 9, 10, 11] rfl (by decide) rfl ?_
  refine z_wi (ws' := (wM cI cJ z (s_X3_moment_co q1 q2 q3) d ti sL bL (s_X3_moment_mD d mD q1 q2 q3) (s_X3_moment_mT ti mT q1 q2 q3) (zw sy) (zw sm) (zw sd) (zw mi) yr mo dy (wY cI cJ y d sy sm sd mi ti sL bL (s_L_moment_mD d ti mD q1 q2 q3) (s_L_moment_mT d ti mT q1 q2 q3) [(o, .inl (cJ, 1, .inr (.inl (s_L_moment_ou d ti ou q1 q2 q3))))]))) (rest := []) (ci := 3) (q0 := 0) C (c_X3_thrown l hfl D cI cJ (wY cI cJ y d sy sm sd mi ti sL bL (s_L_moment_mD d ti mD q1 q2 q3) (s_L_moment_mT d ti mT q1 q2 q3) [(o, .inl (cJ, 1, .inr (.inl (s_L_moment_ou d ti ou q1 q2 q3))))]) z (s_X3_moment_co q1 q2 q3) d ti sL bL (s_X3_moment_mD d mD q1 q2 q3) (s_X3_moment_mT ti mT q1 q2 q3) (zw sy) (zw sm) (zw sd) (zw mi) yr mo dy  ) q_X3_thrown rfl rfl rfl gL_law_X3_thrown ⟨rfl, rfl⟩ rfl rfl (Nat.le_of_ble_eq_true rfl) ⟨Nat.le_of_ble_eq_true rfl, Nat.le_of_ble_eq_true rfl⟩ ⟨Nat.le_trans (by omega) hnc, Nat.le_trans (by omega) hns⟩ dL_law_3499 ?_
  refine z_ws (ws' := (wY cI cJ y d sy sm sd mi ti sL bL (s_L_moment_mD d ti mD q1 q2 q3) (s_L_moment_mT d ti mT q1 q2 q3) ((o, .inl (cJ, 1, .inr (.inl (s_L_moment_ou d ti ou q1 q2 q3)))) :: (wM cI cJ z (s_X3_moment_co q1 q2 q3) d ti sL bL (s_X3_moment_mD d mD q1 q2 q3) (s_X3_moment_mT ti mT q1 q2 q3) (zw sy) (zw sm) (zw sd) (zw mi) yr mo dy [])))) [11, 12, 13, 14, 15, 16, 17, 18, 19, 20, 21, 22, 0, 1, 2, 3, 4, 5, 6, 7, 8, 9, 10] rfl (by decide) rfl ?_
  refine z_iload C dL_law_3502 1 rfl ?_
  refine z_icmp_eq (tgt := 3509) C dL_law_3504 (by decide) (fun _ => ?_) (fun h => absurd (g_1) h)
  refine z_iload C dL_law_3509 1 rfl ?_
  refine z_if_ne (tgt := 3525) C dL_law_3511 (by decide) (fun h1 => ?_) (fun h1 => ?_)
  · refine z_goto (tgt := 4233) C dL_law_3525 (by decide) ?_
    refine z_sub [2, 3, 4, 5, 6] rfl ?_
    exact z_widen (by omega) (by omega) kk
  · refine z_aload_n C dL_law_3514 rfl 3 rfl ?_
    refine z_iconst (v := 0) C dL_law_3515 (by decide) ?_
    refine z_lald C 11 1 rfl rfl (zvpl 0 1 (by decide)) dL_law_3516 ?_
    refine z_eqst (st' := [.long ((s_L_moment_ou d ti ou q1 q2 q3) 0)]) rfl ?_
    refine z_lload C dL_law_3517 0 rfl ?_
    refine z_lcmp_eq (tgt := 3525) C dL_law_3519 dL_law_3520 (by decide) (fun _ => ?_) (fun h => absurd (g_2 h1) h)
    refine z_goto (tgt := 4233) C dL_law_3525 (by decide) ?_
    refine z_sub [2, 3, 4, 5, 6] rfl ?_
    exact z_widen (by omega) (by omega) kk
def pre_Lc38 (d : Nat → Int64) (mD : Nat → Int64) (ou : Nat → Int64) (q1 : Int32) (q2 : Int32) : Prop := ((pre_L_dateOf mD q1 q2)) ∧ (((s_X3_dateOf_co q1 q2) = (f_L_dateOf mD q1 q2))) ∧ (((f_L_dateOf mD q1 q2) = 0) → (((s_L_dateOf_ou mD ou q1 q2) 0) = (f_X3_dateOf d mD q1 q2)))
set_option maxHeartbeats 4000000 in
set_option maxRecDepth 100000 in
theorem law_c38 {p : Program} {l : Launch} {e : Env} {s : State} {m : MethodId} {args : Array Value} {below : List Frame} {meth : Method} {c : Code} {D : va_G} {cI cJ : ClassId} {A : Nat → Prop} {Q : State → Prop} {ret : Option FieldType} (C : ZC p l s m args meth c 9 D (zTys cI cJ) A cL_law wsL_law RL ret) (hfl : l.stackTraces = false) {b Ln : Nat} {xs : Nat → Int32} (hX : va_X b Ln xs s s.heap) (hbl : b < s.heap.size) (hbA : ¬ A b) (y z : Nat → Nat) (o : Nat) (d : Nat → Int64) (sy : Nat → Int32) (sm : Nat → Int32) (sd : Nat → Int32) (mi : Nat → Int32) (ti : Nat → Int64) (sL : Nat → Int64) (bL : Nat → Int64) (mD : Nat → Int64) (mT : Nat → Int64) (co : Int32) (yr : Int64) (mo : Int32) (dy : Int32) (ou : Nat → Int64) (q1 : Int32) (q2 : Int32) (q3 : Int32) (q4 : Int32) (q5 : Int32) (i4 : Int32) (hv1 : vp_in (i4 + 1) Ln) (hq1 : xs (i4 + 1).toNatClampNeg = q1) (hv2 : vp_in (i4 + 2) Ln) (hq2 : xs (i4 + 2).toNatClampNeg = q2) (hv3 : vp_in (i4 + 3) Ln) (hq3 : xs (i4 + 3).toNatClampNeg = q3) (hv4 : vp_in (i4 + 4) Ln) (hq4 : xs (i4 + 4).toNatClampNeg = q4) (hv5 : vp_in (i4 + 5) Ln) (hq5 : xs (i4 + 5).toNatClampNeg = q5) (nc ns : Nat) (hnc : nc + 6 ≤ room_1.cells) (hns : ns + 36 ≤ room_1.slots) (h_g : pre_Lc38 d mD ou q1 q2) (kk : ZW p l e room_1 s m args below meth c 9 D (zTys cI cJ) A Q (nc + 6) (ns + 36) (wY cI cJ y (s_L_dateOf_d d mD q1 q2) sy sm sd mi ti sL bL mD mT ((o, .inl (cJ, 1, .inr (.inl (s_L_dateOf_ou mD ou q1 q2)))) :: (wM cI cJ z (s_X3_dateOf_co q1 q2) (s_X3_dateOf_d d mD q1 q2) ti sL bL mD mT (zw sy) (zw sm) (zw sd) (zw mi) yr mo dy []))) 4233 [(4, .int i4), (3, .ref o), (2, .ref (z 0)), (1, .ref (y 0)), (0, .ref b)] []) : ZW p l e room_1 s m args below meth c 9 D (zTys cI cJ) A Q nc ns (wY cI cJ y d sy sm sd mi ti sL bL mD mT ((o, .inl (cJ, 1, .inr (.inl ou))) :: (wM cI cJ z co d ti sL bL mD mT (zw sy) (zw sm) (zw sd) (zw mi) yr mo dy []))) 3528 [(4, .int i4), (3, .ref o), (2, .ref (z 0)), (1, .ref (y 0)), (0, .ref b)] [] := by
  obtain ⟨g_0, g_1, g_2⟩ := h_g
  refine z_aload_n C dL_law_3528 rfl 3 rfl ?_
  refine z_aload_n C dL_law_3529 rfl 4 rfl ?_
  refine z_iload C dL_law_3530 0 rfl ?_
  refine z_iconst (v := 1) C dL_law_3532 (by decide) ?_
  refine z_iadd C dL_law_3533 ?_
  refine z_sld C hX hbl hbA hv1 dL_law_3534 ?_
  refine z_eqst (st' := [.int q1, .ref (y 0)]) (congrArg (fun v => Value.int v :: _) hq1) ?_
  refine z_aload_n C dL_law_3535 rfl 4 rfl ?_
  refine z_iload C dL_law_3536 0 rfl ?_
  refine z_iconst (v := 2) C dL_law_3538 (by decide) ?_
  refine z_iadd C dL_law_3539 ?_
  refine z_sld C hX hbl hbA hv2 dL_law_3540 ?_
  refine z_eqst (st' := [.int q2, .int q1, .ref (y 0)]) (congrArg (fun v => Value.int v :: _) hq2) ?_
  refine z_aload_n C dL_law_3541 rfl 1 rfl ?_
  refine z_siH (ws' := (wY cI cJ y (s_L_dateOf_d d mD q1 q2) sy sm sd mi ti sL bL mD mT ((o, .inl (cJ, 1, .inr (.inl (s_L_dateOf_ou mD ou q1 q2)))) :: (wM cI cJ z co d ti sL bL mD mT (zw sy) (zw sm) (zw sd) (zw mi) yr mo dy [])))) C (rest := []) (c_L_dateOf l hfl D cI cJ (wM cI cJ z co d ti sL bL mD mT (zw sy) (zw sm) (zw sd) (zw mi) yr mo dy []) y o d sy sm sd mi ti sL bL mD mT ou q1 q2 (g_0)) q_L_dateOf gL_law_L_dateOf ⟨rfl, rfl⟩ rfl rfl (Nat.le_of_ble_eq_true rfl) ⟨Nat.le_of_ble_eq_true rfl, Nat.le_of_ble_eq_true rfl⟩ ⟨Nat.le_trans (by omega) hnc, Nat.le_trans (by omega) hns⟩ dL_law_3542 ?_
  refine z_istore (lv' := [(5, .int (f_L_dateOf mD q1 q2)), (4, .int i4), (3, .ref o), (2, .ref (z 0)), (1, .ref (y 0)), (0, .ref b)]) C dL_law_3545 (by decide) rfl ?_
  refine z_aload_n C dL_law_3547 rfl 3 rfl ?_
  refine z_aload_n C dL_law_3548 rfl 5 rfl ?_
  refine z_iload C dL_law_3549 1 rfl ?_
  refine z_iconst (v := 1) C dL_law_3551 (by decide) ?_
  refine z_iadd C dL_law_3552 ?_
  refine z_sld C hX hbl hbA hv1 dL_law_3553 ?_
  refine z_eqst (st' := [.int q1, .ref (z 0)]) (congrArg (fun v => Value.int v :: _) hq1) ?_
  refine z_aload_n C dL_law_3554 rfl 5 rfl ?_
  refine z_iload C dL_law_3555 1 rfl ?_
  refine z_iconst (v := 2) C dL_law_3557 (by decide) ?_
  refine z_iadd C dL_law_3558 ?_
  refine z_sld C hX hbl hbA hv2 dL_law_3559 ?_
  refine z_eqst (st' := [.int q2, .int q1, .ref (z 0)]) (congrArg (fun v => Value.int v :: _) hq2) ?_
  refine z_ws (ws' := (wM cI cJ z co d ti sL bL mD mT (zw sy) (zw sm) (zw sd) (zw mi) yr mo dy (wY cI cJ y (s_L_dateOf_d d mD q1 q2) sy sm sd mi ti sL bL mD mT [(o, .inl (cJ, 1, .inr (.inl (s_L_dateOf_ou mD ou q1 q2))))]))) [12, 13, 14, 15, 16, 17, 18, 19, 20, 21, 22, 0, 1, 2, 3, 4, 5, 6, 7, 8, 9, 10, 11] rfl (by decide) rfl ?_
  refine z_wl (ws' := (wM cI cJ z (s_X3_dateOf_co q1 q2) (s_X3_dateOf_d d mD q1 q2) ti sL bL mD mT (zw sy) (zw sm) (zw sd) (zw mi) yr mo dy (wY cI cJ y (s_L_dateOf_d d mD q1 q2) sy sm sd mi ti sL bL mD mT [(o, .inl (cJ, 1, .inr (.inl (s_L_dateOf_ou mD ou q1 q2))))]))) (rest := []) (ci := 3) (q0 := 0) C (c_X3_dateOf l hfl D cI cJ (wY cI cJ y (s_L_dateOf_d d mD q1 q2) sy sm sd mi ti sL bL mD mT [(o, .inl (cJ, 1, .inr (.inl (s_L_dateOf_ou mD ou q1 q2))))]) z co d ti sL bL mD mT (zw sy) (zw sm) (zw sd) (zw mi) yr mo dy q1 q2 ) q_X3_dateOf rfl rfl rfl gL_law_X3_dateOf ⟨rfl, rfl⟩ rfl rfl (Nat.le_of_ble_eq_true rfl) ⟨Nat.le_of_ble_eq_true rfl, Nat.le_of_ble_eq_true rfl⟩ ⟨Nat.le_trans (by omega) hnc, Nat.le_trans (by omega) hns⟩ dL_law_3560 ?_
  refine z_ws (ws' := (wY cI cJ y (s_L_dateOf_d d mD q1 q2) sy sm sd mi ti sL bL mD mT ((o, .inl (cJ, 1, .inr (.inl (s_L_dateOf_ou mD ou q1 q2)))) :: (wM cI cJ z (s_X3_dateOf_co q1 q2) (s_X3_dateOf_d d mD q1 q2) ti sL bL mD mT (zw sy) (zw sm) (zw sd) (zw mi) yr mo dy [])))) [11, 12, 13, 14, 15, 16, 17, 18, 19, 20, 21, 22, 0, 1, 2, 3, 4, 5, 6, 7, 8, 9, 10] rfl (by decide) rfl ?_
  refine z_lstore (lv' := [(6, .long (f_X3_dateOf d mD q1 q2)), (5, .int (f_L_dateOf mD q1 q2)), (4, .int i4), (3, .ref o), (2, .ref (z 0)), (1, .ref (y 0)), (0, .ref b)]) C dL_law_3563 (by decide) rfl ?_
  refine z_aload_n C dL_law_3565 rfl 4 rfl ?_
  refine z_ws (ws' := (wM cI cJ z (s_X3_dateOf_co q1 q2) (s_X3_dateOf_d d mD q1 q2) ti sL bL mD mT (zw sy) (zw sm) (zw sd) (zw mi) yr mo dy (wY cI cJ y (s_L_dateOf_d d mD q1 q2) sy sm sd mi ti sL bL mD mT [(o, .inl (cJ, 1, .inr (.inl (s_L_dateOf_ou mD ou q1 q2))))]))) [12, 13, 14, 15, 16, 17, 18, 19, 20, 21, 22, 0, 1, 2, 3, 4, 5, 6, 7, 8, 9, 10, 11] rfl (by decide) rfl ?_
  refine z_wi (ws' := (wM cI cJ z (s_X3_dateOf_co q1 q2) (s_X3_dateOf_d d mD q1 q2) ti sL bL mD mT (zw sy) (zw sm) (zw sd) (zw mi) yr mo dy (wY cI cJ y (s_L_dateOf_d d mD q1 q2) sy sm sd mi ti sL bL mD mT [(o, .inl (cJ, 1, .inr (.inl (s_L_dateOf_ou mD ou q1 q2))))]))) (rest := []) (ci := 3) (q0 := 0) C (c_X3_thrown l hfl D cI cJ (wY cI cJ y (s_L_dateOf_d d mD q1 q2) sy sm sd mi ti sL bL mD mT [(o, .inl (cJ, 1, .inr (.inl (s_L_dateOf_ou mD ou q1 q2))))]) z (s_X3_dateOf_co q1 q2) (s_X3_dateOf_d d mD q1 q2) ti sL bL mD mT (zw sy) (zw sm) (zw sd) (zw mi) yr mo dy  ) q_X3_thrown rfl rfl rfl gL_law_X3_thrown ⟨rfl, rfl⟩ rfl rfl (Nat.le_of_ble_eq_true rfl) ⟨Nat.le_of_ble_eq_true rfl, Nat.le_of_ble_eq_true rfl⟩ ⟨Nat.le_trans (by omega) hnc, Nat.le_trans (by omega) hns⟩ dL_law_3566 ?_
  refine z_ws (ws' := (wY cI cJ y (s_L_dateOf_d d mD q1 q2) sy sm sd mi ti sL bL mD mT ((o, .inl (cJ, 1, .inr (.inl (s_L_dateOf_ou mD ou q1 q2)))) :: (wM cI cJ z (s_X3_dateOf_co q1 q2) (s_X3_dateOf_d d mD q1 q2) ti sL bL mD mT (zw sy) (zw sm) (zw sd) (zw mi) yr mo dy [])))) [11, 12, 13, 14, 15, 16, 17, 18, 19, 20, 21, 22, 0, 1, 2, 3, 4, 5, 6, 7, 8, 9, 10] rfl (by decide) rfl ?_
  refine z_iload C dL_law_3569 1 rfl ?_
  refine z_icmp_eq (tgt := 3576) C dL_law_3571 (by decide) (fun _ => ?_) (fun h => absurd (g_1) h)
  refine z_iload C dL_law_3576 1 rfl ?_
  refine z_if_ne (tgt := 3592) C dL_law_3578 (by decide) (fun h1 => ?_) (fun h1 => ?_)
  · refine z_goto (tgt := 4233) C dL_law_3592 (by decide) ?_
    refine z_sub [2, 3, 4, 5, 6] rfl ?_
    exact z_widen (by omega) (by omega) kk
  · refine z_aload_n C dL_law_3581 rfl 3 rfl ?_
    refine z_iconst (v := 0) C dL_law_3582 (by decide) ?_
    refine z_lald C 11 1 rfl rfl (zvpl 0 1 (by decide)) dL_law_3583 ?_
    refine z_eqst (st' := [.long ((s_L_dateOf_ou mD ou q1 q2) 0)]) rfl ?_
    refine z_lload C dL_law_3584 0 rfl ?_
    refine z_lcmp_eq (tgt := 3592) C dL_law_3586 dL_law_3587 (by decide) (fun _ => ?_) (fun h => absurd (g_2 h1) h)
    refine z_goto (tgt := 4233) C dL_law_3592 (by decide) ?_
    refine z_sub [2, 3, 4, 5, 6] rfl ?_
    exact z_widen (by omega) (by omega) kk
def pre_Lc39 (ti : Nat → Int64) (mT : Nat → Int64) (ou : Nat → Int64) (q1 : Int32) (q2 : Int32) : Prop := ((pre_L_timeOf q1 q2)) ∧ (((s_X3_timeOf_co q1 q2) = (f_L_timeOf q1 q2))) ∧ (((f_L_timeOf q1 q2) = 0) → (((s_L_timeOf_ou ti mT ou q1 q2) 0) = (f_X3_timeOf ti mT q1 q2)))
set_option maxHeartbeats 4000000 in
set_option maxRecDepth 100000 in
theorem law_c39 {p : Program} {l : Launch} {e : Env} {s : State} {m : MethodId} {args : Array Value} {below : List Frame} {meth : Method} {c : Code} {D : va_G} {cI cJ : ClassId} {A : Nat → Prop} {Q : State → Prop} {ret : Option FieldType} (C : ZC p l s m args meth c 9 D (zTys cI cJ) A cL_law wsL_law RL ret) (hfl : l.stackTraces = false) {b Ln : Nat} {xs : Nat → Int32} (hX : va_X b Ln xs s s.heap) (hbl : b < s.heap.size) (hbA : ¬ A b) (y z : Nat → Nat) (o : Nat) (d : Nat → Int64) (sy : Nat → Int32) (sm : Nat → Int32) (sd : Nat → Int32) (mi : Nat → Int32) (ti : Nat → Int64) (sL : Nat → Int64) (bL : Nat → Int64) (mD : Nat → Int64) (mT : Nat → Int64) (co : Int32) (yr : Int64) (mo : Int32) (dy : Int32) (ou : Nat → Int64) (q1 : Int32) (q2 : Int32) (q3 : Int32) (q4 : Int32) (q5 : Int32) (i4 : Int32) (hv1 : vp_in (i4 + 1) Ln) (hq1 : xs (i4 + 1).toNatClampNeg = q1) (hv2 : vp_in (i4 + 2) Ln) (hq2 : xs (i4 + 2).toNatClampNeg = q2) (hv3 : vp_in (i4 + 3) Ln) (hq3 : xs (i4 + 3).toNatClampNeg = q3) (hv4 : vp_in (i4 + 4) Ln) (hq4 : xs (i4 + 4).toNatClampNeg = q4) (hv5 : vp_in (i4 + 5) Ln) (hq5 : xs (i4 + 5).toNatClampNeg = q5) (nc ns : Nat) (hnc : nc + 6 ≤ room_1.cells) (hns : ns + 36 ≤ room_1.slots) (h_g : pre_Lc39 ti mT ou q1 q2) (kk : ZW p l e room_1 s m args below meth c 9 D (zTys cI cJ) A Q (nc + 6) (ns + 36) (wY cI cJ y d sy sm sd mi (s_L_timeOf_ti ti mT q1 q2) sL bL mD mT ((o, .inl (cJ, 1, .inr (.inl (s_L_timeOf_ou ti mT ou q1 q2)))) :: (wM cI cJ z (s_X3_timeOf_co q1 q2) d (s_X3_timeOf_ti ti mT q1 q2) sL bL mD mT (zw sy) (zw sm) (zw sd) (zw mi) yr mo dy []))) 4233 [(4, .int i4), (3, .ref o), (2, .ref (z 0)), (1, .ref (y 0)), (0, .ref b)] []) : ZW p l e room_1 s m args below meth c 9 D (zTys cI cJ) A Q nc ns (wY cI cJ y d sy sm sd mi ti sL bL mD mT ((o, .inl (cJ, 1, .inr (.inl ou))) :: (wM cI cJ z co d ti sL bL mD mT (zw sy) (zw sm) (zw sd) (zw mi) yr mo dy []))) 3595 [(4, .int i4), (3, .ref o), (2, .ref (z 0)), (1, .ref (y 0)), (0, .ref b)] [] := by
  obtain ⟨g_0, g_1, g_2⟩ := h_g
  refine z_aload_n C dL_law_3595 rfl 3 rfl ?_
  refine z_aload_n C dL_law_3596 rfl 4 rfl ?_
  refine z_iload C dL_law_3597 0 rfl ?_
  refine z_iconst (v := 1) C dL_law_3599 (by decide) ?_
  refine z_iadd C dL_law_3600 ?_
  refine z_sld C hX hbl hbA hv1 dL_law_3601 ?_
  refine z_eqst (st' := [.int q1, .ref (y 0)]) (congrArg (fun v => Value.int v :: _) hq1) ?_
  refine z_aload_n C dL_law_3602 rfl 4 rfl ?_
  refine z_iload C dL_law_3603 0 rfl ?_
  refine z_iconst (v := 2) C dL_law_3605 (by decide) ?_
  refine z_iadd C dL_law_3606 ?_
  refine z_sld C hX hbl hbA hv2 dL_law_3607 ?_
  refine z_eqst (st' := [.int q2, .int q1, .ref (y 0)]) (congrArg (fun v => Value.int v :: _) hq2) ?_
  refine z_aload_n C dL_law_3608 rfl 1 rfl ?_
  refine z_siH (ws' := (wY cI cJ y d sy sm sd mi (s_L_timeOf_ti ti mT q1 q2) sL bL mD mT ((o, .inl (cJ, 1, .inr (.inl (s_L_timeOf_ou ti mT ou q1 q2)))) :: (wM cI cJ z co d ti sL bL mD mT (zw sy) (zw sm) (zw sd) (zw mi) yr mo dy [])))) C (rest := []) (c_L_timeOf l hfl D cI cJ (wM cI cJ z co d ti sL bL mD mT (zw sy) (zw sm) (zw sd) (zw mi) yr mo dy []) y o d sy sm sd mi ti sL bL mD mT ou q1 q2 (g_0)) q_L_timeOf gL_law_L_timeOf ⟨rfl, rfl⟩ rfl rfl (Nat.le_of_ble_eq_true rfl) ⟨Nat.le_of_ble_eq_true rfl, Nat.le_of_ble_eq_true rfl⟩ ⟨Nat.le_trans (by omega) hnc, Nat.le_trans (by omega) hns⟩ dL_law_3609 ?_
  refine z_istore (lv' := [(5, .int (f_L_timeOf q1 q2)), (4, .int i4), (3, .ref o), (2, .ref (z 0)), (1, .ref (y 0)), (0, .ref b)]) C dL_law_3612 (by decide) rfl ?_
  refine z_aload_n C dL_law_3614 rfl 3 rfl ?_
  refine z_aload_n C dL_law_3615 rfl 5 rfl ?_
  refine z_iload C dL_law_3616 1 rfl ?_
  refine z_iconst (v := 1) C dL_law_3618 (by decide) ?_
  refine z_iadd C dL_law_3619 ?_
  refine z_sld C hX hbl hbA hv1 dL_law_3620 ?_
  refine z_eqst (st' := [.int q1, .ref (z 0)]) (congrArg (fun v => Value.int v :: _) hq1) ?_
  refine z_aload_n C dL_law_3621 rfl 5 rfl ?_
  refine z_iload C dL_law_3622 1 rfl ?_
  refine z_iconst (v := 2) C dL_law_3624 (by decide) ?_
  refine z_iadd C dL_law_3625 ?_
  refine z_sld C hX hbl hbA hv2 dL_law_3626 ?_
  refine z_eqst (st' := [.int q2, .int q1, .ref (z 0)]) (congrArg (fun v => Value.int v :: _) hq2) ?_
  refine z_ws (ws' := (wM cI cJ z co d ti sL bL mD mT (zw sy) (zw sm) (zw sd) (zw mi) yr mo dy (wY cI cJ y d sy sm sd mi (s_L_timeOf_ti ti mT q1 q2) sL bL mD mT [(o, .inl (cJ, 1, .inr (.inl (s_L_timeOf_ou ti mT ou q1 q2))))]))) [12, 13, 14, 15, 16, 17, 18, 19, 20, 21, 22, 0, 1, 2, 3, 4, 5, 6, 7, 8, 9, 10, 11] rfl (by decide) rfl ?_
  refine z_wl (ws' := (wM cI cJ z (s_X3_timeOf_co q1 q2) d (s_X3_timeOf_ti ti mT q1 q2) sL bL mD mT (zw sy) (zw sm) (zw sd) (zw mi) yr mo dy (wY cI cJ y d sy sm sd mi (s_L_timeOf_ti ti mT q1 q2) sL bL mD mT [(o, .inl (cJ, 1, .inr (.inl (s_L_timeOf_ou ti mT ou q1 q2))))]))) (rest := []) (ci := 3) (q0 := 0) C (c_X3_timeOf l hfl D cI cJ (wY cI cJ y d sy sm sd mi (s_L_timeOf_ti ti mT q1 q2) sL bL mD mT [(o, .inl (cJ, 1, .inr (.inl (s_L_timeOf_ou ti mT ou q1 q2))))]) z co d ti sL bL mD mT (zw sy) (zw sm) (zw sd) (zw mi) yr mo dy q1 q2 ) q_X3_timeOf rfl rfl rfl gL_law_X3_timeOf ⟨rfl, rfl⟩ rfl rfl (Nat.le_of_ble_eq_true rfl) ⟨Nat.le_of_ble_eq_true rfl, Nat.le_of_ble_eq_true rfl⟩ ⟨Nat.le_trans (by omega) hnc, Nat.le_trans (by omega) hns⟩ dL_law_3627 ?_
  refine z_ws (ws' := (wY cI cJ y d sy sm sd mi (s_L_timeOf_ti ti mT q1 q2) sL bL mD mT ((o, .inl (cJ, 1, .inr (.inl (s_L_timeOf_ou ti mT ou q1 q2)))) :: (wM cI cJ z (s_X3_timeOf_co q1 q2) d (s_X3_timeOf_ti ti mT q1 q2) sL bL mD mT (zw sy) (zw sm) (zw sd) (zw mi) yr mo dy [])))) [11, 12, 13, 14, 15, 16, 17, 18, 19, 20, 21, 22, 0, 1, 2, 3, 4, 5, 6, 7, 8, 9, 10] rfl (by decide) rfl ?_
  refine z_lstore (lv' := [(6, .long (f_X3_timeOf ti mT q1 q2)), (5, .int (f_L_timeOf q1 q2)), (4, .int i4), (3, .ref o), (2, .ref (z 0)), (1, .ref (y 0)), (0, .ref b)]) C dL_law_3630 (by decide) rfl ?_
  refine z_aload_n C dL_law_3632 rfl 4 rfl ?_
  refine z_ws (ws' := (wM cI cJ z (s_X3_timeOf_co q1 q2) d (s_X3_timeOf_ti ti mT q1 q2) sL bL mD mT (zw sy) (zw sm) (zw sd) (zw mi) yr mo dy (wY cI cJ y d sy sm sd mi (s_L_timeOf_ti ti mT q1 q2) sL bL mD mT [(o, .inl (cJ, 1, .inr (.inl (s_L_timeOf_ou ti mT ou q1 q2))))]))) [12, 13, 14, 15, 16, 17, 18, 19, 20, 21, 22, 0, 1, 2, 3, 4, 5, 6, 7, 8, 9, 10, 11] rfl (by decide) rfl ?_
  refine z_wi (ws' := (wM cI cJ z (s_X3_timeOf_co q1 q2) d (s_X3_timeOf_ti ti mT q1 q2) sL bL mD mT (zw sy) (zw sm) (zw sd) (zw mi) yr mo dy (wY cI cJ y d sy sm sd mi (s_L_timeOf_ti ti mT q1 q2) sL bL mD mT [(o, .inl (cJ, 1, .inr (.inl (s_L_timeOf_ou ti mT ou q1 q2))))]))) (rest := []) (ci := 3) (q0 := 0) C (c_X3_thrown l hfl D cI cJ (wY cI cJ y d sy sm sd mi (s_L_timeOf_ti ti mT q1 q2) sL bL mD mT [(o, .inl (cJ, 1, .inr (.inl (s_L_timeOf_ou ti mT ou q1 q2))))]) z (s_X3_timeOf_co q1 q2) d (s_X3_timeOf_ti ti mT q1 q2) sL bL mD mT (zw sy) (zw sm) (zw sd) (zw mi) yr mo dy  ) q_X3_thrown rfl rfl rfl gL_law_X3_thrown ⟨rfl, rfl⟩ rfl rfl (Nat.le_of_ble_eq_true rfl) ⟨Nat.le_of_ble_eq_true rfl, Nat.le_of_ble_eq_true rfl⟩ ⟨Nat.le_trans (by omega) hnc, Nat.le_trans (by omega) hns⟩ dL_law_3633 ?_
  refine z_ws (ws' := (wY cI cJ y d sy sm sd mi (s_L_timeOf_ti ti mT q1 q2) sL bL mD mT ((o, .inl (cJ, 1, .inr (.inl (s_L_timeOf_ou ti mT ou q1 q2)))) :: (wM cI cJ z (s_X3_timeOf_co q1 q2) d (s_X3_timeOf_ti ti mT q1 q2) sL bL mD mT (zw sy) (zw sm) (zw sd) (zw mi) yr mo dy [])))) [11, 12, 13, 14, 15, 16, 17, 18, 19, 20, 21, 22, 0, 1, 2, 3, 4, 5, 6, 7, 8, 9, 10] rfl (by decide) rfl ?_
  refine z_iload C dL_law_3636 1 rfl ?_
  refine z_icmp_eq (tgt := 3643) C dL_law_3638 (by decide) (fun _ => ?_) (fun h => absurd (g_1) h)
  refine z_iload C dL_law_3643 1 rfl ?_
  refine z_if_ne (tgt := 3659) C dL_law_3645 (by decide) (fun h1 => ?_) (fun h1 => ?_)
  · refine z_goto (tgt := 4233) C dL_law_3659 (by decide) ?_
    refine z_sub [2, 3, 4, 5, 6] rfl ?_
    exact z_widen (by omega) (by omega) kk
  · refine z_aload_n C dL_law_3648 rfl 3 rfl ?_
    refine z_iconst (v := 0) C dL_law_3649 (by decide) ?_
    refine z_lald C 11 1 rfl rfl (zvpl 0 1 (by decide)) dL_law_3650 ?_
    refine z_eqst (st' := [.long ((s_L_timeOf_ou ti mT ou q1 q2) 0)]) rfl ?_
    refine z_lload C dL_law_3651 0 rfl ?_
    refine z_lcmp_eq (tgt := 3659) C dL_law_3653 dL_law_3654 (by decide) (fun _ => ?_) (fun h => absurd (g_2 h1) h)
    refine z_goto (tgt := 4233) C dL_law_3659 (by decide) ?_
    refine z_sub [2, 3, 4, 5, 6] rfl ?_
    exact z_widen (by omega) (by omega) kk
def pre_Lc40 (mD : Nat → Int64) (mT : Nat → Int64) (ou : Nat → Int64) (q1 : Int32) (q2 : Int32) (q3 : Int32) (q4 : Int32) (q5 : Int32) : Prop := ((pre_X3_moveMoment mD q1 ((q2.toUInt32 % 65536).toInt32) (((q3).toInt64 <<< ((32 : Int32).toInt64 &&& 63)) ||| ((q4).toInt64 &&& 4294967295)) q5)) ∧ (((s_X3_moveMoment_co mD mT q1 ((q2.toUInt32 % 65536).toInt32) (((q3).toInt64 <<< ((32 : Int32).toInt64 &&& 63)) ||| ((q4).toInt64 &&& 4294967295)) q5) = (f_L_moveMoment mD mT q1 ((q2.toUInt32 % 65536).toInt32) (((q3).toInt64 <<< ((32 : Int32).toInt64 &&& 63)) ||| ((q4).toInt64 &&& 4294967295)) q5))) ∧ (((f_L_moveMoment mD mT q1 ((q2.toUInt32 % 65536).toInt32) (((q3).toInt64 <<< ((32 : Int32).toInt64 &&& 63)) ||| ((q4).toInt64 &&& 4294967295)) q5) = 0) → (((s_L_moveMoment_ou mD mT ou q1 ((q2.toUInt32 % 65536).toInt32) (((q3).toInt64 <<< ((32 : Int32).toInt64 &&& 63)) ||| ((q4).toInt64 &&& 4294967295)) q5) 0) = (f_X3_moveMoment mD mT q1 ((q2.toUInt32 % 65536).toInt32) (((q3).toInt64 <<< ((32 : Int32).toInt64 &&& 63)) ||| ((q4).toInt64 &&& 4294967295)) q5)))
set_option maxHeartbeats 4000000 in
set_option maxRecDepth 100000 in
theorem law_c40 {p : Program} {l : Launch} {e : Env} {s : State} {m : MethodId} {args : Array Value} {below : List Frame} {meth : Method} {c : Code} {D : va_G} {cI cJ : ClassId} {A : Nat → Prop} {Q : State → Prop} {ret : Option FieldType} (C : ZC p l s m args meth c 9 D (zTys cI cJ) A cL_law wsL_law RL ret) (hfl : l.stackTraces = false) {b Ln : Nat} {xs : Nat → Int32} (hX : va_X b Ln xs s s.heap) (hbl : b < s.heap.size) (hbA : ¬ A b) (y z : Nat → Nat) (o : Nat) (d : Nat → Int64) (sy : Nat → Int32) (sm : Nat → Int32) (sd : Nat → Int32) (mi : Nat → Int32) (ti : Nat → Int64) (sL : Nat → Int64) (bL : Nat → Int64) (mD : Nat → Int64) (mT : Nat → Int64) (co : Int32) (yr : Int64) (mo : Int32) (dy : Int32) (ou : Nat → Int64) (q1 : Int32) (q2 : Int32) (q3 : Int32) (q4 : Int32) (q5 : Int32) (i4 : Int32) (hv1 : vp_in (i4 + 1) Ln) (hq1 : xs (i4 + 1).toNatClampNeg = q1) (hv2 : vp_in (i4 + 2) Ln) (hq2 : xs (i4 + 2).toNatClampNeg = q2) (hv3 : vp_in (i4 + 3) Ln) (hq3 : xs (i4 + 3).toNatClampNeg = q3) (hv4 : vp_in (i4 + 4) Ln) (hq4 : xs (i4 + 4).toNatClampNeg = q4) (hv5 : vp_in (i4 + 5) Ln) (hq5 : xs (i4 + 5).toNatClampNeg = q5) (nc ns : Nat) (hnc : nc + 6 ≤ room_1.cells) (hns : ns + 36 ≤ room_1.slots) (h_g : pre_Lc40 mD mT ou q1 q2 q3 q4 q5) (kk : ZW p l e room_1 s m args below meth c 9 D (zTys cI cJ) A Q (nc + 6) (ns + 36) (wY cI cJ y d sy sm sd mi ti sL bL (s_L_moveMoment_mD mD mT q1 ((q2.toUInt32 % 65536).toInt32) (((q3).toInt64 <<< ((32 : Int32).toInt64 &&& 63)) ||| ((q4).toInt64 &&& 4294967295)) q5) (s_L_moveMoment_mT mD mT q1 ((q2.toUInt32 % 65536).toInt32) (((q3).toInt64 <<< ((32 : Int32).toInt64 &&& 63)) ||| ((q4).toInt64 &&& 4294967295)) q5) ((o, .inl (cJ, 1, .inr (.inl (s_L_moveMoment_ou mD mT ou q1 ((q2.toUInt32 % 65536).toInt32) (((q3).toInt64 <<< ((32 : Int32).toInt64 &&& 63)) ||| ((q4).toInt64 &&& 4294967295)) q5)))) :: (wM cI cJ z (s_X3_moveMoment_co mD mT q1 ((q2.toUInt32 % 65536).toInt32) (((q3).toInt64 <<< ((32 : Int32).toInt64 &&& 63)) ||| ((q4).toInt64 &&& 4294967295)) q5) d ti sL bL (s_X3_moveMoment_mD mD mT q1 ((q2.toUInt32 % 65536).toInt32) (((q3).toInt64 <<< ((32 : Int32).toInt64 &&& 63)) ||| ((q4).toInt64 &&& 4294967295)) q5) (s_X3_moveMoment_mT mD mT q1 ((q2.toUInt32 % 65536).toInt32) (((q3).toInt64 <<< ((32 : Int32).toInt64 &&& 63)) ||| ((q4).toInt64 &&& 4294967295)) q5) (zw sy) (zw sm) (zw sd) (zw mi) (s_X3_moveMoment_yr mD yr q1 ((q2.toUInt32 % 65536).toInt32) (((q3).toInt64 <<< ((32 : Int32).toInt64 &&& 63)) ||| ((q4).toInt64 &&& 4294967295)) q5) (s_X3_moveMoment_mo mD mo q1 ((q2.toUInt32 % 65536).toInt32) (((q3).toInt64 <<< ((32 : Int32).toInt64 &&& 63)) ||| ((q4).toInt64 &&& 4294967295)) q5) (s_X3_moveMoment_dy mD dy q1 ((q2.toUInt32 % 65536).toInt32) (((q3).toInt64 <<< ((32 : Int32).toInt64 &&& 63)) ||| ((q4).toInt64 &&& 4294967295)) q5) []))) 4233 [(4, .int i4), (3, .ref o), (2, .ref (z 0)), (1, .ref (y 0)), (0, .ref b)] []) : ZW p l e room_1 s m args below meth c 9 D (zTys cI cJ) A Q nc ns (wY cI cJ y d sy sm sd mi ti sL bL mD mT ((o, .inl (cJ, 1, .inr (.inl ou))) :: (wM cI cJ z co d ti sL bL mD mT (zw sy) (zw sm) (zw sd) (zw mi) yr mo dy []))) 3662 [(4, .int i4), (3, .ref o), (2, .ref (z 0)), (1, .ref (y 0)), (0, .ref b)] [] := by
  have w1 := C.1.2.2.2.2 (.constantLong RL 181 (4294967295)) (by decide +kernel)
  obtain ⟨g_0, g_1, g_2⟩ := h_g
  refine z_aload_n C dL_law_3662 rfl 3 rfl ?_
  refine z_aload_n C dL_law_3663 rfl 4 rfl ?_
  refine z_iload C dL_law_3664 0 rfl ?_
  refine z_iconst (v := 1) C dL_law_3666 (by decide) ?_
  refine z_iadd C dL_law_3667 ?_
  refine z_sld C hX hbl hbA hv1 dL_law_3668 ?_
  refine z_eqst (st' := [.int q1, .ref (y 0)]) (congrArg (fun v => Value.int v :: _) hq1) ?_
  refine z_aload_n C dL_law_3669 rfl 4 rfl ?_
  refine z_iload C dL_law_3670 0 rfl ?_
  refine z_iconst (v := 2) C dL_law_3672 (by decide) ?_
  refine z_iadd C dL_law_3673 ?_
  refine z_sld C hX hbl hbA hv2 dL_law_3674 ?_
  refine z_eqst (st' := [.int q2, .int q1, .ref (y 0)]) (congrArg (fun v => Value.int v :: _) hq2) ?_
  refine z_i2c (v := (q2.toUInt32 % 65536).toInt32) C dL_law_3675 rfl ?_
  refine z_aload_n C dL_law_3676 rfl 4 rfl ?_
  refine z_iload C dL_law_3677 0 rfl ?_
  refine z_iconst (v := 3) C dL_law_3679 (by decide) ?_
  refine z_iadd C dL_law_3680 ?_
  refine z_sld C hX hbl hbA hv3 dL_law_3681 ?_
  refine z_eqst (st' := [.int q3, .int ((q2.toUInt32 % 65536).toInt32), .int q1, .ref (y 0)]) (congrArg (fun v => Value.int v :: _) hq3) ?_
  refine z_i2l (v := (q3).toInt64) C dL_law_3682 rfl ?_
  refine z_bipush (v := 32) C dL_law_3683 (by decide) ?_
  refine z_lshl (v := ((q3).toInt64 <<< ((32 : Int32).toInt64 &&& 63))) C dL_law_3685 rfl ?_
  refine z_aload_n C dL_law_3686 rfl 4 rfl ?_
  refine z_iload C dL_law_3687 0 rfl ?_
  refine z_iconst (v := 4) C dL_law_3689 (by decide) ?_
  refine z_iadd C dL_law_3690 ?_
  refine z_sld C hX hbl hbA hv4 dL_law_3691 ?_
  refine z_eqst (st' := [.int q4, .long ((q3).toInt64 <<< ((32 : Int32).toInt64 &&& 63)), .int ((q2.toUInt32 % 65536).toInt32), .int q1, .ref (y 0)]) (congrArg (fun v => Value.int v :: _) hq4) ?_
  refine z_i2l (v := (q4).toInt64) C dL_law_3692 rfl ?_
  refine z_ldc2 (v := 4294967295) C w1 dL_law_3693 ?_
  refine z_land C dL_law_3696 ?_
  refine z_lor C dL_law_3697 ?_
  refine z_aload_n C dL_law_3698 rfl 4 rfl ?_
  refine z_iload C dL_law_3699 0 rfl ?_
  refine z_iconst (v := 5) C dL_law_3701 (by decide) ?_
  refine z_iadd C dL_law_3702 ?_
  refine z_sld C hX hbl hbA hv5 dL_law_3703 ?_
  refine z_eqst (st' := [.int q5, .long (((q3).toInt64 <<< ((32 : Int32).toInt64 &&& 63)) ||| ((q4).toInt64 &&& 4294967295)), .int ((q2.toUInt32 % 65536).toInt32), .int q1, .ref (y 0)]) (congrArg (fun v => Value.int v :: _) hq5) ?_
  refine z_aload_n C dL_law_3704 rfl 1 rfl ?_
  refine z_siH (ws' := (wY cI cJ y d sy sm sd mi ti sL bL (s_L_moveMoment_mD mD mT q1 ((q2.toUInt32 % 65536).toInt32) (((q3).toInt64 <<< ((32 : Int32).toInt64 &&& 63)) ||| ((q4).toInt64 &&& 4294967295)) q5) (s_L_moveMoment_mT mD mT q1 ((q2.toUInt32 % 65536).toInt32) (((q3).toInt64 <<< ((32 : Int32).toInt64 &&& 63)) ||| ((q4).toInt64 &&& 4294967295)) q5) ((o, .inl (cJ, 1, .inr (.inl (s_L_moveMoment_ou mD mT ou q1 ((q2.toUInt32 % 65536).toInt32) (((q3).toInt64 <<< ((32 : Int32).toInt64 &&& 63)) ||| ((q4).toInt64 &&& 4294967295)) q5)))) :: (wM cI cJ z co d ti sL bL mD mT (zw sy) (zw sm) (zw sd) (zw mi) yr mo dy [])))) C (rest := []) (c_L_moveMoment l hfl D cI cJ (wM cI cJ z co d ti sL bL mD mT (zw sy) (zw sm) (zw sd) (zw mi) yr mo dy []) y o d sy sm sd mi ti sL bL mD mT ou q1 ((q2.toUInt32 % 65536).toInt32) (((q3).toInt64 <<< ((32 : Int32).toInt64 &&& 63)) ||| ((q4).toInt64 &&& 4294967295)) q5 ) q_L_moveMoment gL_law_L_moveMoment ⟨rfl, rfl⟩ rfl rfl (Nat.le_of_ble_eq_true rfl) ⟨Nat.le_of_ble_eq_true rfl, Nat.le_of_ble_eq_true rfl⟩ ⟨Nat.le_trans (by omega) hnc, Nat.le_trans (by omega) hns⟩ dL_law_3705 ?_
  refine z_istore (lv' := [(5, .int (f_L_moveMoment mD mT q1 ((q2.toUInt32 % 65536).toInt32) (((q3).toInt64 <<< ((32 : Int32).toInt64 &&& 63)) ||| ((q4).toInt64 &&& 4294967295)) q5)), (4, .int i4), (3, .ref o), (2, .ref (z 0)), (1, .ref (y 0)), (0, .ref b)]) C dL_law_3708 (by decide) rfl ?_
  refine z_aload_n C dL_law_3710 rfl 3 rfl ?_
  refine z_aload_n C dL_law_3711 rfl 5 rfl ?_
  refine z_iload C dL_law_3712 1 rfl ?_
  refine z_iconst (v := 1) C dL_law_3714 (by decide) ?_
  refine z_iadd C dL_law_3715 ?_
  refine z_sld C hX hbl hbA hv1 dL_law_3716 ?_
  refine z_eqst (st' := [.int q1, .ref (z 0)]) (congrArg (fun v => Value.int v :: _) hq1) ?_
  refine z_aload_n C dL_law_3717 rfl 5 rfl ?_
  refine z_iload C dL_law_3718 1 rfl ?_
  refine z_iconst (v := 2) C dL_law_3720 (by decide) ?_
  refine z_iadd C dL_law_3721 ?_
  refine z_sld C hX hbl hbA hv2 dL_law_3722 ?_
  refine z_eqst (st' := [.int q2, .int q1, .ref (z 0)]) (congrArg (fun v => Value.int v :: _) hq2) ?_
  refine z_i2c (v := (q2.toUInt32 % 65536).toInt32) C dL_law_3723 rfl ?_
  refine z_aload_n C dL_law_3724 rfl 5 rfl ?_
  refine z_iload C dL_law_3725 1 rfl ?_
  refine z_iconst (v := 3) C dL_law_3727 (by decide) ?_
  refine z_iadd C dL_law_3728 ?_
  refine z_sld C hX hbl hbA hv3 dL_law_3729 ?_
  refine z_eqst (st' := [.int q3, .int ((q2.toUInt32 % 65536).toInt32), .int q1, .ref (z 0)]) (congrArg (fun v => Value.int v :: _) hq3) ?_
  refine z_i2l (v := (q3).toInt64) C dL_law_3730 rfl ?_
  refine z_bipush (v := 32) C dL_law_3731 (by decide) ?_
  refine z_lshl (v := ((q3).toInt64 <<< ((32 : Int32).toInt64 &&& 63))) C dL_law_3733 rfl ?_
  refine z_aload_n C dL_law_3734 rfl 5 rfl ?_
  refine z_iload C dL_law_3735 1 rfl ?_
  refine z_iconst (v := 4) C dL_law_3737 (by decide) ?_
  refine z_iadd C dL_law_3738 ?_
  refine z_sld C hX hbl hbA hv4 dL_law_3739 ?_
  refine z_eqst (st' := [.int q4, .long ((q3).toInt64 <<< ((32 : Int32).toInt64 &&& 63)), .int ((q2.toUInt32 % 65536).toInt32), .int q1, .ref (z 0)]) (congrArg (fun v => Value.int v :: _) hq4) ?_
  refine z_i2l (v := (q4).toInt64) C dL_law_3740 rfl ?_
  refine z_ldc2 (v := 4294967295) C w1 dL_law_3741 ?_
  refine z_land C dL_law_3744 ?_
  refine z_lor C dL_law_3745 ?_
  refine z_aload_n C dL_law_3746 rfl 5 rfl ?_
  refine z_iload C dL_law_3747 1 rfl ?_
  refine z_iconst (v := 5) C dL_law_3749 (by decide) ?_
  refine z_iadd C dL_law_3750 ?_
  refine z_sld C hX hbl hbA hv5 dL_law_3751 ?_
  refine z_eqst (st' := [.int q5, .long (((q3).toInt64 <<< ((32 : Int32).toInt64 &&& 63)) ||| ((q4).toInt64 &&& 4294967295)), .int ((q2.toUInt32 % 65536).toInt32), .int q1, .ref (z 0)]) (congrArg (fun v => Value.int v :: _) hq5) ?_
  refine z_ws (ws' := (wM cI cJ z co d ti sL bL mD mT (zw sy) (zw sm) (zw sd) (zw mi) yr mo dy (wY cI cJ y d sy sm sd mi ti sL bL (s_L_moveMoment_mD mD mT q1 ((q2.toUInt32 % 65536).toInt32) (((q3).toInt64 <<< ((32 : Int32).toInt64 &&& 63)) ||| ((q4).toInt64 &&& 4294967295)) q5) (s_L_moveMoment_mT mD mT q1 ((q2.toUInt32 % 65536).toInt32) (((q3).toInt64 <<< ((32 : Int32).toInt64 &&& 63)) ||| ((q4).toInt64 &&& 4294967295)) q5) [(o, .inl (cJ, 1, .inr (.inl (s_L_moveMoment_ou mD mT ou q1 ((q2.toUInt32 % 65536).toInt32) (((q3).toInt64 <<< ((32 : Int32).toInt64 &&& 63)) ||| ((q4).toInt64 &&& 4294967295)) q5))))]))) [12, 13, 14, 15, 16, 17, 18, 19, 20, 21, 22, 0, 1, 2, 3, 4, 5, 6, 7, 8, 9, 10, 11] rfl (by decide) rfl ?_
  refine z_wl (ws' := (wM cI cJ z (s_X3_moveMoment_co mD mT q1 ((q2.toUInt32 % 65536).toInt32) (((q3).toInt64 <<< ((32 : Int32).toInt64 &&& 63)) ||| ((q4).toInt64 &&& 4294967295)) q5) d ti sL bL (s_X3_moveMoment_mD mD mT q1 ((q2.toUInt32 % 65536).toInt32) (((q3).toInt64 <<< ((32 : Int32).toInt64 &&& 63)) ||| ((q4).toInt64 &&& 4294967295)) q5) (s_X3_moveMoment_mT mD mT q1 ((q2.toUInt32 % 65536).toInt32) (((q3).toInt64 <<< ((32 : Int32).toInt64 &&& 63)) ||| ((q4).toInt64 &&& 4294967295)) q5) (zw sy) (zw sm) (zw sd) (zw mi) (s_X3_moveMoment_yr mD yr q1 ((q2.toUInt32 % 65536).toInt32) (((q3).toInt64 <<< ((32 : Int32).toInt64 &&& 63)) ||| ((q4).toInt64 &&& 4294967295)) q5) (s_X3_moveMoment_mo mD mo q1 ((q2.toUInt32 % 65536).toInt32) (((q3).toInt64 <<< ((32 : Int32).toInt64 &&& 63)) ||| ((q4).toInt64 &&& 4294967295)) q5) (s_X3_moveMoment_dy mD dy q1 ((q2.toUInt32 % 65536).toInt32) (((q3).toInt64 <<< ((32 : Int32).toInt64 &&& 63)) ||| ((q4).toInt64 &&& 4294967295)) q5) (wY cI cJ y d sy sm sd mi ti sL bL (s_L_moveMoment_mD mD mT q1 ((q2.toUInt32 % 65536).toInt32) (((q3).toInt64 <<< ((32 : Int32).toInt64 &&& 63)) ||| ((q4).toInt64 &&& 4294967295)) q5) (s_L_moveMoment_mT mD mT q1 ((q2.toUInt32 % 65536).toInt32) (((q3).toInt64 <<< ((32 : Int32).toInt64 &&& 63)) ||| ((q4).toInt64 &&& 4294967295)) q5) [(o, .inl (cJ, 1, .inr (.inl (s_L_moveMoment_ou mD mT ou q1 ((q2.toUInt32 % 65536).toInt32) (((q3).toInt64 <<< ((32 : Int32).toInt64 &&& 63)) ||| ((q4).toInt64 &&& 4294967295)) q5))))]))) (rest := []) (ci := 3) (q0 := 0) C (c_X3_moveMoment l hfl D cI cJ (wY cI cJ y d sy sm sd mi ti sL bL (s_L_moveMoment_mD mD mT q1 ((q2.toUInt32 % 65536).toInt32) (((q3).toInt64 <<< ((32 : Int32).toInt64 &&& 63)) ||| ((q4).toInt64 &&& 4294967295)) q5) (s_L_moveMoment_mT mD mT q1 ((q2.toUInt32 % 65536).toInt32) (((q3).toInt64 <<< ((32 : Int32).toInt64 &&& 63)) ||| ((q4).toInt64 &&& 4294967295)) q5) [(o, .inl (cJ, 1, .inr (.inl (s_L_moveMoment_ou mD mT ou q1 ((q2.toUInt32 % 65536).toInt32) (((q3).toInt64 <<< ((32 : Int32).toInt64 &&& 63)) ||| ((q4).toInt64 &&& 4294967295)) q5))))]) z co d ti sL bL mD mT (zw sy) (zw sm) (zw sd) (zw mi) yr mo dy q1 ((q2.toUInt32 % 65536).toInt32) (((q3).toInt64 <<< ((32 : Int32).toInt64 &&& 63)) ||| ((q4).toInt64 &&& 4294967295)) q5 (g_0)) q_X3_moveMoment rfl rfl rfl gL_law_X3_moveMoment ⟨rfl, rfl⟩ rfl rfl (Nat.le_of_ble_eq_true rfl) ⟨Nat.le_of_ble_eq_true rfl, Nat.le_of_ble_eq_true rfl⟩ ⟨Nat.le_trans (by omega) hnc, Nat.le_trans (by omega) hns⟩ dL_law_3752 ?_
  refine z_ws (ws' := (wY cI cJ y d sy sm sd mi ti sL bL (s_L_moveMoment_mD mD mT q1 ((q2.toUInt32 % 65536).toInt32) (((q3).toInt64 <<< ((32 : Int32).toInt64 &&& 63)) ||| ((q4).toInt64 &&& 4294967295)) q5) (s_L_moveMoment_mT mD mT q1 ((q2.toUInt32 % 65536).toInt32) (((q3).toInt64 <<< ((32 : Int32).toInt64 &&& 63)) ||| ((q4).toInt64 &&& 4294967295)) q5) ((o, .inl (cJ, 1, .inr (.inl (s_L_moveMoment_ou mD mT ou q1 ((q2.toUInt32 % 65536).toInt32) (((q3).toInt64 <<< ((32 : Int32).toInt64 &&& 63)) ||| ((q4).toInt64 &&& 4294967295)) q5)))) :: (wM cI cJ z (s_X3_moveMoment_co mD mT q1 ((q2.toUInt32 % 65536).toInt32) (((q3).toInt64 <<< ((32 : Int32).toInt64 &&& 63)) ||| ((q4).toInt64 &&& 4294967295)) q5) d ti sL bL (s_X3_moveMoment_mD mD mT q1 ((q2.toUInt32 % 65536).toInt32) (((q3).toInt64 <<< ((32 : Int32).toInt64 &&& 63)) ||| ((q4).toInt64 &&& 4294967295)) q5) (s_X3_moveMoment_mT mD mT q1 ((q2.toUInt32 % 65536).toInt32) (((q3).toInt64 <<< ((32 : Int32).toInt64 &&& 63)) ||| ((q4).toInt64 &&& 4294967295)) q5) (zw sy) (zw sm) (zw sd) (zw mi) (s_X3_moveMoment_yr mD yr q1 ((q2.toUInt32 % 65536).toInt32) (((q3).toInt64 <<< ((32 : Int32).toInt64 &&& 63)) ||| ((q4).toInt64 &&& 4294967295)) q5) (s_X3_moveMoment_mo mD mo q1 ((q2.toUInt32 % 65536).toInt32) (((q3).toInt64 <<< ((32 : Int32).toInt64 &&& 63)) ||| ((q4).toInt64 &&& 4294967295)) q5) (s_X3_moveMoment_dy mD dy q1 ((q2.toUInt32 % 65536).toInt32) (((q3).toInt64 <<< ((32 : Int32).toInt64 &&& 63)) ||| ((q4).toInt64 &&& 4294967295)) q5) [])))) [11, 12, 13, 14, 15, 16, 17, 18, 19, 20, 21, 22, 0, 1, 2, 3, 4, 5, 6, 7, 8, 9, 10] rfl (by decide) rfl ?_
  refine z_lstore (lv' := [(6, .long (f_X3_moveMoment mD mT q1 ((q2.toUInt32 % 65536).toInt32) (((q3).toInt64 <<< ((32 : Int32).toInt64 &&& 63)) ||| ((q4).toInt64 &&& 4294967295)) q5)), (5, .int (f_L_moveMoment mD mT q1 ((q2.toUInt32 % 65536).toInt32) (((q3).toInt64 <<< ((32 : Int32).toInt64 &&& 63)) ||| ((q4).toInt64 &&& 4294967295)) q5)), (4, .int i4), (3, .ref o), (2, .ref (z 0)), (1, .ref (y 0)), (0, .ref b)]) C dL_law_3755 (by decide) rfl ?_
  refine z_aload_n C dL_law_3757 rfl 4 rfl ?_
  refine z_ws (ws' := (wM cI cJ z (s_X3_moveMoment_co mD mT q1 ((q2.toUInt32 % 65536).toInt32) (((q3).toInt64 <<< ((32 : Int32).toInt64 &&& 63)) ||| ((q4).toInt64 &&& 4294967295)) q5) d ti sL bL (s_X3_moveMoment_mD mD mT q1 ((q2.toUInt32 % 65536).toInt32) (((q3).toInt64 <<< ((32 : Int32).toInt64 &&& 63)) ||| ((q4).toInt64 &&& 4294967295)) q5) (s_X3_moveMoment_mT mD mT q1 ((q2.toUInt32 % 65536).toInt32) (((q3).toInt64 <<< ((32 : Int32).toInt64 &&& 63)) ||| ((q4).toInt64 &&& 4294967295)) q5) (zw sy) (zw sm) (zw sd) (zw mi) (s_X3_moveMoment_yr mD yr q1 ((q2.toUInt32 % 65536).toInt32) (((q3).toInt64 <<< ((32 : Int32).toInt64 &&& 63)) ||| ((q4).toInt64 &&& 4294967295)) q5) (s_X3_moveMoment_mo mD mo q1 ((q2.toUInt32 % 65536).toInt32) (((q3).toInt64 <<< ((32 : Int32).toInt64 &&& 63)) ||| ((q4).toInt64 &&& 4294967295)) q5) (s_X3_moveMoment_dy mD dy q1 ((q2.toUInt32 % 65536).toInt32) (((q3).toInt64 <<< ((32 : Int32).toInt64 &&& 63)) ||| ((q4).toInt64 &&& 4294967295)) q5) (wY cI cJ y d sy sm sd mi ti sL bL (s_L_moveMoment_mD mD mT q1 ((q2.toUInt32 % 65536).toInt32) (((q3).toInt64 <<< ((32 : Int32).toInt64 &&& 63)) ||| ((q4).toInt64 &&& 4294967295)) q5) (s_L_moveMoment_mT mD mT q1 ((q2.toUInt32 % 65536).toInt32) (((q3).toInt64 <<< ((32 : Int32).toInt64 &&& 63)) ||| ((q4).toInt64 &&& 4294967295)) q5) [(o, .inl (cJ, 1, .inr (.inl (s_L_moveMoment_ou mD mT ou q1 ((q2.toUInt32 % 65536).toInt32) (((q3).toInt64 <<< ((32 : Int32).toInt64 &&& 63)) ||| ((q4).toInt64 &&& 4294967295)) q5))))]))) [12, 13, 14, 15, 16, 17, 18, 19, 20, 21, 22, 0, 1, 2, 3, 4, 5, 6, 7, 8, 9, 10, 11] rfl (by decide) rfl ?_
  refine z_wi (ws' := (wM cI cJ z (s_X3_moveMoment_co mD mT q1 ((q2.toUInt32 % 65536).toInt32) (((q3).toInt64 <<< ((32 : Int32).toInt64 &&& 63)) ||| ((q4).toInt64 &&& 4294967295)) q5) d ti sL bL (s_X3_moveMoment_mD mD mT q1 ((q2.toUInt32 % 65536).toInt32) (((q3).toInt64 <<< ((32 : Int32).toInt64 &&& 63)) ||| ((q4).toInt64 &&& 4294967295)) q5) (s_X3_moveMoment_mT mD mT q1 ((q2.toUInt32 % 65536).toInt32) (((q3).toInt64 <<< ((32 : Int32).toInt64 &&& 63)) ||| ((q4).toInt64 &&& 4294967295)) q5) (zw sy) (zw sm) (zw sd) (zw mi) (s_X3_moveMoment_yr mD yr q1 ((q2.toUInt32 % 65536).toInt32) (((q3).toInt64 <<< ((32 : Int32).toInt64 &&& 63)) ||| ((q4).toInt64 &&& 4294967295)) q5) (s_X3_moveMoment_mo mD mo q1 ((q2.toUInt32 % 65536).toInt32) (((q3).toInt64 <<< ((32 : Int32).toInt64 &&& 63)) ||| ((q4).toInt64 &&& 4294967295)) q5) (s_X3_moveMoment_dy mD dy q1 ((q2.toUInt32 % 65536).toInt32) (((q3).toInt64 <<< ((32 : Int32).toInt64 &&& 63)) ||| ((q4).toInt64 &&& 4294967295)) q5) (wY cI cJ y d sy sm sd mi ti sL bL (s_L_moveMoment_mD mD mT q1 ((q2.toUInt32 % 65536).toInt32) (((q3).toInt64 <<< ((32 : Int32).toInt64 &&& 63)) ||| ((q4).toInt64 &&& 4294967295)) q5) (s_L_moveMoment_mT mD mT q1 ((q2.toUInt32 % 65536).toInt32) (((q3).toInt64 <<< ((32 : Int32).toInt64 &&& 63)) ||| ((q4).toInt64 &&& 4294967295)) q5) [(o, .inl (cJ, 1, .inr (.inl (s_L_moveMoment_ou mD mT ou q1 ((q2.toUInt32 % 65536).toInt32) (((q3).toInt64 <<< ((32 : Int32).toInt64 &&& 63)) ||| ((q4).toInt64 &&& 4294967295)) q5))))]))) (rest := []) (ci := 3) (q0 := 0) C (c_X3_thrown l hfl D cI cJ (wY cI cJ y d sy sm sd mi ti sL bL (s_L_moveMoment_mD mD mT q1 ((q2.toUInt32 % 65536).toInt32) (((q3).toInt64 <<< ((32 : Int32).toInt64 &&& 63)) ||| ((q4).toInt64 &&& 4294967295)) q5) (s_L_moveMoment_mT mD mT q1 ((q2.toUInt32 % 65536).toInt32) (((q3).toInt64 <<< ((32 : Int32).toInt64 &&& 63)) ||| ((q4).toInt64 &&& 4294967295)) q5) [(o, .inl (cJ, 1, .inr (.inl (s_L_moveMoment_ou mD mT ou q1 ((q2.toUInt32 % 65536).toInt32) (((q3).toInt64 <<< ((32 : Int32).toInt64 &&& 63)) ||| ((q4).toInt64 &&& 4294967295)) q5))))]) z (s_X3_moveMoment_co mD mT q1 ((q2.toUInt32 % 65536).toInt32) (((q3).toInt64 <<< ((32 : Int32).toInt64 &&& 63)) ||| ((q4).toInt64 &&& 4294967295)) q5) d ti sL bL (s_X3_moveMoment_mD mD mT q1 ((q2.toUInt32 % 65536).toInt32) (((q3).toInt64 <<< ((32 : Int32).toInt64 &&& 63)) ||| ((q4).toInt64 &&& 4294967295)) q5) (s_X3_moveMoment_mT mD mT q1 ((q2.toUInt32 % 65536).toInt32) (((q3).toInt64 <<< ((32 : Int32).toInt64 &&& 63)) ||| ((q4).toInt64 &&& 4294967295)) q5) (zw sy) (zw sm) (zw sd) (zw mi) (s_X3_moveMoment_yr mD yr q1 ((q2.toUInt32 % 65536).toInt32) (((q3).toInt64 <<< ((32 : Int32).toInt64 &&& 63)) ||| ((q4).toInt64 &&& 4294967295)) q5) (s_X3_moveMoment_mo mD mo q1 ((q2.toUInt32 % 65536).toInt32) (((q3).toInt64 <<< ((32 : Int32).toInt64 &&& 63)) ||| ((q4).toInt64 &&& 4294967295)) q5) (s_X3_moveMoment_dy mD dy q1 ((q2.toUInt32 % 65536).toInt32) (((q3).toInt64 <<< ((32 : Int32).toInt64 &&& 63)) ||| ((q4).toInt64 &&& 4294967295)) q5)  ) q_X3_thrown rfl rfl rfl gL_law_X3_thrown ⟨rfl, rfl⟩ rfl rfl (Nat.le_of_ble_eq_true rfl) ⟨Nat.le_of_ble_eq_true rfl, Nat.le_of_ble_eq_true rfl⟩ ⟨Nat.le_trans (by omega) hnc, Nat.le_trans (by omega) hns⟩ dL_law_3758 ?_
  refine z_ws (ws' := (wY cI cJ y d sy sm sd mi ti sL bL (s_L_moveMoment_mD mD mT q1 ((q2.toUInt32 % 65536).toInt32) (((q3).toInt64 <<< ((32 : Int32).toInt64 &&& 63)) ||| ((q4).toInt64 &&& 4294967295)) q5) (s_L_moveMoment_mT mD mT q1 ((q2.toUInt32 % 65536).toInt32) (((q3).toInt64 <<< ((32 : Int32).toInt64 &&& 63)) ||| ((q4).toInt64 &&& 4294967295)) q5) ((o, .inl (cJ, 1, .inr (.inl (s_L_moveMoment_ou mD mT ou q1 ((q2.toUInt32 % 65536).toInt32) (((q3).toInt64 <<< ((32 : Int32).toInt64 &&& 63)) ||| ((q4).toInt64 &&& 4294967295)) q5)))) :: (wM cI cJ z (s_X3_moveMoment_co mD mT q1 ((q2.toUInt32 % 65536).toInt32) (((q3).toInt64 <<< ((32 : Int32).toInt64 &&& 63)) ||| ((q4).toInt64 &&& 4294967295)) q5) d ti sL bL (s_X3_moveMoment_mD mD mT q1 ((q2.toUInt32 % 65536).toInt32) (((q3).toInt64 <<< ((32 : Int32).toInt64 &&& 63)) ||| ((q4).toInt64 &&& 4294967295)) q5) (s_X3_moveMoment_mT mD mT q1 ((q2.toUInt32 % 65536).toInt32) (((q3).toInt64 <<< ((32 : Int32).toInt64 &&& 63)) ||| ((q4).toInt64 &&& 4294967295)) q5) (zw sy) (zw sm) (zw sd) (zw mi) (s_X3_moveMoment_yr mD yr q1 ((q2.toUInt32 % 65536).toInt32) (((q3).toInt64 <<< ((32 : Int32).toInt64 &&& 63)) ||| ((q4).toInt64 &&& 4294967295)) q5) (s_X3_moveMoment_mo mD mo q1 ((q2.toUInt32 % 65536).toInt32) (((q3).toInt64 <<< ((32 : Int32).toInt64 &&& 63)) ||| ((q4).toInt64 &&& 4294967295)) q5) (s_X3_moveMoment_dy mD dy q1 ((q2.toUInt32 % 65536).toInt32) (((q3).toInt64 <<< ((32 : Int32).toInt64 &&& 63)) ||| ((q4).toInt64 &&& 4294967295)) q5) [])))) [11, 12, 13, 14, 15, 16, 17, 18, 19, 20, 21, 22, 0, 1, 2, 3, 4, 5, 6, 7, 8, 9, 10] rfl (by decide) rfl ?_
  refine z_iload C dL_law_3761 1 rfl ?_
  refine z_icmp_eq (tgt := 3768) C dL_law_3763 (by decide) (fun _ => ?_) (fun h => absurd (g_1) h)
  refine z_iload C dL_law_3768 1 rfl ?_
  refine z_if_ne (tgt := 3784) C dL_law_3770 (by decide) (fun h1 => ?_) (fun h1 => ?_)
  · refine z_goto (tgt := 4233) C dL_law_3784 (by decide) ?_
    refine z_sub [2, 3, 4, 5, 6] rfl ?_
    exact z_widen (by omega) (by omega) kk
  · refine z_aload_n C dL_law_3773 rfl 3 rfl ?_
    refine z_iconst (v := 0) C dL_law_3774 (by decide) ?_
    refine z_lald C 11 1 rfl rfl (zvpl 0 1 (by decide)) dL_law_3775 ?_
    refine z_eqst (st' := [.long ((s_L_moveMoment_ou mD mT ou q1 ((q2.toUInt32 % 65536).toInt32) (((q3).toInt64 <<< ((32 : Int32).toInt64 &&& 63)) ||| ((q4).toInt64 &&& 4294967295)) q5) 0)]) rfl ?_
    refine z_lload C dL_law_3776 0 rfl ?_
    refine z_lcmp_eq (tgt := 3784) C dL_law_3778 dL_law_3779 (by decide) (fun _ => ?_) (fun h => absurd (g_2 h1) h)
    refine z_goto (tgt := 4233) C dL_law_3784 (by decide) ?_
    refine z_sub [2, 3, 4, 5, 6] rfl ?_
    exact z_widen (by omega) (by omega) kk
def f_Lc41_j1 (q3 : Int32) : Int32 := (if q3 = 0 then 0 else 1)
def pre_Lc41 (sL : Nat → Int64) (bL : Nat → Int64) (mD : Nat → Int64) (mT : Nat → Int64) (ou : Nat → Int64) (q1 : Int32) (q2 : Int32) (q3 : Int32) (q4 : Int32) : Prop := ((pre_L_goMoment sL bL mD mT q1 q2 (f_Lc41_j1 q3) q4)) ∧ (((s_X3_goMoment_co sL bL mD mT q1 q2 (f_Lc41_j1 q3) q4) = (f_L_goMoment sL bL mD mT q1 q2 (f_Lc41_j1 q3) q4))) ∧ (((f_L_goMoment sL bL mD mT q1 q2 (f_Lc41_j1 q3) q4) = 0) → (((s_L_goMoment_ou sL bL mD mT ou q1 q2 (f_Lc41_j1 q3) q4) 0) = (f_X3_goMoment sL bL mD mT q1 q2 (f_Lc41_j1 q3) q4)))
set_option maxHeartbeats 4000000 in
set_option maxRecDepth 100000 in
theorem law_c41 {p : Program} {l : Launch} {e : Env} {s : State} {m : MethodId} {args : Array Value} {below : List Frame} {meth : Method} {c : Code} {D : va_G} {cI cJ : ClassId} {A : Nat → Prop} {Q : State → Prop} {ret : Option FieldType} (C : ZC p l s m args meth c 9 D (zTys cI cJ) A cL_law wsL_law RL ret) (hfl : l.stackTraces = false) {b Ln : Nat} {xs : Nat → Int32} (hX : va_X b Ln xs s s.heap) (hbl : b < s.heap.size) (hbA : ¬ A b) (y z : Nat → Nat) (o : Nat) (d : Nat → Int64) (sy : Nat → Int32) (sm : Nat → Int32) (sd : Nat → Int32) (mi : Nat → Int32) (ti : Nat → Int64) (sL : Nat → Int64) (bL : Nat → Int64) (mD : Nat → Int64) (mT : Nat → Int64) (co : Int32) (yr : Int64) (mo : Int32) (dy : Int32) (ou : Nat → Int64) (q1 : Int32) (q2 : Int32) (q3 : Int32) (q4 : Int32) (q5 : Int32) (i4 : Int32) (hv1 : vp_in (i4 + 1) Ln) (hq1 : xs (i4 + 1).toNatClampNeg = q1) (hv2 : vp_in (i4 + 2) Ln) (hq2 : xs (i4 + 2).toNatClampNeg = q2) (hv3 : vp_in (i4 + 3) Ln) (hq3 : xs (i4 + 3).toNatClampNeg = q3) (hv4 : vp_in (i4 + 4) Ln) (hq4 : xs (i4 + 4).toNatClampNeg = q4) (hv5 : vp_in (i4 + 5) Ln) (hq5 : xs (i4 + 5).toNatClampNeg = q5) (nc ns : Nat) (hnc : nc + 6 ≤ room_1.cells) (hns : ns + 36 ≤ room_1.slots) (h_g : pre_Lc41 sL bL mD mT ou q1 q2 q3 q4) (kk : ZW p l e room_1 s m args below meth c 9 D (zTys cI cJ) A Q (nc + 6) (ns + 36) (wY cI cJ y d sy sm sd mi ti sL bL (s_L_goMoment_mD sL bL mD mT q1 q2 (f_Lc41_j1 q3) q4) (s_L_goMoment_mT sL bL mD mT q1 q2 (f_Lc41_j1 q3) q4) ((o, .inl (cJ, 1, .inr (.inl (s_L_goMoment_ou sL bL mD mT ou q1 q2 (f_Lc41_j1 q3) q4)))) :: (wM cI cJ z (s_X3_goMoment_co sL bL mD mT q1 q2 (f_Lc41_j1 q3) q4) d ti sL bL (s_X3_goMoment_mD sL bL mD mT q1 q2 (f_Lc41_j1 q3) q4) (s_X3_goMoment_mT sL bL mD mT q1 q2 (f_Lc41_j1 q3) q4) (zw sy) (zw sm) (zw sd) (zw mi) yr mo dy []))) 4233 [(4, .int i4), (3, .ref o), (2, .ref (z 0)), (1, .ref (y 0)), (0, .ref b)] []) : ZW p l e room_1 s m args below meth c 9 D (zTys cI cJ) A Q nc ns (wY cI cJ y d sy sm sd mi ti sL bL mD mT ((o, .inl (cJ, 1, .inr (.inl ou))) :: (wM cI cJ z co d ti sL bL mD mT (zw sy) (zw sm) (zw sd) (zw mi) yr mo dy []))) 3787 [(4, .int i4), (3, .ref o), (2, .ref (z 0)), (1, .ref (y 0)), (0, .ref b)] [] := by
  obtain ⟨g_0, g_1, g_2⟩ := h_g
  refine z_aload_n C dL_law_3787 rfl 3 rfl ?_
  refine z_aload_n C dL_law_3788 rfl 4 rfl ?_
  refine z_iload C dL_law_3789 0 rfl ?_
  refine z_iconst (v := 1) C dL_law_3791 (by decide) ?_
  refine z_iadd C dL_law_3792 ?_
  refine z_sld C hX hbl hbA hv1 dL_law_3793 ?_
  refine z_eqst (st' := [.int q1, .ref (y 0)]) (congrArg (fun v => Value.int v :: _) hq1) ?_
  refine z_aload_n C dL_law_3794 rfl 4 rfl ?_
  refine z_iload C dL_law_3795 0 rfl ?_
  refine z_iconst (v := 2) C dL_law_3797 (by decide) ?_
  refine z_iadd C dL_law_3798 ?_
  refine z_sld C hX hbl hbA hv2 dL_law_3799 ?_
  refine z_eqst (st' := [.int q2, .int q1, .ref (y 0)]) (congrArg (fun v => Value.int v :: _) hq2) ?_
  refine z_aload_n C dL_law_3800 rfl 4 rfl ?_
  refine z_iload C dL_law_3801 0 rfl ?_
  refine z_iconst (v := 3) C dL_law_3803 (by decide) ?_
  refine z_iadd C dL_law_3804 ?_
  refine z_sld C hX hbl hbA hv3 dL_law_3805 ?_
  refine z_eqst (st' := [.int q3, .int q2, .int q1, .ref (y 0)]) (congrArg (fun v => Value.int v :: _) hq3) ?_
  have K1 : ∀ (v1_0 : Int32), (f_Lc41_j1 q3) = v1_0 → ZW p l e room_1 s m args below meth c 9 D (zTys cI cJ) A Q nc ns (wY cI cJ y d sy sm sd mi ti sL bL mD mT ((o, .inl (cJ, 1, .inr (.inl ou))) :: (wM cI cJ z co d ti sL bL mD mT (zw sy) (zw sm) (zw sd) (zw mi) yr mo dy []))) 3814 [(4, .int i4), (3, .ref o), (2, .ref (z 0)), (1, .ref (y 0)), (0, .ref b)] [.int v1_0, .int q2, .int q1, .ref (y 0)] := by
    rintro _ rfl
    refine z_aload_n C dL_law_3814 rfl 4 rfl ?_
    refine z_iload C dL_law_3815 0 rfl ?_
    refine z_iconst (v := 4) C dL_law_3817 (by decide) ?_
    refine z_iadd C dL_law_3818 ?_
    refine z_sld C hX hbl hbA hv4 dL_law_3819 ?_
    refine z_eqst (st' := [.int q4, .int (f_Lc41_j1 q3), .int q2, .int q1, .ref (y 0)]) (congrArg (fun v => Value.int v :: _) hq4) ?_
    refine z_aload_n C dL_law_3820 rfl 1 rfl ?_
    refine z_siH (ws' := (wY cI cJ y d sy sm sd mi ti sL bL (s_L_goMoment_mD sL bL mD mT q1 q2 (f_Lc41_j1 q3) q4) (s_L_goMoment_mT sL bL mD mT q1 q2 (f_Lc41_j1 q3) q4) ((o, .inl (cJ, 1, .inr (.inl (s_L_goMoment_ou sL bL mD mT ou q1 q2 (f_Lc41_j1 q3) q4)))) :: (wM cI cJ z co d ti sL bL mD mT (zw sy) (zw sm) (zw sd) (zw mi) yr mo dy [])))) C (rest := []) (c_L_goMoment l hfl D cI cJ (wM cI cJ z co d ti sL bL mD mT (zw sy) (zw sm) (zw sd) (zw mi) yr mo dy []) y o d sy sm sd mi ti sL bL mD mT ou q1 q2 (f_Lc41_j1 q3) q4 (g_0)) q_L_goMoment gL_law_L_goMoment ⟨rfl, rfl⟩ rfl rfl (Nat.le_of_ble_eq_true rfl) ⟨Nat.le_of_ble_eq_true rfl, Nat.le_of_ble_eq_true rfl⟩ ⟨Nat.le_trans (by omega) hnc, Nat.le_trans (by omega) hns⟩ dL_law_3821 ?_
    refine z_istore (lv' := [(5, .int (f_L_goMoment sL bL mD mT q1 q2 (f_Lc41_j1 q3) q4)), (4, .int i4), (3, .ref o), (2, .ref (z 0)), (1, .ref (y 0)), (0, .ref b)]) C dL_law_3824 (by decide) rfl ?_
    refine z_aload_n C dL_law_3826 rfl 3 rfl ?_
    refine z_aload_n C dL_law_3827 rfl 5 rfl ?_
    refine z_iload C dL_law_3828 1 rfl ?_
    refine z_iconst (v := 1) C dL_law_3830 (by decide) ?_
    refine z_iadd C dL_law_3831 ?_
    refine z_sld C hX hbl hbA hv1 dL_law_3832 ?_
    refine z_eqst (st' := [.int q1, .ref (z 0)]) (congrArg (fun v => Value.int v :: _) hq1) ?_
    refine z_aload_n C dL_law_3833 rfl 5 rfl ?_
    refine z_iload C dL_law_3834 1 rfl ?_
    refine z_iconst (v := 2) C dL_law_3836 (by decide) ?_
    refine z_iadd C dL_law_3837 ?_
    refine z_sld C hX hbl hbA hv2 dL_law_3838 ?_
    refine z_eqst (st' := [.int q2, .int q1, .ref (z 0)]) (congrArg (fun v => Value.int v :: _) hq2) ?_
    refine z_aload_n C dL_law_3839 rfl 5 rfl ?_
    refine z_iload C dL_law_3840 1 rfl ?_
    refine z_iconst (v := 3) C dL_law_3842 (by decide) ?_
    refine z_iadd C dL_law_3843 ?_
    refine z_sld C hX hbl hbA hv3 dL_law_3844 ?_
    refine z_eqst (st' := [.int q3, .int q2, .int q1, .ref (z 0)]) (congrArg (fun v => Value.int v :: _) hq3) ?_
    have K2 : ∀ (v2_0 : Int32), (f_Lc41_j1 q3) = v2_0 → ZW p l e room_1 s m args below meth c 9 D (zTys cI cJ) A Q (nc + 4) (ns + 24) (wY cI cJ y d sy sm sd mi ti sL bL (s_L_goMoment_mD sL bL mD mT q1 q2 (f_Lc41_j1 q3) q4) (s_L_goMoment_mT sL bL mD mT q1 q2 (f_Lc41_j1 q3) q4) ((o, .inl (cJ, 1, .inr (.inl (s_L_goMoment_ou sL bL mD mT ou q1 q2 (f_Lc41_j1 q3) q4)))) :: (wM cI cJ z co d ti sL bL mD mT (zw sy) (zw sm) (zw sd) (zw mi) yr mo dy []))) 3853 [(5, .int (f_L_goMoment sL bL mD mT q1 q2 (f_Lc41_j1 q3) q4)), (4, .int i4), (3, .ref o), (2, .ref (z 0)), (1, .ref (y 0)), (0, .ref b)] [.int v2_0, .int q2, .int q1, .ref (z 0)] := by
      rintro _ rfl
      refine z_aload_n C dL_law_3853 rfl 5 rfl ?_
      refine z_iload C dL_law_3854 1 rfl ?_
      refine z_iconst (v := 4) C dL_law_3856 (by decide) ?_
      refine z_iadd C dL_law_3857 ?_
      refine z_sld C hX hbl hbA hv4 dL_law_3858 ?_
      refine z_eqst (st' := [.int q4, .int (f_Lc41_j1 q3), .int q2, .int q1, .ref (z 0)]) (congrArg (fun v => Value.int v :: _) hq4) ?_
      refine z_ws (ws' := (wM cI cJ z co d ti sL bL mD mT (zw sy) (zw sm) (zw sd) (zw mi) yr mo dy (wY cI cJ y d sy sm sd mi ti sL bL (s_L_goMoment_mD sL bL mD mT q1 q2 (f_Lc41_j1 q3) q4) (s_L_goMoment_mT sL bL mD mT q1 q2 (f_Lc41_j1 q3) q4) [(o, .inl (cJ, 1, .inr (.inl (s_L_goMoment_ou sL bL mD mT ou q1 q2 (f_Lc41_j1 q3) q4))))]))) [12, 13, 14, 15, 16, 17, 18, 19, 20, 21, 22, 0, 1, 2, 3, 4, 5, 6, 7, 8, 9, 10, 11] rfl (by decide) rfl ?_
      refine z_wl (ws' := (wM cI cJ z (s_X3_goMoment_co sL bL mD mT q1 q2 (f_Lc41_j1 q3) q4) d ti sL bL (s_X3_goMoment_mD sL bL mD mT q1 q2 (f_Lc41_j1 q3) q4) (s_X3_goMoment_mT sL bL mD mT q1 q2 (f_Lc41_j1 q3) q4) (zw sy) (zw sm) (zw sd) (zw mi) yr mo dy (wY cI cJ y d sy sm sd mi ti sL bL (s_L_goMoment_mD sL bL mD mT q1 q2 (f_Lc41_j1 q3) q4) (s_L_goMoment_mT sL bL mD mT q1 q2 (f_Lc41_j1 q3) q4) [(o, .inl (cJ, 1, .inr (.inl (s_L_goMoment_ou sL bL mD mT ou q1 q2 (f_Lc41_j1 q3) q4))))]))) (rest := []) (ci := 3) (q0 := 0) C (c_X3_goMoment l hfl D cI cJ (wY cI cJ y d sy sm sd mi ti sL bL (s_L_goMoment_mD sL bL mD mT q1 q2 (f_Lc41_j1 q3) q4) (s_L_goMoment_mT sL bL mD mT q1 q2 (f_Lc41_j1 q3) q4) [(o, .inl (cJ, 1, .inr (.inl (s_L_goMoment_ou sL bL mD mT ou q1 q2 (f_Lc41_j1 q3) q4))))]) z co d ti sL bL mD mT (zw sy) (zw sm) (zw sd) (zw mi) yr mo dy q1 q2 (f_Lc41_j1 q3) q4 ) q_X3_goMoment rfl rfl rfl gL_law_X3_goMoment ⟨rfl, rfl⟩ rfl rfl (Nat.le_of_ble_eq_true rfl) ⟨Nat.le_of_ble_eq_true rfl, Nat.le_of_ble_eq_true rfl⟩ ⟨Nat.le_trans (by omega) hnc, Nat.le_trans (by omega) hns⟩ dL_law_3859 ?_
      refine z_ws (ws' := (wY cI cJ y d sy sm sd mi ti sL bL (s_L_goMoment_mD sL bL mD mT q1 q2 (f_Lc41_j1 q3) q4) (s_L_goMoment_mT sL bL mD mT q1 q2 (f_Lc41_j1 q3) q4) ((o, .inl (cJ, 1, .inr (.inl (s_L_goMoment_ou sL bL mD mT ou q1 q2 (f_Lc41_j1 q3) q4)))) :: (wM cI cJ z (s_X3_goMoment_co sL bL mD mT q1 q2 (f_Lc41_j1 q3) q4) d ti sL bL (s_X3_goMoment_mD sL bL mD mT q1 q2 (f_Lc41_j1 q3) q4) (s_X3_goMoment_mT sL bL mD mT q1 q2 (f_Lc41_j1 q3) q4) (zw sy) (zw sm) (zw sd) (zw mi) yr mo dy [])))) [11, 12, 13, 14, 15, 16, 17, 18, 19, 20, 21, 22, 0, 1, 2, 3, 4, 5, 6, 7, 8, 9, 10] rfl (by decide) rfl ?_
      refine z_lstore (lv' := [(6, .long (f_X3_goMoment sL bL mD mT q1 q2 (f_Lc41_j1 q3) q4)), (5, .int (f_L_goMoment sL bL mD mT q1 q2 (f_Lc41_j1 q3) q4)), (4, .int i4), (3, .ref o), (2, .ref (z 0)), (1, .ref (y 0)), (0, .ref b)]) C dL_law_3862 (by decide) rfl ?_
      refine z_aload_n C dL_law_3864 rfl 4 rfl ?_
      refine z_ws (ws' := (wM cI cJ z (s_X3_goMoment_co sL bL mD mT q1 q2 (f_Lc41_j1 q3) q4) d ti sL bL (s_X3_goMoment_mD sL bL mD mT q1 q2 (f_Lc41_j1 q3) q4) (s_X3_goMoment_mT sL bL mD mT q1 q2 (f_Lc41_j1 q3) q4) (zw sy) (zw sm) (zw sd) (zw mi) yr mo dy (wY cI cJ y d sy sm sd mi ti sL bL (s_L_goMoment_mD sL bL mD mT q1 q2 (f_Lc41_j1 q3) q4) (s_L_goMoment_mT sL bL mD mT q1 q2 (f_Lc41_j1 q3) q4) [(o, .inl (cJ, 1, .inr (.inl (s_L_goMoment_ou sL bL mD mT ou q1 q2 (f_Lc41_j1 q3) q4))))]))) [12, 13, 14, 15, 16, 17, 18, 19, 20, 21, 22, 0, 1, 2, 3, 4, 5, 6, 7, 8, 9, 10, 11] rfl (by decide) rfl ?_
      refine z_wi (ws' := (wM cI cJ z (s_X3_goMoment_co sL bL mD mT q1 q2 (f_Lc41_j1 q3) q4) d ti sL bL (s_X3_goMoment_mD sL bL mD mT q1 q2 (f_Lc41_j1 q3) q4) (s_X3_goMoment_mT sL bL mD mT q1 q2 (f_Lc41_j1 q3) q4) (zw sy) (zw sm) (zw sd) (zw mi) yr mo dy (wY cI cJ y d sy sm sd mi ti sL bL (s_L_goMoment_mD sL bL mD mT q1 q2 (f_Lc41_j1 q3) q4) (s_L_goMoment_mT sL bL mD mT q1 q2 (f_Lc41_j1 q3) q4) [(o, .inl (cJ, 1, .inr (.inl (s_L_goMoment_ou sL bL mD mT ou q1 q2 (f_Lc41_j1 q3) q4))))]))) (rest := []) (ci := 3) (q0 := 0) C (c_X3_thrown l hfl D cI cJ (wY cI cJ y d sy sm sd mi ti sL bL (s_L_goMoment_mD sL bL mD mT q1 q2 (f_Lc41_j1 q3) q4) (s_L_goMoment_mT sL bL mD mT q1 q2 (f_Lc41_j1 q3) q4) [(o, .inl (cJ, 1, .inr (.inl (s_L_goMoment_ou sL bL mD mT ou q1 q2 (f_Lc41_j1 q3) q4))))]) z (s_X3_goMoment_co sL bL mD mT q1 q2 (f_Lc41_j1 q3) q4) d ti sL bL (s_X3_goMoment_mD sL bL mD mT q1 q2 (f_Lc41_j1 q3) q4) (s_X3_goMoment_mT sL bL mD mT q1 q2 (f_Lc41_j1 q3) q4) (zw sy) (zw sm) (zw sd) (zw mi) yr mo dy  ) q_X3_thrown rfl rfl rfl gL_law_X3_thrown ⟨rfl, rfl⟩ rfl rfl (Nat.le_of_ble_eq_true rfl) ⟨Nat.le_of_ble_eq_true rfl, Nat.le_of_ble_eq_true rfl⟩ ⟨Nat.le_trans (by omega) hnc, Nat.le_trans (by omega) hns⟩ dL_law_3865 ?_
      refine z_ws (ws' := (wY cI cJ y d sy sm sd mi ti sL bL (s_L_goMoment_mD sL bL mD mT q1 q2 (f_Lc41_j1 q3) q4) (s_L_goMoment_mT sL bL mD mT q1 q2 (f_Lc41_j1 q3) q4) ((o, .inl (cJ, 1, .inr (.inl (s_L_goMoment_ou sL bL mD mT ou q1 q2 (f_Lc41_j1 q3) q4)))) :: (wM cI cJ z (s_X3_goMoment_co sL bL mD mT q1 q2 (f_Lc41_j1 q3) q4) d ti sL bL (s_X3_goMoment_mD sL bL mD mT q1 q2 (f_Lc41_j1 q3) q4) (s_X3_goMoment_mT sL bL mD mT q1 q2 (f_Lc41_j1 q3) q4) (zw sy) (zw sm) (zw sd) (zw mi) yr mo dy [])))) [11, 12, 13, 14, 15, 16, 17, 18, 19, 20, 21, 22, 0, 1, 2, 3, 4, 5, 6, 7, 8, 9, 10] rfl (by decide) rfl ?_
      refine z_iload C dL_law_3868 1 rfl ?_
      refine z_icmp_eq (tgt := 3875) C dL_law_3870 (by decide) (fun _ => ?_) (fun h => absurd (g_1) h)
      refine z_iload C dL_law_3875 1 rfl ?_
      refine z_if_ne (tgt := 3891) C dL_law_3877 (by decide) (fun h3 => ?_) (fun h3 => ?_)
      · refine z_goto (tgt := 4233) C dL_law_3891 (by decide) ?_
        refine z_sub [2, 3, 4, 5, 6] rfl ?_
        exact z_widen (by omega) (by omega) kk
      · refine z_aload_n C dL_law_3880 rfl 3 rfl ?_
        refine z_iconst (v := 0) C dL_law_3881 (by decide) ?_
        refine z_lald C 11 1 rfl rfl (zvpl 0 1 (by decide)) dL_law_3882 ?_
        refine z_eqst (st' := [.long ((s_L_goMoment_ou sL bL mD mT ou q1 q2 (f_Lc41_j1 q3) q4) 0)]) rfl ?_
        refine z_lload C dL_law_3883 0 rfl ?_
        refine z_lcmp_eq (tgt := 3891) C dL_law_3885 dL_law_3886 (by decide) (fun _ => ?_) (fun h => absurd (g_2 h3) h)
        refine z_goto (tgt := 4233) C dL_law_3891 (by decide) ?_
        refine z_sub [2, 3, 4, 5, 6] rfl ?_
        exact z_widen (by omega) (by omega) kk
    refine z_if_eq (tgt := 3852) C dL_law_3845 (by decide) (fun h2 => ?_) (fun h2 => ?_)
    · refine z_iconst (v := 0) C dL_law_3852 (by decide) ?_
      exact K2 _ (by rw [f_Lc41_j1, if_pos h2])
    · refine z_iconst (v := 1) C dL_law_3848 (by decide) ?_
      refine z_goto (tgt := 3853) C dL_law_3849 (by decide) ?_
      exact K2 _ (by rw [f_Lc41_j1, if_neg h2])
  refine z_if_eq (tgt := 3813) C dL_law_3806 (by decide) (fun h1 => ?_) (fun h1 => ?_)
  · refine z_iconst (v := 0) C dL_law_3813 (by decide) ?_
    exact K1 _ (by rw [f_Lc41_j1, if_pos h1])
  · refine z_iconst (v := 1) C dL_law_3809 (by decide) ?_
    refine z_goto (tgt := 3814) C dL_law_3810 (by decide) ?_
    exact K1 _ (by rw [f_Lc41_j1, if_neg h1])
def pre_Lc42 (mD : Nat → Int64) (mT : Nat → Int64) (ou : Nat → Int64) (q1 : Int32) (q2 : Int32) (q3 : Int32) : Prop := ((pre_L_lengthOfMoments mD mT q1 q2 q3)) ∧ (((s_X3_lengthOfMoments_co mD mT q1 q2 q3) = (f_L_lengthOfMoments mD mT q1 q2 q3))) ∧ (((f_L_lengthOfMoments mD mT q1 q2 q3) = 0) → (((s_L_lengthOfMoments_ou mD mT ou q1 q2 q3) 0) = (f_X3_lengthOfMoments mD mT q1 q2 q3)))
set_option maxHeartbeats 4000000 in
set_option maxRecDepth 100000 in
theorem law_c42 {p : Program} {l : Launch} {e : Env} {s : State} {m : MethodId} {args : Array Value} {below : List Frame} {meth : Method} {c : Code} {D : va_G} {cI cJ : ClassId} {A : Nat → Prop} {Q : State → Prop} {ret : Option FieldType} (C : ZC p l s m args meth c 9 D (zTys cI cJ) A cL_law wsL_law RL ret) (hfl : l.stackTraces = false) {b Ln : Nat} {xs : Nat → Int32} (hX : va_X b Ln xs s s.heap) (hbl : b < s.heap.size) (hbA : ¬ A b) (y z : Nat → Nat) (o : Nat) (d : Nat → Int64) (sy : Nat → Int32) (sm : Nat → Int32) (sd : Nat → Int32) (mi : Nat → Int32) (ti : Nat → Int64) (sL : Nat → Int64) (bL : Nat → Int64) (mD : Nat → Int64) (mT : Nat → Int64) (co : Int32) (yr : Int64) (mo : Int32) (dy : Int32) (ou : Nat → Int64) (q1 : Int32) (q2 : Int32) (q3 : Int32) (q4 : Int32) (q5 : Int32) (i4 : Int32) (hv1 : vp_in (i4 + 1) Ln) (hq1 : xs (i4 + 1).toNatClampNeg = q1) (hv2 : vp_in (i4 + 2) Ln) (hq2 : xs (i4 + 2).toNatClampNeg = q2) (hv3 : vp_in (i4 + 3) Ln) (hq3 : xs (i4 + 3).toNatClampNeg = q3) (hv4 : vp_in (i4 + 4) Ln) (hq4 : xs (i4 + 4).toNatClampNeg = q4) (hv5 : vp_in (i4 + 5) Ln) (hq5 : xs (i4 + 5).toNatClampNeg = q5) (nc ns : Nat) (hnc : nc + 6 ≤ room_1.cells) (hns : ns + 36 ≤ room_1.slots) (h_g : pre_Lc42 mD mT ou q1 q2 q3) (kk : ZW p l e room_1 s m args below meth c 9 D (zTys cI cJ) A Q (nc + 6) (ns + 36) (wY cI cJ y d sy sm sd mi ti (s_L_lengthOfMoments_sL sL mD mT q1 q2 q3) (s_L_lengthOfMoments_bL bL mD mT q1 q2 q3) mD mT ((o, .inl (cJ, 1, .inr (.inl (s_L_lengthOfMoments_ou mD mT ou q1 q2 q3)))) :: (wM cI cJ z (s_X3_lengthOfMoments_co mD mT q1 q2 q3) d ti (s_X3_lengthOfMoments_sL sL mD mT q1 q2 q3) (s_X3_lengthOfMoments_bL bL mD mT q1 q2 q3) mD mT (zw sy) (zw sm) (zw sd) (zw mi) yr mo dy []))) 4233 [(4, .int i4), (3, .ref o), (2, .ref (z 0)), (1, .ref (y 0)), (0, .ref b)] []) : ZW p l e room_1 s m args below meth c 9 D (zTys cI cJ) A Q nc ns (wY cI cJ y d sy sm sd mi ti sL bL mD mT ((o, .inl (cJ, 1, .inr (.inl ou))) :: (wM cI cJ z co d ti sL bL mD mT (zw sy) (zw sm) (zw sd) (zw mi) yr mo dy []))) 3894 [(4, .int i4), (3, .ref o), (2, .ref (z 0)), (1, .ref (y 0)), (0, .ref b)] [] := by
  obtain ⟨g_0, g_1, g_2⟩ := h_g
  refine z_aload_n C dL_law_3894 rfl 3 rfl ?_
  refine z_aload_n C dL_law_3895 rfl 4 rfl ?_
  refine z_iload C dL_law_3896 0 rfl ?_
  refine z_iconst (v := 1) C dL_law_3898 (by decide) ?_
  refine z_iadd C dL_law_3899 ?_
  refine z_sld C hX hbl hbA hv1 dL_law_3900 ?_
  refine z_eqst (st' := [.int q1, .ref (y 0)]) (congrArg (fun v => Value.int v :: _) hq1) ?_
  refine z_aload_n C dL_law_3901 rfl 4 rfl ?_
  refine z_iload C dL_law_3902 0 rfl ?_
  refine z_iconst (v := 2) C dL_law_3904 (by decide) ?_
  refine z_iadd C dL_law_3905 ?_
  refine z_sld C hX hbl hbA hv2 dL_law_3906 ?_
  refine z_eqst (st' := [.int q2, .int q1, .ref (y 0)]) (congrArg (fun v => Value.int v :: _) hq2) ?_
  refine z_aload_n C dL_law_3907 rfl 4 rfl ?_
  refine z_iload C dL_law_3908 0 rfl ?_
  refine z_iconst (v := 3) C dL_law_3910 (by decide) ?_
  refine z_iadd C dL_law_3911 ?_
  refine z_sld C hX hbl hbA hv3 dL_law_3912 ?_
  refine z_eqst (st' := [.int q3, .int q2, .int q1, .ref (y 0)]) (congrArg (fun v => Value.int v :: _) hq3) ?_
  refine z_aload_n C dL_law_3913 rfl 1 rfl ?_
  refine z_siH (ws' := (wY cI cJ y d sy sm sd mi ti (s_L_lengthOfMoments_sL sL mD mT q1 q2 q3) (s_L_lengthOfMoments_bL bL mD mT q1 q2 q3) mD mT ((o, .inl (cJ, 1, .inr (.inl (s_L_lengthOfMoments_ou mD mT ou q1 q2 q3)))) :: (wM cI cJ z co d ti sL bL mD mT (zw sy) (zw sm) (zw sd) (zw mi) yr mo dy [])))) C (rest := []) (c_L_lengthOfMoments l hfl D cI cJ (wM cI cJ z co d ti sL bL mD mT (zw sy) (zw sm) (zw sd) (zw mi) yr mo dy []) y o d sy sm sd mi ti sL bL mD mT ou q1 q2 q3 (g_0)) q_L_lengthOfMoments gL_law_L_lengthOfMoments ⟨rfl, rfl⟩ rfl rfl (Nat.le_of_ble_eq_true rfl) ⟨Nat.le_of_ble_eq_true rfl, Nat.le_of_ble_eq_true rfl⟩ ⟨Nat.le_trans (by omega) hnc, Nat.le_trans (by omega) hns⟩ dL_law_3914 ?_
  refine z_istore (lv' := [(5, .int (f_L_lengthOfMoments mD mT q1 q2 q3)), (4, .int i4), (3, .ref o), (2, .ref (z 0)), (1, .ref (y 0)), (0, .ref b)]) C dL_law_3917 (by decide) rfl ?_
  refine z_aload_n C dL_law_3919 rfl 3 rfl ?_
  refine z_aload_n C dL_law_3920 rfl 5 rfl ?_
  refine z_iload C dL_law_3921 1 rfl ?_
  refine z_iconst (v := 1) C dL_law_3923 (by decide) ?_
  refine z_iadd C dL_law_3924 ?_
  refine z_sld C hX hbl hbA hv1 dL_law_3925 ?_
  refine z_eqst (st' := [.int q1, .ref (z 0)]) (congrArg (fun v => Value.int v :: _) hq1) ?_
  refine z_aload_n C dL_law_3926 rfl 5 rfl ?_
  refine z_iload C dL_law_3927 1 rfl ?_
  refine z_iconst (v := 2) C dL_law_3929 (by decide) ?_
  refine z_iadd C dL_law_3930 ?_
  refine z_sld C hX hbl hbA hv2 dL_law_3931 ?_
  refine z_eqst (st' := [.int q2, .int q1, .ref (z 0)]) (congrArg (fun v => Value.int v :: _) hq2) ?_
  refine z_aload_n C dL_law_3932 rfl 5 rfl ?_
  refine z_iload C dL_law_3933 1 rfl ?_
  refine z_iconst (v := 3) C dL_law_3935 (by decide) ?_
  refine z_iadd C dL_law_3936 ?_
  refine z_sld C hX hbl hbA hv3 dL_law_3937 ?_
  refine z_eqst (st' := [.int q3, .int q2, .int q1, .ref (z 0)]) (congrArg (fun v => Value.int v :: _) hq3) ?_
  refine z_ws (ws' := (wM cI cJ z co d ti sL bL mD mT (zw sy) (zw sm) (zw sd) (zw mi) yr mo dy (wY cI cJ y d sy sm sd mi ti (s_L_lengthOfMoments_sL sL mD mT q1 q2 q3) (s_L_lengthOfMoments_bL bL mD mT q1 q2 q3) mD mT [(o, .inl (cJ, 1, .inr (.inl (s_L_lengthOfMoments_ou mD mT ou q1 q2 q3))))]))) [12, 13, 14, 15, 16, 17, 18, 19, 20, 21, 22, 0, 1, 2, 3, 4, 5, 6, 7, 8, 9, 10, 11] rfl (by decide) rfl ?_
  refine z_wl (ws' := (wM cI cJ z (s_X3_lengthOfMoments_co mD mT q1 q2 q3) d ti (s_X3_lengthOfMoments_sL sL mD mT q1 q2 q3) (s_X3_lengthOfMoments_bL bL mD mT q1 q2 q3) mD mT (zw sy) (zw sm) (zw sd) (zw mi) yr mo dy (wY cI cJ y d sy sm sd mi ti (s_L_lengthOfMoments_sL sL mD mT q1 q2 q3) (s_L_lengthOfMoments_bL bL mD mT q1 q2 q3) mD mT [(o, .inl (cJ, 1, .inr (.inl (s_L_lengthOfMoments_ou mD mT ou q1 q2 q3))))]))) (rest := []) (ci := 3) (q0 := 0) C (c_X3_lengthOfMoments l hfl D cI cJ (wY cI cJ y d sy sm sd mi ti (s_L_lengthOfMoments_sL sL mD mT q1 q2 q3) (s_L_lengthOfMoments_bL bL mD mT q1 q2 q3) mD mT [(o, .inl (cJ, 1, .inr (.inl (s_L_lengthOfMoments_ou mD mT ou q1 q2 q3))))]) z co d ti sL bL mD mT (zw sy) (zw sm) (zw sd) (zw mi) yr mo dy q1 q2 q3 ) q_X3_lengthOfMoments rfl rfl rfl gL_law_X3_lengthOfMoments ⟨rfl, rfl⟩ rfl rfl (Nat.le_of_ble_eq_true rfl) ⟨Nat.le_of_ble_eq_true rfl, Nat.le_of_ble_eq_true rfl⟩ ⟨Nat.le_trans (by omega) hnc, Nat.le_trans (by omega) hns⟩ dL_law_3938 ?_
  refine z_ws (ws' := (wY cI cJ y d sy sm sd mi ti (s_L_lengthOfMoments_sL sL mD mT q1 q2 q3) (s_L_lengthOfMoments_bL bL mD mT q1 q2 q3) mD mT ((o, .inl (cJ, 1, .inr (.inl (s_L_lengthOfMoments_ou mD mT ou q1 q2 q3)))) :: (wM cI cJ z (s_X3_lengthOfMoments_co mD mT q1 q2 q3) d ti (s_X3_lengthOfMoments_sL sL mD mT q1 q2 q3) (s_X3_lengthOfMoments_bL bL mD mT q1 q2 q3) mD mT (zw sy) (zw sm) (zw sd) (zw mi) yr mo dy [])))) [11, 12, 13, 14, 15, 16, 17, 18, 19, 20, 21, 22, 0, 1, 2, 3, 4, 5, 6, 7, 8, 9, 10] rfl (by decide) rfl ?_
  refine z_lstore (lv' := [(6, .long (f_X3_lengthOfMoments mD mT q1 q2 q3)), (5, .int (f_L_lengthOfMoments mD mT q1 q2 q3)), (4, .int i4), (3, .ref o), (2, .ref (z 0)), (1, .ref (y 0)), (0, .ref b)]) C dL_law_3941 (by decide) rfl ?_
  refine z_aload_n C dL_law_3943 rfl 4 rfl ?_
  refine z_ws (ws' := (wM cI cJ z (s_X3_lengthOfMoments_co mD mT q1 q2 q3) d ti (s_X3_lengthOfMoments_sL sL mD mT q1 q2 q3) (s_X3_lengthOfMoments_bL bL mD mT q1 q2 q3) mD mT (zw sy) (zw sm) (zw sd) (zw mi) yr mo dy (wY cI cJ y d sy sm sd mi ti (s_L_lengthOfMoments_sL sL mD mT q1 q2 q3) (s_L_lengthOfMoments_bL bL mD mT q1 q2 q3) mD mT [(o, .inl (cJ, 1, .inr (.inl (s_L_lengthOfMoments_ou mD mT ou q1 q2 q3))))]))) [12, 13, 14, 15, 16, 17, 18, 19, 20, 21, 22, 0, 1, 2, 3, 4, 5, 6, 7, 8, 9, 10, 11] rfl (by decide) rfl ?_
  refine z_wi (ws' := (wM cI cJ z (s_X3_lengthOfMoments_co mD mT q1 q2 q3) d ti (s_X3_lengthOfMoments_sL sL mD mT q1 q2 q3) (s_X3_lengthOfMoments_bL bL mD mT q1 q2 q3) mD mT (zw sy) (zw sm) (zw sd) (zw mi) yr mo dy (wY cI cJ y d sy sm sd mi ti (s_L_lengthOfMoments_sL sL mD mT q1 q2 q3) (s_L_lengthOfMoments_bL bL mD mT q1 q2 q3) mD mT [(o, .inl (cJ, 1, .inr (.inl (s_L_lengthOfMoments_ou mD mT ou q1 q2 q3))))]))) (rest := []) (ci := 3) (q0 := 0) C (c_X3_thrown l hfl D cI cJ (wY cI cJ y d sy sm sd mi ti (s_L_lengthOfMoments_sL sL mD mT q1 q2 q3) (s_L_lengthOfMoments_bL bL mD mT q1 q2 q3) mD mT [(o, .inl (cJ, 1, .inr (.inl (s_L_lengthOfMoments_ou mD mT ou q1 q2 q3))))]) z (s_X3_lengthOfMoments_co mD mT q1 q2 q3) d ti (s_X3_lengthOfMoments_sL sL mD mT q1 q2 q3) (s_X3_lengthOfMoments_bL bL mD mT q1 q2 q3) mD mT (zw sy) (zw sm) (zw sd) (zw mi) yr mo dy  ) q_X3_thrown rfl rfl rfl gL_law_X3_thrown ⟨rfl, rfl⟩ rfl rfl (Nat.le_of_ble_eq_true rfl) ⟨Nat.le_of_ble_eq_true rfl, Nat.le_of_ble_eq_true rfl⟩ ⟨Nat.le_trans (by omega) hnc, Nat.le_trans (by omega) hns⟩ dL_law_3944 ?_
  refine z_ws (ws' := (wY cI cJ y d sy sm sd mi ti (s_L_lengthOfMoments_sL sL mD mT q1 q2 q3) (s_L_lengthOfMoments_bL bL mD mT q1 q2 q3) mD mT ((o, .inl (cJ, 1, .inr (.inl (s_L_lengthOfMoments_ou mD mT ou q1 q2 q3)))) :: (wM cI cJ z (s_X3_lengthOfMoments_co mD mT q1 q2 q3) d ti (s_X3_lengthOfMoments_sL sL mD mT q1 q2 q3) (s_X3_lengthOfMoments_bL bL mD mT q1 q2 q3) mD mT (zw sy) (zw sm) (zw sd) (zw mi) yr mo dy [])))) [11, 12, 13, 14, 15, 16, 17, 18, 19, 20, 21, 22, 0, 1, 2, 3, 4, 5, 6, 7, 8, 9, 10] rfl (by decide) rfl ?_
  refine z_iload C dL_law_3947 1 rfl ?_
  refine z_icmp_eq (tgt := 3954) C dL_law_3949 (by decide) (fun _ => ?_) (fun h => absurd (g_1) h)
  refine z_iload C dL_law_3954 1 rfl ?_
  refine z_if_ne (tgt := 3970) C dL_law_3956 (by decide) (fun h1 => ?_) (fun h1 => ?_)
  · refine z_goto (tgt := 4233) C dL_law_3970 (by decide) ?_
    refine z_sub [2, 3, 4, 5, 6] rfl ?_
    exact z_widen (by omega) (by omega) kk
  · refine z_aload_n C dL_law_3959 rfl 3 rfl ?_
    refine z_iconst (v := 0) C dL_law_3960 (by decide) ?_
    refine z_lald C 11 1 rfl rfl (zvpl 0 1 (by decide)) dL_law_3961 ?_
    refine z_eqst (st' := [.long ((s_L_lengthOfMoments_ou mD mT ou q1 q2 q3) 0)]) rfl ?_
    refine z_lload C dL_law_3962 0 rfl ?_
    refine z_lcmp_eq (tgt := 3970) C dL_law_3964 dL_law_3965 (by decide) (fun _ => ?_) (fun h => absurd (g_2 h1) h)
    refine z_goto (tgt := 4233) C dL_law_3970 (by decide) ?_
    refine z_sub [2, 3, 4, 5, 6] rfl ?_
    exact z_widen (by omega) (by omega) kk
def pre_Lc43 (mD : Nat → Int64) (mT : Nat → Int64) (ou : Nat → Int64) (q1 : Int32) (q2 : Int32) (q3 : Int32) : Prop := ((pre_L_whole q1 q2 ((q3.toUInt32 % 65536).toInt32))) ∧ ((pre_X3_whole mD mT q1 q2 ((q3.toUInt32 % 65536).toInt32))) ∧ (((s_X3_whole_co mD mT q1 q2 ((q3.toUInt32 % 65536).toInt32)) = (f_L_whole q1 q2 ((q3.toUInt32 % 65536).toInt32)))) ∧ (((f_L_whole q1 q2 ((q3.toUInt32 % 65536).toInt32)) = 0) → (((s_L_whole_ou mD mT ou q1 q2 ((q3.toUInt32 % 65536).toInt32)) 0) = (f_X3_whole mD mT q1 q2 ((q3.toUInt32 % 65536).toInt32))))
set_option maxHeartbeats 4000000 in
set_option maxRecDepth 100000 in
theorem law_c43 {p : Program} {l : Launch} {e : Env} {s : State} {m : MethodId} {args : Array Value} {below : List Frame} {meth : Method} {c : Code} {D : va_G} {cI cJ : ClassId} {A : Nat → Prop} {Q : State → Prop} {ret : Option FieldType} (C : ZC p l s m args meth c 9 D (zTys cI cJ) A cL_law wsL_law RL ret) (hfl : l.stackTraces = false) {b Ln : Nat} {xs : Nat → Int32} (hX : va_X b Ln xs s s.heap) (hbl : b < s.heap.size) (hbA : ¬ A b) (y z : Nat → Nat) (o : Nat) (d : Nat → Int64) (sy : Nat → Int32) (sm : Nat → Int32) (sd : Nat → Int32) (mi : Nat → Int32) (ti : Nat → Int64) (sL : Nat → Int64) (bL : Nat → Int64) (mD : Nat → Int64) (mT : Nat → Int64) (co : Int32) (yr : Int64) (mo : Int32) (dy : Int32) (ou : Nat → Int64) (q1 : Int32) (q2 : Int32) (q3 : Int32) (q4 : Int32) (q5 : Int32) (i4 : Int32) (hv1 : vp_in (i4 + 1) Ln) (hq1 : xs (i4 + 1).toNatClampNeg = q1) (hv2 : vp_in (i4 + 2) Ln) (hq2 : xs (i4 + 2).toNatClampNeg = q2) (hv3 : vp_in (i4 + 3) Ln) (hq3 : xs (i4 + 3).toNatClampNeg = q3) (hv4 : vp_in (i4 + 4) Ln) (hq4 : xs (i4 + 4).toNatClampNeg = q4) (hv5 : vp_in (i4 + 5) Ln) (hq5 : xs (i4 + 5).toNatClampNeg = q5) (nc ns : Nat) (hnc : nc + 6 ≤ room_1.cells) (hns : ns + 36 ≤ room_1.slots) (h_g : pre_Lc43 mD mT ou q1 q2 q3) (kk : ZW p l e room_1 s m args below meth c 9 D (zTys cI cJ) A Q (nc + 6) (ns + 36) (wY cI cJ y d sy sm sd mi ti sL bL mD mT ((o, .inl (cJ, 1, .inr (.inl (s_L_whole_ou mD mT ou q1 q2 ((q3.toUInt32 % 65536).toInt32))))) :: (wM cI cJ z (s_X3_whole_co mD mT q1 q2 ((q3.toUInt32 % 65536).toInt32)) d ti sL bL mD mT (zw sy) (zw sm) (zw sd) (zw mi) yr mo dy []))) 4233 [(4, .int i4), (3, .ref o), (2, .ref (z 0)), (1, .ref (y 0)), (0, .ref b)] []) : ZW p l e room_1 s m args below meth c 9 D (zTys cI cJ) A Q nc ns (wY cI cJ y d sy sm sd mi ti sL bL mD mT ((o, .inl (cJ, 1, .inr (.inl ou))) :: (wM cI cJ z co d ti sL bL mD mT (zw sy) (zw sm) (zw sd) (zw mi) yr mo dy []))) 3973 [(4, .int i4), (3, .ref o), (2, .ref (z 0)), (1, .ref (y 0)), (0, .ref b)] [] := by
  obtain ⟨g_0, g_1, g_2, g_3⟩ := h_g
  refine z_aload_n C dL_law_3973 rfl 3 rfl ?_
  refine z_aload_n C dL_law_3974 rfl 4 rfl ?_
  refine z_iload C dL_law_3975 0 rfl ?_
  refine z_iconst (v := 1) C dL_law_3977 (by decide) ?_
  refine z_iadd C dL_law_3978 ?_
  refine z_sld C hX hbl hbA hv1 dL_law_3979 ?_
  refine z_eqst (st' := [.int q1, .ref (y 0)]) (congrArg (fun v => Value.int v :: _) hq1) ?_
  refine z_aload_n C dL_law_3980 rfl 4 rfl ?_
  refine z_iload C dL_law_3981 0 rfl ?_
  refine z_iconst (v := 2) C dL_law_3983 (by decide) ?_
  refine z_iadd C dL_law_3984 ?_
  refine z_sld C hX hbl hbA hv2 dL_law_3985 ?_
  refine z_eqst (st' := [.int q2, .int q1, .ref (y 0)]) (congrArg (fun v => Value.int v :: _) hq2) ?_
  refine z_aload_n C dL_law_3986 rfl 4 rfl ?_
  refine z_iload C dL_law_3987 0 rfl ?_
  refine z_iconst (v := 3) C dL_law_3989 (by decide) ?_
  refine z_iadd C dL_law_3990 ?_
  refine z_sld C hX hbl hbA hv3 dL_law_3991 ?_
  refine z_eqst (st' := [.int q3, .int q2, .int q1, .ref (y 0)]) (congrArg (fun v => Value.int v :: _) hq3) ?_
  refine z_i2c (v := (q3.toUInt32 % 65536).toInt32) C dL_law_3992 rfl ?_
  refine z_aload_n C dL_law_3993 rfl 1 rfl ?_
  refine z_siH (ws' := (wY cI cJ y d sy sm sd mi ti sL bL mD mT ((o, .inl (cJ, 1, .inr (.inl (s_L_whole_ou mD mT ou q1 q2 ((q3.toUInt32 % 65536).toInt32))))) :: (wM cI cJ z co d ti sL bL mD mT (zw sy) (zw sm) (zw sd) (zw mi) yr mo dy [])))) C (rest := []) (c_L_whole l hfl D cI cJ (wM cI cJ z co d ti sL bL mD mT (zw sy) (zw sm) (zw sd) (zw mi) yr mo dy []) y o d sy sm sd mi ti sL bL mD mT ou q1 q2 ((q3.toUInt32 % 65536).toInt32) (g_0)) q_L_whole gL_law_L_whole ⟨rfl, rfl⟩ rfl rfl (Nat.le_of_ble_eq_true rfl) ⟨Nat.le_of_ble_eq_true rfl, Nat.le_of_ble_eq_true rfl⟩ ⟨Nat.le_trans (by omega) hnc, Nat.le_trans (by omega) hns⟩ dL_law_3994 ?_
  refine z_istore (lv' := [(5, .int (f_L_whole q1 q2 ((q3.toUInt32 % 65536).toInt32))), (4, .int i4), (3, .ref o), (2, .ref (z 0)), (1, .ref (y 0)), (0, .ref b)]) C dL_law_3997 (by decide) rfl ?_
  refine z_aload_n C dL_law_3999 rfl 3 rfl ?_
  refine z_aload_n C dL_law_4000 rfl 5 rfl ?_
  refine z_iload C dL_law_4001 1 rfl ?_
  refine z_iconst (v := 1) C dL_law_4003 (by decide) ?_
  refine z_iadd C dL_law_4004 ?_
  refine z_sld C hX hbl hbA hv1 dL_law_4005 ?_
  refine z_eqst (st' := [.int q1, .ref (z 0)]) (congrArg (fun v => Value.int v :: _) hq1) ?_
  refine z_aload_n C dL_law_4006 rfl 5 rfl ?_
  refine z_iload C dL_law_4007 1 rfl ?_
  refine z_iconst (v := 2) C dL_law_4009 (by decide) ?_
  refine z_iadd C dL_law_4010 ?_
  refine z_sld C hX hbl hbA hv2 dL_law_4011 ?_
  refine z_eqst (st' := [.int q2, .int q1, .ref (z 0)]) (congrArg (fun v => Value.int v :: _) hq2) ?_
  refine z_aload_n C dL_law_4012 rfl 5 rfl ?_
  refine z_iload C dL_law_4013 1 rfl ?_
  refine z_iconst (v := 3) C dL_law_4015 (by decide) ?_
  refine z_iadd C dL_law_4016 ?_
  refine z_sld C hX hbl hbA hv3 dL_law_4017 ?_
  refine z_eqst (st' := [.int q3, .int q2, .int q1, .ref (z 0)]) (congrArg (fun v => Value.int v :: _) hq3) ?_
  refine z_i2c (v := (q3.toUInt32 % 65536).toInt32) C dL_law_4018 rfl ?_
  refine z_ws (ws' := (wM cI cJ z co d ti sL bL mD mT (zw sy) (zw sm) (zw sd) (zw mi) yr mo dy (wY cI cJ y d sy sm sd mi ti sL bL mD mT [(o, .inl (cJ, 1, .inr (.inl (s_L_whole_ou mD mT ou q1 q2 ((q3.toUInt32 % 65536).toInt32)))))]))) [12, 13, 14, 15, 16, 17, 18, 19, 20, 21, 22, 0, 1, 2, 3, 4, 5, 6, 7, 8, 9, 10, 11] rfl (by decide) rfl ?_
  refine z_wl (ws' := (wM cI cJ z (s_X3_whole_co mD mT q1 q2 ((q3.toUInt32 % 65536).toInt32)) d ti sL bL mD mT (zw sy) (zw sm) (zw sd) (zw mi) yr mo dy (wY cI cJ y d sy sm sd mi ti sL bL mD mT [(o, .inl (cJ, 1, .inr (.inl (s_L_whole_ou mD mT ou q1 q2 ((q3.toUInt32 % 65536).toInt32)))))]))) (rest := []) (ci := 3) (q0 := 0) C (c_X3_whole l hfl D cI cJ (wY cI cJ y d sy sm sd mi ti sL bL mD mT [(o, .inl (cJ, 1, .inr (.inl (s_L_whole_ou mD mT ou q1 q2 ((q3.toUInt32 % 65536).toInt32)))))]) z co d ti sL bL mD mT (zw sy) (zw sm) (zw sd) (zw mi) yr mo dy q1 q2 ((q3.toUInt32 % 65536).toInt32) (g_1)) q_X3_whole rfl rfl rfl gL_law_X3_whole ⟨rfl, rfl⟩ rfl rfl (Nat.le_of_ble_eq_true rfl) ⟨Nat.le_of_ble_eq_true rfl, Nat.le_of_ble_eq_true rfl⟩ ⟨Nat.le_trans (by omega) hnc, Nat.le_trans (by omega) hns⟩ dL_law_4019 ?_
  refine z_ws (ws' := (wY cI cJ y d sy sm sd mi ti sL bL mD mT ((o, .inl (cJ, 1, .inr (.inl (s_L_whole_ou mD mT ou q1 q2 ((q3.toUInt32 % 65536).toInt32))))) :: (wM cI cJ z (s_X3_whole_co mD mT q1 q2 ((q3.toUInt32 % 65536).toInt32)) d ti sL bL mD mT (zw sy) (zw sm) (zw sd) (zw mi) yr mo dy [])))) [11, 12, 13, 14, 15, 16, 17, 18, 19, 20, 21, 22, 0, 1, 2, 3, 4, 5, 6, 7, 8, 9, 10] rfl (by decide) rfl ?_
  refine z_lstore (lv' := [(6, .long (f_X3_whole mD mT q1 q2 ((q3.toUInt32 % 65536).toInt32))), (5, .int (f_L_whole q1 q2 ((q3.toUInt32 % 65536).toInt32))), (4, .int i4), (3, .ref o), (2, .ref (z 0)), (1, .ref (y 0)), (0, .ref b)]) C dL_law_4022 (by decide) rfl ?_
  refine z_aload_n C dL_law_4024 rfl 4 rfl ?_
  refine z_ws (ws' := (wM cI cJ z (s_X3_whole_co mD mT q1 q2 ((q3.toUInt32 % 65536).toInt32)) d ti sL bL mD mT (zw sy) (zw sm) (zw sd) (zw mi) yr mo dy (wY cI cJ y d sy sm sd mi ti sL bL mD mT [(o, .inl (cJ, 1, .inr (.inl (s_L_whole_ou mD mT ou q1 q2 ((q3.toUInt32 % 65536).toInt32)))))]))) [12, 13, 14, 15, 16, 17, 18, 19, 20, 21, 22, 0, 1, 2, 3, 4, 5, 6, 7, 8, 9, 10, 11] rfl (by decide) rfl ?_
  refine z_wi (ws' := (wM cI cJ z (s_X3_whole_co mD mT q1 q2 ((q3.toUInt32 % 65536).toInt32)) d ti sL bL mD mT (zw sy) (zw sm) (zw sd) (zw mi) yr mo dy (wY cI cJ y d sy sm sd mi ti sL bL mD mT [(o, .inl (cJ, 1, .inr (.inl (s_L_whole_ou mD mT ou q1 q2 ((q3.toUInt32 % 65536).toInt32)))))]))) (rest := []) (ci := 3) (q0 := 0) C (c_X3_thrown l hfl D cI cJ (wY cI cJ y d sy sm sd mi ti sL bL mD mT [(o, .inl (cJ, 1, .inr (.inl (s_L_whole_ou mD mT ou q1 q2 ((q3.toUInt32 % 65536).toInt32)))))]) z (s_X3_whole_co mD mT q1 q2 ((q3.toUInt32 % 65536).toInt32)) d ti sL bL mD mT (zw sy) (zw sm) (zw sd) (zw mi) yr mo dy  ) q_X3_thrown rfl rfl rfl gL_law_X3_thrown ⟨rfl, rfl⟩ rfl rfl (Nat.le_of_ble_eq_true rfl) ⟨Nat.le_of_ble_eq_true rfl, Nat.le_of_ble_eq_true rfl⟩ ⟨Nat.le_trans (by omega) hnc, Nat.le_trans (by omega) hns⟩ dL_law_4025 ?_
  refine z_ws (ws' := (wY cI cJ y d sy sm sd mi ti sL bL mD mT ((o, .inl (cJ, 1, .inr (.inl (s_L_whole_ou mD mT ou q1 q2 ((q3.toUInt32 % 65536).toInt32))))) :: (wM cI cJ z (s_X3_whole_co mD mT q1 q2 ((q3.toUInt32 % 65536).toInt32)) d ti sL bL mD mT (zw sy) (zw sm) (zw sd) (zw mi) yr mo dy [])))) [11, 12, 13, 14, 15, 16, 17, 18, 19, 20, 21, 22, 0, 1, 2, 3, 4, 5, 6, 7, 8, 9, 10] rfl (by decide) rfl ?_
  refine z_iload C dL_law_4028 1 rfl ?_
  refine z_icmp_eq (tgt := 4035) C dL_law_4030 (by decide) (fun _ => ?_) (fun h => absurd (g_2) h)
  refine z_iload C dL_law_4035 1 rfl ?_
  refine z_if_ne (tgt := 4051) C dL_law_4037 (by decide) (fun h1 => ?_) (fun h1 => ?_)
  · refine z_goto (tgt := 4233) C dL_law_4051 (by decide) ?_
    refine z_sub [2, 3, 4, 5, 6] rfl ?_
    exact z_widen (by omega) (by omega) kk
  · refine z_aload_n C dL_law_4040 rfl 3 rfl ?_
    refine z_iconst (v := 0) C dL_law_4041 (by decide) ?_
    refine z_lald C 11 1 rfl rfl (zvpl 0 1 (by decide)) dL_law_4042 ?_
    refine z_eqst (st' := [.long ((s_L_whole_ou mD mT ou q1 q2 ((q3.toUInt32 % 65536).toInt32)) 0)]) rfl ?_
    refine z_lload C dL_law_4043 0 rfl ?_
    refine z_lcmp_eq (tgt := 4051) C dL_law_4045 dL_law_4046 (by decide) (fun _ => ?_) (fun h => absurd (g_3 h1) h)
    refine z_goto (tgt := 4233) C dL_law_4051 (by decide) ?_
    refine z_sub [2, 3, 4, 5, 6] rfl ?_
    exact z_widen (by omega) (by omega) kk
def pre_Lc44 (mD : Nat → Int64) (mT : Nat → Int64) (ou : Nat → Int64) (q1 : Int32) (q2 : Int32) : Prop := ((pre_L_orderMoments mD q1 q2)) ∧ (((s_X3_orderMoments_co mD mT q1 q2) = (f_L_orderMoments mD q1 q2))) ∧ (((f_L_orderMoments mD q1 q2) = 0) → (((s_L_orderMoments_ou mD mT ou q1 q2) 0) = ((f_X3_orderMoments mD mT q1 q2)).toInt64))
set_option maxHeartbeats 4000000 in
set_option maxRecDepth 100000 in
theorem law_c44 {p : Program} {l : Launch} {e : Env} {s : State} {m : MethodId} {args : Array Value} {below : List Frame} {meth : Method} {c : Code} {D : va_G} {cI cJ : ClassId} {A : Nat → Prop} {Q : State → Prop} {ret : Option FieldType} (C : ZC p l s m args meth c 9 D (zTys cI cJ) A cL_law wsL_law RL ret) (hfl : l.stackTraces = false) {b Ln : Nat} {xs : Nat → Int32} (hX : va_X b Ln xs s s.heap) (hbl : b < s.heap.size) (hbA : ¬ A b) (y z : Nat → Nat) (o : Nat) (d : Nat → Int64) (sy : Nat → Int32) (sm : Nat → Int32) (sd : Nat → Int32) (mi : Nat → Int32) (ti : Nat → Int64) (sL : Nat → Int64) (bL : Nat → Int64) (mD : Nat → Int64) (mT : Nat → Int64) (co : Int32) (yr : Int64) (mo : Int32) (dy : Int32) (ou : Nat → Int64) (q1 : Int32) (q2 : Int32) (q3 : Int32) (q4 : Int32) (q5 : Int32) (i4 : Int32) (hv1 : vp_in (i4 + 1) Ln) (hq1 : xs (i4 + 1).toNatClampNeg = q1) (hv2 : vp_in (i4 + 2) Ln) (hq2 : xs (i4 + 2).toNatClampNeg = q2) (hv3 : vp_in (i4 + 3) Ln) (hq3 : xs (i4 + 3).toNatClampNeg = q3) (hv4 : vp_in (i4 + 4) Ln) (hq4 : xs (i4 + 4).toNatClampNeg = q4) (hv5 : vp_in (i4 + 5) Ln) (hq5 : xs (i4 + 5).toNatClampNeg = q5) (nc ns : Nat) (hnc : nc + 6 ≤ room_1.cells) (hns : ns + 36 ≤ room_1.slots) (h_g : pre_Lc44 mD mT ou q1 q2) (kk : ZW p l e room_1 s m args below meth c 9 D (zTys cI cJ) A Q (nc + 6) (ns + 36) (wY cI cJ y d sy sm sd mi ti sL bL mD mT ((o, .inl (cJ, 1, .inr (.inl (s_L_orderMoments_ou mD mT ou q1 q2)))) :: (wM cI cJ z (s_X3_orderMoments_co mD mT q1 q2) d ti sL bL mD mT (zw sy) (zw sm) (zw sd) (zw mi) yr mo dy []))) 4233 [(4, .int i4), (3, .ref o), (2, .ref (z 0)), (1, .ref (y 0)), (0, .ref b)] []) : ZW p l e room_1 s m args below meth c 9 D (zTys cI cJ) A Q nc ns (wY cI cJ y d sy sm sd mi ti sL bL mD mT ((o, .inl (cJ, 1, .inr (.inl ou))) :: (wM cI cJ z co d ti sL bL mD mT (zw sy) (zw sm) (zw sd) (zw mi) yr mo dy []))) 4054 [(4, .int i4), (3, .ref o), (2, .ref (z 0)), (1, .ref (y 0)), (0, .ref b)] [] := by
  obtain ⟨g_0, g_1, g_2⟩ := h_g
  refine z_aload_n C dL_law_4054 rfl 3 rfl ?_
  refine z_aload_n C dL_law_4055 rfl 4 rfl ?_
  refine z_iload C dL_law_4056 0 rfl ?_
  refine z_iconst (v := 1) C dL_law_4058 (by decide) ?_
  refine z_iadd C dL_law_4059 ?_
  refine z_sld C hX hbl hbA hv1 dL_law_4060 ?_
  refine z_eqst (st' := [.int q1, .ref (y 0)]) (congrArg (fun v => Value.int v :: _) hq1) ?_
  refine z_aload_n C dL_law_4061 rfl 4 rfl ?_
  refine z_iload C dL_law_4062 0 rfl ?_
  refine z_iconst (v := 2) C dL_law_4064 (by decide) ?_
  refine z_iadd C dL_law_4065 ?_
  refine z_sld C hX hbl hbA hv2 dL_law_4066 ?_
  refine z_eqst (st' := [.int q2, .int q1, .ref (y 0)]) (congrArg (fun v => Value.int v :: _) hq2) ?_
  refine z_aload_n C dL_law_4067 rfl 1 rfl ?_
  refine z_siH (ws' := (wY cI cJ y d sy sm sd mi ti sL bL mD mT ((o, .inl (cJ, 1, .inr (.inl (s_L_orderMoments_ou mD mT ou q1 q2)))) :: (wM cI cJ z co d ti sL bL mD mT (zw sy) (zw sm) (zw sd) (zw mi) yr mo dy [])))) C (rest := []) (c_L_orderMoments l hfl D cI cJ (wM cI cJ z co d ti sL bL mD mT (zw sy) (zw sm) (zw sd) (zw mi) yr mo dy []) y o d sy sm sd mi ti sL bL mD mT ou q1 q2 (g_0)) q_L_orderMoments gL_law_L_orderMoments ⟨rfl, rfl⟩ rfl rfl (Nat.le_of_ble_eq_true rfl) ⟨Nat.le_of_ble_eq_true rfl, Nat.le_of_ble_eq_true rfl⟩ ⟨Nat.le_trans (by omega) hnc, Nat.le_trans (by omega) hns⟩ dL_law_4068 ?_
  refine z_istore (lv' := [(5, .int (f_L_orderMoments mD q1 q2)), (4, .int i4), (3, .ref o), (2, .ref (z 0)), (1, .ref (y 0)), (0, .ref b)]) C dL_law_4071 (by decide) rfl ?_
  refine z_aload_n C dL_law_4073 rfl 3 rfl ?_
  refine z_aload_n C dL_law_4074 rfl 5 rfl ?_
  refine z_iload C dL_law_4075 1 rfl ?_
  refine z_iconst (v := 1) C dL_law_4077 (by decide) ?_
  refine z_iadd C dL_law_4078 ?_
  refine z_sld C hX hbl hbA hv1 dL_law_4079 ?_
  refine z_eqst (st' := [.int q1, .ref (z 0)]) (congrArg (fun v => Value.int v :: _) hq1) ?_
  refine z_aload_n C dL_law_4080 rfl 5 rfl ?_
  refine z_iload C dL_law_4081 1 rfl ?_
  refine z_iconst (v := 2) C dL_law_4083 (by decide) ?_
  refine z_iadd C dL_law_4084 ?_
  refine z_sld C hX hbl hbA hv2 dL_law_4085 ?_
  refine z_eqst (st' := [.int q2, .int q1, .ref (z 0)]) (congrArg (fun v => Value.int v :: _) hq2) ?_
  refine z_ws (ws' := (wM cI cJ z co d ti sL bL mD mT (zw sy) (zw sm) (zw sd) (zw mi) yr mo dy (wY cI cJ y d sy sm sd mi ti sL bL mD mT [(o, .inl (cJ, 1, .inr (.inl (s_L_orderMoments_ou mD mT ou q1 q2))))]))) [12, 13, 14, 15, 16, 17, 18, 19, 20, 21, 22, 0, 1, 2, 3, 4, 5, 6, 7, 8, 9, 10, 11] rfl (by decide) rfl ?_
  refine z_wi (ws' := (wM cI cJ z (s_X3_orderMoments_co mD mT q1 q2) d ti sL bL mD mT (zw sy) (zw sm) (zw sd) (zw mi) yr mo dy (wY cI cJ y d sy sm sd mi ti sL bL mD mT [(o, .inl (cJ, 1, .inr (.inl (s_L_orderMoments_ou mD mT ou q1 q2))))]))) (rest := []) (ci := 3) (q0 := 0) C (c_X3_orderMoments l hfl D cI cJ (wY cI cJ y d sy sm sd mi ti sL bL mD mT [(o, .inl (cJ, 1, .inr (.inl (s_L_orderMoments_ou mD mT ou q1 q2))))]) z co d ti sL bL mD mT (zw sy) (zw sm) (zw sd) (zw mi) yr mo dy q1 q2 ) q_X3_orderMoments rfl rfl rfl gL_law_X3_orderMoments ⟨rfl, rfl⟩ rfl rfl (Nat.le_of_ble_eq_true rfl) ⟨Nat.le_of_ble_eq_true rfl, Nat.le_of_ble_eq_true rfl⟩ ⟨Nat.le_trans (by omega) hnc, Nat.le_trans (by omega) hns⟩ dL_law_4086 ?_
  refine z_ws (ws' := (wY cI cJ y d sy sm sd mi ti sL bL mD mT ((o, .inl (cJ, 1, .inr (.inl (s_L_orderMoments_ou mD mT ou q1 q2)))) :: (wM cI cJ z (s_X3_orderMoments_co mD mT q1 q2) d ti sL bL mD mT (zw sy) (zw sm) (zw sd) (zw mi) yr mo dy [])))) [11, 12, 13, 14, 15, 16, 17, 18, 19, 20, 21, 22, 0, 1, 2, 3, 4, 5, 6, 7, 8, 9, 10] rfl (by decide) rfl ?_
  refine z_istore (lv' := [(6, .int (f_X3_orderMoments mD mT q1 q2)), (5, .int (f_L_orderMoments mD q1 q2)), (4, .int i4), (3, .ref o), (2, .ref (z 0)), (1, .ref (y 0)), (0, .ref b)]) C dL_law_4089 (by decide) rfl ?_
  refine z_aload_n C dL_law_4091 rfl 4 rfl ?_
  refine z_ws (ws' := (wM cI cJ z (s_X3_orderMoments_co mD mT q1 q2) d ti sL bL mD mT (zw sy) (zw sm) (zw sd) (zw mi) yr mo dy (wY cI cJ y d sy sm sd mi ti sL bL mD mT [(o, .inl (cJ, 1, .inr (.inl (s_L_orderMoments_ou mD mT ou q1 q2))))]))) [12, 13, 14, 15, 16, 17, 18, 19, 20, 21, 22, 0, 1, 2, 3, 4, 5, 6, 7, 8, 9, 10, 11] rfl (by decide) rfl ?_
  refine z_wi (ws' := (wM cI cJ z (s_X3_orderMoments_co mD mT q1 q2) d ti sL bL mD mT (zw sy) (zw sm) (zw sd) (zw mi) yr mo dy (wY cI cJ y d sy sm sd mi ti sL bL mD mT [(o, .inl (cJ, 1, .inr (.inl (s_L_orderMoments_ou mD mT ou q1 q2))))]))) (rest := []) (ci := 3) (q0 := 0) C (c_X3_thrown l hfl D cI cJ (wY cI cJ y d sy sm sd mi ti sL bL mD mT [(o, .inl (cJ, 1, .inr (.inl (s_L_orderMoments_ou mD mT ou q1 q2))))]) z (s_X3_orderMoments_co mD mT q1 q2) d ti sL bL mD mT (zw sy) (zw sm) (zw sd) (zw mi) yr mo dy  ) q_X3_thrown rfl rfl rfl gL_law_X3_thrown ⟨rfl, rfl⟩ rfl rfl (Nat.le_of_ble_eq_true rfl) ⟨Nat.le_of_ble_eq_true rfl, Nat.le_of_ble_eq_true rfl⟩ ⟨Nat.le_trans (by omega) hnc, Nat.le_trans (by omega) hns⟩ dL_law_4092 ?_
  refine z_ws (ws' := (wY cI cJ y d sy sm sd mi ti sL bL mD mT ((o, .inl (cJ, 1, .inr (.inl (s_L_orderMoments_ou mD mT ou q1 q2)))) :: (wM cI cJ z (s_X3_orderMoments_co mD mT q1 q2) d ti sL bL mD mT (zw sy) (zw sm) (zw sd) (zw mi) yr mo dy [])))) [11, 12, 13, 14, 15, 16, 17, 18, 19, 20, 21, 22, 0, 1, 2, 3, 4, 5, 6, 7, 8, 9, 10] rfl (by decide) rfl ?_
  refine z_iload C dL_law_4095 1 rfl ?_
  refine z_icmp_eq (tgt := 4102) C dL_law_4097 (by decide) (fun _ => ?_) (fun h => absurd (g_1) h)
  refine z_iload C dL_law_4102 1 rfl ?_
  refine z_if_ne (tgt := 4119) C dL_law_4104 (by decide) (fun h1 => ?_) (fun h1 => ?_)
  · refine z_goto (tgt := 4233) C dL_law_4119 (by decide) ?_
    refine z_sub [2, 3, 4, 5, 6] rfl ?_
    exact z_widen (by omega) (by omega) kk
  · refine z_aload_n C dL_law_4107 rfl 3 rfl ?_
    refine z_iconst (v := 0) C dL_law_4108 (by decide) ?_
    refine z_lald C 11 1 rfl rfl (zvpl 0 1 (by decide)) dL_law_4109 ?_
    refine z_eqst (st' := [.long ((s_L_orderMoments_ou mD mT ou q1 q2) 0)]) rfl ?_
    refine z_iload C dL_law_4110 0 rfl ?_
    refine z_i2l (v := ((f_X3_orderMoments mD mT q1 q2)).toInt64) C dL_law_4112 rfl ?_
    refine z_lcmp_eq (tgt := 4119) C dL_law_4113 dL_law_4114 (by decide) (fun _ => ?_) (fun h => absurd (g_2 h1) h)
    refine z_goto (tgt := 4233) C dL_law_4119 (by decide) ?_
    refine z_sub [2, 3, 4, 5, 6] rfl ?_
    exact z_widen (by omega) (by omega) kk
def pre_Lc45 (d : Nat → Int64) : Prop := ((pre_X2_longShare d)) ∧ ((vf_n64 (FP.f2d (f_X2_longShare d)))) ∧ ((pre_X3_longShare d)) ∧ ((vf_n64 (FP.f2d (f_X3_longShare d)))) ∧ (((Op.cmpValue (FP.dcmp (FP.f2d (f_X2_longShare d)) (FP.f2d (f_X3_longShare d))) .l) = 0))
set_option maxHeartbeats 4000000 in
set_option maxRecDepth 100000 in
theorem law_c45 {p : Program} {l : Launch} {e : Env} {s : State} {m : MethodId} {args : Array Value} {below : List Frame} {meth : Method} {c : Code} {D : va_G} {cI cJ : ClassId} {A : Nat → Prop} {Q : State → Prop} {ret : Option FieldType} (C : ZC p l s m args meth c 9 D (zTys cI cJ) A cL_law wsL_law RL ret) (hfl : l.stackTraces = false) {b Ln : Nat} {xs : Nat → Int32} (hX : va_X b Ln xs s s.heap) (hbl : b < s.heap.size) (hbA : ¬ A b) (y z : Nat → Nat) (o : Nat) (d : Nat → Int64) (sy : Nat → Int32) (sm : Nat → Int32) (sd : Nat → Int32) (mi : Nat → Int32) (ti : Nat → Int64) (sL : Nat → Int64) (bL : Nat → Int64) (mD : Nat → Int64) (mT : Nat → Int64) (co : Int32) (yr : Int64) (mo : Int32) (dy : Int32) (ou : Nat → Int64) (q1 : Int32) (q2 : Int32) (q3 : Int32) (q4 : Int32) (q5 : Int32) (i4 : Int32) (hv1 : vp_in (i4 + 1) Ln) (hq1 : xs (i4 + 1).toNatClampNeg = q1) (hv2 : vp_in (i4 + 2) Ln) (hq2 : xs (i4 + 2).toNatClampNeg = q2) (hv3 : vp_in (i4 + 3) Ln) (hq3 : xs (i4 + 3).toNatClampNeg = q3) (hv4 : vp_in (i4 + 4) Ln) (hq4 : xs (i4 + 4).toNatClampNeg = q4) (hv5 : vp_in (i4 + 5) Ln) (hq5 : xs (i4 + 5).toNatClampNeg = q5) (nc ns : Nat) (hnc : nc + 6 ≤ room_1.cells) (hns : ns + 36 ≤ room_1.slots) (h_g : pre_Lc45 d) (kk : ZW p l e room_1 s m args below meth c 9 D (zTys cI cJ) A Q (nc + 6) (ns + 36) (wY cI cJ y d sy sm sd mi ti sL bL mD mT ((o, .inl (cJ, 1, .inr (.inl ou))) :: (wM cI cJ z s_X3_longShare_co d ti sL bL mD mT (zw sy) (zw sm) (zw sd) (zw mi) (s_X3_longShare_yr d) (s_X3_longShare_mo d) (s_X3_longShare_dy d) []))) 4233 [(4, .int i4), (3, .ref o), (2, .ref (z 0)), (1, .ref (y 0)), (0, .ref b)] []) : ZW p l e room_1 s m args below meth c 9 D (zTys cI cJ) A Q nc ns (wY cI cJ y d sy sm sd mi ti sL bL mD mT ((o, .inl (cJ, 1, .inr (.inl ou))) :: (wM cI cJ z co d ti sL bL mD mT (zw sy) (zw sm) (zw sd) (zw mi) yr mo dy []))) 4122 [(4, .int i4), (3, .ref o), (2, .ref (z 0)), (1, .ref (y 0)), (0, .ref b)] [] := by
  obtain ⟨g_0, g_1, g_2, g_3, g_4⟩ := h_g
  refine z_aload_n C dL_law_4122 rfl 3 rfl ?_
  refine z_wf (ws' := (wY cI cJ y d sy sm sd mi ti sL bL mD mT ((o, .inl (cJ, 1, .inr (.inl ou))) :: (wM cI cJ z co d ti sL bL mD mT (zw sy) (zw sm) (zw sd) (zw mi) yr mo dy [])))) (rest := []) (ci := 2) (q0 := 0) C (c_X2_longShare l hfl D cI cJ ((o, .inl (cJ, 1, .inr (.inl ou))) :: (wM cI cJ z co d ti sL bL mD mT (zw sy) (zw sm) (zw sd) (zw mi) yr mo dy [])) y d sy sm sd mi ti sL bL mD mT  (g_0)) q_X2_longShare rfl rfl rfl gL_law_X2_longShare ⟨rfl, rfl⟩ rfl rfl (Nat.le_of_ble_eq_true rfl) ⟨Nat.le_of_ble_eq_true rfl, Nat.le_of_ble_eq_true rfl⟩ ⟨Nat.le_trans (by omega) hnc, Nat.le_trans (by omega) hns⟩ dL_law_4123 ?_
  refine z_f2d C dL_law_4126 (g_1) ?_
  refine z_dstore (lv' := [(5, .double (FP.f2d (f_X2_longShare d))), (4, .int i4), (3, .ref o), (2, .ref (z 0)), (1, .ref (y 0)), (0, .ref b)]) C dL_law_4127 (by decide) rfl ?_
  refine z_aload_n C dL_law_4129 rfl 3 rfl ?_
  refine z_ws (ws' := (wM cI cJ z co d ti sL bL mD mT (zw sy) (zw sm) (zw sd) (zw mi) yr mo dy (wY cI cJ y d sy sm sd mi ti sL bL mD mT [(o, .inl (cJ, 1, .inr (.inl ou)))]))) [12, 13, 14, 15, 16, 17, 18, 19, 20, 21, 22, 0, 1, 2, 3, 4, 5, 6, 7, 8, 9, 10, 11] rfl (by decide) rfl ?_
  refine z_wf (ws' := (wM cI cJ z s_X3_longShare_co d ti sL bL mD mT (zw sy) (zw sm) (zw sd) (zw mi) (s_X3_longShare_yr d) (s_X3_longShare_mo d) (s_X3_longShare_dy d) (wY cI cJ y d sy sm sd mi ti sL bL mD mT [(o, .inl (cJ, 1, .inr (.inl ou)))]))) (rest := []) (ci := 3) (q0 := 0) C (c_X3_longShare l hfl D cI cJ (wY cI cJ y d sy sm sd mi ti sL bL mD mT [(o, .inl (cJ, 1, .inr (.inl ou)))]) z co d ti sL bL mD mT (zw sy) (zw sm) (zw sd) (zw mi) yr mo dy  (g_2)) q_X3_longShare rfl rfl rfl gL_law_X3_longShare ⟨rfl, rfl⟩ rfl rfl (Nat.le_of_ble_eq_true rfl) ⟨Nat.le_of_ble_eq_true rfl, Nat.le_of_ble_eq_true rfl⟩ ⟨Nat.le_trans (by omega) hnc, Nat.le_trans (by omega) hns⟩ dL_law_4130 ?_
  refine z_ws (ws' := (wY cI cJ y d sy sm sd mi ti sL bL mD mT ((o, .inl (cJ, 1, .inr (.inl ou))) :: (wM cI cJ z s_X3_longShare_co d ti sL bL mD mT (zw sy) (zw sm) (zw sd) (zw mi) (s_X3_longShare_yr d) (s_X3_longShare_mo d) (s_X3_longShare_dy d) [])))) [11, 12, 13, 14, 15, 16, 17, 18, 19, 20, 21, 22, 0, 1, 2, 3, 4, 5, 6, 7, 8, 9, 10] rfl (by decide) rfl ?_
  refine z_f2d C dL_law_4133 (g_3) ?_
  refine z_dstore (lv' := [(7, .double (FP.f2d (f_X3_longShare d))), (5, .double (FP.f2d (f_X2_longShare d))), (4, .int i4), (3, .ref o), (2, .ref (z 0)), (1, .ref (y 0)), (0, .ref b)]) C dL_law_4134 (by decide) rfl ?_
  refine z_dload C dL_law_4136 1 rfl ?_
  refine z_dload C dL_law_4138 0 rfl ?_
  refine z_dcmp C dL_law_4140 ?_
  refine z_if_eq (tgt := 4162) C dL_law_4141 (by decide) (fun _ => ?_) (fun h => absurd (g_4) h)
  refine z_goto (tgt := 4233) C dL_law_4162 (by decide) ?_
  refine z_sub [2, 3, 4, 5, 6] rfl ?_
  exact z_widen (by omega) (by omega) kk
def pre_Lc46 (d : Nat → Int64) : Prop := ((pre_X2_meanDay d)) ∧ ((pre_X3_meanDay d)) ∧ (((Op.cmpValue (FP.dcmp (f_X2_meanDay d) (f_X3_meanDay d)) .l) = 0))
set_option maxHeartbeats 4000000 in
set_option maxRecDepth 100000 in
theorem law_c46 {p : Program} {l : Launch} {e : Env} {s : State} {m : MethodId} {args : Array Value} {below : List Frame} {meth : Method} {c : Code} {D : va_G} {cI cJ : ClassId} {A : Nat → Prop} {Q : State → Prop} {ret : Option FieldType} (C : ZC p l s m args meth c 9 D (zTys cI cJ) A cL_law wsL_law RL ret) (hfl : l.stackTraces = false) {b Ln : Nat} {xs : Nat → Int32} (hX : va_X b Ln xs s s.heap) (hbl : b < s.heap.size) (hbA : ¬ A b) (y z : Nat → Nat) (o : Nat) (d : Nat → Int64) (sy : Nat → Int32) (sm : Nat → Int32) (sd : Nat → Int32) (mi : Nat → Int32) (ti : Nat → Int64) (sL : Nat → Int64) (bL : Nat → Int64) (mD : Nat → Int64) (mT : Nat → Int64) (co : Int32) (yr : Int64) (mo : Int32) (dy : Int32) (ou : Nat → Int64) (q1 : Int32) (q2 : Int32) (q3 : Int32) (q4 : Int32) (q5 : Int32) (i4 : Int32) (hv1 : vp_in (i4 + 1) Ln) (hq1 : xs (i4 + 1).toNatClampNeg = q1) (hv2 : vp_in (i4 + 2) Ln) (hq2 : xs (i4 + 2).toNatClampNeg = q2) (hv3 : vp_in (i4 + 3) Ln) (hq3 : xs (i4 + 3).toNatClampNeg = q3) (hv4 : vp_in (i4 + 4) Ln) (hq4 : xs (i4 + 4).toNatClampNeg = q4) (hv5 : vp_in (i4 + 5) Ln) (hq5 : xs (i4 + 5).toNatClampNeg = q5) (nc ns : Nat) (hnc : nc + 6 ≤ room_1.cells) (hns : ns + 36 ≤ room_1.slots) (h_g : pre_Lc46 d) (kk : ZW p l e room_1 s m args below meth c 9 D (zTys cI cJ) A Q (nc + 6) (ns + 36) (wY cI cJ y d sy sm sd mi ti sL bL mD mT ((o, .inl (cJ, 1, .inr (.inl ou))) :: (wM cI cJ z s_X3_meanDay_co d ti sL bL mD mT (zw sy) (zw sm) (zw sd) (zw mi) yr mo dy []))) 4233 [(4, .int i4), (3, .ref o), (2, .ref (z 0)), (1, .ref (y 0)), (0, .ref b)] []) : ZW p l e room_1 s m args below meth c 9 D (zTys cI cJ) A Q nc ns (wY cI cJ y d sy sm sd mi ti sL bL mD mT ((o, .inl (cJ, 1, .inr (.inl ou))) :: (wM cI cJ z co d ti sL bL mD mT (zw sy) (zw sm) (zw sd) (zw mi) yr mo dy []))) 4165 [(4, .int i4), (3, .ref o), (2, .ref (z 0)), (1, .ref (y 0)), (0, .ref b)] [] := by
  obtain ⟨g_0, g_1, g_2⟩ := h_g
  refine z_aload_n C dL_law_4165 rfl 3 rfl ?_
  refine z_wd (ws' := (wY cI cJ y d sy sm sd mi ti sL bL mD mT ((o, .inl (cJ, 1, .inr (.inl ou))) :: (wM cI cJ z co d ti sL bL mD mT (zw sy) (zw sm) (zw sd) (zw mi) yr mo dy [])))) (rest := []) (ci := 2) (q0 := 0) C (c_X2_meanDay l hfl D cI cJ ((o, .inl (cJ, 1, .inr (.inl ou))) :: (wM cI cJ z co d ti sL bL mD mT (zw sy) (zw sm) (zw sd) (zw mi) yr mo dy [])) y d sy sm sd mi ti sL bL mD mT  (g_0)) q_X2_meanDay rfl rfl rfl gL_law_X2_meanDay ⟨rfl, rfl⟩ rfl rfl (Nat.le_of_ble_eq_true rfl) ⟨Nat.le_of_ble_eq_true rfl, Nat.le_of_ble_eq_true rfl⟩ ⟨Nat.le_trans (by omega) hnc, Nat.le_trans (by omega) hns⟩ dL_law_4166 ?_
  refine z_dstore (lv' := [(5, .double (f_X2_meanDay d)), (4, .int i4), (3, .ref o), (2, .ref (z 0)), (1, .ref (y 0)), (0, .ref b)]) C dL_law_4169 (by decide) rfl ?_
  refine z_aload_n C dL_law_4171 rfl 3 rfl ?_
  refine z_ws (ws' := (wM cI cJ z co d ti sL bL mD mT (zw sy) (zw sm) (zw sd) (zw mi) yr mo dy (wY cI cJ y d sy sm sd mi ti sL bL mD mT [(o, .inl (cJ, 1, .inr (.inl ou)))]))) [12, 13, 14, 15, 16, 17, 18, 19, 20, 21, 22, 0, 1, 2, 3, 4, 5, 6, 7, 8, 9, 10, 11] rfl (by decide) rfl ?_
  refine z_wd (ws' := (wM cI cJ z s_X3_meanDay_co d ti sL bL mD mT (zw sy) (zw sm) (zw sd) (zw mi) yr mo dy (wY cI cJ y d sy sm sd mi ti sL bL mD mT [(o, .inl (cJ, 1, .inr (.inl ou)))]))) (rest := []) (ci := 3) (q0 := 0) C (c_X3_meanDay l hfl D cI cJ (wY cI cJ y d sy sm sd mi ti sL bL mD mT [(o, .inl (cJ, 1, .inr (.inl ou)))]) z co d ti sL bL mD mT (zw sy) (zw sm) (zw sd) (zw mi) yr mo dy  (g_1)) q_X3_meanDay rfl rfl rfl gL_law_X3_meanDay ⟨rfl, rfl⟩ rfl rfl (Nat.le_of_ble_eq_true rfl) ⟨Nat.le_of_ble_eq_true rfl, Nat.le_of_ble_eq_true rfl⟩ ⟨Nat.le_trans (by omega) hnc, Nat.le_trans (by omega) hns⟩ dL_law_4172 ?_
  refine z_ws (ws' := (wY cI cJ y d sy sm sd mi ti sL bL mD mT ((o, .inl (cJ, 1, .inr (.inl ou))) :: (wM cI cJ z s_X3_meanDay_co d ti sL bL mD mT (zw sy) (zw sm) (zw sd) (zw mi) yr mo dy [])))) [11, 12, 13, 14, 15, 16, 17, 18, 19, 20, 21, 22, 0, 1, 2, 3, 4, 5, 6, 7, 8, 9, 10] rfl (by decide) rfl ?_
  refine z_dstore (lv' := [(7, .double (f_X3_meanDay d)), (5, .double (f_X2_meanDay d)), (4, .int i4), (3, .ref o), (2, .ref (z 0)), (1, .ref (y 0)), (0, .ref b)]) C dL_law_4175 (by decide) rfl ?_
  refine z_dload C dL_law_4177 1 rfl ?_
  refine z_dload C dL_law_4179 0 rfl ?_
  refine z_dcmp C dL_law_4181 ?_
  refine z_if_eq (tgt := 4203) C dL_law_4182 (by decide) (fun _ => ?_) (fun h => absurd (g_2) h)
  refine z_goto (tgt := 4233) C dL_law_4203 (by decide) ?_
  refine z_sub [2, 3, 4, 5, 6] rfl ?_
  exact z_widen (by omega) (by omega) kk
def pre_Lc47 (d : Nat → Int64) (sy : Nat → Int32) (sm : Nat → Int32) (sd : Nat → Int32) (mi : Nat → Int32) (ti : Nat → Int64) (sL : Nat → Int64) (bL : Nat → Int64) (mD : Nat → Int64) (mT : Nat → Int64) : Prop := (((f_X2_checksum d sy sm sd mi ti sL bL mD mT) = (f_X3_checksum d ti sL bL mD mT (zw sy) (zw sm) (zw sd) (zw mi))))
set_option maxHeartbeats 4000000 in
set_option maxRecDepth 100000 in
theorem law_c47 {p : Program} {l : Launch} {e : Env} {s : State} {m : MethodId} {args : Array Value} {below : List Frame} {meth : Method} {c : Code} {D : va_G} {cI cJ : ClassId} {A : Nat → Prop} {Q : State → Prop} {ret : Option FieldType} (C : ZC p l s m args meth c 9 D (zTys cI cJ) A cL_law wsL_law RL ret) (hfl : l.stackTraces = false) {b Ln : Nat} {xs : Nat → Int32} (hX : va_X b Ln xs s s.heap) (hbl : b < s.heap.size) (hbA : ¬ A b) (y z : Nat → Nat) (o : Nat) (d : Nat → Int64) (sy : Nat → Int32) (sm : Nat → Int32) (sd : Nat → Int32) (mi : Nat → Int32) (ti : Nat → Int64) (sL : Nat → Int64) (bL : Nat → Int64) (mD : Nat → Int64) (mT : Nat → Int64) (co : Int32) (yr : Int64) (mo : Int32) (dy : Int32) (ou : Nat → Int64) (q1 : Int32) (q2 : Int32) (q3 : Int32) (q4 : Int32) (q5 : Int32) (i4 : Int32) (hv1 : vp_in (i4 + 1) Ln) (hq1 : xs (i4 + 1).toNatClampNeg = q1) (hv2 : vp_in (i4 + 2) Ln) (hq2 : xs (i4 + 2).toNatClampNeg = q2) (hv3 : vp_in (i4 + 3) Ln) (hq3 : xs (i4 + 3).toNatClampNeg = q3) (hv4 : vp_in (i4 + 4) Ln) (hq4 : xs (i4 + 4).toNatClampNeg = q4) (hv5 : vp_in (i4 + 5) Ln) (hq5 : xs (i4 + 5).toNatClampNeg = q5) (nc ns : Nat) (hnc : nc + 6 ≤ room_1.cells) (hns : ns + 36 ≤ room_1.slots) (h_g : pre_Lc47 d sy sm sd mi ti sL bL mD mT) (kk : ZW p l e room_1 s m args below meth c 9 D (zTys cI cJ) A Q (nc + 6) (ns + 36) (wY cI cJ y d sy sm sd mi ti sL bL mD mT ((o, .inl (cJ, 1, .inr (.inl ou))) :: (wM cI cJ z s_X3_checksum_co d ti sL bL mD mT (zw sy) (zw sm) (zw sd) (zw mi) yr mo dy []))) 4233 [(4, .int i4), (3, .ref o), (2, .ref (z 0)), (1, .ref (y 0)), (0, .ref b)] []) : ZW p l e room_1 s m args below meth c 9 D (zTys cI cJ) A Q nc ns (wY cI cJ y d sy sm sd mi ti sL bL mD mT ((o, .inl (cJ, 1, .inr (.inl ou))) :: (wM cI cJ z co d ti sL bL mD mT (zw sy) (zw sm) (zw sd) (zw mi) yr mo dy []))) 4206 [(4, .int i4), (3, .ref o), (2, .ref (z 0)), (1, .ref (y 0)), (0, .ref b)] [] := by
  have g_0 := h_g
  refine z_aload_n C dL_law_4206 rfl 3 rfl ?_
  refine z_wl (ws' := (wY cI cJ y d sy sm sd mi ti sL bL mD mT ((o, .inl (cJ, 1, .inr (.inl ou))) :: (wM cI cJ z co d ti sL bL mD mT (zw sy) (zw sm) (zw sd) (zw mi) yr mo dy [])))) (rest := []) (ci := 2) (q0 := 0) C (c_X2_checksum l hfl D cI cJ ((o, .inl (cJ, 1, .inr (.inl ou))) :: (wM cI cJ z co d ti sL bL mD mT (zw sy) (zw sm) (zw sd) (zw mi) yr mo dy [])) y d sy sm sd mi ti sL bL mD mT  ) q_X2_checksum rfl rfl rfl gL_law_X2_checksum ⟨rfl, rfl⟩ rfl rfl (Nat.le_of_ble_eq_true rfl) ⟨Nat.le_of_ble_eq_true rfl, Nat.le_of_ble_eq_true rfl⟩ ⟨Nat.le_trans (by omega) hnc, Nat.le_trans (by omega) hns⟩ dL_law_4207 ?_
  refine z_aload_n C dL_law_4210 rfl 2 rfl ?_
  refine z_ws (ws' := (wM cI cJ z co d ti sL bL mD mT (zw sy) (zw sm) (zw sd) (zw mi) yr mo dy (wY cI cJ y d sy sm sd mi ti sL bL mD mT [(o, .inl (cJ, 1, .inr (.inl ou)))]))) [12, 13, 14, 15, 16, 17, 18, 19, 20, 21, 22, 0, 1, 2, 3, 4, 5, 6, 7, 8, 9, 10, 11] rfl (by decide) rfl ?_
  refine z_wl (ws' := (wM cI cJ z s_X3_checksum_co d ti sL bL mD mT (zw sy) (zw sm) (zw sd) (zw mi) yr mo dy (wY cI cJ y d sy sm sd mi ti sL bL mD mT [(o, .inl (cJ, 1, .inr (.inl ou)))]))) (rest := [.long (f_X2_checksum d sy sm sd mi ti sL bL mD mT)]) (ci := 3) (q0 := 0) C (c_X3_checksum l hfl D cI cJ (wY cI cJ y d sy sm sd mi ti sL bL mD mT [(o, .inl (cJ, 1, .inr (.inl ou)))]) z co d ti sL bL mD mT (zw sy) (zw sm) (zw sd) (zw mi) yr mo dy  ) q_X3_checksum rfl rfl rfl gL_law_X3_checksum ⟨rfl, rfl⟩ rfl rfl (Nat.le_of_ble_eq_true rfl) ⟨Nat.le_of_ble_eq_true rfl, Nat.le_of_ble_eq_true rfl⟩ ⟨Nat.le_trans (by omega) hnc, Nat.le_trans (by omega) hns⟩ dL_law_4211 ?_
  refine z_ws (ws' := (wY cI cJ y d sy sm sd mi ti sL bL mD mT ((o, .inl (cJ, 1, .inr (.inl ou))) :: (wM cI cJ z s_X3_checksum_co d ti sL bL mD mT (zw sy) (zw sm) (zw sd) (zw mi) yr mo dy [])))) [11, 12, 13, 14, 15, 16, 17, 18, 19, 20, 21, 22, 0, 1, 2, 3, 4, 5, 6, 7, 8, 9, 10] rfl (by decide) rfl ?_
  refine z_lcmp_eq (tgt := 4233) C dL_law_4214 dL_law_4215 (by decide) (fun _ => ?_) (fun h => absurd (g_0) h)
  refine z_sub [0, 1, 2, 3, 4] rfl ?_
  exact z_widen (by omega) (by omega) kk
def pre_Lc48 (d : Nat → Int64) (ti : Nat → Int64) (mD : Nat → Int64) (mT : Nat → Int64) : Prop := ((pre_X2_isSound d ti mD mT)) ∧ ((f_X2_isSound = f_X3_isSound))
set_option maxHeartbeats 4000000 in
set_option maxRecDepth 100000 in
theorem law_c48 {p : Program} {l : Launch} {e : Env} {s : State} {m : MethodId} {args : Array Value} {below : List Frame} {meth : Method} {c : Code} {D : va_G} {cI cJ : ClassId} {A : Nat → Prop} {Q : State → Prop} {ret : Option FieldType} (C : ZC p l s m args meth c 9 D (zTys cI cJ) A cL_law wsL_law RL ret) (hfl : l.stackTraces = false) {b Ln : Nat} {xs : Nat → Int32} (hX : va_X b Ln xs s s.heap) (hbl : b < s.heap.size) (hbA : ¬ A b) (y z : Nat → Nat) (o : Nat) (d : Nat → Int64) (sy : Nat → Int32) (sm : Nat → Int32) (sd : Nat → Int32) (mi : Nat → Int32) (ti : Nat → Int64) (sL : Nat → Int64) (bL : Nat → Int64) (mD : Nat → Int64) (mT : Nat → Int64) (co : Int32) (yr : Int64) (mo : Int32) (dy : Int32) (ou : Nat → Int64) (q1 : Int32) (q2 : Int32) (q3 : Int32) (q4 : Int32) (q5 : Int32) (i4 : Int32) (hv1 : vp_in (i4 + 1) Ln) (hq1 : xs (i4 + 1).toNatClampNeg = q1) (hv2 : vp_in (i4 + 2) Ln) (hq2 : xs (i4 + 2).toNatClampNeg = q2) (hv3 : vp_in (i4 + 3) Ln) (hq3 : xs (i4 + 3).toNatClampNeg = q3) (hv4 : vp_in (i4 + 4) Ln) (hq4 : xs (i4 + 4).toNatClampNeg = q4) (hv5 : vp_in (i4 + 5) Ln) (hq5 : xs (i4 + 5).toNatClampNeg = q5) (nc ns : Nat) (hnc : nc + 6 ≤ room_1.cells) (hns : ns + 36 ≤ room_1.slots) (h_g : pre_Lc48 d ti mD mT) (kk : ZW p l e room_1 s m args below meth c 9 D (zTys cI cJ) A Q (nc + 6) (ns + 36) (wY cI cJ y d sy sm sd mi ti sL bL mD mT ((o, .inl (cJ, 1, .inr (.inl ou))) :: (wM cI cJ z s_X3_isSound_co d ti sL bL mD mT (zw sy) (zw sm) (zw sd) (zw mi) yr mo dy []))) 4233 [(4, .int i4), (3, .ref o), (2, .ref (z 0)), (1, .ref (y 0)), (0, .ref b)] []) : ZW p l e room_1 s m args below meth c 9 D (zTys cI cJ) A Q nc ns (wY cI cJ y d sy sm sd mi ti sL bL mD mT ((o, .inl (cJ, 1, .inr (.inl ou))) :: (wM cI cJ z co d ti sL bL mD mT (zw sy) (zw sm) (zw sd) (zw mi) yr mo dy []))) 4220 [(4, .int i4), (3, .ref o), (2, .ref (z 0)), (1, .ref (y 0)), (0, .ref b)] [] := by
  obtain ⟨g_0, g_1⟩ := h_g
  refine z_aload_n C dL_law_4220 rfl 3 rfl ?_
  refine z_wi (ws' := (wY cI cJ y d sy sm sd mi ti sL bL mD mT ((o, .inl (cJ, 1, .inr (.inl ou))) :: (wM cI cJ z co d ti sL bL mD mT (zw sy) (zw sm) (zw sd) (zw mi) yr mo dy [])))) (rest := []) (ci := 2) (q0 := 0) C (c_X2_isSound l hfl D cI cJ ((o, .inl (cJ, 1, .inr (.inl ou))) :: (wM cI cJ z co d ti sL bL mD mT (zw sy) (zw sm) (zw sd) (zw mi) yr mo dy [])) y d sy sm sd mi ti sL bL mD mT  (g_0)) q_X2_isSound rfl rfl rfl gL_law_X2_isSound ⟨rfl, rfl⟩ rfl rfl (Nat.le_of_ble_eq_true rfl) ⟨Nat.le_of_ble_eq_true rfl, Nat.le_of_ble_eq_true rfl⟩ ⟨Nat.le_trans (by omega) hnc, Nat.le_trans (by omega) hns⟩ dL_law_4221 ?_
  refine z_aload_n C dL_law_4224 rfl 2 rfl ?_
  refine z_ws (ws' := (wM cI cJ z co d ti sL bL mD mT (zw sy) (zw sm) (zw sd) (zw mi) yr mo dy (wY cI cJ y d sy sm sd mi ti sL bL mD mT [(o, .inl (cJ, 1, .inr (.inl ou)))]))) [12, 13, 14, 15, 16, 17, 18, 19, 20, 21, 22, 0, 1, 2, 3, 4, 5, 6, 7, 8, 9, 10, 11] rfl (by decide) rfl ?_
  refine z_wi (ws' := (wM cI cJ z s_X3_isSound_co d ti sL bL mD mT (zw sy) (zw sm) (zw sd) (zw mi) yr mo dy (wY cI cJ y d sy sm sd mi ti sL bL mD mT [(o, .inl (cJ, 1, .inr (.inl ou)))]))) (rest := [.int f_X2_isSound]) (ci := 3) (q0 := 0) C (c_X3_isSound l hfl D cI cJ (wY cI cJ y d sy sm sd mi ti sL bL mD mT [(o, .inl (cJ, 1, .inr (.inl ou)))]) z co d ti sL bL mD mT (zw sy) (zw sm) (zw sd) (zw mi) yr mo dy  ) q_X3_isSound rfl rfl rfl gL_law_X3_isSound ⟨rfl, rfl⟩ rfl rfl (Nat.le_of_ble_eq_true rfl) ⟨Nat.le_of_ble_eq_true rfl, Nat.le_of_ble_eq_true rfl⟩ ⟨Nat.le_trans (by omega) hnc, Nat.le_trans (by omega) hns⟩ dL_law_4225 ?_
  refine z_ws (ws' := (wY cI cJ y d sy sm sd mi ti sL bL mD mT ((o, .inl (cJ, 1, .inr (.inl ou))) :: (wM cI cJ z s_X3_isSound_co d ti sL bL mD mT (zw sy) (zw sm) (zw sd) (zw mi) yr mo dy [])))) [11, 12, 13, 14, 15, 16, 17, 18, 19, 20, 21, 22, 0, 1, 2, 3, 4, 5, 6, 7, 8, 9, 10] rfl (by decide) rfl ?_
  refine z_icmp_eq (tgt := 4233) C dL_law_4228 (by decide) (fun _ => ?_) (fun h => absurd (g_1) h)
  refine z_sub [0, 1, 2, 3, 4] rfl ?_
  exact z_widen (by omega) (by omega) kk
