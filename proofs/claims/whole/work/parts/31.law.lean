abbrev zw (f : Nat → Int32) : Nat → Int64 := fun k => (f k).toInt64
def pre_Lc0 (d : Nat → Int64) (ou : Nat → Int64) (q1 : Int32) (q2 : Int32) (q3 : Int32) (q4 : Int32) : Prop := ((pre_L_date q1 q2 q3 q4)) ∧ ((pre_X3_date q1 q2 q3 q4)) ∧ (((s_X3_date_co q1 q2 q3 q4) = (f_L_date q1 q2 q3 q4))) ∧ (((f_L_date q1 q2 q3 q4) = 0) → (((s_L_date_ou ou q1 q2 q3 q4) 0) = (f_X3_date d q1 q2 q3 q4)))
set_option maxHeartbeats 4000000 in
set_option maxRecDepth 100000 in
theorem law_c0 {p : Program} {l : Launch} {e : Env} {s : State} {m : MethodId} {args : Array Value} {below : List Frame} {meth : Method} {c : Code} {D : va_G} {cI cJ : ClassId} {A : Nat → Prop} {Q : State → Prop} {ret : Option FieldType} (C : ZC p l s m args meth c 9 D (zTys cI cJ) A cL_law wsL_law RL ret) (hfl : l.stackTraces = false) {b Ln : Nat} {xs : Nat → Int32} (hX : va_X b Ln xs s s.heap) (hbl : b < s.heap.size) (hbA : ¬ A b) (y z : Nat → Nat) (o : Nat) (d : Nat → Int64) (sy : Nat → Int32) (sm : Nat → Int32) (sd : Nat → Int32) (mi : Nat → Int32) (ti : Nat → Int64) (sL : Nat → Int64) (bL : Nat → Int64) (mD : Nat → Int64) (mT : Nat → Int64) (co : Int32) (yr : Int64) (mo : Int32) (dy : Int32) (ou : Nat → Int64) (q1 : Int32) (q2 : Int32) (q3 : Int32) (q4 : Int32) (q5 : Int32) (i4 : Int32) (hv1 : vp_in (i4 + 1) Ln) (hq1 : xs (i4 + 1).toNatClampNeg = q1) (hv2 : vp_in (i4 + 2) Ln) (hq2 : xs (i4 + 2).toNatClampNeg = q2) (hv3 : vp_in (i4 + 3) Ln) (hq3 : xs (i4 + 3).toNatClampNeg = q3) (hv4 : vp_in (i4 + 4) Ln) (hq4 : xs (i4 + 4).toNatClampNeg = q4) (hv5 : vp_in (i4 + 5) Ln) (hq5 : xs (i4 + 5).toNatClampNeg = q5) (nc ns : Nat) (hnc : nc + 6 ≤ room_1.cells) (hns : ns + 36 ≤ room_1.slots) (h_g : pre_Lc0 d ou q1 q2 q3 q4) (kk : ZW p l e room_1 s m args below meth c 9 D (zTys cI cJ) A Q (nc + 6) (ns + 36) (wY cI cJ y (s_L_date_d d q1 q2 q3 q4) sy sm sd mi ti sL bL mD mT ((o, .inl (cJ, 1, .inr (.inl (s_L_date_ou ou q1 q2 q3 q4)))) :: (wM cI cJ z (s_X3_date_co q1 q2 q3 q4) (s_X3_date_d d q1 q2 q3 q4) ti sL bL mD mT (zw sy) (zw sm) (zw sd) (zw mi) yr mo dy []))) 4233 [(4, .int i4), (3, .ref o), (2, .ref (z 0)), (1, .ref (y 0)), (0, .ref b)] []) : ZW p l e room_1 s m args below meth c 9 D (zTys cI cJ) A Q nc ns (wY cI cJ y d sy sm sd mi ti sL bL mD mT ((o, .inl (cJ, 1, .inr (.inl ou))) :: (wM cI cJ z co d ti sL bL mD mT (zw sy) (zw sm) (zw sd) (zw mi) yr mo dy []))) 252 [(4, .int i4), (3, .ref o), (2, .ref (z 0)), (1, .ref (y 0)), (0, .ref b)] [] := by
  obtain ⟨g_0, g_1, g_2, g_3⟩ := h_g
  refine z_aload_n C dL_law_252 rfl 3 rfl ?_
  refine z_aload_n C dL_law_253 rfl 4 rfl ?_
  refine z_iload C dL_law_254 0 rfl ?_
  refine z_iconst (v := 1) C dL_law_256 (by decide) ?_
  refine z_iadd C dL_law_257 ?_
  refine z_sld C hX hbl hbA hv1 dL_law_258 ?_
  refine z_eqst (st' := [.int q1, .ref (y 0)]) (congrArg (fun v => Value.int v :: _) hq1) ?_
  refine z_aload_n C dL_law_259 rfl 4 rfl ?_
  refine z_iload C dL_law_260 0 rfl ?_
  refine z_iconst (v := 2) C dL_law_262 (by decide) ?_
  refine z_iadd C dL_law_263 ?_
  refine z_sld C hX hbl hbA hv2 dL_law_264 ?_
  refine z_eqst (st' := [.int q2, .int q1, .ref (y 0)]) (congrArg (fun v => Value.int v :: _) hq2) ?_
  refine z_aload_n C dL_law_265 rfl 4 rfl ?_
  refine z_iload C dL_law_266 0 rfl ?_
  refine z_iconst (v := 3) C dL_law_268 (by decide) ?_
  refine z_iadd C dL_law_269 ?_
  refine z_sld C hX hbl hbA hv3 dL_law_270 ?_
  refine z_eqst (st' := [.int q3, .int q2, .int q1, .ref (y 0)]) (congrArg (fun v => Value.int v :: _) hq3) ?_
  refine z_aload_n C dL_law_271 rfl 4 rfl ?_
  refine z_iload C dL_law_272 0 rfl ?_
  refine z_iconst (v := 4) C dL_law_274 (by decide) ?_
  refine z_iadd C dL_law_275 ?_
  refine z_sld C hX hbl hbA hv4 dL_law_276 ?_
  refine z_eqst (st' := [.int q4, .int q3, .int q2, .int q1, .ref (y 0)]) (congrArg (fun v => Value.int v :: _) hq4) ?_
  refine z_aload_n C dL_law_277 rfl 1 rfl ?_
  refine z_siH (ws' := (wY cI cJ y (s_L_date_d d q1 q2 q3 q4) sy sm sd mi ti sL bL mD mT ((o, .inl (cJ, 1, .inr (.inl (s_L_date_ou ou q1 q2 q3 q4)))) :: (wM cI cJ z co d ti sL bL mD mT (zw sy) (zw sm) (zw sd) (zw mi) yr mo dy [])))) C (rest := []) (c_L_date l hfl D cI cJ (wM cI cJ z co d ti sL bL mD mT (zw sy) (zw sm) (zw sd) (zw mi) yr mo dy []) y o d sy sm sd mi ti sL bL mD mT ou q1 q2 q3 q4 (g_0)) q_L_date gL_law_L_date ⟨rfl, rfl⟩ rfl rfl (Nat.le_of_ble_eq_true rfl) ⟨Nat.le_of_ble_eq_true rfl, Nat.le_of_ble_eq_true rfl⟩ ⟨Nat.le_trans (by omega) hnc, Nat.le_trans (by omega) hns⟩ dL_law_278 ?_
  refine z_istore (lv' := [(5, .int (f_L_date q1 q2 q3 q4)), (4, .int i4), (3, .ref o), (2, .ref (z 0)), (1, .ref (y 0)), (0, .ref b)]) C dL_law_281 (by decide) rfl ?_
  refine z_aload_n C dL_law_283 rfl 3 rfl ?_
  refine z_aload_n C dL_law_284 rfl 5 rfl ?_
  refine z_iload C dL_law_285 1 rfl ?_
  refine z_iconst (v := 1) C dL_law_287 (by decide) ?_
  refine z_iadd C dL_law_288 ?_
  refine z_sld C hX hbl hbA hv1 dL_law_289 ?_
  refine z_eqst (st' := [.int q1, .ref (z 0)]) (congrArg (fun v => Value.int v :: _) hq1) ?_
  refine z_aload_n C dL_law_290 rfl 5 rfl ?_
  refine z_iload C dL_law_291 1 rfl ?_
  refine z_iconst (v := 2) C dL_law_293 (by decide) ?_
  refine z_iadd C dL_law_294 ?_
  refine z_sld C hX hbl hbA hv2 dL_law_295 ?_
  refine z_eqst (st' := [.int q2, .int q1, .ref (z 0)]) (congrArg (fun v => Value.int v :: _) hq2) ?_
  refine z_aload_n C dL_law_296 rfl 5 rfl ?_
  refine z_iload C dL_law_297 1 rfl ?_
  refine z_iconst (v := 3) C dL_law_299 (by decide) ?_
  refine z_iadd C dL_law_300 ?_
  refine z_sld C hX hbl hbA hv3 dL_law_301 ?_
  refine z_eqst (st' := [.int q3, .int q2, .int q1, .ref (z 0)]) (congrArg (fun v => Value.int v :: _) hq3) ?_
  refine z_aload_n C dL_law_302 rfl 5 rfl ?_
  refine z_iload C dL_law_303 1 rfl ?_
  refine z_iconst (v := 4) C dL_law_305 (by decide) ?_
  refine z_iadd C dL_law_306 ?_
  refine z_sld C hX hbl hbA hv4 dL_law_307 ?_
  refine z_eqst (st' := [.int q4, .int q3, .int q2, .int q1, .ref (z 0)]) (congrArg (fun v => Value.int v :: _) hq4) ?_
  refine z_ws (ws' := (wM cI cJ z co d ti sL bL mD mT (zw sy) (zw sm) (zw sd) (zw mi) yr mo dy (wY cI cJ y (s_L_date_d d q1 q2 q3 q4) sy sm sd mi ti sL bL mD mT [(o, .inl (cJ, 1, .inr (.inl (s_L_date_ou ou q1 q2 q3 q4))))]))) [12, 13, 14, 15, 16, 17, 18, 19, 20, 21, 22, 0, 1, 2, 3, 4, 5, 6, 7, 8, 9, 10, 11] rfl (by decide) rfl ?_
  refine z_wl (ws' := (wM cI cJ z (s_X3_date_co q1 q2 q3 q4) (s_X3_date_d d q1 q2 q3 q4) ti sL bL mD mT (zw sy) (zw sm) (zw sd) (zw mi) yr mo dy (wY cI cJ y (s_L_date_d d q1 q2 q3 q4) sy sm sd mi ti sL bL mD mT [(o, .inl (cJ, 1, .inr (.inl (s_L_date_ou ou q1 q2 q3 q4))))]))) (rest := []) (ci := 3) (q0 := 0) C (c_X3_date l hfl D cI cJ (wY cI cJ y (s_L_date_d d q1 q2 q3 q4) sy sm sd mi ti sL bL mD mT [(o, .inl (cJ, 1, .inr (.inl (s_L_date_ou ou q1 q2 q3 q4))))]) z co d ti sL bL mD mT (zw sy) (zw sm) (zw sd) (zw mi) yr mo dy q1 q2 q3 q4 (g_1)) q_X3_date rfl rfl rfl gL_law_X3_date ⟨rfl, rfl⟩ rfl rfl (Nat.le_of_ble_eq_true rfl) ⟨Nat.le_of_ble_eq_true rfl, Nat.le_of_ble_eq_true rfl⟩ ⟨Nat.le_trans (by omega) hnc, Nat.le_trans (by omega) hns⟩ dL_law_308 ?_
  refine z_ws (ws' := (wY cI cJ y (s_L_date_d d q1 q2 q3 q4) sy sm sd mi ti sL bL mD mT ((o, .inl (cJ, 1, .inr (.inl (s_L_date_ou ou q1 q2 q3 q4)))) :: (wM cI cJ z (s_X3_date_co q1 q2 q3 q4) (s_X3_date_d d q1 q2 q3 q4) ti sL bL mD mT (zw sy) (zw sm) (zw sd) (zw mi) yr mo dy [])))) [11, 12, 13, 14, 15, 16, 17, 18, 19, 20, 21, 22, 0, 1, 2, 3, 4, 5, 6, 7, 8, 9, 10] rfl (by decide) rfl ?_
  refine z_lstore (lv' := [(6, .long (f_X3_date d q1 q2 q3 q4)), (5, .int (f_L_date q1 q2 q3 q4)), (4, .int i4), (3, .ref o), (2, .ref (z 0)), (1, .ref (y 0)), (0, .ref b)]) C dL_law_311 (by decide) rfl ?_
  refine z_aload_n C dL_law_313 rfl 4 rfl ?_
  refine z_ws (ws' := (wM cI cJ z (s_X3_date_co q1 q2 q3 q4) (s_X3_date_d d q1 q2 q3 q4) ti sL bL mD mT (zw sy) (zw sm) (zw sd) (zw mi) yr mo dy (wY cI cJ y (s_L_date_d d q1 q2 q3 q4) sy sm sd mi ti sL bL mD mT [(o, .inl (cJ, 1, .inr (.inl (s_L_date_ou ou q1 q2 q3 q4))))]))) [12, 13, 14, 15, 16, 17, 18, 19, 20, 21, 22, 0, 1, 2, 3, 4, 5, 6, 7, 8, 9, 10, 11] rfl (by decide) rfl ?_
  refine z_wi (ws' := (wM cI cJ z (s_X3_date_co q1 q2 q3 q4) (s_X3_date_d d q1 q2 q3 q4) ti sL bL mD mT (zw sy) (zw sm) (zw sd) (zw mi) yr mo dy (wY cI cJ y (s_L_date_d d q1 q2 q3 q4) sy sm sd mi ti sL bL mD mT [(o, .inl (cJ, 1, .inr (.inl (s_L_date_ou ou q1 q2 q3 q4))))]))) (rest := []) (ci := 3) (q0 := 0) C (c_X3_thrown l hfl D cI cJ (wY cI cJ y (s_L_date_d d q1 q2 q3 q4) sy sm sd mi ti sL bL mD mT [(o, .inl (cJ, 1, .inr (.inl (s_L_date_ou ou q1 q2 q3 q4))))]) z (s_X3_date_co q1 q2 q3 q4) (s_X3_date_d d q1 q2 q3 q4) ti sL bL mD mT (zw sy) (zw sm) (zw sd) (zw mi) yr mo dy  ) q_X3_thrown rfl rfl rfl gL_law_X3_thrown ⟨rfl, rfl⟩ rfl rfl (Nat.le_of_ble_eq_true rfl) ⟨Nat.le_of_ble_eq_true rfl, Nat.le_of_ble_eq_true rfl⟩ ⟨Nat.le_trans (by omega) hnc, Nat.le_trans (by omega) hns⟩ dL_law_314 ?_
  refine z_ws (ws' := (wY cI cJ y (s_L_date_d d q1 q2 q3 q4) sy sm sd mi ti sL bL mD mT ((o, .inl (cJ, 1, .inr (.inl (s_L_date_ou ou q1 q2 q3 q4)))) :: (wM cI cJ z (s_X3_date_co q1 q2 q3 q4) (s_X3_date_d d q1 q2 q3 q4) ti sL bL mD mT (zw sy) (zw sm) (zw sd) (zw mi) yr mo dy [])))) [11, 12, 13, 14, 15, 16, 17, 18, 19, 20, 21, 22, 0, 1, 2, 3, 4, 5, 6, 7, 8, 9, 10] rfl (by decide) rfl ?_
  refine z_iload C dL_law_317 1 rfl ?_
  refine z_icmp_eq (tgt := 324) C dL_law_319 (by decide) (fun _ => ?_) (fun h => absurd (g_2) h)
  refine z_iload C dL_law_324 1 rfl ?_
  refine z_if_ne (tgt := 340) C dL_law_326 (by decide) (fun h1 => ?_) (fun h1 => ?_)
  · refine z_goto (tgt := 4233) C dL_law_340 (by decide) ?_
    refine z_sub [2, 3, 4, 5, 6] rfl ?_
    exact z_widen (by omega) (by omega) kk
  · refine z_aload_n C dL_law_329 rfl 3 rfl ?_
    refine z_iconst (v := 0) C dL_law_330 (by decide) ?_
    refine z_lald C 11 1 rfl rfl (zvpl 0 1 (by decide)) dL_law_331 ?_
    refine z_eqst (st' := [.long ((s_L_date_ou ou q1 q2 q3 q4) 0)]) rfl ?_
    refine z_lload C dL_law_332 0 rfl ?_
    refine z_lcmp_eq (tgt := 340) C dL_law_334 dL_law_335 (by decide) (fun _ => ?_) (fun h => absurd (g_3 h1) h)
    refine z_goto (tgt := 4233) C dL_law_340 (by decide) ?_
    refine z_sub [2, 3, 4, 5, 6] rfl ?_
    exact z_widen (by omega) (by omega) kk
def pre_Lc1 (ou : Nat → Int64) (q1 : Int32) (q2 : Int32) (q3 : Int32) : Prop := ((pre_L_ofDay q1 (((q2).toInt64 <<< ((32 : Int32).toInt64 &&& 63)) ||| ((q3).toInt64 &&& 4294967295)))) ∧ ((pre_X3_ofDay q1 (((q2).toInt64 <<< ((32 : Int32).toInt64 &&& 63)) ||| ((q3).toInt64 &&& 4294967295)))) ∧ (((s_X3_ofDay_co q1 (((q2).toInt64 <<< ((32 : Int32).toInt64 &&& 63)) ||| ((q3).toInt64 &&& 4294967295))) = (f_L_ofDay q1 (((q2).toInt64 <<< ((32 : Int32).toInt64 &&& 63)) ||| ((q3).toInt64 &&& 4294967295))))) ∧ (((f_L_ofDay q1 (((q2).toInt64 <<< ((32 : Int32).toInt64 &&& 63)) ||| ((q3).toInt64 &&& 4294967295))) = 0) → (((s_L_ofDay_ou ou q1 (((q2).toInt64 <<< ((32 : Int32).toInt64 &&& 63)) ||| ((q3).toInt64 &&& 4294967295))) 0) = ((f_X3_ofDay q1 (((q2).toInt64 <<< ((32 : Int32).toInt64 &&& 63)) ||| ((q3).toInt64 &&& 4294967295)))).toInt64))
set_option maxHeartbeats 4000000 in
set_option maxRecDepth 100000 in
theorem law_c1 {p : Program} {l : Launch} {e : Env} {s : State} {m : MethodId} {args : Array Value} {below : List Frame} {meth : Method} {c : Code} {D : va_G} {cI cJ : ClassId} {A : Nat → Prop} {Q : State → Prop} {ret : Option FieldType} (C : ZC p l s m args meth c 9 D (zTys cI cJ) A cL_law wsL_law RL ret) (hfl : l.stackTraces = false) {b Ln : Nat} {xs : Nat → Int32} (hX : va_X b Ln xs s s.heap) (hbl : b < s.heap.size) (hbA : ¬ A b) (y z : Nat → Nat) (o : Nat) (d : Nat → Int64) (sy : Nat → Int32) (sm : Nat → Int32) (sd : Nat → Int32) (mi : Nat → Int32) (ti : Nat → Int64) (sL : Nat → Int64) (bL : Nat → Int64) (mD : Nat → Int64) (mT : Nat → Int64) (co : Int32) (yr : Int64) (mo : Int32) (dy : Int32) (ou : Nat → Int64) (q1 : Int32) (q2 : Int32) (q3 : Int32) (q4 : Int32) (q5 : Int32) (i4 : Int32) (hv1 : vp_in (i4 + 1) Ln) (hq1 : xs (i4 + 1).toNatClampNeg = q1) (hv2 : vp_in (i4 + 2) Ln) (hq2 : xs (i4 + 2).toNatClampNeg = q2) (hv3 : vp_in (i4 + 3) Ln) (hq3 : xs (i4 + 3).toNatClampNeg = q3) (hv4 : vp_in (i4 + 4) Ln) (hq4 : xs (i4 + 4).toNatClampNeg = q4) (hv5 : vp_in (i4 + 5) Ln) (hq5 : xs (i4 + 5).toNatClampNeg = q5) (nc ns : Nat) (hnc : nc + 6 ≤ room_1.cells) (hns : ns + 36 ≤ room_1.slots) (h_g : pre_Lc1 ou q1 q2 q3) (kk : ZW p l e room_1 s m args below meth c 9 D (zTys cI cJ) A Q (nc + 6) (ns + 36) (wY cI cJ y (s_L_ofDay_d d q1 (((q2).toInt64 <<< ((32 : Int32).toInt64 &&& 63)) ||| ((q3).toInt64 &&& 4294967295))) sy sm sd mi ti sL bL mD mT ((o, .inl (cJ, 1, .inr (.inl (s_L_ofDay_ou ou q1 (((q2).toInt64 <<< ((32 : Int32).toInt64 &&& 63)) ||| ((q3).toInt64 &&& 4294967295)))))) :: (wM cI cJ z (s_X3_ofDay_co q1 (((q2).toInt64 <<< ((32 : Int32).toInt64 &&& 63)) ||| ((q3).toInt64 &&& 4294967295))) (s_X3_ofDay_d d q1 (((q2).toInt64 <<< ((32 : Int32).toInt64 &&& 63)) ||| ((q3).toInt64 &&& 4294967295))) ti sL bL mD mT (zw sy) (zw sm) (zw sd) (zw mi) (s_X3_ofDay_yr yr q1 (((q2).toInt64 <<< ((32 : Int32).toInt64 &&& 63)) ||| ((q3).toInt64 &&& 4294967295))) (s_X3_ofDay_mo mo q1 (((q2).toInt64 <<< ((32 : Int32).toInt64 &&& 63)) ||| ((q3).toInt64 &&& 4294967295))) (s_X3_ofDay_dy dy q1 (((q2).toInt64 <<< ((32 : Int32).toInt64 &&& 63)) ||| ((q3).toInt64 &&& 4294967295))) []))) 4233 [(4, .int i4), (3, .ref o), (2, .ref (z 0)), (1, .ref (y 0)), (0, .ref b)] []) : ZW p l e room_1 s m args below meth c 9 D (zTys cI cJ) A Q nc ns (wY cI cJ y d sy sm sd mi ti sL bL mD mT ((o, .inl (cJ, 1, .inr (.inl ou))) :: (wM cI cJ z co d ti sL bL mD mT (zw sy) (zw sm) (zw sd) (zw mi) yr mo dy []))) 343 [(4, .int i4), (3, .ref o), (2, .ref (z 0)), (1, .ref (y 0)), (0, .ref b)] [] := by
  have w1 := C.1.2.2.2.2 (.constantLong RL 181 (4294967295)) (by decide +kernel)
  obtain ⟨g_0, g_1, g_2, g_3⟩ := h_g
  refine z_aload_n C dL_law_343 rfl 3 rfl ?_
  refine z_aload_n C dL_law_344 rfl 4 rfl ?_
  refine z_iload C dL_law_345 0 rfl ?_
  refine z_iconst (v := 1) C dL_law_347 (by decide) ?_
  refine z_iadd C dL_law_348 ?_
  refine z_sld C hX hbl hbA hv1 dL_law_349 ?_
  refine z_eqst (st' := [.int q1, .ref (y 0)]) (congrArg (fun v => Value.int v :: _) hq1) ?_
  refine z_aload_n C dL_law_350 rfl 4 rfl ?_
  refine z_iload C dL_law_351 0 rfl ?_
  refine z_iconst (v := 2) C dL_law_353 (by decide) ?_
  refine z_iadd C dL_law_354 ?_
  refine z_sld C hX hbl hbA hv2 dL_law_355 ?_
  refine z_eqst (st' := [.int q2, .int q1, .ref (y 0)]) (congrArg (fun v => Value.int v :: _) hq2) ?_
  refine z_i2l (v := (q2).toInt64) C dL_law_356 rfl ?_
  refine z_bipush (v := 32) C dL_law_357 (by decide) ?_
  refine z_lshl (v := ((q2).toInt64 <<< ((32 : Int32).toInt64 &&& 63))) C dL_law_359 rfl ?_
  refine z_aload_n C dL_law_360 rfl 4 rfl ?_
  refine z_iload C dL_law_361 0 rfl ?_
  refine z_iconst (v := 3) C dL_law_363 (by decide) ?_
  refine z_iadd C dL_law_364 ?_
  refine z_sld C hX hbl hbA hv3 dL_law_365 ?_
  refine z_eqst (st' := [.int q3, .long ((q2).toInt64 <<< ((32 : Int32).toInt64 &&& 63)), .int q1, .ref (y 0)]) (congrArg (fun v => Value.int v :: _) hq3) ?_
  refine z_i2l (v := (q3).toInt64) C dL_law_366 rfl ?_
  refine z_ldc2 (v := 4294967295) C w1 dL_law_367 ?_
  refine z_land C dL_law_370 ?_
  refine z_lor C dL_law_371 ?_
  refine z_aload_n C dL_law_372 rfl 1 rfl ?_
  refine z_siH (ws' := (wY cI cJ y (s_L_ofDay_d d q1 (((q2).toInt64 <<< ((32 : Int32).toInt64 &&& 63)) ||| ((q3).toInt64 &&& 4294967295))) sy sm sd mi ti sL bL mD mT ((o, .inl (cJ, 1, .inr (.inl (s_L_ofDay_ou ou q1 (((q2).toInt64 <<< ((32 : Int32).toInt64 &&& 63)) ||| ((q3).toInt64 &&& 4294967295)))))) :: (wM cI cJ z co d ti sL bL mD mT (zw sy) (zw sm) (zw sd) (zw mi) yr mo dy [])))) C (rest := []) (c_L_ofDay l hfl D cI cJ (wM cI cJ z co d ti sL bL mD mT (zw sy) (zw sm) (zw sd) (zw mi) yr mo dy []) y o d sy sm sd mi ti sL bL mD mT ou q1 (((q2).toInt64 <<< ((32 : Int32).toInt64 &&& 63)) ||| ((q3).toInt64 &&& 4294967295)) (g_0)) q_L_ofDay gL_law_L_ofDay ⟨rfl, rfl⟩ rfl rfl (Nat.le_of_ble_eq_true rfl) ⟨Nat.le_of_ble_eq_true rfl, Nat.le_of_ble_eq_true rfl⟩ ⟨Nat.le_trans (by omega) hnc, Nat.le_trans (by omega) hns⟩ dL_law_373 ?_
  refine z_istore (lv' := [(5, .int (f_L_ofDay q1 (((q2).toInt64 <<< ((32 : Int32).toInt64 &&& 63)) ||| ((q3).toInt64 &&& 4294967295)))), (4, .int i4), (3, .ref o), (2, .ref (z 0)), (1, .ref (y 0)), (0, .ref b)]) C dL_law_376 (by decide) rfl ?_
  refine z_aload_n C dL_law_378 rfl 3 rfl ?_
  refine z_aload_n C dL_law_379 rfl 5 rfl ?_
  refine z_iload C dL_law_380 1 rfl ?_
  refine z_iconst (v := 1) C dL_law_382 (by decide) ?_
  refine z_iadd C dL_law_383 ?_
  refine z_sld C hX hbl hbA hv1 dL_law_384 ?_
  refine z_eqst (st' := [.int q1, .ref (z 0)]) (congrArg (fun v => Value.int v :: _) hq1) ?_
  refine z_aload_n C dL_law_385 rfl 5 rfl ?_
  refine z_iload C dL_law_386 1 rfl ?_
  refine z_iconst (v := 2) C dL_law_388 (by decide) ?_
  refine z_iadd C dL_law_389 ?_
  refine z_sld C hX hbl hbA hv2 dL_law_390 ?_
  refine z_eqst (st' := [.int q2, .int q1, .ref (z 0)]) (congrArg (fun v => Value.int v :: _) hq2) ?_
  refine z_i2l (v := (q2).toInt64) C dL_law_391 rfl ?_
  refine z_bipush (v := 32) C dL_law_392 (by decide) ?_
  refine z_lshl (v := ((q2).toInt64 <<< ((32 : Int32).toInt64 &&& 63))) C dL_law_394 rfl ?_
  refine z_aload_n C dL_law_395 rfl 5 rfl ?_
  refine z_iload C dL_law_396 1 rfl ?_
  refine z_iconst (v := 3) C dL_law_398 (by decide) ?_
  refine z_iadd C dL_law_399 ?_
  refine z_sld C hX hbl hbA hv3 dL_law_400 ?_
  refine z_eqst (st' := [.int q3, .long ((q2).toInt64 <<< ((32 : Int32).toInt64 &&& 63)), .int q1, .ref (z 0)]) (congrArg (fun v => Value.int v :: _) hq3) ?_
  refine z_i2l (v := (q3).toInt64) C dL_law_401 rfl ?_
  refine z_ldc2 (v := 4294967295) C w1 dL_law_402 ?_
  refine z_land C dL_law_405 ?_
  refine z_lor C dL_law_406 ?_
  refine z_ws (ws' := (wM cI cJ z co d ti sL bL mD mT (zw sy) (zw sm) (zw sd) (zw mi) yr mo dy (wY cI cJ y (s_L_ofDay_d d q1 (((q2).toInt64 <<< ((32 : Int32).toInt64 &&& 63)) ||| ((q3).toInt64 &&& 4294967295))) sy sm sd mi ti sL bL mD mT [(o, .inl (cJ, 1, .inr (.inl (s_L_ofDay_ou ou q1 (((q2).toInt64 <<< ((32 : Int32).toInt64 &&& 63)) ||| ((q3).toInt64 &&& 4294967295))))))]))) [12, 13, 14, 15, 16, 17, 18, 19, 20, 21, 22, 0, 1, 2, 3, 4, 5, 6, 7, 8, 9, 10, 11] rfl (by decide) rfl ?_
  refine z_wi (ws' := (wM cI cJ z (s_X3_ofDay_co q1 (((q2).toInt64 <<< ((32 : Int32).toInt64 &&& 63)) ||| ((q3).toInt64 &&& 4294967295))) (s_X3_ofDay_d d q1 (((q2).toInt64 <<< ((32 : Int32).toInt64 &&& 63)) ||| ((q3).toInt64 &&& 4294967295))) ti sL bL mD mT (zw sy) (zw sm) (zw sd) (zw mi) (s_X3_ofDay_yr yr q1 (((q2).toInt64 <<< ((32 : Int32).toInt64 &&& 63)) ||| ((q3).toInt64 &&& 4294967295))) (s_X3_ofDay_mo mo q1 (((q2).toInt64 <<< ((32 : Int32).toInt64 &&& 63)) ||| ((q3).toInt64 &&& 4294967295))) (s_X3_ofDay_dy dy q1 (((q2).toInt64 <<< ((32 : Int32).toInt64 &&& 63)) ||| ((q3).toInt64 &&& 4294967295))) (wY cI cJ y (s_L_ofDay_d d q1 (((q2).toInt64 <<< ((32 : Int32).toInt64 &&& 63)) ||| ((q3).toInt64 &&& 4294967295))) sy sm sd mi ti sL bL mD mT [(o, .inl (cJ, 1, .inr (.inl (s_L_ofDay_ou ou q1 (((q2).toInt64 <<< ((32 : Int32).toInt64 &&& 63)) ||| ((q3).toInt64 &&& 4294967295))))))]))) (rest := []) (ci := 3) (q0 := 0) C (c_X3_ofDay l hfl D cI cJ (wY cI cJ y (s_L_ofDay_d d q1 (((q2).toInt64 <<< ((32 : Int32).toInt64 &&& 63)) ||| ((q3).toInt64 &&& 4294967295))) sy sm sd mi ti sL bL mD mT [(o, .inl (cJ, 1, .inr (.inl (s_L_ofDay_ou ou q1 (((q2).toInt64 <<< ((32 : Int32).toInt64 &&& 63)) ||| ((q3).toInt64 &&& 4294967295))))))]) z co d ti sL bL mD mT (zw sy) (zw sm) (zw sd) (zw mi) yr mo dy q1 (((q2).toInt64 <<< ((32 : Int32).toInt64 &&& 63)) ||| ((q3).toInt64 &&& 4294967295)) (g_1)) q_X3_ofDay rfl rfl rfl gL_law_X3_ofDay ⟨rfl, rfl⟩ rfl rfl (Nat.le_of_ble_eq_true rfl) ⟨Nat.le_of_ble_eq_true rfl, Nat.le_of_ble_eq_true rfl⟩ ⟨Nat.le_trans (by omega) hnc, Nat.le_trans (by omega) hns⟩ dL_law_407 ?_
  refine z_ws (ws' := (wY cI cJ y (s_L_ofDay_d d q1 (((q2).toInt64 <<< ((32 : Int32).toInt64 &&& 63)) ||| ((q3).toInt64 &&& 4294967295))) sy sm sd mi ti sL bL mD mT ((o, .inl (cJ, 1, .inr (.inl (s_L_ofDay_ou ou q1 (((q2).toInt64 <<< ((32 : Int32).toInt64 &&& 63)) ||| ((q3).toInt64 &&& 4294967295)))))) :: (wM cI cJ z (s_X3_ofDay_co q1 (((q2).toInt64 <<< ((32 : Int32).toInt64 &&& 63)) ||| ((q3).toInt64 &&& 4294967295))) (s_X3_ofDay_d d q1 (((q2).toInt64 <<< ((32 : Int32).toInt64 &&& 63)) ||| ((q3).toInt64 &&& 4294967295))) ti sL bL mD mT (zw sy) (zw sm) (zw sd) (zw mi) (s_X3_ofDay_yr yr q1 (((q2).toInt64 <<< ((32 : Int32).toInt64 &&& 63)) ||| ((q3).toInt64 &&& 4294967295))) (s_X3_ofDay_mo mo q1 (((q2).toInt64 <<< ((32 : Int32).toInt64 &&& 63)) ||| ((q3).toInt64 &&& 4294967295))) (s_X3_ofDay_dy dy q1 (((q2).toInt64 <<< ((32 : Int32).toInt64 &&& 63)) ||| ((q3).toInt64 &&& 4294967295))) [])))) [11, 12, 13, 14, 15, 16, 17, 18, 19, 20, 21, 22, 0, 1, 2, 3, 4, 5, 6, 7, 8, 9, 10] rfl (by decide) rfl ?_
  refine z_istore (lv' := [(6, .int (f_X3_ofDay q1 (((q2).toInt64 <<< ((32 : Int32).toInt64 &&& 63)) ||| ((q3).toInt64 &&& 4294967295)))), (5, .int (f_L_ofDay q1 (((q2).toInt64 <<< ((32 : Int32).toInt64 &&& 63)) ||| ((q3).toInt64 &&& 4294967295)))), (4, .int i4), (3, .ref o), (2, .ref (z 0)), (1, .ref (y 0)), (0, .ref b)]) C dL_law_410 (by decide) rfl ?_
  refine z_aload_n C dL_law_412 rfl 4 rfl ?_
  refine z_ws (ws' := (wM cI cJ z (s_X3_ofDay_co q1 (((q2).toInt64 <<< ((32 : Int32).toInt64 &&& 63)) ||| ((q3).toInt64 &&& 4294967295))) (s_X3_ofDay_d d q1 (((q2).toInt64 <<< ((32 : Int32).toInt64 &&& 63)) ||| ((q3).toInt64 &&& 4294967295))) ti sL bL mD mT (zw sy) (zw sm) (zw sd) (zw mi) (s_X3_ofDay_yr yr q1 (((q2).toInt64 <<< ((32 : Int32).toInt64 &&& 63)) ||| ((q3).toInt64 &&& 4294967295))) (s_X3_ofDay_mo mo q1 (((q2).toInt64 <<< ((32 : Int32).toInt64 &&& 63)) ||| ((q3).toInt64 &&& 4294967295))) (s_X3_ofDay_dy dy q1 (((q2).toInt64 <<< ((32 : Int32).toInt64 &&& 63)) ||| ((q3).toInt64 &&& 4294967295))) (wY cI cJ y (s_L_ofDay_d d q1 (((q2).toInt64 <<< ((32 : Int32).toInt64 &&& 63)) ||| ((q3).toInt64 &&& 4294967295))) sy sm sd mi ti sL bL mD mT [(o, .inl (cJ, 1, .inr (.inl (s_L_ofDay_ou ou q1 (((q2).toInt64 <<< ((32 : Int32).toInt64 &&& 63)) ||| ((q3).toInt64 &&& 4294967295))))))]))) [12, 13, 14, 15, 16, 17, 18, 19, 20, 21, 22, 0, 1, 2, 3, 4, 5, 6, 7, 8, 9, 10, 11] rfl (by decide) rfl ?_
  refine z_wi (ws' := (wM cI cJ z (s_X3_ofDay_co q1 (((q2).toInt64 <<< ((32 : Int32).toInt64 &&& 63)) ||| ((q3).toInt64 &&& 4294967295))) (s_X3_ofDay_d d q1 (((q2).toInt64 <<< ((32 : Int32).toInt64 &&& 63)) ||| ((q3).toInt64 &&& 4294967295))) ti sL bL mD mT (zw sy) (zw sm) (zw sd) (zw mi) (s_X3_ofDay_yr yr q1 (((q2).toInt64 <<< ((32 : Int32).toInt64 &&& 63)) ||| ((q3).toInt64 &&& 4294967295))) (s_X3_ofDay_mo mo q1 (((q2).toInt64 <<< ((32 : Int32).toInt64 &&& 63)) ||| ((q3).toInt64 &&& 4294967295))) (s_X3_ofDay_dy dy q1 (((q2).toInt64 <<< ((32 : Int32).toInt64 &&& 63)) ||| ((q3).toInt64 &&& 4294967295))) (wY cI cJ y (s_L_ofDay_d d q1 (((q2).toInt64 <<< ((32 : Int32).toInt64 &&& 63)) ||| ((q3).toInt64 &&& 4294967295))) sy sm sd mi ti sL bL mD mT [(o, .inl (cJ, 1, .inr (.inl (s_L_ofDay_ou ou q1 (((q2).toInt64 <<< ((32 : Int32).toInt64 &&& 63)) ||| ((q3).toInt64 &&& 4294967295))))))]))) (rest := []) (ci := 3) (q0 := 0) C (c_X3_thrown l hfl D cI cJ (wY cI cJ y (s_L_ofDay_d d q1 (((q2).toInt64 <<< ((32 : Int32).toInt64 &&& 63)) ||| ((q3).toInt64 &&& 4294967295))) sy sm sd mi ti sL bL mD mT [(o, .inl (cJ, 1, .inr (.inl (s_L_ofDay_ou ou q1 (((q2).toInt64 <<< ((32 : Int32).toInt64 &&& 63)) ||| ((q3).toInt64 &&& 4294967295))))))]) z (s_X3_ofDay_co q1 (((q2).toInt64 <<< ((32 : Int32).toInt64 &&& 63)) ||| ((q3).toInt64 &&& 4294967295))) (s_X3_ofDay_d d q1 (((q2).toInt64 <<< ((32 : Int32).toInt64 &&& 63)) ||| ((q3).toInt64 &&& 4294967295))) ti sL bL mD mT (zw sy) (zw sm) (zw sd) (zw mi) (s_X3_ofDay_yr yr q1 (((q2).toInt64 <<< ((32 : Int32).toInt64 &&& 63)) ||| ((q3).toInt64 &&& 4294967295))) (s_X3_ofDay_mo mo q1 (((q2).toInt64 <<< ((32 : Int32).toInt64 &&& 63)) ||| ((q3).toInt64 &&& 4294967295))) (s_X3_ofDay_dy dy q1 (((q2).toInt64 <<< ((32 : Int32).toInt64 &&& 63)) ||| ((q3).toInt64 &&& 4294967295)))  ) q_X3_thrown rfl rfl rfl gL_law_X3_thrown ⟨rfl, rfl⟩ rfl rfl (Nat.le_of_ble_eq_true rfl) ⟨Nat.le_of_ble_eq_true rfl, Nat.le_of_ble_eq_true rfl⟩ ⟨Nat.le_trans (by omega) hnc, Nat.le_trans (by omega) hns⟩ dL_law_413 ?_
  refine z_ws (ws' := (wY cI cJ y (s_L_ofDay_d d q1 (((q2).toInt64 <<< ((32 : Int32).toInt64 &&& 63)) ||| ((q3).toInt64 &&& 4294967295))) sy sm sd mi ti sL bL mD mT ((o, .inl (cJ, 1, .inr (.inl (s_L_ofDay_ou ou q1 (((q2).toInt64 <<< ((32 : Int32).toInt64 &&& 63)) ||| ((q3).toInt64 &&& 4294967295)))))) :: (wM cI cJ z (s_X3_ofDay_co q1 (((q2).toInt64 <<< ((32 : Int32).toInt64 &&& 63)) ||| ((q3).toInt64 &&& 4294967295))) (s_X3_ofDay_d d q1 (((q2).toInt64 <<< ((32 : Int32).toInt64 &&& 63)) ||| ((q3).toInt64 &&& 4294967295))) ti sL bL mD mT (zw sy) (zw sm) (zw sd) (zw mi) (s_X3_ofDay_yr yr q1 (((q2).toInt64 <<< ((32 : Int32).toInt64 &&& 63)) ||| ((q3).toInt64 &&& 4294967295))) (s_X3_ofDay_mo mo q1 (((q2).toInt64 <<< ((32 : Int32).toInt64 &&& 63)) ||| ((q3).toInt64 &&& 4294967295))) (s_X3_ofDay_dy dy q1 (((q2).toInt64 <<< ((32 : Int32).toInt64 &&& 63)) ||| ((q3).toInt64 &&& 4294967295))) [])))) [11, 12, 13, 14, 15, 16, 17, 18, 19, 20, 21, 22, 0, 1, 2, 3, 4, 5, 6, 7, 8, 9, 10] rfl (by decide) rfl ?_
  refine z_iload C dL_law_416 1 rfl ?_
  refine z_icmp_eq (tgt := 423) C dL_law_418 (by decide) (fun _ => ?_) (fun h => absurd (g_2) h)
  refine z_iload C dL_law_423 1 rfl ?_
  refine z_if_ne (tgt := 440) C dL_law_425 (by decide) (fun h1 => ?_) (fun h1 => ?_)
  · refine z_goto (tgt := 4233) C dL_law_440 (by decide) ?_
    refine z_sub [2, 3, 4, 5, 6] rfl ?_
    exact z_widen (by omega) (by omega) kk
  · refine z_aload_n C dL_law_428 rfl 3 rfl ?_
    refine z_iconst (v := 0) C dL_law_429 (by decide) ?_
    refine z_lald C 11 1 rfl rfl (zvpl 0 1 (by decide)) dL_law_430 ?_
    refine z_eqst (st' := [.long ((s_L_ofDay_ou ou q1 (((q2).toInt64 <<< ((32 : Int32).toInt64 &&& 63)) ||| ((q3).toInt64 &&& 4294967295))) 0)]) rfl ?_
    refine z_iload C dL_law_431 0 rfl ?_
    refine z_i2l (v := ((f_X3_ofDay q1 (((q2).toInt64 <<< ((32 : Int32).toInt64 &&& 63)) ||| ((q3).toInt64 &&& 4294967295)))).toInt64) C dL_law_433 rfl ?_
    refine z_lcmp_eq (tgt := 440) C dL_law_434 dL_law_435 (by decide) (fun _ => ?_) (fun h => absurd (g_3 h1) h)
    refine z_goto (tgt := 4233) C dL_law_440 (by decide) ?_
    refine z_sub [2, 3, 4, 5, 6] rfl ?_
    exact z_widen (by omega) (by omega) kk
def pre_Lc2 (d : Nat → Int64) (ou : Nat → Int64) (q1 : Int32) : Prop := ((pre_L_day q1)) ∧ (((s_X3_day_co q1) = (f_L_day q1))) ∧ (((f_L_day q1) = 0) → (((s_L_day_ou d ou q1) 0) = (f_X3_day d q1)))
set_option maxHeartbeats 4000000 in
set_option maxRecDepth 100000 in
theorem law_c2 {p : Program} {l : Launch} {e : Env} {s : State} {m : MethodId} {args : Array Value} {below : List Frame} {meth : Method} {c : Code} {D : va_G} {cI cJ : ClassId} {A : Nat → Prop} {Q : State → Prop} {ret : Option FieldType} (C : ZC p l s m args meth c 9 D (zTys cI cJ) A cL_law wsL_law RL ret) (hfl : l.stackTraces = false) {b Ln : Nat} {xs : Nat → Int32} (hX : va_X b Ln xs s s.heap) (hbl : b < s.heap.size) (hbA : ¬ A b) (y z : Nat → Nat) (o : Nat) (d : Nat → Int64) (sy : Nat → Int32) (sm : Nat → Int32) (sd : Nat → Int32) (mi : Nat → Int32) (ti : Nat → Int64) (sL : Nat → Int64) (bL : Nat → Int64) (mD : Nat → Int64) (mT : Nat → Int64) (co : Int32) (yr : Int64) (mo : Int32) (dy : Int32) (ou : Nat → Int64) (q1 : Int32) (q2 : Int32) (q3 : Int32) (q4 : Int32) (q5 : Int32) (i4 : Int32) (hv1 : vp_in (i4 + 1) Ln) (hq1 : xs (i4 + 1).toNatClampNeg = q1) (hv2 : vp_in (i4 + 2) Ln) (hq2 : xs (i4 + 2).toNatClampNeg = q2) (hv3 : vp_in (i4 + 3) Ln) (hq3 : xs (i4 + 3).toNatClampNeg = q3) (hv4 : vp_in (i4 + 4) Ln) (hq4 : xs (i4 + 4).toNatClampNeg = q4) (hv5 : vp_in (i4 + 5) Ln) (hq5 : xs (i4 + 5).toNatClampNeg = q5) (nc ns : Nat) (hnc : nc + 6 ≤ room_1.cells) (hns : ns + 36 ≤ room_1.slots) (h_g : pre_Lc2 d ou q1) (kk : ZW p l e room_1 s m args below meth c 9 D (zTys cI cJ) A Q (nc + 6) (ns + 36) (wY cI cJ y d sy sm sd mi ti sL bL mD mT ((o, .inl (cJ, 1, .inr (.inl (s_L_day_ou d ou q1)))) :: (wM cI cJ z (s_X3_day_co q1) d ti sL bL mD mT (zw sy) (zw sm) (zw sd) (zw mi) yr mo dy []))) 4233 [(4, .int i4), (3, .ref o), (2, .ref (z 0)), (1, .ref (y 0)), (0, .ref b)] []) : ZW p l e room_1 s m args below meth c 9 D (zTys cI cJ) A Q nc ns (wY cI cJ y d sy sm sd mi ti sL bL mD mT ((o, .inl (cJ, 1, .inr (.inl ou))) :: (wM cI cJ z co d ti sL bL mD mT (zw sy) (zw sm) (zw sd) (zw mi) yr mo dy []))) 443 [(4, .int i4), (3, .ref o), (2, .ref (z 0)), (1, .ref (y 0)), (0, .ref b)] [] := by
  obtain ⟨g_0, g_1, g_2⟩ := h_g
  refine z_aload_n C dL_law_443 rfl 3 rfl ?_
  refine z_aload_n C dL_law_444 rfl 4 rfl ?_
  refine z_iload C dL_law_445 0 rfl ?_
  refine z_iconst (v := 1) C dL_law_447 (by decide) ?_
  refine z_iadd C dL_law_448 ?_
  refine z_sld C hX hbl hbA hv1 dL_law_449 ?_
  refine z_eqst (st' := [.int q1, .ref (y 0)]) (congrArg (fun v => Value.int v :: _) hq1) ?_
  refine z_aload_n C dL_law_450 rfl 1 rfl ?_
  refine z_siH (ws' := (wY cI cJ y d sy sm sd mi ti sL bL mD mT ((o, .inl (cJ, 1, .inr (.inl (s_L_day_ou d ou q1)))) :: (wM cI cJ z co d ti sL bL mD mT (zw sy) (zw sm) (zw sd) (zw mi) yr mo dy [])))) C (rest := []) (c_L_day l hfl D cI cJ (wM cI cJ z co d ti sL bL mD mT (zw sy) (zw sm) (zw sd) (zw mi) yr mo dy []) y o d sy sm sd mi ti sL bL mD mT ou q1 (g_0)) q_L_day gL_law_L_day ⟨rfl, rfl⟩ rfl rfl (Nat.le_of_ble_eq_true rfl) ⟨Nat.le_of_ble_eq_true rfl, Nat.le_of_ble_eq_true rfl⟩ ⟨Nat.le_trans (by omega) hnc, Nat.le_trans (by omega) hns⟩ dL_law_451 ?_
  refine z_istore (lv' := [(5, .int (f_L_day q1)), (4, .int i4), (3, .ref o), (2, .ref (z 0)), (1, .ref (y 0)), (0, .ref b)]) C dL_law_454 (by decide) rfl ?_
  refine z_aload_n C dL_law_456 rfl 3 rfl ?_
  refine z_aload_n C dL_law_457 rfl 5 rfl ?_
  refine z_iload C dL_law_458 1 rfl ?_
  refine z_iconst (v := 1) C dL_law_460 (by decide) ?_
  refine z_iadd C dL_law_461 ?_
  refine z_sld C hX hbl hbA hv1 dL_law_462 ?_
  refine z_eqst (st' := [.int q1, .ref (z 0)]) (congrArg (fun v => Value.int v :: _) hq1) ?_
  refine z_ws (ws' := (wM cI cJ z co d ti sL bL mD mT (zw sy) (zw sm) (zw sd) (zw mi) yr mo dy (wY cI cJ y d sy sm sd mi ti sL bL mD mT [(o, .inl (cJ, 1, .inr (.inl (s_L_day_ou d ou q1))))]))) [12, 13, 14, 15, 16, 17, 18, 19, 20, 21, 22, 0, 1, 2, 3, 4, 5, 6, 7, 8, 9, 10, 11] rfl (by decide) rfl ?_
  refine z_wl (ws' := (wM cI cJ z (s_X3_day_co q1) d ti sL bL mD mT (zw sy) (zw sm) (zw sd) (zw mi) yr mo dy (wY cI cJ y d sy sm sd mi ti sL bL mD mT [(o, .inl (cJ, 1, .inr (.inl (s_L_day_ou d ou q1))))]))) (rest := []) (ci := 3) (q0 := 0) C (c_X3_day l hfl D cI cJ (wY cI cJ y d sy sm sd mi ti sL bL mD mT [(o, .inl (cJ, 1, .inr (.inl (s_L_day_ou d ou q1))))]) z co d ti sL bL mD mT (zw sy) (zw sm) (zw sd) (zw mi) yr mo dy q1 ) q_X3_day rfl rfl rfl gL_law_X3_day ⟨rfl, rfl⟩ rfl rfl (Nat.le_of_ble_eq_true rfl) ⟨Nat.le_of_ble_eq_true rfl, Nat.le_of_ble_eq_true rfl⟩ ⟨Nat.le_trans (by omega) hnc, Nat.le_trans (by omega) hns⟩ dL_law_463 ?_
  refine z_ws (ws' := (wY cI cJ y d sy sm sd mi ti sL bL mD mT ((o, .inl (cJ, 1, .inr (.inl (s_L_day_ou d ou q1)))) :: (wM cI cJ z (s_X3_day_co q1) d ti sL bL mD mT (zw sy) (zw sm) (zw sd) (zw mi) yr mo dy [])))) [11, 12, 13, 14, 15, 16, 17, 18, 19, 20, 21, 22, 0, 1, 2, 3, 4, 5, 6, 7, 8, 9, 10] rfl (by decide) rfl ?_
  refine z_lstore (lv' := [(6, .long (f_X3_day d q1)), (5, .int (f_L_day q1)), (4, .int i4), (3, .ref o), (2, .ref (z 0)), (1, .ref (y 0)), (0, .ref b)]) C dL_law_466 (by decide) rfl ?_
  refine z_aload_n C dL_law_468 rfl 4 rfl ?_
  refine z_ws (ws' := (wM cI cJ z (s_X3_day_co q1) d ti sL bL mD mT (zw sy) (zw sm) (zw sd) (zw mi) yr mo dy (wY cI cJ y d sy sm sd mi ti sL bL mD mT [(o, .inl (cJ, 1, .inr (.inl (s_L_day_ou d ou q1))))]))) [12, 13, 14, 15, 16, 17, 18, 19, 20, 21, 22, 0, 1, 2, 3, 4, 5, 6, 7, 8, 9, 10, 11] rfl (by decide) rfl ?_
  refine z_wi (ws' := (wM cI cJ z (s_X3_day_co q1) d ti sL bL mD mT (zw sy) (zw sm) (zw sd) (zw mi) yr mo dy (wY cI cJ y d sy sm sd mi ti sL bL mD mT [(o, .inl (cJ, 1, .inr (.inl (s_L_day_ou d ou q1))))]))) (rest := []) (ci := 3) (q0 := 0) C (c_X3_thrown l hfl D cI cJ (wY cI cJ y d sy sm sd mi ti sL bL mD mT [(o, .inl (cJ, 1, .inr (.inl (s_L_day_ou d ou q1))))]) z (s_X3_day_co q1) d ti sL bL mD mT (zw sy) (zw sm) (zw sd) (zw mi) yr mo dy  ) q_X3_thrown rfl rfl rfl gL_law_X3_thrown ⟨rfl, rfl⟩ rfl rfl (Nat.le_of_ble_eq_true rfl) ⟨Nat.le_of_ble_eq_true rfl, Nat.le_of_ble_eq_true rfl⟩ ⟨Nat.le_trans (by omega) hnc, Nat.le_trans (by omega) hns⟩ dL_law_469 ?_
  refine z_ws (ws' := (wY cI cJ y d sy sm sd mi ti sL bL mD mT ((o, .inl (cJ, 1, .inr (.inl (s_L_day_ou d ou q1)))) :: (wM cI cJ z (s_X3_day_co q1) d ti sL bL mD mT (zw sy) (zw sm) (zw sd) (zw mi) yr mo dy [])))) [11, 12, 13, 14, 15, 16, 17, 18, 19, 20, 21, 22, 0, 1, 2, 3, 4, 5, 6, 7, 8, 9, 10] rfl (by decide) rfl ?_
  refine z_iload C dL_law_472 1 rfl ?_
  refine z_icmp_eq (tgt := 479) C dL_law_474 (by decide) (fun _ => ?_) (fun h => absurd (g_1) h)
  refine z_iload C dL_law_479 1 rfl ?_
  refine z_if_ne (tgt := 495) C dL_law_481 (by decide) (fun h1 => ?_) (fun h1 => ?_)
  · refine z_goto (tgt := 4233) C dL_law_495 (by decide) ?_
    refine z_sub [2, 3, 4, 5, 6] rfl ?_
    exact z_widen (by omega) (by omega) kk
  · refine z_aload_n C dL_law_484 rfl 3 rfl ?_
    refine z_iconst (v := 0) C dL_law_485 (by decide) ?_
    refine z_lald C 11 1 rfl rfl (zvpl 0 1 (by decide)) dL_law_486 ?_
    refine z_eqst (st' := [.long ((s_L_day_ou d ou q1) 0)]) rfl ?_
    refine z_lload C dL_law_487 0 rfl ?_
    refine z_lcmp_eq (tgt := 495) C dL_law_489 dL_law_490 (by decide) (fun _ => ?_) (fun h => absurd (g_2 h1) h)
    refine z_goto (tgt := 4233) C dL_law_495 (by decide) ?_
    refine z_sub [2, 3, 4, 5, 6] rfl ?_
    exact z_widen (by omega) (by omega) kk
def pre_Lc3 (d : Nat → Int64) (ou : Nat → Int64) (q1 : Int32) (q2 : Int32) : Prop := ((pre_L_part d q1 ((q2.toUInt32 % 65536).toInt32))) ∧ ((pre_X3_part d q1 ((q2.toUInt32 % 65536).toInt32))) ∧ (((s_X3_part_co d q1 ((q2.toUInt32 % 65536).toInt32)) = (f_L_part d q1 ((q2.toUInt32 % 65536).toInt32)))) ∧ (((f_L_part d q1 ((q2.toUInt32 % 65536).toInt32)) = 0) → (((s_L_part_ou d ou q1 ((q2.toUInt32 % 65536).toInt32)) 0) = ((f_X3_part d q1 ((q2.toUInt32 % 65536).toInt32))).toInt64))
set_option maxHeartbeats 4000000 in
set_option maxRecDepth 100000 in
theorem law_c3 {p : Program} {l : Launch} {e : Env} {s : State} {m : MethodId} {args : Array Value} {below : List Frame} {meth : Method} {c : Code} {D : va_G} {cI cJ : ClassId} {A : Nat → Prop} {Q : State → Prop} {ret : Option FieldType} (C : ZC p l s m args meth c 9 D (zTys cI cJ) A cL_law wsL_law RL ret) (hfl : l.stackTraces = false) {b Ln : Nat} {xs : Nat → Int32} (hX : va_X b Ln xs s s.heap) (hbl : b < s.heap.size) (hbA : ¬ A b) (y z : Nat → Nat) (o : Nat) (d : Nat → Int64) (sy : Nat → Int32) (sm : Nat → Int32) (sd : Nat → Int32) (mi : Nat → Int32) (ti : Nat → Int64) (sL : Nat → Int64) (bL : Nat → Int64) (mD : Nat → Int64) (mT : Nat → Int64) (co : Int32) (yr : Int64) (mo : Int32) (dy : Int32) (ou : Nat → Int64) (q1 : Int32) (q2 : Int32) (q3 : Int32) (q4 : Int32) (q5 : Int32) (i4 : Int32) (hv1 : vp_in (i4 + 1) Ln) (hq1 : xs (i4 + 1).toNatClampNeg = q1) (hv2 : vp_in (i4 + 2) Ln) (hq2 : xs (i4 + 2).toNatClampNeg = q2) (hv3 : vp_in (i4 + 3) Ln) (hq3 : xs (i4 + 3).toNatClampNeg = q3) (hv4 : vp_in (i4 + 4) Ln) (hq4 : xs (i4 + 4).toNatClampNeg = q4) (hv5 : vp_in (i4 + 5) Ln) (hq5 : xs (i4 + 5).toNatClampNeg = q5) (nc ns : Nat) (hnc : nc + 6 ≤ room_1.cells) (hns : ns + 36 ≤ room_1.slots) (h_g : pre_Lc3 d ou q1 q2) (kk : ZW p l e room_1 s m args below meth c 9 D (zTys cI cJ) A Q (nc + 6) (ns + 36) (wY cI cJ y d sy sm sd mi ti sL bL mD mT ((o, .inl (cJ, 1, .inr (.inl (s_L_part_ou d ou q1 ((q2.toUInt32 % 65536).toInt32))))) :: (wM cI cJ z (s_X3_part_co d q1 ((q2.toUInt32 % 65536).toInt32)) d ti sL bL mD mT (zw sy) (zw sm) (zw sd) (zw mi) (s_X3_part_yr d yr q1 ((q2.toUInt32 % 65536).toInt32)) (s_X3_part_mo d mo q1 ((q2.toUInt32 % 65536).toInt32)) (s_X3_part_dy d dy q1 ((q2.toUInt32 % 65536).toInt32)) []))) 4233 [(4, .int i4), (3, .ref o), (2, .ref (z 0)), (1, .ref (y 0)), (0, .ref b)] []) : ZW p l e room_1 s m args below meth c 9 D (zTys cI cJ) A Q nc ns (wY cI cJ y d sy sm sd mi ti sL bL mD mT ((o, .inl (cJ, 1, .inr (.inl ou))) :: (wM cI cJ z co d ti sL bL mD mT (zw sy) (zw sm) (zw sd) (zw mi) yr mo dy []))) 498 [(4, .int i4), (3, .ref o), (2, .ref (z 0)), (1, .ref (y 0)), (0, .ref b)] [] := by
  obtain ⟨g_0, g_1, g_2, g_3⟩ := h_g
  refine z_aload_n C dL_law_498 rfl 3 rfl ?_
  refine z_aload_n C dL_law_499 rfl 4 rfl ?_
  refine z_iload C dL_law_500 0 rfl ?_
  refine z_iconst (v := 1) C dL_law_502 (by decide) ?_
  refine z_iadd C dL_law_503 ?_
  refine z_sld C hX hbl hbA hv1 dL_law_504 ?_
  refine z_eqst (st' := [.int q1, .ref (y 0)]) (congrArg (fun v => Value.int v :: _) hq1) ?_
  refine z_aload_n C dL_law_505 rfl 4 rfl ?_
  refine z_iload C dL_law_506 0 rfl ?_
  refine z_iconst (v := 2) C dL_law_508 (by decide) ?_
  refine z_iadd C dL_law_509 ?_
  refine z_sld C hX hbl hbA hv2 dL_law_510 ?_
  refine z_eqst (st' := [.int q2, .int q1, .ref (y 0)]) (congrArg (fun v => Value.int v :: _) hq2) ?_
  refine z_i2c (v := (q2.toUInt32 % 65536).toInt32) C dL_law_511 rfl ?_
  refine z_aload_n C dL_law_512 rfl 1 rfl ?_
  refine z_siH (ws' := (wY cI cJ y d sy sm sd mi ti sL bL mD mT ((o, .inl (cJ, 1, .inr (.inl (s_L_part_ou d ou q1 ((q2.toUInt32 % 65536).toInt32))))) :: (wM cI cJ z co d ti sL bL mD mT (zw sy) (zw sm) (zw sd) (zw mi) yr mo dy [])))) C (rest := []) (c_L_part l hfl D cI cJ (wM cI cJ z co d ti sL bL mD mT (zw sy) (zw sm) (zw sd) (zw mi) yr mo dy []) y o d sy sm sd mi ti sL bL mD mT ou q1 ((q2.toUInt32 % 65536).toInt32) (g_0)) q_L_part gL_law_L_part ⟨rfl, rfl⟩ rfl rfl (Nat.le_of_ble_eq_true rfl) ⟨Nat.le_of_ble_eq_true rfl, Nat.le_of_ble_eq_true rfl⟩ ⟨Nat.le_trans (by omega) hnc, Nat.le_trans (by omega) hns⟩ dL_law_513 ?_
  refine z_istore (lv' := [(5, .int (f_L_part d q1 ((q2.toUInt32 % 65536).toInt32))), (4, .int i4), (3, .ref o), (2, .ref (z 0)), (1, .ref (y 0)), (0, .ref b)]) C dL_law_516 (by decide) rfl ?_
  refine z_aload_n C dL_law_518 rfl 3 rfl ?_
  refine z_aload_n C dL_law_519 rfl 5 rfl ?_
  refine z_iload C dL_law_520 1 rfl ?_
  refine z_iconst (v := 1) C dL_law_522 (by decide) ?_
  refine z_iadd C dL_law_523 ?_
  refine z_sld C hX hbl hbA hv1 dL_law_524 ?_
  refine z_eqst (st' := [.int q1, .ref (z 0)]) (congrArg (fun v => Value.int v :: _) hq1) ?_
  refine z_aload_n C dL_law_525 rfl 5 rfl ?_
  refine z_iload C dL_law_526 1 rfl ?_
  refine z_iconst (v := 2) C dL_law_528 (by decide) ?_
  refine z_iadd C dL_law_529 ?_
  refine z_sld C hX hbl hbA hv2 dL_law_530 ?_
  refine z_eqst (st' := [.int q2, .int q1, .ref (z 0)]) (congrArg (fun v => Value.int v :: _) hq2) ?_
  refine z_i2c (v := (q2.toUInt32 % 65536).toInt32) C dL_law_531 rfl ?_
  refine z_ws (ws' := (wM cI cJ z co d ti sL bL mD mT (zw sy) (zw sm) (zw sd) (zw mi) yr mo dy (wY cI cJ y d sy sm sd mi ti sL bL mD mT [(o, .inl (cJ, 1, .inr (.inl (s_L_part_ou d ou q1 ((q2.toUInt32 % 65536).toInt32)))))]))) [12, 13, 14, 15, 16, 17, 18, 19, 20, 21, 22, 0, 1, 2, 3, 4, 5, 6, 7, 8, 9, 10, 11] rfl (by decide) rfl ?_
  refine z_wi (ws' := (wM cI cJ z (s_X3_part_co d q1 ((q2.toUInt32 % 65536).toInt32)) d ti sL bL mD mT (zw sy) (zw sm) (zw sd) (zw mi) (s_X3_part_yr d yr q1 ((q2.toUInt32 % 65536).toInt32)) (s_X3_part_mo d mo q1 ((q2.toUInt32 % 65536).toInt32)) (s_X3_part_dy d dy q1 ((q2.toUInt32 % 65536).toInt32)) (wY cI cJ y d sy sm sd mi ti sL bL mD mT [(o, .inl (cJ, 1, .inr (.inl (s_L_part_ou d ou q1 ((q2.toUInt32 % 65536).toInt32)))))]))) (rest := []) (ci := 3) (q0 := 0) C (c_X3_part l hfl D cI cJ (wY cI cJ y d sy sm sd mi ti sL bL mD mT [(o, .inl (cJ, 1, .inr (.inl (s_L_part_ou d ou q1 ((q2.toUInt32 % 65536).toInt32)))))]) z co d ti sL bL mD mT (zw sy) (zw sm) (zw sd) (zw mi) yr mo dy q1 ((q2.toUInt32 % 65536).toInt32) (g_1)) q_X3_part rfl rfl rfl gL_law_X3_part ⟨rfl, rfl⟩ rfl rfl (Nat.le_of_ble_eq_true rfl) ⟨Nat.le_of_ble_eq_true rfl, Nat.le_of_ble_eq_true rfl⟩ ⟨Nat.le_trans (by omega) hnc, Nat.le_trans (by omega) hns⟩ dL_law_532 ?_
  refine z_ws (ws' := (wY cI cJ y d sy sm sd mi ti sL bL mD mT ((o, .inl (cJ, 1, .inr (.inl (s_L_part_ou d ou q1 ((q2.toUInt32 % 65536).toInt32))))) :: (wM cI cJ z (s_X3_part_co d q1 ((q2.toUInt32 % 65536).toInt32)) d ti sL bL mD mT (zw sy) (zw sm) (zw sd) (zw mi) (s_X3_part_yr d yr q1 ((q2.toUInt32 % 65536).toInt32)) (s_X3_part_mo d mo q1 ((q2.toUInt32 % 65536).toInt32)) (s_X3_part_dy d dy q1 ((q2.toUInt32 % 65536).toInt32)) [])))) [11, 12, 13, 14, 15, 16, 17, 18, 19, 20, 21, 22, 0, 1, 2, 3, 4, 5, 6, 7, 8, 9, 10] rfl (by decide) rfl ?_
  refine z_istore (lv' := [(6, .int (f_X3_part d q1 ((q2.toUInt32 % 65536).toInt32))), (5, .int (f_L_part d q1 ((q2.toUInt32 % 65536).toInt32))), (4, .int i4), (3, .ref o), (2, .ref (z 0)), (1, .ref (y 0)), (0, .ref b)]) C dL_law_535 (by decide) rfl ?_
  refine z_aload_n C dL_law_537 rfl 4 rfl ?_
  refine z_ws (ws' := (wM cI cJ z (s_X3_part_co d q1 ((q2.toUInt32 % 65536).toInt32)) d ti sL bL mD mT (zw sy) (zw sm) (zw sd) (zw mi) (s_X3_part_yr d yr q1 ((q2.toUInt32 % 65536).toInt32)) (s_X3_part_mo d mo q1 ((q2.toUInt32 % 65536).toInt32)) (s_X3_part_dy d dy q1 ((q2.toUInt32 % 65536).toInt32)) (wY cI cJ y d sy sm sd mi ti sL bL mD mT [(o, .inl (cJ, 1, .inr (.inl (s_L_part_ou d ou q1 ((q2.toUInt32 % 65536).toInt32)))))]))) [12, 13, 14, 15, 16, 17, 18, 19, 20, 21, 22, 0, 1, 2, 3, 4, 5, 6, 7, 8, 9, 10, 11] rfl (by decide) rfl ?_
  refine z_wi (ws' := (wM cI cJ z (s_X3_part_co d q1 ((q2.toUInt32 % 65536).toInt32)) d ti sL bL mD mT (zw sy) (zw sm) (zw sd) (zw mi) (s_X3_part_yr d yr q1 ((q2.toUInt32 % 65536).toInt32)) (s_X3_part_mo d mo q1 ((q2.toUInt32 % 65536).toInt32)) (s_X3_part_dy d dy q1 ((q2.toUInt32 % 65536).toInt32)) (wY cI cJ y d sy sm sd mi ti sL bL mD mT [(o, .inl (cJ, 1, .inr (.inl (s_L_part_ou d ou q1 ((q2.toUInt32 % 65536).toInt32)))))]))) (rest := []) (ci := 3) (q0 := 0) C (c_X3_thrown l hfl D cI cJ (wY cI cJ y d sy sm sd mi ti sL bL mD mT [(o, .inl (cJ, 1, .inr (.inl (s_L_part_ou d ou q1 ((q2.toUInt32 % 65536).toInt32)))))]) z (s_X3_part_co d q1 ((q2.toUInt32 % 65536).toInt32)) d ti sL bL mD mT (zw sy) (zw sm) (zw sd) (zw mi) (s_X3_part_yr d yr q1 ((q2.toUInt32 % 65536).toInt32)) (s_X3_part_mo d mo q1 ((q2.toUInt32 % 65536).toInt32)) (s_X3_part_dy d dy q1 ((q2.toUInt32 % 65536).toInt32))  ) q_X3_thrown rfl rfl rfl gL_law_X3_thrown ⟨rfl, rfl⟩ rfl rfl (Nat.le_of_ble_eq_true rfl) ⟨Nat.le_of_ble_eq_true rfl, Nat.le_of_ble_eq_true rfl⟩ ⟨Nat.le_trans (by omega) hnc, Nat.le_trans (by omega) hns⟩ dL_law_538 ?_
  refine z_ws (ws' := (wY cI cJ y d sy sm sd mi ti sL bL mD mT ((o, .inl (cJ, 1, .inr (.inl (s_L_part_ou d ou q1 ((q2.toUInt32 % 65536).toInt32))))) :: (wM cI cJ z (s_X3_part_co d q1 ((q2.toUInt32 % 65536).toInt32)) d ti sL bL mD mT (zw sy) (zw sm) (zw sd) (zw mi) (s_X3_part_yr d yr q1 ((q2.toUInt32 % 65536).toInt32)) (s_X3_part_mo d mo q1 ((q2.toUInt32 % 65536).toInt32)) (s_X3_part_dy d dy q1 ((q2.toUInt32 % 65536).toInt32)) [])))) [11, 12, 13, 14, 15, 16, 17, 18, 19, 20, 21, 22, 0, 1, 2, 3, 4, 5, 6, 7, 8, 9, 10] rfl (by decide) rfl ?_
  refine z_iload C dL_law_541 1 rfl ?_
  refine z_icmp_eq (tgt := 548) C dL_law_543 (by decide) (fun _ => ?_) (fun h => absurd (g_2) h)
  refine z_iload C dL_law_548 1 rfl ?_
  refine z_if_ne (tgt := 565) C dL_law_550 (by decide) (fun h1 => ?_) (fun h1 => ?_)
  · refine z_goto (tgt := 4233) C dL_law_565 (by decide) ?_
    refine z_sub [2, 3, 4, 5, 6] rfl ?_
    exact z_widen (by omega) (by omega) kk
  · refine z_aload_n C dL_law_553 rfl 3 rfl ?_
    refine z_iconst (v := 0) C dL_law_554 (by decide) ?_
    refine z_lald C 11 1 rfl rfl (zvpl 0 1 (by decide)) dL_law_555 ?_
    refine z_eqst (st' := [.long ((s_L_part_ou d ou q1 ((q2.toUInt32 % 65536).toInt32)) 0)]) rfl ?_
    refine z_iload C dL_law_556 0 rfl ?_
    refine z_i2l (v := ((f_X3_part d q1 ((q2.toUInt32 % 65536).toInt32))).toInt64) C dL_law_558 rfl ?_
    refine z_lcmp_eq (tgt := 565) C dL_law_559 dL_law_560 (by decide) (fun _ => ?_) (fun h => absurd (g_3 h1) h)
    refine z_goto (tgt := 4233) C dL_law_565 (by decide) ?_
    refine z_sub [2, 3, 4, 5, 6] rfl ?_
    exact z_widen (by omega) (by omega) kk
def pre_Lc4 (d : Nat → Int64) (ou : Nat → Int64) (q1 : Int32) (q2 : Int32) (q3 : Int32) (q4 : Int32) : Prop := ((pre_X3_move d q1 ((q2.toUInt32 % 65536).toInt32) q3 q4)) ∧ (((s_X3_move_co d q1 ((q2.toUInt32 % 65536).toInt32) q3 q4) = (f_L_move d q1 ((q2.toUInt32 % 65536).toInt32) q3 q4))) ∧ (((f_L_move d q1 ((q2.toUInt32 % 65536).toInt32) q3 q4) = 0) → (((s_L_move_ou d ou q1 ((q2.toUInt32 % 65536).toInt32) q3 q4) 0) = (f_X3_move d q1 ((q2.toUInt32 % 65536).toInt32) q3 q4)))
set_option maxHeartbeats 4000000 in
set_option maxRecDepth 100000 in
theorem law_c4 {p : Program} {l : Launch} {e : Env} {s : State} {m : MethodId} {args : Array Value} {below : List Frame} {meth : Method} {c : Code} {D : va_G} {cI cJ : ClassId} {A : Nat → Prop} {Q : State → Prop} {ret : Option FieldType} (C : ZC p l s m args meth c 9 D (zTys cI cJ) A cL_law wsL_law RL ret) (hfl : l.stackTraces = false) {b Ln : Nat} {xs : Nat → Int32} (hX : va_X b Ln xs s s.heap) (hbl : b < s.heap.size) (hbA : ¬ A b) (y z : Nat → Nat) (o : Nat) (d : Nat → Int64) (sy : Nat → Int32) (sm : Nat → Int32) (sd : Nat → Int32) (mi : Nat → Int32) (ti : Nat → Int64) (sL : Nat → Int64) (bL : Nat → Int64) (mD : Nat → Int64) (mT : Nat → Int64) (co : Int32) (yr : Int64) (mo : Int32) (dy : Int32) (ou : Nat → Int64) (q1 : Int32) (q2 : Int32) (q3 : Int32) (q4 : Int32) (q5 : Int32) (i4 : Int32) (hv1 : vp_in (i4 + 1) Ln) (hq1 : xs (i4 + 1).toNatClampNeg = q1) (hv2 : vp_in (i4 + 2) Ln) (hq2 : xs (i4 + 2).toNatClampNeg = q2) (hv3 : vp_in (i4 + 3) Ln) (hq3 : xs (i4 + 3).toNatClampNeg = q3) (hv4 : vp_in (i4 + 4) Ln) (hq4 : xs (i4 + 4).toNatClampNeg = q4) (hv5 : vp_in (i4 + 5) Ln) (hq5 : xs (i4 + 5).toNatClampNeg = q5) (nc ns : Nat) (hnc : nc + 6 ≤ room_1.cells) (hns : ns + 36 ≤ room_1.slots) (h_g : pre_Lc4 d ou q1 q2 q3 q4) (kk : ZW p l e room_1 s m args below meth c 9 D (zTys cI cJ) A Q (nc + 6) (ns + 36) (wY cI cJ y (s_L_move_d d q1 ((q2.toUInt32 % 65536).toInt32) q3 q4) sy sm sd mi ti sL bL mD mT ((o, .inl (cJ, 1, .inr (.inl (s_L_move_ou d ou q1 ((q2.toUInt32 % 65536).toInt32) q3 q4)))) :: (wM cI cJ z (s_X3_move_co d q1 ((q2.toUInt32 % 65536).toInt32) q3 q4) (s_X3_move_d d q1 ((q2.toUInt32 % 65536).toInt32) q3 q4) ti sL bL mD mT (zw sy) (zw sm) (zw sd) (zw mi) (s_X3_move_yr d yr q1 ((q2.toUInt32 % 65536).toInt32) q3 q4) (s_X3_move_mo d mo q1 ((q2.toUInt32 % 65536).toInt32) q3 q4) (s_X3_move_dy d dy q1 ((q2.toUInt32 % 65536).toInt32) q3 q4) []))) 4233 [(4, .int i4), (3, .ref o), (2, .ref (z 0)), (1, .ref (y 0)), (0, .ref b)] []) : ZW p l e room_1 s m args below meth c 9 D (zTys cI cJ) A Q nc ns (wY cI cJ y d sy sm sd mi ti sL bL mD mT ((o, .inl (cJ, 1, .inr (.inl ou))) :: (wM cI cJ z co d ti sL bL mD mT (zw sy) (zw sm) (zw sd) (zw mi) yr mo dy []))) 568 [(4, .int i4), (3, .ref o), (2, .ref (z 0)), (1, .ref (y 0)), (0, .ref b)] [] := by
  obtain ⟨g_0, g_1, g_2⟩ := h_g
  refine z_aload_n C dL_law_568 rfl 3 rfl ?_
  refine z_aload_n C dL_law_569 rfl 4 rfl ?_
  refine z_iload C dL_law_570 0 rfl ?_
  refine z_iconst (v := 1) C dL_law_572 (by decide) ?_
  refine z_iadd C dL_law_573 ?_
  refine z_sld C hX hbl hbA hv1 dL_law_574 ?_
  refine z_eqst (st' := [.int q1, .ref (y 0)]) (congrArg (fun v => Value.int v :: _) hq1) ?_
  refine z_aload_n C dL_law_575 rfl 4 rfl ?_
  refine z_iload C dL_law_576 0 rfl ?_
  refine z_iconst (v := 2) C dL_law_578 (by decide) ?_
  refine z_iadd C dL_law_579 ?_
  refine z_sld C hX hbl hbA hv2 dL_law_580 ?_
  refine z_eqst (st' := [.int q2, .int q1, .ref (y 0)]) (congrArg (fun v => Value.int v :: _) hq2) ?_
  refine z_i2c (v := (q2.toUInt32 % 65536).toInt32) C dL_law_581 rfl ?_
  refine z_aload_n C dL_law_582 rfl 4 rfl ?_
  refine z_iload C dL_law_583 0 rfl ?_
  refine z_iconst (v := 3) C dL_law_585 (by decide) ?_
  refine z_iadd C dL_law_586 ?_
  refine z_sld C hX hbl hbA hv3 dL_law_587 ?_
  refine z_eqst (st' := [.int q3, .int ((q2.toUInt32 % 65536).toInt32), .int q1, .ref (y 0)]) (congrArg (fun v => Value.int v :: _) hq3) ?_
  refine z_aload_n C dL_law_588 rfl 4 rfl ?_
  refine z_iload C dL_law_589 0 rfl ?_
  refine z_iconst (v := 4) C dL_law_591 (by decide) ?_
  refine z_iadd C dL_law_592 ?_
  refine z_sld C hX hbl hbA hv4 dL_law_593 ?_
  refine z_eqst (st' := [.int q4, .int q3, .int ((q2.toUInt32 % 65536).toInt32), .int q1, .ref (y 0)]) (congrArg (fun v => Value.int v :: _) hq4) ?_
  refine z_aload_n C dL_law_594 rfl 1 rfl ?_
  refine z_siH (ws' := (wY cI cJ y (s_L_move_d d q1 ((q2.toUInt32 % 65536).toInt32) q3 q4) sy sm sd mi ti sL bL mD mT ((o, .inl (cJ, 1, .inr (.inl (s_L_move_ou d ou q1 ((q2.toUInt32 % 65536).toInt32) q3 q4)))) :: (wM cI cJ z co d ti sL bL mD mT (zw sy) (zw sm) (zw sd) (zw mi) yr mo dy [])))) C (rest := []) (c_L_move l hfl D cI cJ (wM cI cJ z co d ti sL bL mD mT (zw sy) (zw sm) (zw sd) (zw mi) yr mo dy []) y o d sy sm sd mi ti sL bL mD mT ou q1 ((q2.toUInt32 % 65536).toInt32) q3 q4 ) q_L_move gL_law_L_move ⟨rfl, rfl⟩ rfl rfl (Nat.le_of_ble_eq_true rfl) ⟨Nat.le_of_ble_eq_true rfl, Nat.le_of_ble_eq_true rfl⟩ ⟨Nat.le_trans (by omega) hnc, Nat.le_trans (by omega) hns⟩ dL_law_595 ?_
  refine z_istore (lv' := [(5, .int (f_L_move d q1 ((q2.toUInt32 % 65536).toInt32) q3 q4)), (4, .int i4), (3, .ref o), (2, .ref (z 0)), (1, .ref (y 0)), (0, .ref b)]) C dL_law_598 (by decide) rfl ?_
  refine z_aload_n C dL_law_600 rfl 3 rfl ?_
  refine z_aload_n C dL_law_601 rfl 5 rfl ?_
  refine z_iload C dL_law_602 1 rfl ?_
  refine z_iconst (v := 1) C dL_law_604 (by decide) ?_
  refine z_iadd C dL_law_605 ?_
  refine z_sld C hX hbl hbA hv1 dL_law_606 ?_
  refine z_eqst (st' := [.int q1, .ref (z 0)]) (congrArg (fun v => Value.int v :: _) hq1) ?_
  refine z_aload_n C dL_law_607 rfl 5 rfl ?_
  refine z_iload C dL_law_608 1 rfl ?_
  refine z_iconst (v := 2) C dL_law_610 (by decide) ?_
  refine z_iadd C dL_law_611 ?_
  refine z_sld C hX hbl hbA hv2 dL_law_612 ?_
  refine z_eqst (st' := [.int q2, .int q1, .ref (z 0)]) (congrArg (fun v => Value.int v :: _) hq2) ?_
  refine z_i2c (v := (q2.toUInt32 % 65536).toInt32) C dL_law_613 rfl ?_
  refine z_aload_n C dL_law_614 rfl 5 rfl ?_
  refine z_iload C dL_law_615 1 rfl ?_
  refine z_iconst (v := 3) C dL_law_617 (by decide) ?_
  refine z_iadd C dL_law_618 ?_
  refine z_sld C hX hbl hbA hv3 dL_law_619 ?_
  refine z_eqst (st' := [.int q3, .int ((q2.toUInt32 % 65536).toInt32), .int q1, .ref (z 0)]) (congrArg (fun v => Value.int v :: _) hq3) ?_
  refine z_aload_n C dL_law_620 rfl 5 rfl ?_
  refine z_iload C dL_law_621 1 rfl ?_
  refine z_iconst (v := 4) C dL_law_623 (by decide) ?_
  refine z_iadd C dL_law_624 ?_
  refine z_sld C hX hbl hbA hv4 dL_law_625 ?_
  refine z_eqst (st' := [.int q4, .int q3, .int ((q2.toUInt32 % 65536).toInt32), .int q1, .ref (z 0)]) (congrArg (fun v => Value.int v :: _) hq4) ?_
  refine z_ws (ws' := (wM cI cJ z co d ti sL bL mD mT (zw sy) (zw sm) (zw sd) (zw mi) yr mo dy (wY cI cJ y (s_L_move_d d q1 ((q2.toUInt32 % 65536).toInt32) q3 q4) sy sm sd mi ti sL bL mD mT [(o, .inl (cJ, 1, .inr (.inl (s_L_move_ou d ou q1 ((q2.toUInt32 % 65536).toInt32) q3 q4))))]))) [12, 13, 14, 15, 16, 17, 18, 19, 20, 21, 22, 0, 1, 2, 3, 4, 5, 6, 7, 8, 9, 10, 11] rfl (by decide) rfl ?_
  refine z_wl (ws' := (wM cI cJ z (s_X3_move_co d q1 ((q2.toUInt32 % 65536).toInt32) q3 q4) (s_X3_move_d d q1 ((q2.toUInt32 % 65536).toInt32) q3 q4) ti sL bL mD mT (zw sy) (zw sm) (zw sd) (zw mi) (s_X3_move_yr d yr q1 ((q2.toUInt32 % 65536).toInt32) q3 q4) (s_X3_move_mo d mo q1 ((q2.toUInt32 % 65536).toInt32) q3 q4) (s_X3_move_dy d dy q1 ((q2.toUInt32 % 65536).toInt32) q3 q4) (wY cI cJ y (s_L_move_d d q1 ((q2.toUInt32 % 65536).toInt32) q3 q4) sy sm sd mi ti sL bL mD mT [(o, .inl (cJ, 1, .inr (.inl (s_L_move_ou d ou q1 ((q2.toUInt32 % 65536).toInt32) q3 q4))))]))) (rest := []) (ci := 3) (q0 := 0) C (c_X3_move l hfl D cI cJ (wY cI cJ y (s_L_move_d d q1 ((q2.toUInt32 % 65536).toInt32) q3 q4) sy sm sd mi ti sL bL mD mT [(o, .inl (cJ, 1, .inr (.inl (s_L_move_ou d ou q1 ((q2.toUInt32 % 65536).toInt32) q3 q4))))]) z co d ti sL bL mD mT (zw sy) (zw sm) (zw sd) (zw mi) yr mo dy q1 ((q2.toUInt32 % 65536).toInt32) q3 q4 (g_0)) q_X3_move rfl rfl rfl gL_law_X3_move ⟨rfl, rfl⟩ rfl rfl (Nat.le_of_ble_eq_true rfl) ⟨Nat.le_of_ble_eq_true rfl, Nat.le_of_ble_eq_true rfl⟩ ⟨Nat.le_trans (by omega) hnc, Nat.le_trans (by omega) hns⟩ dL_law_626 ?_
  refine z_ws (ws' := (wY cI cJ y (s_L_move_d d q1 ((q2.toUInt32 % 65536).toInt32) q3 q4) sy sm sd mi ti sL bL mD mT ((o, .inl (cJ, 1, .inr (.inl (s_L_move_ou d ou q1 ((q2.toUInt32 % 65536).toInt32) q3 q4)))) :: (wM cI cJ z (s_X3_move_co d q1 ((q2.toUInt32 % 65536).toInt32) q3 q4) (s_X3_move_d d q1 ((q2.toUInt32 % 65536).toInt32) q3 q4) ti sL bL mD mT (zw sy) (zw sm) (zw sd) (zw mi) (s_X3_move_yr d yr q1 ((q2.toUInt32 % 65536).toInt32) q3 q4) (s_X3_move_mo d mo q1 ((q2.toUInt32 % 65536).toInt32) q3 q4) (s_X3_move_dy d dy q1 ((q2.toUInt32 % 65536).toInt32) q3 q4) [])))) [11, 12, 13, 14, 15, 16, 17, 18, 19, 20, 21, 22, 0, 1, 2, 3, 4, 5, 6, 7, 8, 9, 10] rfl (by decide) rfl ?_
  refine z_lstore (lv' := [(6, .long (f_X3_move d q1 ((q2.toUInt32 % 65536).toInt32) q3 q4)), (5, .int (f_L_move d q1 ((q2.toUInt32 % 65536).toInt32) q3 q4)), (4, .int i4), (3, .ref o), (2, .ref (z 0)), (1, .ref (y 0)), (0, .ref b)]) C dL_law_629 (by decide) rfl ?_
  refine z_aload_n C dL_law_631 rfl 4 rfl ?_
  refine z_ws (ws' := (wM cI cJ z (s_X3_move_co d q1 ((q2.toUInt32 % 65536).toInt32) q3 q4) (s_X3_move_d d q1 ((q2.toUInt32 % 65536).toInt32) q3 q4) ti sL bL mD mT (zw sy) (zw sm) (zw sd) (zw mi) (s_X3_move_yr d yr q1 ((q2.toUInt32 % 65536).toInt32) q3 q4) (s_X3_move_mo d mo q1 ((q2.toUInt32 % 65536).toInt32) q3 q4) (s_X3_move_dy d dy q1 ((q2.toUInt32 % 65536).toInt32) q3 q4) (wY cI cJ y (s_L_move_d d q1 ((q2.toUInt32 % 65536).toInt32) q3 q4) sy sm sd mi ti sL bL mD mT [(o, .inl (cJ, 1, .inr (.inl (s_L_move_ou d ou q1 ((q2.toUInt32 % 65536).toInt32) q3 q4))))]))) [12, 13, 14, 15, 16, 17, 18, 19, 20, 21, 22, 0, 1, 2, 3, 4, 5, 6, 7, 8, 9, 10, 11] rfl (by decide) rfl ?_
  refine z_wi (ws' := (wM cI cJ z (s_X3_move_co d q1 ((q2.toUInt32 % 65536).toInt32) q3 q4) (s_X3_move_d d q1 ((q2.toUInt32 % 65536).toInt32) q3 q4) ti sL bL mD mT (zw sy) (zw sm) (zw sd) (zw mi) (s_X3_move_yr d yr q1 ((q2.toUInt32 % 65536).toInt32) q3 q4) (s_X3_move_mo d mo q1 ((q2.toUInt32 % 65536).toInt32) q3 q4) (s_X3_move_dy d dy q1 ((q2.toUInt32 % 65536).toInt32) q3 q4) (wY cI cJ y (s_L_move_d d q1 ((q2.toUInt32 % 65536).toInt32) q3 q4) sy sm sd mi ti sL bL mD mT [(o, .inl (cJ, 1, .inr (.inl (s_L_move_ou d ou q1 ((q2.toUInt32 % 65536).toInt32) q3 q4))))]))) (rest := []) (ci := 3) (q0 := 0) C (c_X3_thrown l hfl D cI cJ (wY cI cJ y (s_L_move_d d q1 ((q2.toUInt32 % 65536).toInt32) q3 q4) sy sm sd mi ti sL bL mD mT [(o, .inl (cJ, 1, .inr (.inl (s_L_move_ou d ou q1 ((q2.toUInt32 % 65536).toInt32) q3 q4))))]) z (s_X3_move_co d q1 ((q2.toUInt32 % 65536).toInt32) q3 q4) (s_X3_move_d d q1 ((q2.toUInt32 % 65536).toInt32) q3 q4) ti sL bL mD mT (zw sy) (zw sm) (zw sd) (zw mi) (s_X3_move_yr d yr q1 ((q2.toUInt32 % 65536).toInt32) q3 q4) (s_X3_move_mo d mo q1 ((q2.toUInt32 % 65536).toInt32) q3 q4) (s_X3_move_dy d dy q1 ((q2.toUInt32 % 65536).toInt32) q3 q4)  ) q_X3_thrown rfl rfl rfl gL_law_X3_thrown ⟨rfl, rfl⟩ rfl rfl (Nat.le_of_ble_eq_true rfl) ⟨Nat.le_of_ble_eq_true rfl, Nat.le_of_ble_eq_true rfl⟩ ⟨Nat.le_trans (by omega) hnc, Nat.le_trans (by omega) hns⟩ dL_law_632 ?_
  refine z_ws (ws' := (wY cI cJ y (s_L_move_d d q1 ((q2.toUInt32 % 65536).toInt32) q3 q4) sy sm sd mi ti sL bL mD mT ((o, .inl (cJ, 1, .inr (.inl (s_L_move_ou d ou q1 ((q2.toUInt32 % 65536).toInt32) q3 q4)))) :: (wM cI cJ z (s_X3_move_co d q1 ((q2.toUInt32 % 65536).toInt32) q3 q4) (s_X3_move_d d q1 ((q2.toUInt32 % 65536).toInt32) q3 q4) ti sL bL mD mT (zw sy) (zw sm) (zw sd) (zw mi) (s_X3_move_yr d yr q1 ((q2.toUInt32 % 65536).toInt32) q3 q4) (s_X3_move_mo d mo q1 ((q2.toUInt32 % 65536).toInt32) q3 q4) (s_X3_move_dy d dy q1 ((q2.toUInt32 % 65536).toInt32) q3 q4) [])))) [11, 12, 13, 14, 15, 16, 17, 18, 19, 20, 21, 22, 0, 1, 2, 3, 4, 5, 6, 7, 8, 9, 10] rfl (by decide) rfl ?_
  refine z_iload C dL_law_635 1 rfl ?_
  refine z_icmp_eq (tgt := 642) C dL_law_637 (by decide) (fun _ => ?_) (fun h => absurd (g_1) h)
  refine z_iload C dL_law_642 1 rfl ?_
  refine z_if_ne (tgt := 658) C dL_law_644 (by decide) (fun h1 => ?_) (fun h1 => ?_)
  · refine z_goto (tgt := 4233) C dL_law_658 (by decide) ?_
    refine z_sub [2, 3, 4, 5, 6] rfl ?_
    exact z_widen (by omega) (by omega) kk
  · refine z_aload_n C dL_law_647 rfl 3 rfl ?_
    refine z_iconst (v := 0) C dL_law_648 (by decide) ?_
    refine z_lald C 11 1 rfl rfl (zvpl 0 1 (by decide)) dL_law_649 ?_
    refine z_eqst (st' := [.long ((s_L_move_ou d ou q1 ((q2.toUInt32 % 65536).toInt32) q3 q4) 0)]) rfl ?_
    refine z_lload C dL_law_650 0 rfl ?_
    refine z_lcmp_eq (tgt := 658) C dL_law_652 dL_law_653 (by decide) (fun _ => ?_) (fun h => absurd (g_2 h1) h)
    refine z_goto (tgt := 4233) C dL_law_658 (by decide) ?_
    refine z_sub [2, 3, 4, 5, 6] rfl ?_
    exact z_widen (by omega) (by omega) kk
def pre_Lc5 (d : Nat → Int64) (ou : Nat → Int64) (q1 : Int32) (q2 : Int32) (q3 : Int32) (q4 : Int32) : Prop := ((pre_L_with d q1 ((q2.toUInt32 % 65536).toInt32) q3 q4)) ∧ ((pre_X3_with d q1 ((q2.toUInt32 % 65536).toInt32) q3 q4)) ∧ (((s_X3_with_co d q1 ((q2.toUInt32 % 65536).toInt32) q3 q4) = (f_L_with d q1 ((q2.toUInt32 % 65536).toInt32) q3 q4))) ∧ (((f_L_with d q1 ((q2.toUInt32 % 65536).toInt32) q3 q4) = 0) → (((s_L_with_ou d ou q1 ((q2.toUInt32 % 65536).toInt32) q3 q4) 0) = (f_X3_with d q1 ((q2.toUInt32 % 65536).toInt32) q3 q4)))
set_option maxHeartbeats 4000000 in
set_option maxRecDepth 100000 in
theorem law_c5 {p : Program} {l : Launch} {e : Env} {s : State} {m : MethodId} {args : Array Value} {below : List Frame} {meth : Method} {c : Code} {D : va_G} {cI cJ : ClassId} {A : Nat → Prop} {Q : State → Prop} {ret : Option FieldType} (C : ZC p l s m args meth c 9 D (zTys cI cJ) A cL_law wsL_law RL ret) (hfl : l.stackTraces = false) {b Ln : Nat} {xs : Nat → Int32} (hX : va_X b Ln xs s s.heap) (hbl : b < s.heap.size) (hbA : ¬ A b) (y z : Nat → Nat) (o : Nat) (d : Nat → Int64) (sy : Nat → Int32) (sm : Nat → Int32) (sd : Nat → Int32) (mi : Nat → Int32) (ti : Nat → Int64) (sL : Nat → Int64) (bL : Nat → Int64) (mD : Nat → Int64) (mT : Nat → Int64) (co : Int32) (yr : Int64) (mo : Int32) (dy : Int32) (ou : Nat → Int64) (q1 : Int32) (q2 : Int32) (q3 : Int32) (q4 : Int32) (q5 : Int32) (i4 : Int32) (hv1 : vp_in (i4 + 1) Ln) (hq1 : xs (i4 + 1).toNatClampNeg = q1) (hv2 : vp_in (i4 + 2) Ln) (hq2 : xs (i4 + 2).toNatClampNeg = q2) (hv3 : vp_in (i4 + 3) Ln) (hq3 : xs (i4 + 3).toNatClampNeg = q3) (hv4 : vp_in (i4 + 4) Ln) (hq4 : xs (i4 + 4).toNatClampNeg = q4) (hv5 : vp_in (i4 + 5) Ln) (hq5 : xs (i4 + 5).toNatClampNeg = q5) (nc ns : Nat) (hnc : nc + 6 ≤ room_1.cells) (hns : ns + 36 ≤ room_1.slots) (h_g : pre_Lc5 d ou q1 q2 q3 q4) (kk : ZW p l e room_1 s m args below meth c 9 D (zTys cI cJ) A Q (nc + 6) (ns + 36) (wY cI cJ y (s_L_with_d d q1 ((q2.toUInt32 % 65536).toInt32) q3 q4) sy sm sd mi ti sL bL mD mT ((o, .inl (cJ, 1, .inr (.inl (s_L_with_ou d ou q1 ((q2.toUInt32 % 65536).toInt32) q3 q4)))) :: (wM cI cJ z (s_X3_with_co d q1 ((q2.toUInt32 % 65536).toInt32) q3 q4) (s_X3_with_d d q1 ((q2.toUInt32 % 65536).toInt32) q3 q4) ti sL bL mD mT (zw sy) (zw sm) (zw sd) (zw mi) (s_X3_with_yr d yr q1 ((q2.toUInt32 % 65536).toInt32) q3 q4) (s_X3_with_mo d mo q1 ((q2.toUInt32 % 65536).toInt32) q3 q4) (s_X3_with_dy d dy q1 ((q2.toUInt32 % 65536).toInt32) q3 q4) []))) 4233 [(4, .int i4), (3, .ref o), (2, .ref (z 0)), (1, .ref (y 0)), (0, .ref b)] []) : ZW p l e room_1 s m args below meth c 9 D (zTys cI cJ) A Q nc ns (wY cI cJ y d sy sm sd mi ti sL bL mD mT ((o, .inl (cJ, 1, .inr (.inl ou))) :: (wM cI cJ z co d ti sL bL mD mT (zw sy) (zw sm) (zw sd) (zw mi) yr mo dy []))) 661 [(4, .int i4), (3, .ref o), (2, .ref (z 0)), (1, .ref (y 0)), (0, .ref b)] [] := by
  obtain ⟨g_0, g_1, g_2, g_3⟩ := h_g
  refine z_aload_n C dL_law_661 rfl 3 rfl ?_
  refine z_aload_n C dL_law_662 rfl 4 rfl ?_
  refine z_iload C dL_law_663 0 rfl ?_
  refine z_iconst (v := 1) C dL_law_665 (by decide) ?_
  refine z_iadd C dL_law_666 ?_
  refine z_sld C hX hbl hbA hv1 dL_law_667 ?_
  refine z_eqst (st' := [.int q1, .ref (y 0)]) (congrArg (fun v => Value.int v :: _) hq1) ?_
  refine z_aload_n C dL_law_668 rfl 4 rfl ?_
  refine z_iload C dL_law_669 0 rfl ?_
  refine z_iconst (v := 2) C dL_law_671 (by decide) ?_
  refine z_iadd C dL_law_672 ?_
  refine z_sld C hX hbl hbA hv2 dL_law_673 ?_
  refine z_eqst (st' := [.int q2, .int q1, .ref (y 0)]) (congrArg (fun v => Value.int v :: _) hq2) ?_
  refine z_i2c (v := (q2.toUInt32 % 65536).toInt32) C dL_law_674 rfl ?_
  refine z_aload_n C dL_law_675 rfl 4 rfl ?_
  refine z_iload C dL_law_676 0 rfl ?_
  refine z_iconst (v := 3) C dL_law_678 (by decide) ?_
  refine z_iadd C dL_law_679 ?_
  refine z_sld C hX hbl hbA hv3 dL_law_680 ?_
  refine z_eqst (st' := [.int q3, .int ((q2.toUInt32 % 65536).toInt32), .int q1, .ref (y 0)]) (congrArg (fun v => Value.int v :: _) hq3) ?_
  refine z_aload_n C dL_law_681 rfl 4 rfl ?_
  refine z_iload C dL_law_682 0 rfl ?_
  refine z_iconst (v := 4) C dL_law_684 (by decide) ?_
  refine z_iadd C dL_law_685 ?_
  refine z_sld C hX hbl hbA hv4 dL_law_686 ?_
  refine z_eqst (st' := [.int q4, .int q3, .int ((q2.toUInt32 % 65536).toInt32), .int q1, .ref (y 0)]) (congrArg (fun v => Value.int v :: _) hq4) ?_
  refine z_aload_n C dL_law_687 rfl 1 rfl ?_
  refine z_siH (ws' := (wY cI cJ y (s_L_with_d d q1 ((q2.toUInt32 % 65536).toInt32) q3 q4) sy sm sd mi ti sL bL mD mT ((o, .inl (cJ, 1, .inr (.inl (s_L_with_ou d ou q1 ((q2.toUInt32 % 65536).toInt32) q3 q4)))) :: (wM cI cJ z co d ti sL bL mD mT (zw sy) (zw sm) (zw sd) (zw mi) yr mo dy [])))) C (rest := []) (c_L_with l hfl D cI cJ (wM cI cJ z co d ti sL bL mD mT (zw sy) (zw sm) (zw sd) (zw mi) yr mo dy []) y o d sy sm sd mi ti sL bL mD mT ou q1 ((q2.toUInt32 % 65536).toInt32) q3 q4 (g_0)) q_L_with gL_law_L_with ⟨rfl, rfl⟩ rfl rfl (Nat.le_of_ble_eq_true rfl) ⟨Nat.le_of_ble_eq_true rfl, Nat.le_of_ble_eq_true rfl⟩ ⟨Nat.le_trans (by omega) hnc, Nat.le_trans (by omega) hns⟩ dL_law_688 ?_
  refine z_istore (lv' := [(5, .int (f_L_with d q1 ((q2.toUInt32 % 65536).toInt32) q3 q4)), (4, .int i4), (3, .ref o), (2, .ref (z 0)), (1, .ref (y 0)), (0, .ref b)]) C dL_law_691 (by decide) rfl ?_
  refine z_aload_n C dL_law_693 rfl 3 rfl ?_
  refine z_aload_n C dL_law_694 rfl 5 rfl ?_
  refine z_iload C dL_law_695 1 rfl ?_
  refine z_iconst (v := 1) C dL_law_697 (by decide) ?_
  refine z_iadd C dL_law_698 ?_
  refine z_sld C hX hbl hbA hv1 dL_law_699 ?_
  refine z_eqst (st' := [.int q1, .ref (z 0)]) (congrArg (fun v => Value.int v :: _) hq1) ?_
  refine z_aload_n C dL_law_700 rfl 5 rfl ?_
  refine z_iload C dL_law_701 1 rfl ?_
  refine z_iconst (v := 2) C dL_law_703 (by decide) ?_
  refine z_iadd C dL_law_704 ?_
  refine z_sld C hX hbl hbA hv2 dL_law_705 ?_
  refine z_eqst (st' := [.int q2, .int q1, .ref (z 0)]) (congrArg (fun v => Value.int v :: _) hq2) ?_
  refine z_i2c (v := (q2.toUInt32 % 65536).toInt32) C dL_law_706 rfl ?_
  refine z_aload_n C dL_law_707 rfl 5 rfl ?_
  refine z_iload C dL_law_708 1 rfl ?_
  refine z_iconst (v := 3) C dL_law_710 (by decide) ?_
  refine z_iadd C dL_law_711 ?_
  refine z_sld C hX hbl hbA hv3 dL_law_712 ?_
  refine z_eqst (st' := [.int q3, .int ((q2.toUInt32 % 65536).toInt32), .int q1, .ref (z 0)]) (congrArg (fun v => Value.int v :: _) hq3) ?_
  refine z_aload_n C dL_law_713 rfl 5 rfl ?_
  refine z_iload C dL_law_714 1 rfl ?_
  refine z_iconst (v := 4) C dL_law_716 (by decide) ?_
  refine z_iadd C dL_law_717 ?_
  refine z_sld C hX hbl hbA hv4 dL_law_718 ?_
  refine z_eqst (st' := [.int q4, .int q3, .int ((q2.toUInt32 % 65536).toInt32), .int q1, .ref (z 0)]) (congrArg (fun v => Value.int v :: _) hq4) ?_
  refine z_ws (ws' := (wM cI cJ z co d ti sL bL mD mT (zw sy) (zw sm) (zw sd) (zw mi) yr mo dy (wY cI cJ y (s_L_with_d d q1 ((q2.toUInt32 % 65536).toInt32) q3 q4) sy sm sd mi ti sL bL mD mT [(o, .inl (cJ, 1, .inr (.inl (s_L_with_ou d ou q1 ((q2.toUInt32 % 65536).toInt32) q3 q4))))]))) [12, 13, 14, 15, 16, 17, 18, 19, 20, 21, 22, 0, 1, 2, 3, 4, 5, 6, 7, 8, 9, 10, 11] rfl (by decide) rfl ?_
  refine z_wl (ws' := (wM cI cJ z (s_X3_with_co d q1 ((q2.toUInt32 % 65536).toInt32) q3 q4) (s_X3_with_d d q1 ((q2.toUInt32 % 65536).toInt32) q3 q4) ti sL bL mD mT (zw sy) (zw sm) (zw sd) (zw mi) (s_X3_with_yr d yr q1 ((q2.toUInt32 % 65536).toInt32) q3 q4) (s_X3_with_mo d mo q1 ((q2.toUInt32 % 65536).toInt32) q3 q4) (s_X3_with_dy d dy q1 ((q2.toUInt32 % 65536).toInt32) q3 q4) (wY cI cJ y (s_L_with_d d q1 ((q2.toUInt32 % 65536).toInt32) q3 q4) sy sm sd mi ti sL bL mD mT [(o, .inl (cJ, 1, .inr (.inl (s_L_with_ou d ou q1 ((q2.toUInt32 % 65536).toInt32) q3 q4))))]))) (rest := []) (ci := 3) (q0 := 0) C (c_X3_with l hfl D cI cJ (wY cI cJ y (s_L_with_d d q1 ((q2.toUInt32 % 65536).toInt32) q3 q4) sy sm sd mi ti sL bL mD mT [(o, .inl (cJ, 1, .inr (.inl (s_L_with_ou d ou q1 ((q2.toUInt32 % 65536).toInt32) q3 q4))))]) z co d ti sL bL mD mT (zw sy) (zw sm) (zw sd) (zw mi) yr mo dy q1 ((q2.toUInt32 % 65536).toInt32) q3 q4 (g_1)) q_X3_with rfl rfl rfl gL_law_X3_with ⟨rfl, rfl⟩ rfl rfl (Nat.le_of_ble_eq_true rfl) ⟨Nat.le_of_ble_eq_true rfl, Nat.le_of_ble_eq_true rfl⟩ ⟨Nat.le_trans (by omega) hnc, Nat.le_trans (by omega) hns⟩ dL_law_719 ?_
  refine z_ws (ws' := (wY cI cJ y (s_L_with_d d q1 ((q2.toUInt32 % 65536).toInt32) q3 q4) sy sm sd mi ti sL bL mD mT ((o, .inl (cJ, 1, .inr (.inl (s_L_with_ou d ou q1 ((q2.toUInt32 % 65536).toInt32) q3 q4)))) :: (wM cI cJ z (s_X3_with_co d q1 ((q2.toUInt32 % 65536).toInt32) q3 q4) (s_X3_with_d d q1 ((q2.toUInt32 % 65536).toInt32) q3 q4) ti sL bL mD mT (zw sy) (zw sm) (zw sd) (zw mi) (s_X3_with_yr d yr q1 ((q2.toUInt32 % 65536).toInt32) q3 q4) (s_X3_with_mo d mo q1 ((q2.toUInt32 % 65536).toInt32) q3 q4) (s_X3_with_dy d dy q1 ((q2.toUInt32 % 65536).toInt32) q3 q4) [])))) [11, 12, 13, 14, 15, 16, 17, 18, 19, 20, 21, 22, 0, 1, 2, 3, 4, 5, 6, 7, 8, 9, 10] rfl (by decide) rfl ?_
  refine z_lstore (lv' := [(6, .long (f_X3_with d q1 ((q2.toUInt32 % 65536).toInt32) q3 q4)), (5, .int (f_L_with d q1 ((q2.toUInt32 % 65536).toInt32) q3 q4)), (4, .int i4), (3, .ref o), (2, .ref (z 0)), (1, .ref (y 0)), (0, .ref b)]) C dL_law_722 (by decide) rfl ?_
  refine z_aload_n C dL_law_724 rfl 4 rfl ?_
  refine z_ws (ws' := (wM cI cJ z (s_X3_with_co d q1 ((q2.toUInt32 % 65536).toInt32) q3 q4) (s_X3_with_d d q1 ((q2.toUInt32 % 65536).toInt32) q3 q4) ti sL bL mD mT (zw sy) (zw sm) (zw sd) (zw mi) (s_X3_with_yr d yr q1 ((q2.toUInt32 % 65536).toInt32) q3 q4) (s_X3_with_mo d mo q1 ((q2.toUInt32 % 65536).toInt32) q3 q4) (s_X3_with_dy d dy q1 ((q2.toUInt32 % 65536).toInt32) q3 q4) (wY cI cJ y (s_L_with_d d q1 ((q2.toUInt32 % 65536).toInt32) q3 q4) sy sm sd mi ti sL bL mD mT [(o, .inl (cJ, 1, .inr (.inl (s_L_with_ou d ou q1 ((q2.toUInt32 % 65536).toInt32) q3 q4))))]))) [12, 13, 14, 15, 16, 17, 18, 19, 20, 21, 22, 0, 1, 2, 3, 4, 5, 6, 7, 8, 9, 10, 11] rfl (by decide) rfl ?_
  refine z_wi (ws' := (wM cI cJ z (s_X3_with_co d q1 ((q2.toUInt32 % 65536).toInt32) q3 q4) (s_X3_with_d d q1 ((q2.toUInt32 % 65536).toInt32) q3 q4) ti sL bL mD mT (zw sy) (zw sm) (zw sd) (zw mi) (s_X3_with_yr d yr q1 ((q2.toUInt32 % 65536).toInt32) q3 q4) (s_X3_with_mo d mo q1 ((q2.toUInt32 % 65536).toInt32) q3 q4) (s_X3_with_dy d dy q1 ((q2.toUInt32 % 65536).toInt32) q3 q4) (wY cI cJ y (s_L_with_d d q1 ((q2.toUInt32 % 65536).toInt32) q3 q4) sy sm sd mi ti sL bL mD mT [(o, .inl (cJ, 1, .inr (.inl (s_L_with_ou d ou q1 ((q2.toUInt32 % 65536).toInt32) q3 q4))))]))) (rest := []) (ci := 3) (q0 := 0) C (c_X3_thrown l hfl D cI cJ (wY cI cJ y (s_L_with_d d q1 ((q2.toUInt32 % 65536).toInt32) q3 q4) sy sm sd mi ti sL bL mD mT [(o, .inl (cJ, 1, .inr (.inl (s_L_with_ou d ou q1 ((q2.toUInt32 % 65536).toInt32) q3 q4))))]) z (s_X3_with_co d q1 ((q2.toUInt32 % 65536).toInt32) q3 q4) (s_X3_with_d d q1 ((q2.toUInt32 % 65536).toInt32) q3 q4) ti sL bL mD mT (zw sy) (zw sm) (zw sd) (zw mi) (s_X3_with_yr d yr q1 ((q2.toUInt32 % 65536).toInt32) q3 q4) (s_X3_with_mo d mo q1 ((q2.toUInt32 % 65536).toInt32) q3 q4) (s_X3_with_dy d dy q1 ((q2.toUInt32 % 65536).toInt32) q3 q4)  ) q_X3_thrown rfl rfl rfl gL_law_X3_thrown ⟨rfl, rfl⟩ rfl rfl (Nat.le_of_ble_eq_true rfl) ⟨Nat.le_of_ble_eq_true rfl, Nat.le_of_ble_eq_true rfl⟩ ⟨Nat.le_trans (by omega) hnc, Nat.le_trans (by omega) hns⟩ dL_law_725 ?_
  refine z_ws (ws' := (wY cI cJ y (s_L_with_d d q1 ((q2.toUInt32 % 65536).toInt32) q3 q4) sy sm sd mi ti sL bL mD mT ((o, .inl (cJ, 1, .inr (.inl (s_L_with_ou d ou q1 ((q2.toUInt32 % 65536).toInt32) q3 q4)))) :: (wM cI cJ z (s_X3_with_co d q1 ((q2.toUInt32 % 65536).toInt32) q3 q4) (s_X3_with_d d q1 ((q2.toUInt32 % 65536).toInt32) q3 q4) ti sL bL mD mT (zw sy) (zw sm) (zw sd) (zw mi) (s_X3_with_yr d yr q1 ((q2.toUInt32 % 65536).toInt32) q3 q4) (s_X3_with_mo d mo q1 ((q2.toUInt32 % 65536).toInt32) q3 q4) (s_X3_with_dy d dy q1 ((q2.toUInt32 % 65536).toInt32) q3 q4) [])))) [11, 12, 13, 14, 15, 16, 17, 18, 19, 20, 21, 22, 0, 1, 2, 3, 4, 5, 6, 7, 8, 9, 10] rfl (by decide) rfl ?_
  refine z_iload C dL_law_728 1 rfl ?_
  refine z_icmp_eq (tgt := 735) C dL_law_730 (by decide) (fun _ => ?_) (fun h => absurd (g_2) h)
  refine z_iload C dL_law_735 1 rfl ?_
  refine z_if_ne (tgt := 751) C dL_law_737 (by decide) (fun h1 => ?_) (fun h1 => ?_)
  · refine z_goto (tgt := 4233) C dL_law_751 (by decide) ?_
    refine z_sub [2, 3, 4, 5, 6] rfl ?_
    exact z_widen (by omega) (by omega) kk
  · refine z_aload_n C dL_law_740 rfl 3 rfl ?_
    refine z_iconst (v := 0) C dL_law_741 (by decide) ?_
    refine z_lald C 11 1 rfl rfl (zvpl 0 1 (by decide)) dL_law_742 ?_
    refine z_eqst (st' := [.long ((s_L_with_ou d ou q1 ((q2.toUInt32 % 65536).toInt32) q3 q4) 0)]) rfl ?_
    refine z_lload C dL_law_743 0 rfl ?_
    refine z_lcmp_eq (tgt := 751) C dL_law_745 dL_law_746 (by decide) (fun _ => ?_) (fun h => absurd (g_3 h1) h)
    refine z_goto (tgt := 4233) C dL_law_751 (by decide) ?_
    refine z_sub [2, 3, 4, 5, 6] rfl ?_
    exact z_widen (by omega) (by omega) kk
def pre_Lc6 (d : Nat → Int64) (ou : Nat → Int64) (q1 : Int32) (q2 : Int32) (q3 : Int32) : Prop := ((pre_X3_adjust d q1 ((q2.toUInt32 % 65536).toInt32) q3)) ∧ (((s_X3_adjust_co d q1 ((q2.toUInt32 % 65536).toInt32) q3) = (f_L_adjust d q1 ((q2.toUInt32 % 65536).toInt32) q3))) ∧ (((f_L_adjust d q1 ((q2.toUInt32 % 65536).toInt32) q3) = 0) → (((s_L_adjust_ou d ou q1 ((q2.toUInt32 % 65536).toInt32) q3) 0) = (f_X3_adjust d q1 ((q2.toUInt32 % 65536).toInt32) q3)))
set_option maxHeartbeats 4000000 in
set_option maxRecDepth 100000 in
theorem law_c6 {p : Program} {l : Launch} {e : Env} {s : State} {m : MethodId} {args : Array Value} {below : List Frame} {meth : Method} {c : Code} {D : va_G} {cI cJ : ClassId} {A : Nat → Prop} {Q : State → Prop} {ret : Option FieldType} (C : ZC p l s m args meth c 9 D (zTys cI cJ) A cL_law wsL_law RL ret) (hfl : l.stackTraces = false) {b Ln : Nat} {xs : Nat → Int32} (hX : va_X b Ln xs s s.heap) (hbl : b < s.heap.size) (hbA : ¬ A b) (y z : Nat → Nat) (o : Nat) (d : Nat → Int64) (sy : Nat → Int32) (sm : Nat → Int32) (sd : Nat → Int32) (mi : Nat → Int32) (ti : Nat → Int64) (sL : Nat → Int64) (bL : Nat → Int64) (mD : Nat → Int64) (mT : Nat → Int64) (co : Int32) (yr : Int64) (mo : Int32) (dy : Int32) (ou : Nat → Int64) (q1 : Int32) (q2 : Int32) (q3 : Int32) (q4 : Int32) (q5 : Int32) (i4 : Int32) (hv1 : vp_in (i4 + 1) Ln) (hq1 : xs (i4 + 1).toNatClampNeg = q1) (hv2 : vp_in (i4 + 2) Ln) (hq2 : xs (i4 + 2).toNatClampNeg = q2) (hv3 : vp_in (i4 + 3) Ln) (hq3 : xs (i4 + 3).toNatClampNeg = q3) (hv4 : vp_in (i4 + 4) Ln) (hq4 : xs (i4 + 4).toNatClampNeg = q4) (hv5 : vp_in (i4 + 5) Ln) (hq5 : xs (i4 + 5).toNatClampNeg = q5) (nc ns : Nat) (hnc : nc + 6 ≤ room_1.cells) (hns : ns + 36 ≤ room_1.slots) (h_g : pre_Lc6 d ou q1 q2 q3) (kk : ZW p l e room_1 s m args below meth c 9 D (zTys cI cJ) A Q (nc + 6) (ns + 36) (wY cI cJ y (s_L_adjust_d d q1 ((q2.toUInt32 % 65536).toInt32) q3) sy sm sd mi ti sL bL mD mT ((o, .inl (cJ, 1, .inr (.inl (s_L_adjust_ou d ou q1 ((q2.toUInt32 % 65536).toInt32) q3)))) :: (wM cI cJ z (s_X3_adjust_co d q1 ((q2.toUInt32 % 65536).toInt32) q3) (s_X3_adjust_d d q1 ((q2.toUInt32 % 65536).toInt32) q3) ti sL bL mD mT (zw sy) (zw sm) (zw sd) (zw mi) (s_X3_adjust_yr d yr q1 ((q2.toUInt32 % 65536).toInt32) q3) (s_X3_adjust_mo d mo q1 ((q2.toUInt32 % 65536).toInt32) q3) (s_X3_adjust_dy d dy q1 ((q2.toUInt32 % 65536).toInt32) q3) []))) 4233 [(4, .int i4), (3, .ref o), (2, .ref (z 0)), (1, .ref (y 0)), (0, .ref b)] []) : ZW p l e room_1 s m args below meth c 9 D (zTys cI cJ) A Q nc ns (wY cI cJ y d sy sm sd mi ti sL bL mD mT ((o, .inl (cJ, 1, .inr (.inl ou))) :: (wM cI cJ z co d ti sL bL mD mT (zw sy) (zw sm) (zw sd) (zw mi) yr mo dy []))) 754 [(4, .int i4), (3, .ref o), (2, .ref (z 0)), (1, .ref (y 0)), (0, .ref b)] [] := by
  obtain ⟨g_0, g_1, g_2⟩ := h_g
  refine z_aload_n C dL_law_754 rfl 3 rfl ?_
  refine z_aload_n C dL_law_755 rfl 4 rfl ?_
  refine z_iload C dL_law_756 0 rfl ?_
  refine z_iconst (v := 1) C dL_law_758 (by decide) ?_
  refine z_iadd C dL_law_759 ?_
  refine z_sld C hX hbl hbA hv1 dL_law_760 ?_
  refine z_eqst (st' := [.int q1, .ref (y 0)]) (congrArg (fun v => Value.int v :: _) hq1) ?_
  refine z_aload_n C dL_law_761 rfl 4 rfl ?_
  refine z_iload C dL_law_762 0 rfl ?_
  refine z_iconst (v := 2) C dL_law_764 (by decide) ?_
  refine z_iadd C dL_law_765 ?_
  refine z_sld C hX hbl hbA hv2 dL_law_766 ?_
  refine z_eqst (st' := [.int q2, .int q1, .ref (y 0)]) (congrArg (fun v => Value.int v :: _) hq2) ?_
  refine z_i2c (v := (q2.toUInt32 % 65536).toInt32) C dL_law_767 rfl ?_
  refine z_aload_n C dL_law_768 rfl 4 rfl ?_
  refine z_iload C dL_law_769 0 rfl ?_
  refine z_iconst (v := 3) C dL_law_771 (by decide) ?_
  refine z_iadd C dL_law_772 ?_
  refine z_sld C hX hbl hbA hv3 dL_law_773 ?_
  refine z_eqst (st' := [.int q3, .int ((q2.toUInt32 % 65536).toInt32), .int q1, .ref (y 0)]) (congrArg (fun v => Value.int v :: _) hq3) ?_
  refine z_aload_n C dL_law_774 rfl 1 rfl ?_
  refine z_siH (ws' := (wY cI cJ y (s_L_adjust_d d q1 ((q2.toUInt32 % 65536).toInt32) q3) sy sm sd mi ti sL bL mD mT ((o, .inl (cJ, 1, .inr (.inl (s_L_adjust_ou d ou q1 ((q2.toUInt32 % 65536).toInt32) q3)))) :: (wM cI cJ z co d ti sL bL mD mT (zw sy) (zw sm) (zw sd) (zw mi) yr mo dy [])))) C (rest := []) (c_L_adjust l hfl D cI cJ (wM cI cJ z co d ti sL bL mD mT (zw sy) (zw sm) (zw sd) (zw mi) yr mo dy []) y o d sy sm sd mi ti sL bL mD mT ou q1 ((q2.toUInt32 % 65536).toInt32) q3 ) q_L_adjust gL_law_L_adjust ⟨rfl, rfl⟩ rfl rfl (Nat.le_of_ble_eq_true rfl) ⟨Nat.le_of_ble_eq_true rfl, Nat.le_of_ble_eq_true rfl⟩ ⟨Nat.le_trans (by omega) hnc, Nat.le_trans (by omega) hns⟩ dL_law_775 ?_
  refine z_istore (lv' := [(5, .int (f_L_adjust d q1 ((q2.toUInt32 % 65536).toInt32) q3)), (4, .int i4), (3, .ref o), (2, .ref (z 0)), (1, .ref (y 0)), (0, .ref b)]) C dL_law_778 (by decide) rfl ?_
  refine z_aload_n C dL_law_780 rfl 3 rfl ?_
  refine z_aload_n C dL_law_781 rfl 5 rfl ?_
  refine z_iload C dL_law_782 1 rfl ?_
  refine z_iconst (v := 1) C dL_law_784 (by decide) ?_
  refine z_iadd C dL_law_785 ?_
  refine z_sld C hX hbl hbA hv1 dL_law_786 ?_
  refine z_eqst (st' := [.int q1, .ref (z 0)]) (congrArg (fun v => Value.int v :: _) hq1) ?_
  refine z_aload_n C dL_law_787 rfl 5 rfl ?_
  refine z_iload C dL_law_788 1 rfl ?_
  refine z_iconst (v := 2) C dL_law_790 (by decide) ?_
  refine z_iadd C dL_law_791 ?_
  refine z_sld C hX hbl hbA hv2 dL_law_792 ?_
  refine z_eqst (st' := [.int q2, .int q1, .ref (z 0)]) (congrArg (fun v => Value.int v :: _) hq2) ?_
  refine z_i2c (v := (q2.toUInt32 % 65536).toInt32) C dL_law_793 rfl ?_
  refine z_aload_n C dL_law_794 rfl 5 rfl ?_
  refine z_iload C dL_law_795 1 rfl ?_
  refine z_iconst (v := 3) C dL_law_797 (by decide) ?_
  refine z_iadd C dL_law_798 ?_
  refine z_sld C hX hbl hbA hv3 dL_law_799 ?_
  refine z_eqst (st' := [.int q3, .int ((q2.toUInt32 % 65536).toInt32), .int q1, .ref (z 0)]) (congrArg (fun v => Value.int v :: _) hq3) ?_
  refine z_ws (ws' := (wM cI cJ z co d ti sL bL mD mT (zw sy) (zw sm) (zw sd) (zw mi) yr mo dy (wY cI cJ y (s_L_adjust_d d q1 ((q2.toUInt32 % 65536).toInt32) q3) sy sm sd mi ti sL bL mD mT [(o, .inl (cJ, 1, .inr (.inl (s_L_adjust_ou d ou q1 ((q2.toUInt32 % 65536).toInt32) q3))))]))) [12, 13, 14, 15, 16, 17, 18, 19, 20, 21, 22, 0, 1, 2, 3, 4, 5, 6, 7, 8, 9, 10, 11] rfl (by decide) rfl ?_
  refine z_wl (ws' := (wM cI cJ z (s_X3_adjust_co d q1 ((q2.toUInt32 % 65536).toInt32) q3) (s_X3_adjust_d d q1 ((q2.toUInt32 % 65536).toInt32) q3) ti sL bL mD mT (zw sy) (zw sm) (zw sd) (zw mi) (s_X3_adjust_yr d yr q1 ((q2.toUInt32 % 65536).toInt32) q3) (s_X3_adjust_mo d mo q1 ((q2.toUInt32 % 65536).toInt32) q3) (s_X3_adjust_dy d dy q1 ((q2.toUInt32 % 65536).toInt32) q3) (wY cI cJ y (s_L_adjust_d d q1 ((q2.toUInt32 % 65536).toInt32) q3) sy sm sd mi ti sL bL mD mT [(o, .inl (cJ, 1, .inr (.inl (s_L_adjust_ou d ou q1 ((q2.toUInt32 % 65536).toInt32) q3))))]))) (rest := []) (ci := 3) (q0 := 0) C (c_X3_adjust l hfl D cI cJ (wY cI cJ y (s_L_adjust_d d q1 ((q2.toUInt32 % 65536).toInt32) q3) sy sm sd mi ti sL bL mD mT [(o, .inl (cJ, 1, .inr (.inl (s_L_adjust_ou d ou q1 ((q2.toUInt32 % 65536).toInt32) q3))))]) z co d ti sL bL mD mT (zw sy) (zw sm) (zw sd) (zw mi) yr mo dy q1 ((q2.toUInt32 % 65536).toInt32) q3 (g_0)) q_X3_adjust rfl rfl rfl gL_law_X3_adjust ⟨rfl, rfl⟩ rfl rfl (Nat.le_of_ble_eq_true rfl) ⟨Nat.le_of_ble_eq_true rfl, Nat.le_of_ble_eq_true rfl⟩ ⟨Nat.le_trans (by omega) hnc, Nat.le_trans (by omega) hns⟩ dL_law_800 ?_
  refine z_ws (ws' := (wY cI cJ y (s_L_adjust_d d q1 ((q2.toUInt32 % 65536).toInt32) q3) sy sm sd mi ti sL bL mD mT ((o, .inl (cJ, 1, .inr (.inl (s_L_adjust_ou d ou q1 ((q2.toUInt32 % 65536).toInt32) q3)))) :: (wM cI cJ z (s_X3_adjust_co d q1 ((q2.toUInt32 % 65536).toInt32) q3) (s_X3_adjust_d d q1 ((q2.toUInt32 % 65536).toInt32) q3) ti sL bL mD mT (zw sy) (zw sm) (zw sd) (zw mi) (s_X3_adjust_yr d yr q1 ((q2.toUInt32 % 65536).toInt32) q3) (s_X3_adjust_mo d mo q1 ((q2.toUInt32 % 65536).toInt32) q3) (s_X3_adjust_dy d dy q1 ((q2.toUInt32 % 65536).toInt32) q3) [])))) [11, 12, 13, 14, 15, 16, 17, 18, 19, 20, 21, 22, 0, 1, 2, 3, 4, 5, 6, 7, 8, 9, 10] rfl (by decide) rfl ?_
  refine z_lstore (lv' := [(6, .long (f_X3_adjust d q1 ((q2.toUInt32 % 65536).toInt32) q3)), (5, .int (f_L_adjust d q1 ((q2.toUInt32 % 65536).toInt32) q3)), (4, .int i4), (3, .ref o), (2, .ref (z 0)), (1, .ref (y 0)), (0, .ref b)]) C dL_law_803 (by decide) rfl ?_
  refine z_aload_n C dL_law_805 rfl 4 rfl ?_
  refine z_ws (ws' := (wM cI cJ z (s_X3_adjust_co d q1 ((q2.toUInt32 % 65536).toInt32) q3) (s_X3_adjust_d d q1 ((q2.toUInt32 % 65536).toInt32) q3) ti sL bL mD mT (zw sy) (zw sm) (zw sd) (zw mi) (s_X3_adjust_yr d yr q1 ((q2.toUInt32 % 65536).toInt32) q3) (s_X3_adjust_mo d mo q1 ((q2.toUInt32 % 65536).toInt32) q3) (s_X3_adjust_dy d dy q1 ((q2.toUInt32 % 65536).toInt32) q3) (wY cI cJ y (s_L_adjust_d d q1 ((q2.toUInt32 % 65536).toInt32) q3) sy sm sd mi ti sL bL mD mT [(o, .inl (cJ, 1, .inr (.inl (s_L_adjust_ou d ou q1 ((q2.toUInt32 % 65536).toInt32) q3))))]))) [12, 13, 14, 15, 16, 17, 18, 19, 20, 21, 22, 0, 1, 2, 3, 4, 5, 6, 7, 8, 9, 10, 11] rfl (by decide) rfl ?_
  refine z_wi (ws' := (wM cI cJ z (s_X3_adjust_co d q1 ((q2.toUInt32 % 65536).toInt32) q3) (s_X3_adjust_d d q1 ((q2.toUInt32 % 65536).toInt32) q3) ti sL bL mD mT (zw sy) (zw sm) (zw sd) (zw mi) (s_X3_adjust_yr d yr q1 ((q2.toUInt32 % 65536).toInt32) q3) (s_X3_adjust_mo d mo q1 ((q2.toUInt32 % 65536).toInt32) q3) (s_X3_adjust_dy d dy q1 ((q2.toUInt32 % 65536).toInt32) q3) (wY cI cJ y (s_L_adjust_d d q1 ((q2.toUInt32 % 65536).toInt32) q3) sy sm sd mi ti sL bL mD mT [(o, .inl (cJ, 1, .inr (.inl (s_L_adjust_ou d ou q1 ((q2.toUInt32 % 65536).toInt32) q3))))]))) (rest := []) (ci := 3) (q0 := 0) C (c_X3_thrown l hfl D cI cJ (wY cI cJ y (s_L_adjust_d d q1 ((q2.toUInt32 % 65536).toInt32) q3) sy sm sd mi ti sL bL mD mT [(o, .inl (cJ, 1, .inr (.inl (s_L_adjust_ou d ou q1 ((q2.toUInt32 % 65536).toInt32) q3))))]) z (s_X3_adjust_co d q1 ((q2.toUInt32 % 65536).toInt32) q3) (s_X3_adjust_d d q1 ((q2.toUInt32 % 65536).toInt32) q3) ti sL bL mD mT (zw sy) (zw sm) (zw sd) (zw mi) (s_X3_adjust_yr d yr q1 ((q2.toUInt32 % 65536).toInt32) q3) (s_X3_adjust_mo d mo q1 ((q2.toUInt32 % 65536).toInt32) q3) (s_X3_adjust_dy d dy q1 ((q2.toUInt32 % 65536).toInt32) q3)  ) q_X3_thrown rfl rfl rfl gL_law_X3_thrown ⟨rfl, rfl⟩ rfl rfl (Nat.le_of_ble_eq_true rfl) ⟨Nat.le_of_ble_eq_true rfl, Nat.le_of_ble_eq_true rfl⟩ ⟨Nat.le_trans (by omega) hnc, Nat.le_trans (by omega) hns⟩ dL_law_806 ?_
  refine z_ws (ws' := (wY cI cJ y (s_L_adjust_d d q1 ((q2.toUInt32 % 65536).toInt32) q3) sy sm sd mi ti sL bL mD mT ((o, .inl (cJ, 1, .inr (.inl (s_L_adjust_ou d ou q1 ((q2.toUInt32 % 65536).toInt32) q3)))) :: (wM cI cJ z (s_X3_adjust_co d q1 ((q2.toUInt32 % 65536).toInt32) q3) (s_X3_adjust_d d q1 ((q2.toUInt32 % 65536).toInt32) q3) ti sL bL mD mT (zw sy) (zw sm) (zw sd) (zw mi) (s_X3_adjust_yr d yr q1 ((q2.toUInt32 % 65536).toInt32) q3) (s_X3_adjust_mo d mo q1 ((q2.toUInt32 % 65536).toInt32) q3) (s_X3_adjust_dy d dy q1 ((q2.toUInt32 % 65536).toInt32) q3) [])))) [11, 12, 13, 14, 15, 16, 17, 18, 19, 20, 21, 22, 0, 1, 2, 3, 4, 5, 6, 7, 8, 9, 10] rfl (by decide) rfl ?_
  refine z_iload C dL_law_809 1 rfl ?_
  refine z_icmp_eq (tgt := 816) C dL_law_811 (by decide) (fun _ => ?_) (fun h => absurd (g_1) h)
  refine z_iload C dL_law_816 1 rfl ?_
  refine z_if_ne (tgt := 832) C dL_law_818 (by decide) (fun h1 => ?_) (fun h1 => ?_)
  · refine z_goto (tgt := 4233) C dL_law_832 (by decide) ?_
    refine z_sub [2, 3, 4, 5, 6] rfl ?_
    exact z_widen (by omega) (by omega) kk
  · refine z_aload_n C dL_law_821 rfl 3 rfl ?_
    refine z_iconst (v := 0) C dL_law_822 (by decide) ?_
    refine z_lald C 11 1 rfl rfl (zvpl 0 1 (by decide)) dL_law_823 ?_
    refine z_eqst (st' := [.long ((s_L_adjust_ou d ou q1 ((q2.toUInt32 % 65536).toInt32) q3) 0)]) rfl ?_
    refine z_lload C dL_law_824 0 rfl ?_
    refine z_lcmp_eq (tgt := 832) C dL_law_826 dL_law_827 (by decide) (fun _ => ?_) (fun h => absurd (g_2 h1) h)
    refine z_goto (tgt := 4233) C dL_law_832 (by decide) ?_
    refine z_sub [2, 3, 4, 5, 6] rfl ?_
    exact z_widen (by omega) (by omega) kk
def pre_Lc7 (d : Nat → Int64) (ou : Nat → Int64) (q1 : Int32) (q2 : Int32) (q3 : Int32) (q4 : Int32) : Prop := ((pre_X3_weekday d q1 ((q2.toUInt32 % 65536).toInt32) q3 q4)) ∧ (((s_X3_weekday_co d q1 ((q2.toUInt32 % 65536).toInt32) q3 q4) = (f_L_weekday d q1 ((q2.toUInt32 % 65536).toInt32) q3 q4))) ∧ (((f_L_weekday d q1 ((q2.toUInt32 % 65536).toInt32) q3 q4) = 0) → (((s_L_weekday_ou d ou q1 ((q2.toUInt32 % 65536).toInt32) q3 q4) 0) = (f_X3_weekday d q1 ((q2.toUInt32 % 65536).toInt32) q3 q4)))
set_option maxHeartbeats 4000000 in
set_option maxRecDepth 100000 in
theorem law_c7 {p : Program} {l : Launch} {e : Env} {s : State} {m : MethodId} {args : Array Value} {below : List Frame} {meth : Method} {c : Code} {D : va_G} {cI cJ : ClassId} {A : Nat → Prop} {Q : State → Prop} {ret : Option FieldType} (C : ZC p l s m args meth c 9 D (zTys cI cJ) A cL_law wsL_law RL ret) (hfl : l.stackTraces = false) {b Ln : Nat} {xs : Nat → Int32} (hX : va_X b Ln xs s s.heap) (hbl : b < s.heap.size) (hbA : ¬ A b) (y z : Nat → Nat) (o : Nat) (d : Nat → Int64) (sy : Nat → Int32) (sm : Nat → Int32) (sd : Nat → Int32) (mi : Nat → Int32) (ti : Nat → Int64) (sL : Nat → Int64) (bL : Nat → Int64) (mD : Nat → Int64) (mT : Nat → Int64) (co : Int32) (yr : Int64) (mo : Int32) (dy : Int32) (ou : Nat → Int64) (q1 : Int32) (q2 : Int32) (q3 : Int32) (q4 : Int32) (q5 : Int32) (i4 : Int32) (hv1 : vp_in (i4 + 1) Ln) (hq1 : xs (i4 + 1).toNatClampNeg = q1) (hv2 : vp_in (i4 + 2) Ln) (hq2 : xs (i4 + 2).toNatClampNeg = q2) (hv3 : vp_in (i4 + 3) Ln) (hq3 : xs (i4 + 3).toNatClampNeg = q3) (hv4 : vp_in (i4 + 4) Ln) (hq4 : xs (i4 + 4).toNatClampNeg = q4) (hv5 : vp_in (i4 + 5) Ln) (hq5 : xs (i4 + 5).toNatClampNeg = q5) (nc ns : Nat) (hnc : nc + 6 ≤ room_1.cells) (hns : ns + 36 ≤ room_1.slots) (h_g : pre_Lc7 d ou q1 q2 q3 q4) (kk : ZW p l e room_1 s m args below meth c 9 D (zTys cI cJ) A Q (nc + 6) (ns + 36) (wY cI cJ y (s_L_weekday_d d q1 ((q2.toUInt32 % 65536).toInt32) q3 q4) sy sm sd mi ti sL bL mD mT ((o, .inl (cJ, 1, .inr (.inl (s_L_weekday_ou d ou q1 ((q2.toUInt32 % 65536).toInt32) q3 q4)))) :: (wM cI cJ z (s_X3_weekday_co d q1 ((q2.toUInt32 % 65536).toInt32) q3 q4) (s_X3_weekday_d d q1 ((q2.toUInt32 % 65536).toInt32) q3 q4) ti sL bL mD mT (zw sy) (zw sm) (zw sd) (zw mi) (s_X3_weekday_yr d yr q1 ((q2.toUInt32 % 65536).toInt32) q3 q4) (s_X3_weekday_mo d mo q1 ((q2.toUInt32 % 65536).toInt32) q3 q4) (s_X3_weekday_dy d dy q1 ((q2.toUInt32 % 65536).toInt32) q3 q4) []))) 4233 [(4, .int i4), (3, .ref o), (2, .ref (z 0)), (1, .ref (y 0)), (0, .ref b)] []) : ZW p l e room_1 s m args below meth c 9 D (zTys cI cJ) A Q nc ns (wY cI cJ y d sy sm sd mi ti sL bL mD mT ((o, .inl (cJ, 1, .inr (.inl ou))) :: (wM cI cJ z co d ti sL bL mD mT (zw sy) (zw sm) (zw sd) (zw mi) yr mo dy []))) 835 [(4, .int i4), (3, .ref o), (2, .ref (z 0)), (1, .ref (y 0)), (0, .ref b)] [] := by
  obtain ⟨g_0, g_1, g_2⟩ := h_g
  refine z_aload_n C dL_law_835 rfl 3 rfl ?_
  refine z_aload_n C dL_law_836 rfl 4 rfl ?_
  refine z_iload C dL_law_837 0 rfl ?_
  refine z_iconst (v := 1) C dL_law_839 (by decide) ?_
  refine z_iadd C dL_law_840 ?_
  refine z_sld C hX hbl hbA hv1 dL_law_841 ?_
  refine z_eqst (st' := [.int q1, .ref (y 0)]) (congrArg (fun v => Value.int v :: _) hq1) ?_
  refine z_aload_n C dL_law_842 rfl 4 rfl ?_
  refine z_iload C dL_law_843 0 rfl ?_
  refine z_iconst (v := 2) C dL_law_845 (by decide) ?_
  refine z_iadd C dL_law_846 ?_
  refine z_sld C hX hbl hbA hv2 dL_law_847 ?_
  refine z_eqst (st' := [.int q2, .int q1, .ref (y 0)]) (congrArg (fun v => Value.int v :: _) hq2) ?_
  refine z_i2c (v := (q2.toUInt32 % 65536).toInt32) C dL_law_848 rfl ?_
  refine z_aload_n C dL_law_849 rfl 4 rfl ?_
  refine z_iload C dL_law_850 0 rfl ?_
  refine z_iconst (v := 3) C dL_law_852 (by decide) ?_
  refine z_iadd C dL_law_853 ?_
  refine z_sld C hX hbl hbA hv3 dL_law_854 ?_
  refine z_eqst (st' := [.int q3, .int ((q2.toUInt32 % 65536).toInt32), .int q1, .ref (y 0)]) (congrArg (fun v => Value.int v :: _) hq3) ?_
  refine z_aload_n C dL_law_855 rfl 4 rfl ?_
  refine z_iload C dL_law_856 0 rfl ?_
  refine z_iconst (v := 4) C dL_law_858 (by decide) ?_
  refine z_iadd C dL_law_859 ?_
  refine z_sld C hX hbl hbA hv4 dL_law_860 ?_
  refine z_eqst (st' := [.int q4, .int q3, .int ((q2.toUInt32 % 65536).toInt32), .int q1, .ref (y 0)]) (congrArg (fun v => Value.int v :: _) hq4) ?_
  refine z_aload_n C dL_law_861 rfl 1 rfl ?_
  refine z_siH (ws' := (wY cI cJ y (s_L_weekday_d d q1 ((q2.toUInt32 % 65536).toInt32) q3 q4) sy sm sd mi ti sL bL mD mT ((o, .inl (cJ, 1, .inr (.inl (s_L_weekday_ou d ou q1 ((q2.toUInt32 % 65536).toInt32) q3 q4)))) :: (wM cI cJ z co d ti sL bL mD mT (zw sy) (zw sm) (zw sd) (zw mi) yr mo dy [])))) C (rest := []) (c_L_weekday l hfl D cI cJ (wM cI cJ z co d ti sL bL mD mT (zw sy) (zw sm) (zw sd) (zw mi) yr mo dy []) y o d sy sm sd mi ti sL bL mD mT ou q1 ((q2.toUInt32 % 65536).toInt32) q3 q4 ) q_L_weekday gL_law_L_weekday ⟨rfl, rfl⟩ rfl rfl (Nat.le_of_ble_eq_true rfl) ⟨Nat.le_of_ble_eq_true rfl, Nat.le_of_ble_eq_true rfl⟩ ⟨Nat.le_trans (by omega) hnc, Nat.le_trans (by omega) hns⟩ dL_law_862 ?_
  refine z_istore (lv' := [(5, .int (f_L_weekday d q1 ((q2.toUInt32 % 65536).toInt32) q3 q4)), (4, .int i4), (3, .ref o), (2, .ref (z 0)), (1, .ref (y 0)), (0, .ref b)]) C dL_law_865 (by decide) rfl ?_
  refine z_aload_n C dL_law_867 rfl 3 rfl ?_
  refine z_aload_n C dL_law_868 rfl 5 rfl ?_
  refine z_iload C dL_law_869 1 rfl ?_
  refine z_iconst (v := 1) C dL_law_871 (by decide) ?_
  refine z_iadd C dL_law_872 ?_
  refine z_sld C hX hbl hbA hv1 dL_law_873 ?_
  refine z_eqst (st' := [.int q1, .ref (z 0)]) (congrArg (fun v => Value.int v :: _) hq1) ?_
  refine z_aload_n C dL_law_874 rfl 5 rfl ?_
  refine z_iload C dL_law_875 1 rfl ?_
  refine z_iconst (v := 2) C dL_law_877 (by decide) ?_
  refine z_iadd C dL_law_878 ?_
  refine z_sld C hX hbl hbA hv2 dL_law_879 ?_
  refine z_eqst (st' := [.int q2, .int q1, .ref (z 0)]) (congrArg (fun v => Value.int v :: _) hq2) ?_
  refine z_i2c (v := (q2.toUInt32 % 65536).toInt32) C dL_law_880 rfl ?_
  refine z_aload_n C dL_law_881 rfl 5 rfl ?_
  refine z_iload C dL_law_882 1 rfl ?_
  refine z_iconst (v := 3) C dL_law_884 (by decide) ?_
  refine z_iadd C dL_law_885 ?_
  refine z_sld C hX hbl hbA hv3 dL_law_886 ?_
  refine z_eqst (st' := [.int q3, .int ((q2.toUInt32 % 65536).toInt32), .int q1, .ref (z 0)]) (congrArg (fun v => Value.int v :: _) hq3) ?_
  refine z_aload_n C dL_law_887 rfl 5 rfl ?_
  refine z_iload C dL_law_888 1 rfl ?_
  refine z_iconst (v := 4) C dL_law_890 (by decide) ?_
  refine z_iadd C dL_law_891 ?_
  refine z_sld C hX hbl hbA hv4 dL_law_892 ?_
  refine z_eqst (st' := [.int q4, .int q3, .int ((q2.toUInt32 % 65536).toInt32), .int q1, .ref (z 0)]) (congrArg (fun v => Value.int v :: _) hq4) ?_
  refine z_ws (ws' := (wM cI cJ z co d ti sL bL mD mT (zw sy) (zw sm) (zw sd) (zw mi) yr mo dy (wY cI cJ y (s_L_weekday_d d q1 ((q2.toUInt32 % 65536).toInt32) q3 q4) sy sm sd mi ti sL bL mD mT [(o, .inl (cJ, 1, .inr (.inl (s_L_weekday_ou d ou q1 ((q2.toUInt32 % 65536).toInt32) q3 q4))))]))) [12, 13, 14, 15, 16, 17, 18, 19, 20, 21, 22, 0, 1, 2, 3, 4, 5, 6, 7, 8, 9, 10, 11] rfl (by decide) rfl ?_
  refine z_wl (ws' := (wM cI cJ z (s_X3_weekday_co d q1 ((q2.toUInt32 % 65536).toInt32) q3 q4) (s_X3_weekday_d d q1 ((q2.toUInt32 % 65536).toInt32) q3 q4) ti sL bL mD mT (zw sy) (zw sm) (zw sd) (zw mi) (s_X3_weekday_yr d yr q1 ((q2.toUInt32 % 65536).toInt32) q3 q4) (s_X3_weekday_mo d mo q1 ((q2.toUInt32 % 65536).toInt32) q3 q4) (s_X3_weekday_dy d dy q1 ((q2.toUInt32 % 65536).toInt32) q3 q4) (wY cI cJ y (s_L_weekday_d d q1 ((q2.toUInt32 % 65536).toInt32) q3 q4) sy sm sd mi ti sL bL mD mT [(o, .inl (cJ, 1, .inr (.inl (s_L_weekday_ou d ou q1 ((q2.toUInt32 % 65536).toInt32) q3 q4))))]))) (rest := []) (ci := 3) (q0 := 0) C (c_X3_weekday l hfl D cI cJ (wY cI cJ y (s_L_weekday_d d q1 ((q2.toUInt32 % 65536).toInt32) q3 q4) sy sm sd mi ti sL bL mD mT [(o, .inl (cJ, 1, .inr (.inl (s_L_weekday_ou d ou q1 ((q2.toUInt32 % 65536).toInt32) q3 q4))))]) z co d ti sL bL mD mT (zw sy) (zw sm) (zw sd) (zw mi) yr mo dy q1 ((q2.toUInt32 % 65536).toInt32) q3 q4 (g_0)) q_X3_weekday rfl rfl rfl gL_law_X3_weekday ⟨rfl, rfl⟩ rfl rfl (Nat.le_of_ble_eq_true rfl) ⟨Nat.le_of_ble_eq_true rfl, Nat.le_of_ble_eq_true rfl⟩ ⟨Nat.le_trans (by omega) hnc, Nat.le_trans (by omega) hns⟩ dL_law_893 ?_
  refine z_ws (ws' := (wY cI cJ y (s_L_weekday_d d q1 ((q2.toUInt32 % 65536).toInt32) q3 q4) sy sm sd mi ti sL bL mD mT ((o, .inl (cJ, 1, .inr (.inl (s_L_weekday_ou d ou q1 ((q2.toUInt32 % 65536).toInt32) q3 q4)))) :: (wM cI cJ z (s_X3_weekday_co d q1 ((q2.toUInt32 % 65536).toInt32) q3 q4) (s_X3_weekday_d d q1 ((q2.toUInt32 % 65536).toInt32) q3 q4) ti sL bL mD mT (zw sy) (zw sm) (zw sd) (zw mi) (s_X3_weekday_yr d yr q1 ((q2.toUInt32 % 65536).toInt32) q3 q4) (s_X3_weekday_mo d mo q1 ((q2.toUInt32 % 65536).toInt32) q3 q4) (s_X3_weekday_dy d dy q1 ((q2.toUInt32 % 65536).toInt32) q3 q4) [])))) [11, 12, 13, 14, 15, 16, 17, 18, 19, 20, 21, 22, 0, 1, 2, 3, 4, 5, 6, 7, 8, 9, 10] rfl (by decide) rfl ?_
  refine z_lstore (lv' := [(6, .long (f_X3_weekday d q1 ((q2.toUInt32 % 65536).toInt32) q3 q4)), (5, .int (f_L_weekday d q1 ((q2.toUInt32 % 65536).toInt32) q3 q4)), (4, .int i4), (3, .ref o), (2, .ref (z 0)), (1, .ref (y 0)), (0, .ref b)]) C dL_law_896 (by decide) rfl ?_
  refine z_aload_n C dL_law_898 rfl 4 rfl ?_
  refine z_ws (ws' := (wM cI cJ z (s_X3_weekday_co d q1 ((q2.toUInt32 % 65536).toInt32) q3 q4) (s_X3_weekday_d d q1 ((q2.toUInt32 % 65536).toInt32) q3 q4) ti sL bL mD mT (zw sy) (zw sm) (zw sd) (zw mi) (s_X3_weekday_yr d yr q1 ((q2.toUInt32 % 65536).toInt32) q3 q4) (s_X3_weekday_mo d mo q1 ((q2.toUInt32 % 65536).toInt32) q3 q4) (s_X3_weekday_dy d dy q1 ((q2.toUInt32 % 65536).toInt32) q3 q4) (wY cI cJ y (s_L_weekday_d d q1 ((q2.toUInt32 % 65536).toInt32) q3 q4) sy sm sd mi ti sL bL mD mT [(o, .inl (cJ, 1, .inr (.inl (s_L_weekday_ou d ou q1 ((q2.toUInt32 % 65536).toInt32) q3 q4))))]))) [12, 13, 14, 15, 16, 17, 18, 19, 20, 21, 22, 0, 1, 2, 3, 4, 5, 6, 7, 8, 9, 10, 11] rfl (by decide) rfl ?_
  refine z_wi (ws' := (wM cI cJ z (s_X3_weekday_co d q1 ((q2.toUInt32 % 65536).toInt32) q3 q4) (s_X3_weekday_d d q1 ((q2.toUInt32 % 65536).toInt32) q3 q4) ti sL bL mD mT (zw sy) (zw sm) (zw sd) (zw mi) (s_X3_weekday_yr d yr q1 ((q2.toUInt32 % 65536).toInt32) q3 q4) (s_X3_weekday_mo d mo q1 ((q2.toUInt32 % 65536).toInt32) q3 q4) (s_X3_weekday_dy d dy q1 ((q2.toUInt32 % 65536).toInt32) q3 q4) (wY cI cJ y (s_L_weekday_d d q1 ((q2.toUInt32 % 65536).toInt32) q3 q4) sy sm sd mi ti sL bL mD mT [(o, .inl (cJ, 1, .inr (.inl (s_L_weekday_ou d ou q1 ((q2.toUInt32 % 65536).toInt32) q3 q4))))]))) (rest := []) (ci := 3) (q0 := 0) C (c_X3_thrown l hfl D cI cJ (wY cI cJ y (s_L_weekday_d d q1 ((q2.toUInt32 % 65536).toInt32) q3 q4) sy sm sd mi ti sL bL mD mT [(o, .inl (cJ, 1, .inr (.inl (s_L_weekday_ou d ou q1 ((q2.toUInt32 % 65536).toInt32) q3 q4))))]) z (s_X3_weekday_co d q1 ((q2.toUInt32 % 65536).toInt32) q3 q4) (s_X3_weekday_d d q1 ((q2.toUInt32 % 65536).toInt32) q3 q4) ti sL bL mD mT (zw sy) (zw sm) (zw sd) (zw mi) (s_X3_weekday_yr d yr q1 ((q2.toUInt32 % 65536).toInt32) q3 q4) (s_X3_weekday_mo d mo q1 ((q2.toUInt32 % 65536).toInt32) q3 q4) (s_X3_weekday_dy d dy q1 ((q2.toUInt32 % 65536).toInt32) q3 q4)  ) q_X3_thrown rfl rfl rfl gL_law_X3_thrown ⟨rfl, rfl⟩ rfl rfl (Nat.le_of_ble_eq_true rfl) ⟨Nat.le_of_ble_eq_true rfl, Nat.le_of_ble_eq_true rfl⟩ ⟨Nat.le_trans (by omega) hnc, Nat.le_trans (by omega) hns⟩ dL_law_899 ?_
  refine z_ws (ws' := (wY cI cJ y (s_L_weekday_d d q1 ((q2.toUInt32 % 65536).toInt32) q3 q4) sy sm sd mi ti sL bL mD mT ((o, .inl (cJ, 1, .inr (.inl (s_L_weekday_ou d ou q1 ((q2.toUInt32 % 65536).toInt32) q3 q4)))) :: (wM cI cJ z (s_X3_weekday_co d q1 ((q2.toUInt32 % 65536).toInt32) q3 q4) (s_X3_weekday_d d q1 ((q2.toUInt32 % 65536).toInt32) q3 q4) ti sL bL mD mT (zw sy) (zw sm) (zw sd) (zw mi) (s_X3_weekday_yr d yr q1 ((q2.toUInt32 % 65536).toInt32) q3 q4) (s_X3_weekday_mo d mo q1 ((q2.toUInt32 % 65536).toInt32) q3 q4) (s_X3_weekday_dy d dy q1 ((q2.toUInt32 % 65536).toInt32) q3 q4) [])))) [11, 12, 13, 14, 15, 16, 17, 18, 19, 20, 21, 22, 0, 1, 2, 3, 4, 5, 6, 7, 8, 9, 10] rfl (by decide) rfl ?_
  refine z_iload C dL_law_902 1 rfl ?_
  refine z_icmp_eq (tgt := 909) C dL_law_904 (by decide) (fun _ => ?_) (fun h => absurd (g_1) h)
  refine z_iload C dL_law_909 1 rfl ?_
  refine z_if_ne (tgt := 925) C dL_law_911 (by decide) (fun h1 => ?_) (fun h1 => ?_)
  · refine z_goto (tgt := 4233) C dL_law_925 (by decide) ?_
    refine z_sub [2, 3, 4, 5, 6] rfl ?_
    exact z_widen (by omega) (by omega) kk
  · refine z_aload_n C dL_law_914 rfl 3 rfl ?_
    refine z_iconst (v := 0) C dL_law_915 (by decide) ?_
    refine z_lald C 11 1 rfl rfl (zvpl 0 1 (by decide)) dL_law_916 ?_
    refine z_eqst (st' := [.long ((s_L_weekday_ou d ou q1 ((q2.toUInt32 % 65536).toInt32) q3 q4) 0)]) rfl ?_
    refine z_lload C dL_law_917 0 rfl ?_
    refine z_lcmp_eq (tgt := 925) C dL_law_919 dL_law_920 (by decide) (fun _ => ?_) (fun h => absurd (g_2 h1) h)
    refine z_goto (tgt := 4233) C dL_law_925 (by decide) ?_
    refine z_sub [2, 3, 4, 5, 6] rfl ?_
    exact z_widen (by omega) (by omega) kk
def pre_Lc8 (d : Nat → Int64) (ou : Nat → Int64) (q1 : Int32) (q2 : Int32) (q3 : Int32) (q4 : Int32) : Prop := ((pre_X3_inMonth d q1 q2 q3 q4)) ∧ (((s_X3_inMonth_co d q1 q2 q3 q4) = (f_L_inMonth d q1 q2 q3 q4))) ∧ (((f_L_inMonth d q1 q2 q3 q4) = 0) → (((s_L_inMonth_ou d ou q1 q2 q3 q4) 0) = (f_X3_inMonth d q1 q2 q3 q4)))
set_option maxHeartbeats 4000000 in
set_option maxRecDepth 100000 in
theorem law_c8 {p : Program} {l : Launch} {e : Env} {s : State} {m : MethodId} {args : Array Value} {below : List Frame} {meth : Method} {c : Code} {D : va_G} {cI cJ : ClassId} {A : Nat → Prop} {Q : State → Prop} {ret : Option FieldType} (C : ZC p l s m args meth c 9 D (zTys cI cJ) A cL_law wsL_law RL ret) (hfl : l.stackTraces = false) {b Ln : Nat} {xs : Nat → Int32} (hX : va_X b Ln xs s s.heap) (hbl : b < s.heap.size) (hbA : ¬ A b) (y z : Nat → Nat) (o : Nat) (d : Nat → Int64) (sy : Nat → Int32) (sm : Nat → Int32) (sd : Nat → Int32) (mi : Nat → Int32) (ti : Nat → Int64) (sL : Nat → Int64) (bL : Nat → Int64) (mD : Nat → Int64) (mT : Nat → Int64) (co : Int32) (yr : Int64) (mo : Int32) (dy : Int32) (ou : Nat → Int64) (q1 : Int32) (q2 : Int32) (q3 : Int32) (q4 : Int32) (q5 : Int32) (i4 : Int32) (hv1 : vp_in (i4 + 1) Ln) (hq1 : xs (i4 + 1).toNatClampNeg = q1) (hv2 : vp_in (i4 + 2) Ln) (hq2 : xs (i4 + 2).toNatClampNeg = q2) (hv3 : vp_in (i4 + 3) Ln) (hq3 : xs (i4 + 3).toNatClampNeg = q3) (hv4 : vp_in (i4 + 4) Ln) (hq4 : xs (i4 + 4).toNatClampNeg = q4) (hv5 : vp_in (i4 + 5) Ln) (hq5 : xs (i4 + 5).toNatClampNeg = q5) (nc ns : Nat) (hnc : nc + 6 ≤ room_1.cells) (hns : ns + 36 ≤ room_1.slots) (h_g : pre_Lc8 d ou q1 q2 q3 q4) (kk : ZW p l e room_1 s m args below meth c 9 D (zTys cI cJ) A Q (nc + 6) (ns + 36) (wY cI cJ y (s_L_inMonth_d d q1 q2 q3 q4) sy sm sd mi ti sL bL mD mT ((o, .inl (cJ, 1, .inr (.inl (s_L_inMonth_ou d ou q1 q2 q3 q4)))) :: (wM cI cJ z (s_X3_inMonth_co d q1 q2 q3 q4) (s_X3_inMonth_d d q1 q2 q3 q4) ti sL bL mD mT (zw sy) (zw sm) (zw sd) (zw mi) (s_X3_inMonth_yr d yr q1 q2 q3 q4) (s_X3_inMonth_mo d mo q1 q2 q3 q4) (s_X3_inMonth_dy d dy q1 q2 q3 q4) []))) 4233 [(4, .int i4), (3, .ref o), (2, .ref (z 0)), (1, .ref (y 0)), (0, .ref b)] []) : ZW p l e room_1 s m args below meth c 9 D (zTys cI cJ) A Q nc ns (wY cI cJ y d sy sm sd mi ti sL bL mD mT ((o, .inl (cJ, 1, .inr (.inl ou))) :: (wM cI cJ z co d ti sL bL mD mT (zw sy) (zw sm) (zw sd) (zw mi) yr mo dy []))) 928 [(4, .int i4), (3, .ref o), (2, .ref (z 0)), (1, .ref (y 0)), (0, .ref b)] [] := by
  obtain ⟨g_0, g_1, g_2⟩ := h_g
  refine z_aload_n C dL_law_928 rfl 3 rfl ?_
  refine z_aload_n C dL_law_929 rfl 4 rfl ?_
  refine z_iload C dL_law_930 0 rfl ?_
  refine z_iconst (v := 1) C dL_law_932 (by decide) ?_
  refine z_iadd C dL_law_933 ?_
  refine z_sld C hX hbl hbA hv1 dL_law_934 ?_
  refine z_eqst (st' := [.int q1, .ref (y 0)]) (congrArg (fun v => Value.int v :: _) hq1) ?_
  refine z_aload_n C dL_law_935 rfl 4 rfl ?_
  refine z_iload C dL_law_936 0 rfl ?_
  refine z_iconst (v := 2) C dL_law_938 (by decide) ?_
  refine z_iadd C dL_law_939 ?_
  refine z_sld C hX hbl hbA hv2 dL_law_940 ?_
  refine z_eqst (st' := [.int q2, .int q1, .ref (y 0)]) (congrArg (fun v => Value.int v :: _) hq2) ?_
  refine z_aload_n C dL_law_941 rfl 4 rfl ?_
  refine z_iload C dL_law_942 0 rfl ?_
  refine z_iconst (v := 3) C dL_law_944 (by decide) ?_
  refine z_iadd C dL_law_945 ?_
  refine z_sld C hX hbl hbA hv3 dL_law_946 ?_
  refine z_eqst (st' := [.int q3, .int q2, .int q1, .ref (y 0)]) (congrArg (fun v => Value.int v :: _) hq3) ?_
  refine z_aload_n C dL_law_947 rfl 4 rfl ?_
  refine z_iload C dL_law_948 0 rfl ?_
  refine z_iconst (v := 4) C dL_law_950 (by decide) ?_
  refine z_iadd C dL_law_951 ?_
  refine z_sld C hX hbl hbA hv4 dL_law_952 ?_
  refine z_eqst (st' := [.int q4, .int q3, .int q2, .int q1, .ref (y 0)]) (congrArg (fun v => Value.int v :: _) hq4) ?_
  refine z_aload_n C dL_law_953 rfl 1 rfl ?_
  refine z_siH (ws' := (wY cI cJ y (s_L_inMonth_d d q1 q2 q3 q4) sy sm sd mi ti sL bL mD mT ((o, .inl (cJ, 1, .inr (.inl (s_L_inMonth_ou d ou q1 q2 q3 q4)))) :: (wM cI cJ z co d ti sL bL mD mT (zw sy) (zw sm) (zw sd) (zw mi) yr mo dy [])))) C (rest := []) (c_L_inMonth l hfl D cI cJ (wM cI cJ z co d ti sL bL mD mT (zw sy) (zw sm) (zw sd) (zw mi) yr mo dy []) y o d sy sm sd mi ti sL bL mD mT ou q1 q2 q3 q4 ) q_L_inMonth gL_law_L_inMonth ⟨rfl, rfl⟩ rfl rfl (Nat.le_of_ble_eq_true rfl) ⟨Nat.le_of_ble_eq_true rfl, Nat.le_of_ble_eq_true rfl⟩ ⟨Nat.le_trans (by omega) hnc, Nat.le_trans (by omega) hns⟩ dL_law_954 ?_
  refine z_istore (lv' := [(5, .int (f_L_inMonth d q1 q2 q3 q4)), (4, .int i4), (3, .ref o), (2, .ref (z 0)), (1, .ref (y 0)), (0, .ref b)]) C dL_law_957 (by decide) rfl ?_
  refine z_aload_n C dL_law_959 rfl 3 rfl ?_
  refine z_aload_n C dL_law_960 rfl 5 rfl ?_
  refine z_iload C dL_law_961 1 rfl ?_
  refine z_iconst (v := 1) C dL_law_963 (by decide) ?_
  refine z_iadd C dL_law_964 ?_
  refine z_sld C hX hbl hbA hv1 dL_law_965 ?_
  refine z_eqst (st' := [.int q1, .ref (z 0)]) (congrArg (fun v => Value.int v :: _) hq1) ?_
  refine z_aload_n C dL_law_966 rfl 5 rfl ?_
  refine z_iload C dL_law_967 1 rfl ?_
  refine z_iconst (v := 2) C dL_law_969 (by decide) ?_
  refine z_iadd C dL_law_970 ?_
  refine z_sld C hX hbl hbA hv2 dL_law_971 ?_
  refine z_eqst (st' := [.int q2, .int q1, .ref (z 0)]) (congrArg (fun v => Value.int v :: _) hq2) ?_
  refine z_aload_n C dL_law_972 rfl 5 rfl ?_
  refine z_iload C dL_law_973 1 rfl ?_
  refine z_iconst (v := 3) C dL_law_975 (by decide) ?_
  refine z_iadd C dL_law_976 ?_
  refine z_sld C hX hbl hbA hv3 dL_law_977 ?_
  refine z_eqst (st' := [.int q3, .int q2, .int q1, .ref (z 0)]) (congrArg (fun v => Value.int v :: _) hq3) ?_
  refine z_aload_n C dL_law_978 rfl 5 rfl ?_
  refine z_iload C dL_law_979 1 rfl ?_
  refine z_iconst (v := 4) C dL_law_981 (by decide) ?_
  refine z_iadd C dL_law_982 ?_
  refine z_sld C hX hbl hbA hv4 dL_law_983 ?_
  refine z_eqst (st' := [.int q4, .int q3, .int q2, .int q1, .ref (z 0)]) (congrArg (fun v => Value.int v :: _) hq4) ?_
  refine z_ws (ws' := (wM cI cJ z co d ti sL bL mD mT (zw sy) (zw sm) (zw sd) (zw mi) yr mo dy (wY cI cJ y (s_L_inMonth_d d q1 q2 q3 q4) sy sm sd mi ti sL bL mD mT [(o, .inl (cJ, 1, .inr (.inl (s_L_inMonth_ou d ou q1 q2 q3 q4))))]))) [12, 13, 14, 15, 16, 17, 18, 19, 20, 21, 22, 0, 1, 2, 3, 4, 5, 6, 7, 8, 9, 10, 11] rfl (by decide) rfl ?_
  refine z_wl (ws' := (wM cI cJ z (s_X3_inMonth_co d q1 q2 q3 q4) (s_X3_inMonth_d d q1 q2 q3 q4) ti sL bL mD mT (zw sy) (zw sm) (zw sd) (zw mi) (s_X3_inMonth_yr d yr q1 q2 q3 q4) (s_X3_inMonth_mo d mo q1 q2 q3 q4) (s_X3_inMonth_dy d dy q1 q2 q3 q4) (wY cI cJ y (s_L_inMonth_d d q1 q2 q3 q4) sy sm sd mi ti sL bL mD mT [(o, .inl (cJ, 1, .inr (.inl (s_L_inMonth_ou d ou q1 q2 q3 q4))))]))) (rest := []) (ci := 3) (q0 := 0) C (c_X3_inMonth l hfl D cI cJ (wY cI cJ y (s_L_inMonth_d d q1 q2 q3 q4) sy sm sd mi ti sL bL mD mT [(o, .inl (cJ, 1, .inr (.inl (s_L_inMonth_ou d ou q1 q2 q3 q4))))]) z co d ti sL bL mD mT (zw sy) (zw sm) (zw sd) (zw mi) yr mo dy q1 q2 q3 q4 (g_0)) q_X3_inMonth rfl rfl rfl gL_law_X3_inMonth ⟨rfl, rfl⟩ rfl rfl (Nat.le_of_ble_eq_true rfl) ⟨Nat.le_of_ble_eq_true rfl, Nat.le_of_ble_eq_true rfl⟩ ⟨Nat.le_trans (by omega) hnc, Nat.le_trans (by omega) hns⟩ dL_law_984 ?_
  refine z_ws (ws' := (wY cI cJ y (s_L_inMonth_d d q1 q2 q3 q4) sy sm sd mi ti sL bL mD mT ((o, .inl (cJ, 1, .inr (.inl (s_L_inMonth_ou d ou q1 q2 q3 q4)))) :: (wM cI cJ z (s_X3_inMonth_co d q1 q2 q3 q4) (s_X3_inMonth_d d q1 q2 q3 q4) ti sL bL mD mT (zw sy) (zw sm) (zw sd) (zw mi) (s_X3_inMonth_yr d yr q1 q2 q3 q4) (s_X3_inMonth_mo d mo q1 q2 q3 q4) (s_X3_inMonth_dy d dy q1 q2 q3 q4) [])))) [11, 12, 13, 14, 15, 16, 17, 18, 19, 20, 21, 22, 0, 1, 2, 3, 4, 5, 6, 7, 8, 9, 10] rfl (by decide) rfl ?_
  refine z_lstore (lv' := [(6, .long (f_X3_inMonth d q1 q2 q3 q4)), (5, .int (f_L_inMonth d q1 q2 q3 q4)), (4, .int i4), (3, .ref o), (2, .ref (z 0)), (1, .ref (y 0)), (0, .ref b)]) C dL_law_987 (by decide) rfl ?_
  refine z_aload_n C dL_law_989 rfl 4 rfl ?_
  refine z_ws (ws' := (wM cI cJ z (s_X3_inMonth_co d q1 q2 q3 q4) (s_X3_inMonth_d d q1 q2 q3 q4) ti sL bL mD mT (zw sy) (zw sm) (zw sd) (zw mi) (s_X3_inMonth_yr d yr q1 q2 q3 q4) (s_X3_inMonth_mo d mo q1 q2 q3 q4) (s_X3_inMonth_dy d dy q1 q2 q3 q4) (wY cI cJ y (s_L_inMonth_d d q1 q2 q3 q4) sy sm sd mi ti sL bL mD mT [(o, .inl (cJ, 1, .inr (.inl (s_L_inMonth_ou d ou q1 q2 q3 q4))))]))) [12, 13, 14, 15, 16, 17, 18, 19, 20, 21, 22, 0, 1, 2, 3, 4, 5, 6, 7, 8, 9, 10, 11] rfl (by decide) rfl ?_
  refine z_wi (ws' := (wM cI cJ z (s_X3_inMonth_co d q1 q2 q3 q4) (s_X3_inMonth_d d q1 q2 q3 q4) ti sL bL mD mT (zw sy) (zw sm) (zw sd) (zw mi) (s_X3_inMonth_yr d yr q1 q2 q3 q4) (s_X3_inMonth_mo d mo q1 q2 q3 q4) (s_X3_inMonth_dy d dy q1 q2 q3 q4) (wY cI cJ y (s_L_inMonth_d d q1 q2 q3 q4) sy sm sd mi ti sL bL mD mT [(o, .inl (cJ, 1, .inr (.inl (s_L_inMonth_ou d ou q1 q2 q3 q4))))]))) (rest := []) (ci := 3) (q0 := 0) C (c_X3_thrown l hfl D cI cJ (wY cI cJ y (s_L_inMonth_d d q1 q2 q3 q4) sy sm sd mi ti sL bL mD mT [(o, .inl (cJ, 1, .inr (.inl (s_L_inMonth_ou d ou q1 q2 q3 q4))))]) z (s_X3_inMonth_co d q1 q2 q3 q4) (s_X3_inMonth_d d q1 q2 q3 q4) ti sL bL mD mT (zw sy) (zw sm) (zw sd) (zw mi) (s_X3_inMonth_yr d yr q1 q2 q3 q4) (s_X3_inMonth_mo d mo q1 q2 q3 q4) (s_X3_inMonth_dy d dy q1 q2 q3 q4)  ) q_X3_thrown rfl rfl rfl gL_law_X3_thrown ⟨rfl, rfl⟩ rfl rfl (Nat.le_of_ble_eq_true rfl) ⟨Nat.le_of_ble_eq_true rfl, Nat.le_of_ble_eq_true rfl⟩ ⟨Nat.le_trans (by omega) hnc, Nat.le_trans (by omega) hns⟩ dL_law_990 ?_
  refine z_ws (ws' := (wY cI cJ y (s_L_inMonth_d d q1 q2 q3 q4) sy sm sd mi ti sL bL mD mT ((o, .inl (cJ, 1, .inr (.inl (s_L_inMonth_ou d ou q1 q2 q3 q4)))) :: (wM cI cJ z (s_X3_inMonth_co d q1 q2 q3 q4) (s_X3_inMonth_d d q1 q2 q3 q4) ti sL bL mD mT (zw sy) (zw sm) (zw sd) (zw mi) (s_X3_inMonth_yr d yr q1 q2 q3 q4) (s_X3_inMonth_mo d mo q1 q2 q3 q4) (s_X3_inMonth_dy d dy q1 q2 q3 q4) [])))) [11, 12, 13, 14, 15, 16, 17, 18, 19, 20, 21, 22, 0, 1, 2, 3, 4, 5, 6, 7, 8, 9, 10] rfl (by decide) rfl ?_
  refine z_iload C dL_law_993 1 rfl ?_
  refine z_icmp_eq (tgt := 1000) C dL_law_995 (by decide) (fun _ => ?_) (fun h => absurd (g_1) h)
  refine z_iload C dL_law_1000 1 rfl ?_
  refine z_if_ne (tgt := 1016) C dL_law_1002 (by decide) (fun h1 => ?_) (fun h1 => ?_)
  · refine z_goto (tgt := 4233) C dL_law_1016 (by decide) ?_
    refine z_sub [2, 3, 4, 5, 6] rfl ?_
    exact z_widen (by omega) (by omega) kk
  · refine z_aload_n C dL_law_1005 rfl 3 rfl ?_
    refine z_iconst (v := 0) C dL_law_1006 (by decide) ?_
    refine z_lald C 11 1 rfl rfl (zvpl 0 1 (by decide)) dL_law_1007 ?_
    refine z_eqst (st' := [.long ((s_L_inMonth_ou d ou q1 q2 q3 q4) 0)]) rfl ?_
    refine z_lload C dL_law_1008 0 rfl ?_
    refine z_lcmp_eq (tgt := 1016) C dL_law_1010 dL_law_1011 (by decide) (fun _ => ?_) (fun h => absurd (g_2 h1) h)
    refine z_goto (tgt := 4233) C dL_law_1016 (by decide) ?_
    refine z_sub [2, 3, 4, 5, 6] rfl ?_
    exact z_widen (by omega) (by omega) kk
def pre_Lc9 (ou : Nat → Int64) (q1 : Int32) (q2 : Int32) (q3 : Int32) (q4 : Int32) : Prop := ((pre_L_atYear q1 q2 q3 q4)) ∧ ((pre_X3_atYear q1 q2 q3 q4)) ∧ (((s_X3_atYear_co q1 q2 q3 q4) = (f_L_atYear q1 q2 q3 q4))) ∧ (((f_L_atYear q1 q2 q3 q4) = 0) → (((s_L_atYear_ou ou q1 q2 q3 q4) 0) = (f_X3_atYear q1 q2 q3 q4)))
set_option maxHeartbeats 4000000 in
set_option maxRecDepth 100000 in
theorem law_c9 {p : Program} {l : Launch} {e : Env} {s : State} {m : MethodId} {args : Array Value} {below : List Frame} {meth : Method} {c : Code} {D : va_G} {cI cJ : ClassId} {A : Nat → Prop} {Q : State → Prop} {ret : Option FieldType} (C : ZC p l s m args meth c 9 D (zTys cI cJ) A cL_law wsL_law RL ret) (hfl : l.stackTraces = false) {b Ln : Nat} {xs : Nat → Int32} (hX : va_X b Ln xs s s.heap) (hbl : b < s.heap.size) (hbA : ¬ A b) (y z : Nat → Nat) (o : Nat) (d : Nat → Int64) (sy : Nat → Int32) (sm : Nat → Int32) (sd : Nat → Int32) (mi : Nat → Int32) (ti : Nat → Int64) (sL : Nat → Int64) (bL : Nat → Int64) (mD : Nat → Int64) (mT : Nat → Int64) (co : Int32) (yr : Int64) (mo : Int32) (dy : Int32) (ou : Nat → Int64) (q1 : Int32) (q2 : Int32) (q3 : Int32) (q4 : Int32) (q5 : Int32) (i4 : Int32) (hv1 : vp_in (i4 + 1) Ln) (hq1 : xs (i4 + 1).toNatClampNeg = q1) (hv2 : vp_in (i4 + 2) Ln) (hq2 : xs (i4 + 2).toNatClampNeg = q2) (hv3 : vp_in (i4 + 3) Ln) (hq3 : xs (i4 + 3).toNatClampNeg = q3) (hv4 : vp_in (i4 + 4) Ln) (hq4 : xs (i4 + 4).toNatClampNeg = q4) (hv5 : vp_in (i4 + 5) Ln) (hq5 : xs (i4 + 5).toNatClampNeg = q5) (nc ns : Nat) (hnc : nc + 6 ≤ room_1.cells) (hns : ns + 36 ≤ room_1.slots) (h_g : pre_Lc9 ou q1 q2 q3 q4) (kk : ZW p l e room_1 s m args below meth c 9 D (zTys cI cJ) A Q (nc + 6) (ns + 36) (wY cI cJ y (s_L_atYear_d d q1 q2 q3 q4) sy sm sd mi ti sL bL mD mT ((o, .inl (cJ, 1, .inr (.inl (s_L_atYear_ou ou q1 q2 q3 q4)))) :: (wM cI cJ z (s_X3_atYear_co q1 q2 q3 q4) (s_X3_atYear_d d q1 q2 q3 q4) ti sL bL mD mT (zw sy) (zw sm) (zw sd) (zw mi) (s_X3_atYear_yr yr q1 q2 q3 q4) (s_X3_atYear_mo mo q1 q2 q3 q4) (s_X3_atYear_dy dy q1 q2 q3 q4) []))) 4233 [(4, .int i4), (3, .ref o), (2, .ref (z 0)), (1, .ref (y 0)), (0, .ref b)] []) : ZW p l e room_1 s m args below meth c 9 D (zTys cI cJ) A Q nc ns (wY cI cJ y d sy sm sd mi ti sL bL mD mT ((o, .inl (cJ, 1, .inr (.inl ou))) :: (wM cI cJ z co d ti sL bL mD mT (zw sy) (zw sm) (zw sd) (zw mi) yr mo dy []))) 1019 [(4, .int i4), (3, .ref o), (2, .ref (z 0)), (1, .ref (y 0)), (0, .ref b)] [] := by
  obtain ⟨g_0, g_1, g_2, g_3⟩ := h_g
  refine z_aload_n C dL_law_1019 rfl 3 rfl ?_
  refine z_aload_n C dL_law_1020 rfl 4 rfl ?_
  refine z_iload C dL_law_1021 0 rfl ?_
  refine z_iconst (v := 1) C dL_law_1023 (by decide) ?_
  refine z_iadd C dL_law_1024 ?_
  refine z_sld C hX hbl hbA hv1 dL_law_1025 ?_
  refine z_eqst (st' := [.int q1, .ref (y 0)]) (congrArg (fun v => Value.int v :: _) hq1) ?_
  refine z_aload_n C dL_law_1026 rfl 4 rfl ?_
  refine z_iload C dL_law_1027 0 rfl ?_
  refine z_iconst (v := 2) C dL_law_1029 (by decide) ?_
  refine z_iadd C dL_law_1030 ?_
  refine z_sld C hX hbl hbA hv2 dL_law_1031 ?_
  refine z_eqst (st' := [.int q2, .int q1, .ref (y 0)]) (congrArg (fun v => Value.int v :: _) hq2) ?_
  refine z_aload_n C dL_law_1032 rfl 4 rfl ?_
  refine z_iload C dL_law_1033 0 rfl ?_
  refine z_iconst (v := 3) C dL_law_1035 (by decide) ?_
  refine z_iadd C dL_law_1036 ?_
  refine z_sld C hX hbl hbA hv3 dL_law_1037 ?_
  refine z_eqst (st' := [.int q3, .int q2, .int q1, .ref (y 0)]) (congrArg (fun v => Value.int v :: _) hq3) ?_
  refine z_aload_n C dL_law_1038 rfl 4 rfl ?_
  refine z_iload C dL_law_1039 0 rfl ?_
  refine z_iconst (v := 4) C dL_law_1041 (by decide) ?_
  refine z_iadd C dL_law_1042 ?_
  refine z_sld C hX hbl hbA hv4 dL_law_1043 ?_
  refine z_eqst (st' := [.int q4, .int q3, .int q2, .int q1, .ref (y 0)]) (congrArg (fun v => Value.int v :: _) hq4) ?_
  refine z_aload_n C dL_law_1044 rfl 1 rfl ?_
  refine z_siH (ws' := (wY cI cJ y (s_L_atYear_d d q1 q2 q3 q4) sy sm sd mi ti sL bL mD mT ((o, .inl (cJ, 1, .inr (.inl (s_L_atYear_ou ou q1 q2 q3 q4)))) :: (wM cI cJ z co d ti sL bL mD mT (zw sy) (zw sm) (zw sd) (zw mi) yr mo dy [])))) C (rest := []) (c_L_atYear l hfl D cI cJ (wM cI cJ z co d ti sL bL mD mT (zw sy) (zw sm) (zw sd) (zw mi) yr mo dy []) y o d sy sm sd mi ti sL bL mD mT ou q1 q2 q3 q4 (g_0)) q_L_atYear gL_law_L_atYear ⟨rfl, rfl⟩ rfl rfl (Nat.le_of_ble_eq_true rfl) ⟨Nat.le_of_ble_eq_true rfl, Nat.le_of_ble_eq_true rfl⟩ ⟨Nat.le_trans (by omega) hnc, Nat.le_trans (by omega) hns⟩ dL_law_1045 ?_
  refine z_istore (lv' := [(5, .int (f_L_atYear q1 q2 q3 q4)), (4, .int i4), (3, .ref o), (2, .ref (z 0)), (1, .ref (y 0)), (0, .ref b)]) C dL_law_1048 (by decide) rfl ?_
  refine z_aload_n C dL_law_1050 rfl 3 rfl ?_
  refine z_aload_n C dL_law_1051 rfl 5 rfl ?_
  refine z_iload C dL_law_1052 1 rfl ?_
  refine z_iconst (v := 1) C dL_law_1054 (by decide) ?_
  refine z_iadd C dL_law_1055 ?_
  refine z_sld C hX hbl hbA hv1 dL_law_1056 ?_
  refine z_eqst (st' := [.int q1, .ref (z 0)]) (congrArg (fun v => Value.int v :: _) hq1) ?_
  refine z_aload_n C dL_law_1057 rfl 5 rfl ?_
  refine z_iload C dL_law_1058 1 rfl ?_
  refine z_iconst (v := 2) C dL_law_1060 (by decide) ?_
  refine z_iadd C dL_law_1061 ?_
  refine z_sld C hX hbl hbA hv2 dL_law_1062 ?_
  refine z_eqst (st' := [.int q2, .int q1, .ref (z 0)]) (congrArg (fun v => Value.int v :: _) hq2) ?_
  refine z_aload_n C dL_law_1063 rfl 5 rfl ?_
  refine z_iload C dL_law_1064 1 rfl ?_
  refine z_iconst (v := 3) C dL_law_1066 (by decide) ?_
  refine z_iadd C dL_law_1067 ?_
  refine z_sld C hX hbl hbA hv3 dL_law_1068 ?_
  refine z_eqst (st' := [.int q3, .int q2, .int q1, .ref (z 0)]) (congrArg (fun v => Value.int v :: _) hq3) ?_
  refine z_aload_n C dL_law_1069 rfl 5 rfl ?_
  refine z_iload C dL_law_1070 1 rfl ?_
  refine z_iconst (v := 4) C dL_law_1072 (by decide) ?_
  refine z_iadd C dL_law_1073 ?_
  refine z_sld C hX hbl hbA hv4 dL_law_1074 ?_
  refine z_eqst (st' := [.int q4, .int q3, .int q2, .int q1, .ref (z 0)]) (congrArg (fun v => Value.int v :: _) hq4) ?_
  refine z_ws (ws' := (wM cI cJ z co d ti sL bL mD mT (zw sy) (zw sm) (zw sd) (zw mi) yr mo dy (wY cI cJ y (s_L_atYear_d d q1 q2 q3 q4) sy sm sd mi ti sL bL mD mT [(o, .inl (cJ, 1, .inr (.inl (s_L_atYear_ou ou q1 q2 q3 q4))))]))) [12, 13, 14, 15, 16, 17, 18, 19, 20, 21, 22, 0, 1, 2, 3, 4, 5, 6, 7, 8, 9, 10, 11] rfl (by decide) rfl ?_
  refine z_wl (ws' := (wM cI cJ z (s_X3_atYear_co q1 q2 q3 q4) (s_X3_atYear_d d q1 q2 q3 q4) ti sL bL mD mT (zw sy) (zw sm) (zw sd) (zw mi) (s_X3_atYear_yr yr q1 q2 q3 q4) (s_X3_atYear_mo mo q1 q2 q3 q4) (s_X3_atYear_dy dy q1 q2 q3 q4) (wY cI cJ y (s_L_atYear_d d q1 q2 q3 q4) sy sm sd mi ti sL bL mD mT [(o, .inl (cJ, 1, .inr (.inl (s_L_atYear_ou ou q1 q2 q3 q4))))]))) (rest := []) (ci := 3) (q0 := 0) C (c_X3_atYear l hfl D cI cJ (wY cI cJ y (s_L_atYear_d d q1 q2 q3 q4) sy sm sd mi ti sL bL mD mT [(o, .inl (cJ, 1, .inr (.inl (s_L_atYear_ou ou q1 q2 q3 q4))))]) z co d ti sL bL mD mT (zw sy) (zw sm) (zw sd) (zw mi) yr mo dy q1 q2 q3 q4 (g_1)) q_X3_atYear rfl rfl rfl gL_law_X3_atYear ⟨rfl, rfl⟩ rfl rfl (Nat.le_of_ble_eq_true rfl) ⟨Nat.le_of_ble_eq_true rfl, Nat.le_of_ble_eq_true rfl⟩ ⟨Nat.le_trans (by omega) hnc, Nat.le_trans (by omega) hns⟩ dL_law_1075 ?_
  refine z_ws (ws' := (wY cI cJ y (s_L_atYear_d d q1 q2 q3 q4) sy sm sd mi ti sL bL mD mT ((o, .inl (cJ, 1, .inr (.inl (s_L_atYear_ou ou q1 q2 q3 q4)))) :: (wM cI cJ z (s_X3_atYear_co q1 q2 q3 q4) (s_X3_atYear_d d q1 q2 q3 q4) ti sL bL mD mT (zw sy) (zw sm) (zw sd) (zw mi) (s_X3_atYear_yr yr q1 q2 q3 q4) (s_X3_atYear_mo mo q1 q2 q3 q4) (s_X3_atYear_dy dy q1 q2 q3 q4) [])))) [11, 12, 13, 14, 15, 16, 17, 18, 19, 20, 21, 22, 0, 1, 2, 3, 4, 5, 6, 7, 8, 9, 10] rfl (by decide) rfl ?_
  refine z_lstore (lv' := [(6, .long (f_X3_atYear q1 q2 q3 q4)), (5, .int (f_L_atYear q1 q2 q3 q4)), (4, .int i4), (3, .ref o), (2, .ref (z 0)), (1, .ref (y 0)), (0, .ref b)]) C dL_law_1078 (by decide) rfl ?_
  refine z_aload_n C dL_law_1080 rfl 4 rfl ?_
  refine z_ws (ws' := (wM cI cJ z (s_X3_atYear_co q1 q2 q3 q4) (s_X3_atYear_d d q1 q2 q3 q4) ti sL bL mD mT (zw sy) (zw sm) (zw sd) (zw mi) (s_X3_atYear_yr yr q1 q2 q3 q4) (s_X3_atYear_mo mo q1 q2 q3 q4) (s_X3_atYear_dy dy q1 q2 q3 q4) (wY cI cJ y (s_L_atYear_d d q1 q2 q3 q4) sy sm sd mi ti sL bL mD mT [(o, .inl (cJ, 1, .inr (.inl (s_L_atYear_ou ou q1 q2 q3 q4))))]))) [12, 13, 14, 15, 16, 17, 18, 19, 20, 21, 22, 0, 1, 2, 3, 4, 5, 6, 7, 8, 9, 10, 11] rfl (by decide) rfl ?_
  refine z_wi (ws' := (wM cI cJ z (s_X3_atYear_co q1 q2 q3 q4) (s_X3_atYear_d d q1 q2 q3 q4) ti sL bL mD mT (zw sy) (zw sm) (zw sd) (zw mi) (s_X3_atYear_yr yr q1 q2 q3 q4) (s_X3_atYear_mo mo q1 q2 q3 q4) (s_X3_atYear_dy dy q1 q2 q3 q4) (wY cI cJ y (s_L_atYear_d d q1 q2 q3 q4) sy sm sd mi ti sL bL mD mT [(o, .inl (cJ, 1, .inr (.inl (s_L_atYear_ou ou q1 q2 q3 q4))))]))) (rest := []) (ci := 3) (q0 := 0) C (c_X3_thrown l hfl D cI cJ (wY cI cJ y (s_L_atYear_d d q1 q2 q3 q4) sy sm sd mi ti sL bL mD mT [(o, .inl (cJ, 1, .inr (.inl (s_L_atYear_ou ou q1 q2 q3 q4))))]) z (s_X3_atYear_co q1 q2 q3 q4) (s_X3_atYear_d d q1 q2 q3 q4) ti sL bL mD mT (zw sy) (zw sm) (zw sd) (zw mi) (s_X3_atYear_yr yr q1 q2 q3 q4) (s_X3_atYear_mo mo q1 q2 q3 q4) (s_X3_atYear_dy dy q1 q2 q3 q4)  ) q_X3_thrown rfl rfl rfl gL_law_X3_thrown ⟨rfl, rfl⟩ rfl rfl (Nat.le_of_ble_eq_true rfl) ⟨Nat.le_of_ble_eq_true rfl, Nat.le_of_ble_eq_true rfl⟩ ⟨Nat.le_trans (by omega) hnc, Nat.le_trans (by omega) hns⟩ dL_law_1081 ?_
  refine z_ws (ws' := (wY cI cJ y (s_L_atYear_d d q1 q2 q3 q4) sy sm sd mi ti sL bL mD mT ((o, .inl (cJ, 1, .inr (.inl (s_L_atYear_ou ou q1 q2 q3 q4)))) :: (wM cI cJ z (s_X3_atYear_co q1 q2 q3 q4) (s_X3_atYear_d d q1 q2 q3 q4) ti sL bL mD mT (zw sy) (zw sm) (zw sd) (zw mi) (s_X3_atYear_yr yr q1 q2 q3 q4) (s_X3_atYear_mo mo q1 q2 q3 q4) (s_X3_atYear_dy dy q1 q2 q3 q4) [])))) [11, 12, 13, 14, 15, 16, 17, 18, 19, 20, 21, 22, 0, 1, 2, 3, 4, 5, 6, 7, 8, 9, 10] rfl (by decide) rfl ?_
  refine z_iload C dL_law_1084 1 rfl ?_
  refine z_icmp_eq (tgt := 1091) C dL_law_1086 (by decide) (fun _ => ?_) (fun h => absurd (g_2) h)
  refine z_iload C dL_law_1091 1 rfl ?_
  refine z_if_ne (tgt := 1107) C dL_law_1093 (by decide) (fun h1 => ?_) (fun h1 => ?_)
  · refine z_goto (tgt := 4233) C dL_law_1107 (by decide) ?_
    refine z_sub [2, 3, 4, 5, 6] rfl ?_
    exact z_widen (by omega) (by omega) kk
  · refine z_aload_n C dL_law_1096 rfl 3 rfl ?_
    refine z_iconst (v := 0) C dL_law_1097 (by decide) ?_
    refine z_lald C 11 1 rfl rfl (zvpl 0 1 (by decide)) dL_law_1098 ?_
    refine z_eqst (st' := [.long ((s_L_atYear_ou ou q1 q2 q3 q4) 0)]) rfl ?_
    refine z_lload C dL_law_1099 0 rfl ?_
    refine z_lcmp_eq (tgt := 1107) C dL_law_1101 dL_law_1102 (by decide) (fun _ => ?_) (fun h => absurd (g_3 h1) h)
    refine z_goto (tgt := 4233) C dL_law_1107 (by decide) ?_
    refine z_sub [2, 3, 4, 5, 6] rfl ?_
    exact z_widen (by omega) (by omega) kk
def pre_Lc10 (d : Nat → Int64) (ou : Nat → Int64) (q1 : Int32) (q2 : Int32) : Prop := ((pre_L_order q1 q2)) ∧ (((s_X3_order_co q1 q2) = (f_L_order q1 q2))) ∧ (((f_L_order q1 q2) = 0) → (((s_L_order_ou d ou q1 q2) 0) = ((f_X3_order d q1 q2)).toInt64))
set_option maxHeartbeats 4000000 in
set_option maxRecDepth 100000 in
theorem law_c10 {p : Program} {l : Launch} {e : Env} {s : State} {m : MethodId} {args : Array Value} {below : List Frame} {meth : Method} {c : Code} {D : va_G} {cI cJ : ClassId} {A : Nat → Prop} {Q : State → Prop} {ret : Option FieldType} (C : ZC p l s m args meth c 9 D (zTys cI cJ) A cL_law wsL_law RL ret) (hfl : l.stackTraces = false) {b Ln : Nat} {xs : Nat → Int32} (hX : va_X b Ln xs s s.heap) (hbl : b < s.heap.size) (hbA : ¬ A b) (y z : Nat → Nat) (o : Nat) (d : Nat → Int64) (sy : Nat → Int32) (sm : Nat → Int32) (sd : Nat → Int32) (mi : Nat → Int32) (ti : Nat → Int64) (sL : Nat → Int64) (bL : Nat → Int64) (mD : Nat → Int64) (mT : Nat → Int64) (co : Int32) (yr : Int64) (mo : Int32) (dy : Int32) (ou : Nat → Int64) (q1 : Int32) (q2 : Int32) (q3 : Int32) (q4 : Int32) (q5 : Int32) (i4 : Int32) (hv1 : vp_in (i4 + 1) Ln) (hq1 : xs (i4 + 1).toNatClampNeg = q1) (hv2 : vp_in (i4 + 2) Ln) (hq2 : xs (i4 + 2).toNatClampNeg = q2) (hv3 : vp_in (i4 + 3) Ln) (hq3 : xs (i4 + 3).toNatClampNeg = q3) (hv4 : vp_in (i4 + 4) Ln) (hq4 : xs (i4 + 4).toNatClampNeg = q4) (hv5 : vp_in (i4 + 5) Ln) (hq5 : xs (i4 + 5).toNatClampNeg = q5) (nc ns : Nat) (hnc : nc + 6 ≤ room_1.cells) (hns : ns + 36 ≤ room_1.slots) (h_g : pre_Lc10 d ou q1 q2) (kk : ZW p l e room_1 s m args below meth c 9 D (zTys cI cJ) A Q (nc + 6) (ns + 36) (wY cI cJ y d sy sm sd mi ti sL bL mD mT ((o, .inl (cJ, 1, .inr (.inl (s_L_order_ou d ou q1 q2)))) :: (wM cI cJ z (s_X3_order_co q1 q2) d ti sL bL mD mT (zw sy) (zw sm) (zw sd) (zw mi) yr mo dy []))) 4233 [(4, .int i4), (3, .ref o), (2, .ref (z 0)), (1, .ref (y 0)), (0, .ref b)] []) : ZW p l e room_1 s m args below meth c 9 D (zTys cI cJ) A Q nc ns (wY cI cJ y d sy sm sd mi ti sL bL mD mT ((o, .inl (cJ, 1, .inr (.inl ou))) :: (wM cI cJ z co d ti sL bL mD mT (zw sy) (zw sm) (zw sd) (zw mi) yr mo dy []))) 1110 [(4, .int i4), (3, .ref o), (2, .ref (z 0)), (1, .ref (y 0)), (0, .ref b)] [] := by
  obtain ⟨g_0, g_1, g_2⟩ := h_g
  refine z_aload_n C dL_law_1110 rfl 3 rfl ?_
  refine z_aload_n C dL_law_1111 rfl 4 rfl ?_
  refine z_iload C dL_law_1112 0 rfl ?_
  refine z_iconst (v := 1) C dL_law_1114 (by decide) ?_
  refine z_iadd C dL_law_1115 ?_
  refine z_sld C hX hbl hbA hv1 dL_law_1116 ?_
  refine z_eqst (st' := [.int q1, .ref (y 0)]) (congrArg (fun v => Value.int v :: _) hq1) ?_
  refine z_aload_n C dL_law_1117 rfl 4 rfl ?_
  refine z_iload C dL_law_1118 0 rfl ?_
  refine z_iconst (v := 2) C dL_law_1120 (by decide) ?_
  refine z_iadd C dL_law_1121 ?_
  refine z_sld C hX hbl hbA hv2 dL_law_1122 ?_
  refine z_eqst (st' := [.int q2, .int q1, .ref (y 0)]) (congrArg (fun v => Value.int v :: _) hq2) ?_
  refine z_aload_n C dL_law_1123 rfl 1 rfl ?_
  refine z_siH (ws' := (wY cI cJ y d sy sm sd mi ti sL bL mD mT ((o, .inl (cJ, 1, .inr (.inl (s_L_order_ou d ou q1 q2)))) :: (wM cI cJ z co d ti sL bL mD mT (zw sy) (zw sm) (zw sd) (zw mi) yr mo dy [])))) C (rest := []) (c_L_order l hfl D cI cJ (wM cI cJ z co d ti sL bL mD mT (zw sy) (zw sm) (zw sd) (zw mi) yr mo dy []) y o d sy sm sd mi ti sL bL mD mT ou q1 q2 (g_0)) q_L_order gL_law_L_order ⟨rfl, rfl⟩ rfl rfl (Nat.le_of_ble_eq_true rfl) ⟨Nat.le_of_ble_eq_true rfl, Nat.le_of_ble_eq_true rfl⟩ ⟨Nat.le_trans (by omega) hnc, Nat.le_trans (by omega) hns⟩ dL_law_1124 ?_
  refine z_istore (lv' := [(5, .int (f_L_order q1 q2)), (4, .int i4), (3, .ref o), (2, .ref (z 0)), (1, .ref (y 0)), (0, .ref b)]) C dL_law_1127 (by decide) rfl ?_
  refine z_aload_n C dL_law_1129 rfl 3 rfl ?_
  refine z_aload_n C dL_law_1130 rfl 5 rfl ?_
  refine z_iload C dL_law_1131 1 rfl ?_
  refine z_iconst (v := 1) C dL_law_1133 (by decide) ?_
  refine z_iadd C dL_law_1134 ?_
  refine z_sld C hX hbl hbA hv1 dL_law_1135 ?_
  refine z_eqst (st' := [.int q1, .ref (z 0)]) (congrArg (fun v => Value.int v :: _) hq1) ?_
  refine z_aload_n C dL_law_1136 rfl 5 rfl ?_
  refine z_iload C dL_law_1137 1 rfl ?_
  refine z_iconst (v := 2) C dL_law_1139 (by decide) ?_
  refine z_iadd C dL_law_1140 ?_
  refine z_sld C hX hbl hbA hv2 dL_law_1141 ?_
  refine z_eqst (st' := [.int q2, .int q1, .ref (z 0)]) (congrArg (fun v => Value.int v :: _) hq2) ?_
  refine z_ws (ws' := (wM cI cJ z co d ti sL bL mD mT (zw sy) (zw sm) (zw sd) (zw mi) yr mo dy (wY cI cJ y d sy sm sd mi ti sL bL mD mT [(o, .inl (cJ, 1, .inr (.inl (s_L_order_ou d ou q1 q2))))]))) [12, 13, 14, 15, 16, 17, 18, 19, 20, 21, 22, 0, 1, 2, 3, 4, 5, 6, 7, 8, 9, 10, 11] rfl (by decide) rfl ?_
  refine z_wi (ws' := (wM cI cJ z (s_X3_order_co q1 q2) d ti sL bL mD mT (zw sy) (zw sm) (zw sd) (zw mi) yr mo dy (wY cI cJ y d sy sm sd mi ti sL bL mD mT [(o, .inl (cJ, 1, .inr (.inl (s_L_order_ou d ou q1 q2))))]))) (rest := []) (ci := 3) (q0 := 0) C (c_X3_order l hfl D cI cJ (wY cI cJ y d sy sm sd mi ti sL bL mD mT [(o, .inl (cJ, 1, .inr (.inl (s_L_order_ou d ou q1 q2))))]) z co d ti sL bL mD mT (zw sy) (zw sm) (zw sd) (zw mi) yr mo dy q1 q2 ) q_X3_order rfl rfl rfl gL_law_X3_order ⟨rfl, rfl⟩ rfl rfl (Nat.le_of_ble_eq_true rfl) ⟨Nat.le_of_ble_eq_true rfl, Nat.le_of_ble_eq_true rfl⟩ ⟨Nat.le_trans (by omega) hnc, Nat.le_trans (by omega) hns⟩ dL_law_1142 ?_
  refine z_ws (ws' := (wY cI cJ y d sy sm sd mi ti sL bL mD mT ((o, .inl (cJ, 1, .inr (.inl (s_L_order_ou d ou q1 q2)))) :: (wM cI cJ z (s_X3_order_co q1 q2) d ti sL bL mD mT (zw sy) (zw sm) (zw sd) (zw mi) yr mo dy [])))) [11, 12, 13, 14, 15, 16, 17, 18, 19, 20, 21, 22, 0, 1, 2, 3, 4, 5, 6, 7, 8, 9, 10] rfl (by decide) rfl ?_
  refine z_istore (lv' := [(6, .int (f_X3_order d q1 q2)), (5, .int (f_L_order q1 q2)), (4, .int i4), (3, .ref o), (2, .ref (z 0)), (1, .ref (y 0)), (0, .ref b)]) C dL_law_1145 (by decide) rfl ?_
  refine z_aload_n C dL_law_1147 rfl 4 rfl ?_
  refine z_ws (ws' := (wM cI cJ z (s_X3_order_co q1 q2) d ti sL bL mD mT (zw sy) (zw sm) (zw sd) (zw mi) yr mo dy (wY cI cJ y d sy sm sd mi ti sL bL mD mT [(o, .inl (cJ, 1, .inr (.inl (s_L_order_ou d ou q1 q2))))]))) [12, 13, 14, 15, 16, 17, 18, 19, 20, 21, 22, 0, 1, 2, 3, 4, 5, 6, 7, 8, 9, 10, 11] rfl (by decide) rfl ?_
  refine z_wi (ws' := (wM cI cJ z (s_X3_order_co q1 q2) d ti sL bL mD mT (zw sy) (zw sm) (zw sd) (zw mi) yr mo dy (wY cI cJ y d sy sm sd mi ti sL bL mD mT [(o, .inl (cJ, 1, .inr (.inl (s_L_order_ou d ou q1 q2))))]))) (rest := []) (ci := 3) (q0 := 0) C (c_X3_thrown l hfl D cI cJ (wY cI cJ y d sy sm sd mi ti sL bL mD mT [(o, .inl (cJ, 1, .inr (.inl (s_L_order_ou d ou q1 q2))))]) z (s_X3_order_co q1 q2) d ti sL bL mD mT (zw sy) (zw sm) (zw sd) (zw mi) yr mo dy  ) q_X3_thrown rfl rfl rfl gL_law_X3_thrown ⟨rfl, rfl⟩ rfl rfl (Nat.le_of_ble_eq_true rfl) ⟨Nat.le_of_ble_eq_true rfl, Nat.le_of_ble_eq_true rfl⟩ ⟨Nat.le_trans (by omega) hnc, Nat.le_trans (by omega) hns⟩ dL_law_1148 ?_
  refine z_ws (ws' := (wY cI cJ y d sy sm sd mi ti sL bL mD mT ((o, .inl (cJ, 1, .inr (.inl (s_L_order_ou d ou q1 q2)))) :: (wM cI cJ z (s_X3_order_co q1 q2) d ti sL bL mD mT (zw sy) (zw sm) (zw sd) (zw mi) yr mo dy [])))) [11, 12, 13, 14, 15, 16, 17, 18, 19, 20, 21, 22, 0, 1, 2, 3, 4, 5, 6, 7, 8, 9, 10] rfl (by decide) rfl ?_
  refine z_iload C dL_law_1151 1 rfl ?_
  refine z_icmp_eq (tgt := 1158) C dL_law_1153 (by decide) (fun _ => ?_) (fun h => absurd (g_1) h)
  refine z_iload C dL_law_1158 1 rfl ?_
  refine z_if_ne (tgt := 1175) C dL_law_1160 (by decide) (fun h1 => ?_) (fun h1 => ?_)
  · refine z_goto (tgt := 4233) C dL_law_1175 (by decide) ?_
    refine z_sub [2, 3, 4, 5, 6] rfl ?_
    exact z_widen (by omega) (by omega) kk
  · refine z_aload_n C dL_law_1163 rfl 3 rfl ?_
    refine z_iconst (v := 0) C dL_law_1164 (by decide) ?_
    refine z_lald C 11 1 rfl rfl (zvpl 0 1 (by decide)) dL_law_1165 ?_
    refine z_eqst (st' := [.long ((s_L_order_ou d ou q1 q2) 0)]) rfl ?_
    refine z_iload C dL_law_1166 0 rfl ?_
    refine z_i2l (v := ((f_X3_order d q1 q2)).toInt64) C dL_law_1168 rfl ?_
    refine z_lcmp_eq (tgt := 1175) C dL_law_1169 dL_law_1170 (by decide) (fun _ => ?_) (fun h => absurd (g_2 h1) h)
    refine z_goto (tgt := 4233) C dL_law_1175 (by decide) ?_
    refine z_sub [2, 3, 4, 5, 6] rfl ?_
    exact z_widen (by omega) (by omega) kk
def pre_Lc11 (d : Nat → Int64) (ou : Nat → Int64) (q1 : Int32) (q2 : Int32) (q3 : Int32) : Prop := ((pre_L_between q1 q2 ((q3.toUInt32 % 65536).toInt32))) ∧ ((pre_X3_between d q1 q2 ((q3.toUInt32 % 65536).toInt32))) ∧ (((s_X3_between_co q1 q2 ((q3.toUInt32 % 65536).toInt32)) = (f_L_between q1 q2 ((q3.toUInt32 % 65536).toInt32)))) ∧ (((f_L_between q1 q2 ((q3.toUInt32 % 65536).toInt32)) = 0) → (((s_L_between_ou d ou q1 q2 ((q3.toUInt32 % 65536).toInt32)) 0) = (f_X3_between d q1 q2 ((q3.toUInt32 % 65536).toInt32))))
set_option maxHeartbeats 4000000 in
set_option maxRecDepth 100000 in
theorem law_c11 {p : Program} {l : Launch} {e : Env} {s : State} {m : MethodId} {args : Array Value} {below : List Frame} {meth : Method} {c : Code} {D : va_G} {cI cJ : ClassId} {A : Nat → Prop} {Q : State → Prop} {ret : Option FieldType} (C : ZC p l s m args meth c 9 D (zTys cI cJ) A cL_law wsL_law RL ret) (hfl : l.stackTraces = false) {b Ln : Nat} {xs : Nat → Int32} (hX : va_X b Ln xs s s.heap) (hbl : b < s.heap.size) (hbA : ¬ A b) (y z : Nat → Nat) (o : Nat) (d : Nat → Int64) (sy : Nat → Int32) (sm : Nat → Int32) (sd : Nat → Int32) (mi : Nat → Int32) (ti : Nat → Int64) (sL : Nat → Int64) (bL : Nat → Int64) (mD : Nat → Int64) (mT : Nat → Int64) (co : Int32) (yr : Int64) (mo : Int32) (dy : Int32) (ou : Nat → Int64) (q1 : Int32) (q2 : Int32) (q3 : Int32) (q4 : Int32) (q5 : Int32) (i4 : Int32) (hv1 : vp_in (i4 + 1) Ln) (hq1 : xs (i4 + 1).toNatClampNeg = q1) (hv2 : vp_in (i4 + 2) Ln) (hq2 : xs (i4 + 2).toNatClampNeg = q2) (hv3 : vp_in (i4 + 3) Ln) (hq3 : xs (i4 + 3).toNatClampNeg = q3) (hv4 : vp_in (i4 + 4) Ln) (hq4 : xs (i4 + 4).toNatClampNeg = q4) (hv5 : vp_in (i4 + 5) Ln) (hq5 : xs (i4 + 5).toNatClampNeg = q5) (nc ns : Nat) (hnc : nc + 6 ≤ room_1.cells) (hns : ns + 36 ≤ room_1.slots) (h_g : pre_Lc11 d ou q1 q2 q3) (kk : ZW p l e room_1 s m args below meth c 9 D (zTys cI cJ) A Q (nc + 6) (ns + 36) (wY cI cJ y d sy sm sd mi ti sL bL mD mT ((o, .inl (cJ, 1, .inr (.inl (s_L_between_ou d ou q1 q2 ((q3.toUInt32 % 65536).toInt32))))) :: (wM cI cJ z (s_X3_between_co q1 q2 ((q3.toUInt32 % 65536).toInt32)) d ti sL bL mD mT (zw sy) (zw sm) (zw sd) (zw mi) (s_X3_between_yr d yr q1 q2 ((q3.toUInt32 % 65536).toInt32)) (s_X3_between_mo d mo q1 q2 ((q3.toUInt32 % 65536).toInt32)) (s_X3_between_dy d dy q1 q2 ((q3.toUInt32 % 65536).toInt32)) []))) 4233 [(4, .int i4), (3, .ref o), (2, .ref (z 0)), (1, .ref (y 0)), (0, .ref b)] []) : ZW p l e room_1 s m args below meth c 9 D (zTys cI cJ) A Q nc ns (wY cI cJ y d sy sm sd mi ti sL bL mD mT ((o, .inl (cJ, 1, .inr (.inl ou))) :: (wM cI cJ z co d ti sL bL mD mT (zw sy) (zw sm) (zw sd) (zw mi) yr mo dy []))) 1178 [(4, .int i4), (3, .ref o), (2, .ref (z 0)), (1, .ref (y 0)), (0, .ref b)] [] := by
  obtain ⟨g_0, g_1, g_2, g_3⟩ := h_g
  refine z_aload_n C dL_law_1178 rfl 3 rfl ?_
  refine z_aload_n C dL_law_1179 rfl 4 rfl ?_
  refine z_iload C dL_law_1180 0 rfl ?_
  refine z_iconst (v := 1) C dL_law_1182 (by decide) ?_
  refine z_iadd C dL_law_1183 ?_
  refine z_sld C hX hbl hbA hv1 dL_law_1184 ?_
  refine z_eqst (st' := [.int q1, .ref (y 0)]) (congrArg (fun v => Value.int v :: _) hq1) ?_
  refine z_aload_n C dL_law_1185 rfl 4 rfl ?_
  refine z_iload C dL_law_1186 0 rfl ?_
  refine z_iconst (v := 2) C dL_law_1188 (by decide) ?_
  refine z_iadd C dL_law_1189 ?_
  refine z_sld C hX hbl hbA hv2 dL_law_1190 ?_
  refine z_eqst (st' := [.int q2, .int q1, .ref (y 0)]) (congrArg (fun v => Value.int v :: _) hq2) ?_
  refine z_aload_n C dL_law_1191 rfl 4 rfl ?_
  refine z_iload C dL_law_1192 0 rfl ?_
  refine z_iconst (v := 3) C dL_law_1194 (by decide) ?_
  refine z_iadd C dL_law_1195 ?_
  refine z_sld C hX hbl hbA hv3 dL_law_1196 ?_
  refine z_eqst (st' := [.int q3, .int q2, .int q1, .ref (y 0)]) (congrArg (fun v => Value.int v :: _) hq3) ?_
  refine z_i2c (v := (q3.toUInt32 % 65536).toInt32) C dL_law_1197 rfl ?_
  refine z_aload_n C dL_law_1198 rfl 1 rfl ?_
  refine z_siH (ws' := (wY cI cJ y d sy sm sd mi ti sL bL mD mT ((o, .inl (cJ, 1, .inr (.inl (s_L_between_ou d ou q1 q2 ((q3.toUInt32 % 65536).toInt32))))) :: (wM cI cJ z co d ti sL bL mD mT (zw sy) (zw sm) (zw sd) (zw mi) yr mo dy [])))) C (rest := []) (c_L_between l hfl D cI cJ (wM cI cJ z co d ti sL bL mD mT (zw sy) (zw sm) (zw sd) (zw mi) yr mo dy []) y o d sy sm sd mi ti sL bL mD mT ou q1 q2 ((q3.toUInt32 % 65536).toInt32) (g_0)) q_L_between gL_law_L_between ⟨rfl, rfl⟩ rfl rfl (Nat.le_of_ble_eq_true rfl) ⟨Nat.le_of_ble_eq_true rfl, Nat.le_of_ble_eq_true rfl⟩ ⟨Nat.le_trans (by omega) hnc, Nat.le_trans (by omega) hns⟩ dL_law_1199 ?_
  refine z_istore (lv' := [(5, .int (f_L_between q1 q2 ((q3.toUInt32 % 65536).toInt32))), (4, .int i4), (3, .ref o), (2, .ref (z 0)), (1, .ref (y 0)), (0, .ref b)]) C dL_law_1202 (by decide) rfl ?_
  refine z_aload_n C dL_law_1204 rfl 3 rfl ?_
  refine z_aload_n C dL_law_1205 rfl 5 rfl ?_
  refine z_iload C dL_law_1206 1 rfl ?_
  refine z_iconst (v := 1) C dL_law_1208 (by decide) ?_
  refine z_iadd C dL_law_1209 ?_
  refine z_sld C hX hbl hbA hv1 dL_law_1210 ?_
  refine z_eqst (st' := [.int q1, .ref (z 0)]) (congrArg (fun v => Value.int v :: _) hq1) ?_
  refine z_aload_n C dL_law_1211 rfl 5 rfl ?_
  refine z_iload C dL_law_1212 1 rfl ?_
  refine z_iconst (v := 2) C dL_law_1214 (by decide) ?_
  refine z_iadd C dL_law_1215 ?_
  refine z_sld C hX hbl hbA hv2 dL_law_1216 ?_
  refine z_eqst (st' := [.int q2, .int q1, .ref (z 0)]) (congrArg (fun v => Value.int v :: _) hq2) ?_
  refine z_aload_n C dL_law_1217 rfl 5 rfl ?_
  refine z_iload C dL_law_1218 1 rfl ?_
  refine z_iconst (v := 3) C dL_law_1220 (by decide) ?_
  refine z_iadd C dL_law_1221 ?_
  refine z_sld C hX hbl hbA hv3 dL_law_1222 ?_
  refine z_eqst (st' := [.int q3, .int q2, .int q1, .ref (z 0)]) (congrArg (fun v => Value.int v :: _) hq3) ?_
  refine z_i2c (v := (q3.toUInt32 % 65536).toInt32) C dL_law_1223 rfl ?_
  refine z_ws (ws' := (wM cI cJ z co d ti sL bL mD mT (zw sy) (zw sm) (zw sd) (zw mi) yr mo dy (wY cI cJ y d sy sm sd mi ti sL bL mD mT [(o, .inl (cJ, 1, .inr (.inl (s_L_between_ou d ou q1 q2 ((q3.toUInt32 % 65536).toInt32)))))]))) [12, 13, 14, 15, 16, 17, 18, 19, 20, 21, 22, 0, 1, 2, 3, 4, 5, 6, 7, 8, 9, 10, 11] rfl (by decide) rfl ?_
  refine z_wl (ws' := (wM cI cJ z (s_X3_between_co q1 q2 ((q3.toUInt32 % 65536).toInt32)) d ti sL bL mD mT (zw sy) (zw sm) (zw sd) (zw mi) (s_X3_between_yr d yr q1 q2 ((q3.toUInt32 % 65536).toInt32)) (s_X3_between_mo d mo q1 q2 ((q3.toUInt32 % 65536).toInt32)) (s_X3_between_dy d dy q1 q2 ((q3.toUInt32 % 65536).toInt32)) (wY cI cJ y d sy sm sd mi ti sL bL mD mT [(o, .inl (cJ, 1, .inr (.inl (s_L_between_ou d ou q1 q2 ((q3.toUInt32 % 65536).toInt32)))))]))) (rest := []) (ci := 3) (q0 := 0) C (c_X3_between l hfl D cI cJ (wY cI cJ y d sy sm sd mi ti sL bL mD mT [(o, .inl (cJ, 1, .inr (.inl (s_L_between_ou d ou q1 q2 ((q3.toUInt32 % 65536).toInt32)))))]) z co d ti sL bL mD mT (zw sy) (zw sm) (zw sd) (zw mi) yr mo dy q1 q2 ((q3.toUInt32 % 65536).toInt32) (g_1)) q_X3_between rfl rfl rfl gL_law_X3_between ⟨rfl, rfl⟩ rfl rfl (Nat.le_of_ble_eq_true rfl) ⟨Nat.le_of_ble_eq_true rfl, Nat.le_of_ble_eq_true rfl⟩ ⟨Nat.le_trans (by omega) hnc, Nat.le_trans (by omega) hns⟩ dL_law_1224 ?_
  refine z_ws (ws' := (wY cI cJ y d sy sm sd mi ti sL bL mD mT ((o, .inl (cJ, 1, .inr (.inl (s_L_between_ou d ou q1 q2 ((q3.toUInt32 % 65536).toInt32))))) :: (wM cI cJ z (s_X3_between_co q1 q2 ((q3.toUInt32 % 65536).toInt32)) d ti sL bL mD mT (zw sy) (zw sm) (zw sd) (zw mi) (s_X3_between_yr d yr q1 q2 ((q3.toUInt32 % 65536).toInt32)) (s_X3_between_mo d mo q1 q2 ((q3.toUInt32 % 65536).toInt32)) (s_X3_between_dy d dy q1 q2 ((q3.toUInt32 % 65536).toInt32)) [])))) [11, 12, 13, 14, 15, 16, 17, 18, 19, 20, 21, 22, 0, 1, 2, 3, 4, 5, 6, 7, 8, 9, 10] rfl (by decide) rfl ?_
  refine z_lstore (lv' := [(6, .long (f_X3_between d q1 q2 ((q3.toUInt32 % 65536).toInt32))), (5, .int (f_L_between q1 q2 ((q3.toUInt32 % 65536).toInt32))), (4, .int i4), (3, .ref o), (2, .ref (z 0)), (1, .ref (y 0)), (0, .ref b)]) C dL_law_1227 (by decide) rfl ?_
  refine z_aload_n C dL_law_1229 rfl 4 rfl ?_
  refine z_ws (ws' := (wM cI cJ z (s_X3_between_co q1 q2 ((q3.toUInt32 % 65536).toInt32)) d ti sL bL mD mT (zw sy) (zw sm) (zw sd) (zw mi) (s_X3_between_yr d yr q1 q2 ((q3.toUInt32 % 65536).toInt32)) (s_X3_between_mo d mo q1 q2 ((q3.toUInt32 % 65536).toInt32)) (s_X3_between_dy d dy q1 q2 ((q3.toUInt32 % 65536).toInt32)) (wY cI cJ y d sy sm sd mi ti sL bL mD mT [(o, .inl (cJ, 1, .inr (.inl (s_L_between_ou d ou q1 q2 ((q3.toUInt32 % 65536).toInt32)))))]))) [12, 13, 14, 15, 16, 17, 18, 19, 20, 21, 22, 0, 1, 2, 3, 4, 5, 6, 7, 8, 9, 10, 11] rfl (by decide) rfl ?_
  refine z_wi (ws' := (wM cI cJ z (s_X3_between_co q1 q2 ((q3.toUInt32 % 65536).toInt32)) d ti sL bL mD mT (zw sy) (zw sm) (zw sd) (zw mi) (s_X3_between_yr d yr q1 q2 ((q3.toUInt32 % 65536).toInt32)) (s_X3_between_mo d mo q1 q2 ((q3.toUInt32 % 65536).toInt32)) (s_X3_between_dy d dy q1 q2 ((q3.toUInt32 % 65536).toInt32)) (wY cI cJ y d sy sm sd mi ti sL bL mD mT [(o, .inl (cJ, 1, .inr (.inl (s_L_between_ou d ou q1 q2 ((q3.toUInt32 % 65536).toInt32)))))]))) (rest := []) (ci := 3) (q0 := 0) C (c_X3_thrown l hfl D cI cJ (wY cI cJ y d sy sm sd mi ti sL bL mD mT [(o, .inl (cJ, 1, .inr (.inl (s_L_between_ou d ou q1 q2 ((q3.toUInt32 % 65536).toInt32)))))]) z (s_X3_between_co q1 q2 ((q3.toUInt32 % 65536).toInt32)) d ti sL bL mD mT (zw sy) (zw sm) (zw sd) (zw mi) (s_X3_between_yr d yr q1 q2 ((q3.toUInt32 % 65536).toInt32)) (s_X3_between_mo d mo q1 q2 ((q3.toUInt32 % 65536).toInt32)) (s_X3_between_dy d dy q1 q2 ((q3.toUInt32 % 65536).toInt32))  ) q_X3_thrown rfl rfl rfl gL_law_X3_thrown ⟨rfl, rfl⟩ rfl rfl (Nat.le_of_ble_eq_true rfl) ⟨Nat.le_of_ble_eq_true rfl, Nat.le_of_ble_eq_true rfl⟩ ⟨Nat.le_trans (by omega) hnc, Nat.le_trans (by omega) hns⟩ dL_law_1230 ?_
  refine z_ws (ws' := (wY cI cJ y d sy sm sd mi ti sL bL mD mT ((o, .inl (cJ, 1, .inr (.inl (s_L_between_ou d ou q1 q2 ((q3.toUInt32 % 65536).toInt32))))) :: (wM cI cJ z (s_X3_between_co q1 q2 ((q3.toUInt32 % 65536).toInt32)) d ti sL bL mD mT (zw sy) (zw sm) (zw sd) (zw mi) (s_X3_between_yr d yr q1 q2 ((q3.toUInt32 % 65536).toInt32)) (s_X3_between_mo d mo q1 q2 ((q3.toUInt32 % 65536).toInt32)) (s_X3_between_dy d dy q1 q2 ((q3.toUInt32 % 65536).toInt32)) [])))) [11, 12, 13, 14, 15, 16, 17, 18, 19, 20, 21, 22, 0, 1, 2, 3, 4, 5, 6, 7, 8, 9, 10] rfl (by decide) rfl ?_
  refine z_iload C dL_law_1233 1 rfl ?_
  refine z_icmp_eq (tgt := 1240) C dL_law_1235 (by decide) (fun _ => ?_) (fun h => absurd (g_2) h)
  refine z_iload C dL_law_1240 1 rfl ?_
  refine z_if_ne (tgt := 1256) C dL_law_1242 (by decide) (fun h1 => ?_) (fun h1 => ?_)
  · refine z_goto (tgt := 4233) C dL_law_1256 (by decide) ?_
    refine z_sub [2, 3, 4, 5, 6] rfl ?_
    exact z_widen (by omega) (by omega) kk
  · refine z_aload_n C dL_law_1245 rfl 3 rfl ?_
    refine z_iconst (v := 0) C dL_law_1246 (by decide) ?_
    refine z_lald C 11 1 rfl rfl (zvpl 0 1 (by decide)) dL_law_1247 ?_
    refine z_eqst (st' := [.long ((s_L_between_ou d ou q1 q2 ((q3.toUInt32 % 65536).toInt32)) 0)]) rfl ?_
    refine z_lload C dL_law_1248 0 rfl ?_
    refine z_lcmp_eq (tgt := 1256) C dL_law_1250 dL_law_1251 (by decide) (fun _ => ?_) (fun h => absurd (g_3 h1) h)
    refine z_goto (tgt := 4233) C dL_law_1256 (by decide) ?_
    refine z_sub [2, 3, 4, 5, 6] rfl ?_
    exact z_widen (by omega) (by omega) kk
def pre_Lc12 (sy : Nat → Int32) (sm : Nat → Int32) (ou : Nat → Int64) (q1 : Int32) (q2 : Int32) (q3 : Int32) (q4 : Int32) : Prop := ((pre_L_span q1 q2 q3 q4)) ∧ (((s_X3_span_co q1 q2 q3 q4) = (f_L_span q1 q2 q3 q4))) ∧ (((f_L_span q1 q2 q3 q4) = 0) → (((s_L_span_ou sy sm ou q1 q2 q3 q4) 0) = (f_X3_span (zw sy) (zw sm) q1 q2 q3 q4)))
set_option maxHeartbeats 4000000 in
set_option maxRecDepth 100000 in
theorem law_c12 {p : Program} {l : Launch} {e : Env} {s : State} {m : MethodId} {args : Array Value} {below : List Frame} {meth : Method} {c : Code} {D : va_G} {cI cJ : ClassId} {A : Nat → Prop} {Q : State → Prop} {ret : Option FieldType} (C : ZC p l s m args meth c 9 D (zTys cI cJ) A cL_law wsL_law RL ret) (hfl : l.stackTraces = false) {b Ln : Nat} {xs : Nat → Int32} (hX : va_X b Ln xs s s.heap) (hbl : b < s.heap.size) (hbA : ¬ A b) (y z : Nat → Nat) (o : Nat) (d : Nat → Int64) (sy : Nat → Int32) (sm : Nat → Int32) (sd : Nat → Int32) (mi : Nat → Int32) (ti : Nat → Int64) (sL : Nat → Int64) (bL : Nat → Int64) (mD : Nat → Int64) (mT : Nat → Int64) (co : Int32) (yr : Int64) (mo : Int32) (dy : Int32) (ou : Nat → Int64) (q1 : Int32) (q2 : Int32) (q3 : Int32) (q4 : Int32) (q5 : Int32) (i4 : Int32) (hv1 : vp_in (i4 + 1) Ln) (hq1 : xs (i4 + 1).toNatClampNeg = q1) (hv2 : vp_in (i4 + 2) Ln) (hq2 : xs (i4 + 2).toNatClampNeg = q2) (hv3 : vp_in (i4 + 3) Ln) (hq3 : xs (i4 + 3).toNatClampNeg = q3) (hv4 : vp_in (i4 + 4) Ln) (hq4 : xs (i4 + 4).toNatClampNeg = q4) (hv5 : vp_in (i4 + 5) Ln) (hq5 : xs (i4 + 5).toNatClampNeg = q5) (nc ns : Nat) (hnc : nc + 6 ≤ room_1.cells) (hns : ns + 36 ≤ room_1.slots) (h_g : pre_Lc12 sy sm ou q1 q2 q3 q4) (kk : ZW p l e room_1 s m args below meth c 9 D (zTys cI cJ) A Q (nc + 6) (ns + 36) (wY cI cJ y d (s_L_span_sy sy q1 q2 q3 q4) (s_L_span_sm sm q1 q2 q3 q4) (s_L_span_sd sd q1 q2 q3 q4) mi ti sL bL mD mT ((o, .inl (cJ, 1, .inr (.inl (s_L_span_ou sy sm ou q1 q2 q3 q4)))) :: (wM cI cJ z (s_X3_span_co q1 q2 q3 q4) d ti sL bL mD mT (s_X3_span_sy (zw sy) q1 q2 q3 q4) (s_X3_span_sm (zw sm) q1 q2 q3 q4) (s_X3_span_sd (zw sd) q1 q2 q3 q4) (zw mi) yr mo dy []))) 4233 [(4, .int i4), (3, .ref o), (2, .ref (z 0)), (1, .ref (y 0)), (0, .ref b)] []) : ZW p l e room_1 s m args below meth c 9 D (zTys cI cJ) A Q nc ns (wY cI cJ y d sy sm sd mi ti sL bL mD mT ((o, .inl (cJ, 1, .inr (.inl ou))) :: (wM cI cJ z co d ti sL bL mD mT (zw sy) (zw sm) (zw sd) (zw mi) yr mo dy []))) 1259 [(4, .int i4), (3, .ref o), (2, .ref (z 0)), (1, .ref (y 0)), (0, .ref b)] [] := by
  obtain ⟨g_0, g_1, g_2⟩ := h_g
  refine z_aload_n C dL_law_1259 rfl 3 rfl ?_
  refine z_aload_n C dL_law_1260 rfl 4 rfl ?_
  refine z_iload C dL_law_1261 0 rfl ?_
  refine z_iconst (v := 1) C dL_law_1263 (by decide) ?_
  refine z_iadd C dL_law_1264 ?_
  refine z_sld C hX hbl hbA hv1 dL_law_1265 ?_
  refine z_eqst (st' := [.int q1, .ref (y 0)]) (congrArg (fun v => Value.int v :: _) hq1) ?_
  refine z_aload_n C dL_law_1266 rfl 4 rfl ?_
  refine z_iload C dL_law_1267 0 rfl ?_
  refine z_iconst (v := 2) C dL_law_1269 (by decide) ?_
  refine z_iadd C dL_law_1270 ?_
  refine z_sld C hX hbl hbA hv2 dL_law_1271 ?_
  refine z_eqst (st' := [.int q2, .int q1, .ref (y 0)]) (congrArg (fun v => Value.int v :: _) hq2) ?_
  refine z_aload_n C dL_law_1272 rfl 4 rfl ?_
  refine z_iload C dL_law_1273 0 rfl ?_
  refine z_iconst (v := 3) C dL_law_1275 (by decide) ?_
  refine z_iadd C dL_law_1276 ?_
  refine z_sld C hX hbl hbA hv3 dL_law_1277 ?_
  refine z_eqst (st' := [.int q3, .int q2, .int q1, .ref (y 0)]) (congrArg (fun v => Value.int v :: _) hq3) ?_
  refine z_aload_n C dL_law_1278 rfl 4 rfl ?_
  refine z_iload C dL_law_1279 0 rfl ?_
  refine z_iconst (v := 4) C dL_law_1281 (by decide) ?_
  refine z_iadd C dL_law_1282 ?_
  refine z_sld C hX hbl hbA hv4 dL_law_1283 ?_
  refine z_eqst (st' := [.int q4, .int q3, .int q2, .int q1, .ref (y 0)]) (congrArg (fun v => Value.int v :: _) hq4) ?_
  refine z_aload_n C dL_law_1284 rfl 1 rfl ?_
  refine z_siH (ws' := (wY cI cJ y d (s_L_span_sy sy q1 q2 q3 q4) (s_L_span_sm sm q1 q2 q3 q4) (s_L_span_sd sd q1 q2 q3 q4) mi ti sL bL mD mT ((o, .inl (cJ, 1, .inr (.inl (s_L_span_ou sy sm ou q1 q2 q3 q4)))) :: (wM cI cJ z co d ti sL bL mD mT (zw sy) (zw sm) (zw sd) (zw mi) yr mo dy [])))) C (rest := []) (c_L_span l hfl D cI cJ (wM cI cJ z co d ti sL bL mD mT (zw sy) (zw sm) (zw sd) (zw mi) yr mo dy []) y o d sy sm sd mi ti sL bL mD mT ou q1 q2 q3 q4 (g_0)) q_L_span gL_law_L_span ⟨rfl, rfl⟩ rfl rfl (Nat.le_of_ble_eq_true rfl) ⟨Nat.le_of_ble_eq_true rfl, Nat.le_of_ble_eq_true rfl⟩ ⟨Nat.le_trans (by omega) hnc, Nat.le_trans (by omega) hns⟩ dL_law_1285 ?_
  refine z_istore (lv' := [(5, .int (f_L_span q1 q2 q3 q4)), (4, .int i4), (3, .ref o), (2, .ref (z 0)), (1, .ref (y 0)), (0, .ref b)]) C dL_law_1288 (by decide) rfl ?_
  refine z_aload_n C dL_law_1290 rfl 3 rfl ?_
  refine z_aload_n C dL_law_1291 rfl 5 rfl ?_
  refine z_iload C dL_law_1292 1 rfl ?_
  refine z_iconst (v := 1) C dL_law_1294 (by decide) ?_
  refine z_iadd C dL_law_1295 ?_
  refine z_sld C hX hbl hbA hv1 dL_law_1296 ?_
  refine z_eqst (st' := [.int q1, .ref (z 0)]) (congrArg (fun v => Value.int v :: _) hq1) ?_
  refine z_aload_n C dL_law_1297 rfl 5 rfl ?_
  refine z_iload C dL_law_1298 1 rfl ?_
  refine z_iconst (v := 2) C dL_law_1300 (by decide) ?_
  refine z_iadd C dL_law_1301 ?_
  refine z_sld C hX hbl hbA hv2 dL_law_1302 ?_
  refine z_eqst (st' := [.int q2, .int q1, .ref (z 0)]) (congrArg (fun v => Value.int v :: _) hq2) ?_
  refine z_aload_n C dL_law_1303 rfl 5 rfl ?_
  refine z_iload C dL_law_1304 1 rfl ?_
  refine z_iconst (v := 3) C dL_law_1306 (by decide) ?_
  refine z_iadd C dL_law_1307 ?_
  refine z_sld C hX hbl hbA hv3 dL_law_1308 ?_
  refine z_eqst (st' := [.int q3, .int q2, .int q1, .ref (z 0)]) (congrArg (fun v => Value.int v :: _) hq3) ?_
  refine z_aload_n C dL_law_1309 rfl 5 rfl ?_
  refine z_iload C dL_law_1310 1 rfl ?_
  refine z_iconst (v := 4) C dL_law_1312 (by decide) ?_
  refine z_iadd C dL_law_1313 ?_
  refine z_sld C hX hbl hbA hv4 dL_law_1314 ?_
  refine z_eqst (st' := [.int q4, .int q3, .int q2, .int q1, .ref (z 0)]) (congrArg (fun v => Value.int v :: _) hq4) ?_
  refine z_ws (ws' := (wM cI cJ z co d ti sL bL mD mT (zw sy) (zw sm) (zw sd) (zw mi) yr mo dy (wY cI cJ y d (s_L_span_sy sy q1 q2 q3 q4) (s_L_span_sm sm q1 q2 q3 q4) (s_L_span_sd sd q1 q2 q3 q4) mi ti sL bL mD mT [(o, .inl (cJ, 1, .inr (.inl (s_L_span_ou sy sm ou q1 q2 q3 q4))))]))) [12, 13, 14, 15, 16, 17, 18, 19, 20, 21, 22, 0, 1, 2, 3, 4, 5, 6, 7, 8, 9, 10, 11] rfl (by decide) rfl ?_
  refine z_wl (ws' := (wM cI cJ z (s_X3_span_co q1 q2 q3 q4) d ti sL bL mD mT (s_X3_span_sy (zw sy) q1 q2 q3 q4) (s_X3_span_sm (zw sm) q1 q2 q3 q4) (s_X3_span_sd (zw sd) q1 q2 q3 q4) (zw mi) yr mo dy (wY cI cJ y d (s_L_span_sy sy q1 q2 q3 q4) (s_L_span_sm sm q1 q2 q3 q4) (s_L_span_sd sd q1 q2 q3 q4) mi ti sL bL mD mT [(o, .inl (cJ, 1, .inr (.inl (s_L_span_ou sy sm ou q1 q2 q3 q4))))]))) (rest := []) (ci := 3) (q0 := 0) C (c_X3_span l hfl D cI cJ (wY cI cJ y d (s_L_span_sy sy q1 q2 q3 q4) (s_L_span_sm sm q1 q2 q3 q4) (s_L_span_sd sd q1 q2 q3 q4) mi ti sL bL mD mT [(o, .inl (cJ, 1, .inr (.inl (s_L_span_ou sy sm ou q1 q2 q3 q4))))]) z co d ti sL bL mD mT (zw sy) (zw sm) (zw sd) (zw mi) yr mo dy q1 q2 q3 q4 ) q_X3_span rfl rfl rfl gL_law_X3_span ⟨rfl, rfl⟩ rfl rfl (Nat.le_of_ble_eq_true rfl) ⟨Nat.le_of_ble_eq_true rfl, Nat.le_of_ble_eq_true rfl⟩ ⟨Nat.le_trans (by omega) hnc, Nat.le_trans (by omega) hns⟩ dL_law_1315 ?_
  refine z_ws (ws' := (wY cI cJ y d (s_L_span_sy sy q1 q2 q3 q4) (s_L_span_sm sm q1 q2 q3 q4) (s_L_span_sd sd q1 q2 q3 q4) mi ti sL bL mD mT ((o, .inl (cJ, 1, .inr (.inl (s_L_span_ou sy sm ou q1 q2 q3 q4)))) :: (wM cI cJ z (s_X3_span_co q1 q2 q3 q4) d ti sL bL mD mT (s_X3_span_sy (zw sy) q1 q2 q3 q4) (s_X3_span_sm (zw sm) q1 q2 q3 q4) (s_X3_span_sd (zw sd) q1 q2 q3 q4) (zw mi) yr mo dy [])))) [11, 12, 13, 14, 15, 16, 17, 18, 19, 20, 21, 22, 0, 1, 2, 3, 4, 5, 6, 7, 8, 9, 10] rfl (by decide) rfl ?_
  refine z_lstore (lv' := [(6, .long (f_X3_span (zw sy) (zw sm) q1 q2 q3 q4)), (5, .int (f_L_span q1 q2 q3 q4)), (4, .int i4), (3, .ref o), (2, .ref (z 0)), (1, .ref (y 0)), (0, .ref b)]) C dL_law_1318 (by decide) rfl ?_
  refine z_aload_n C dL_law_1320 rfl 4 rfl ?_
  refine z_ws (ws' := (wM cI cJ z (s_X3_span_co q1 q2 q3 q4) d ti sL bL mD mT (s_X3_span_sy (zw sy) q1 q2 q3 q4) (s_X3_span_sm (zw sm) q1 q2 q3 q4) (s_X3_span_sd (zw sd) q1 q2 q3 q4) (zw mi) yr mo dy (wY cI cJ y d (s_L_span_sy sy q1 q2 q3 q4) (s_L_span_sm sm q1 q2 q3 q4) (s_L_span_sd sd q1 q2 q3 q4) mi ti sL bL mD mT [(o, .inl (cJ, 1, .inr (.inl (s_L_span_ou sy sm ou q1 q2 q3 q4))))]))) [12, 13, 14, 15, 16, 17, 18, 19, 20, 21, 22, 0, 1, 2, 3, 4, 5, 6, 7, 8, 9, 10, 11] rfl (by decide) rfl ?_
  refine z_wi (ws' := (wM cI cJ z (s_X3_span_co q1 q2 q3 q4) d ti sL bL mD mT (s_X3_span_sy (zw sy) q1 q2 q3 q4) (s_X3_span_sm (zw sm) q1 q2 q3 q4) (s_X3_span_sd (zw sd) q1 q2 q3 q4) (zw mi) yr mo dy (wY cI cJ y d (s_L_span_sy sy q1 q2 q3 q4) (s_L_span_sm sm q1 q2 q3 q4) (s_L_span_sd sd q1 q2 q3 q4) mi ti sL bL mD mT [(o, .inl (cJ, 1, .inr (.inl (s_L_span_ou sy sm ou q1 q2 q3 q4))))]))) (rest := []) (ci := 3) (q0 := 0) C (c_X3_thrown l hfl D cI cJ (wY cI cJ y d (s_L_span_sy sy q1 q2 q3 q4) (s_L_span_sm sm q1 q2 q3 q4) (s_L_span_sd sd q1 q2 q3 q4) mi ti sL bL mD mT [(o, .inl (cJ, 1, .inr (.inl (s_L_span_ou sy sm ou q1 q2 q3 q4))))]) z (s_X3_span_co q1 q2 q3 q4) d ti sL bL mD mT (s_X3_span_sy (zw sy) q1 q2 q3 q4) (s_X3_span_sm (zw sm) q1 q2 q3 q4) (s_X3_span_sd (zw sd) q1 q2 q3 q4) (zw mi) yr mo dy  ) q_X3_thrown rfl rfl rfl gL_law_X3_thrown ⟨rfl, rfl⟩ rfl rfl (Nat.le_of_ble_eq_true rfl) ⟨Nat.le_of_ble_eq_true rfl, Nat.le_of_ble_eq_true rfl⟩ ⟨Nat.le_trans (by omega) hnc, Nat.le_trans (by omega) hns⟩ dL_law_1321 ?_
  refine z_ws (ws' := (wY cI cJ y d (s_L_span_sy sy q1 q2 q3 q4) (s_L_span_sm sm q1 q2 q3 q4) (s_L_span_sd sd q1 q2 q3 q4) mi ti sL bL mD mT ((o, .inl (cJ, 1, .inr (.inl (s_L_span_ou sy sm ou q1 q2 q3 q4)))) :: (wM cI cJ z (s_X3_span_co q1 q2 q3 q4) d ti sL bL mD mT (s_X3_span_sy (zw sy) q1 q2 q3 q4) (s_X3_span_sm (zw sm) q1 q2 q3 q4) (s_X3_span_sd (zw sd) q1 q2 q3 q4) (zw mi) yr mo dy [])))) [11, 12, 13, 14, 15, 16, 17, 18, 19, 20, 21, 22, 0, 1, 2, 3, 4, 5, 6, 7, 8, 9, 10] rfl (by decide) rfl ?_
  refine z_iload C dL_law_1324 1 rfl ?_
  refine z_icmp_eq (tgt := 1331) C dL_law_1326 (by decide) (fun _ => ?_) (fun h => absurd (g_1) h)
  refine z_iload C dL_law_1331 1 rfl ?_
  refine z_if_ne (tgt := 1347) C dL_law_1333 (by decide) (fun h1 => ?_) (fun h1 => ?_)
  · refine z_goto (tgt := 4233) C dL_law_1347 (by decide) ?_
    refine z_sub [2, 3, 4, 5, 6] rfl ?_
    exact z_widen (by omega) (by omega) kk
  · refine z_aload_n C dL_law_1336 rfl 3 rfl ?_
    refine z_iconst (v := 0) C dL_law_1337 (by decide) ?_
    refine z_lald C 11 1 rfl rfl (zvpl 0 1 (by decide)) dL_law_1338 ?_
    refine z_eqst (st' := [.long ((s_L_span_ou sy sm ou q1 q2 q3 q4) 0)]) rfl ?_
    refine z_lload C dL_law_1339 0 rfl ?_
    refine z_lcmp_eq (tgt := 1347) C dL_law_1341 dL_law_1342 (by decide) (fun _ => ?_) (fun h => absurd (g_2 h1) h)
    refine z_goto (tgt := 4233) C dL_law_1347 (by decide) ?_
    refine z_sub [2, 3, 4, 5, 6] rfl ?_
    exact z_widen (by omega) (by omega) kk
def pre_Lc13 (d : Nat → Int64) (sy : Nat → Int32) (sm : Nat → Int32) (ou : Nat → Int64) (q1 : Int32) (q2 : Int32) (q3 : Int32) : Prop := ((pre_L_until d q1 q2 q3)) ∧ ((pre_X3_until d q1 q2 q3)) ∧ (((s_X3_until_co d q1 q2 q3) = (f_L_until d q1 q2 q3))) ∧ (((f_L_until d q1 q2 q3) = 0) → (((s_L_until_ou d sy sm ou q1 q2 q3) 0) = (f_X3_until d (zw sy) (zw sm) q1 q2 q3)))
set_option maxHeartbeats 4000000 in
set_option maxRecDepth 100000 in
theorem law_c13 {p : Program} {l : Launch} {e : Env} {s : State} {m : MethodId} {args : Array Value} {below : List Frame} {meth : Method} {c : Code} {D : va_G} {cI cJ : ClassId} {A : Nat → Prop} {Q : State → Prop} {ret : Option FieldType} (C : ZC p l s m args meth c 9 D (zTys cI cJ) A cL_law wsL_law RL ret) (hfl : l.stackTraces = false) {b Ln : Nat} {xs : Nat → Int32} (hX : va_X b Ln xs s s.heap) (hbl : b < s.heap.size) (hbA : ¬ A b) (y z : Nat → Nat) (o : Nat) (d : Nat → Int64) (sy : Nat → Int32) (sm : Nat → Int32) (sd : Nat → Int32) (mi : Nat → Int32) (ti : Nat → Int64) (sL : Nat → Int64) (bL : Nat → Int64) (mD : Nat → Int64) (mT : Nat → Int64) (co : Int32) (yr : Int64) (mo : Int32) (dy : Int32) (ou : Nat → Int64) (q1 : Int32) (q2 : Int32) (q3 : Int32) (q4 : Int32) (q5 : Int32) (i4 : Int32) (hv1 : vp_in (i4 + 1) Ln) (hq1 : xs (i4 + 1).toNatClampNeg = q1) (hv2 : vp_in (i4 + 2) Ln) (hq2 : xs (i4 + 2).toNatClampNeg = q2) (hv3 : vp_in (i4 + 3) Ln) (hq3 : xs (i4 + 3).toNatClampNeg = q3) (hv4 : vp_in (i4 + 4) Ln) (hq4 : xs (i4 + 4).toNatClampNeg = q4) (hv5 : vp_in (i4 + 5) Ln) (hq5 : xs (i4 + 5).toNatClampNeg = q5) (nc ns : Nat) (hnc : nc + 6 ≤ room_1.cells) (hns : ns + 36 ≤ room_1.slots) (h_g : pre_Lc13 d sy sm ou q1 q2 q3) (kk : ZW p l e room_1 s m args below meth c 9 D (zTys cI cJ) A Q (nc + 6) (ns + 36) (wY cI cJ y d (s_L_until_sy d sy q1 q2 q3) (s_L_until_sm d sm q1 q2 q3) (s_L_until_sd d sd q1 q2 q3) mi ti sL bL mD mT ((o, .inl (cJ, 1, .inr (.inl (s_L_until_ou d sy sm ou q1 q2 q3)))) :: (wM cI cJ z (s_X3_until_co d q1 q2 q3) d ti sL bL mD mT (s_X3_until_sy d (zw sy) q1 q2 q3) (s_X3_until_sm d (zw sm) q1 q2 q3) (s_X3_until_sd d (zw sd) q1 q2 q3) (zw mi) (s_X3_until_yr d yr q1 q2 q3) (s_X3_until_mo d mo q1 q2 q3) (s_X3_until_dy d dy q1 q2 q3) []))) 4233 [(4, .int i4), (3, .ref o), (2, .ref (z 0)), (1, .ref (y 0)), (0, .ref b)] []) : ZW p l e room_1 s m args below meth c 9 D (zTys cI cJ) A Q nc ns (wY cI cJ y d sy sm sd mi ti sL bL mD mT ((o, .inl (cJ, 1, .inr (.inl ou))) :: (wM cI cJ z co d ti sL bL mD mT (zw sy) (zw sm) (zw sd) (zw mi) yr mo dy []))) 1350 [(4, .int i4), (3, .ref o), (2, .ref (z 0)), (1, .ref (y 0)), (0, .ref b)] [] := by
  obtain ⟨g_0, g_1, g_2, g_3⟩ := h_g
  refine z_aload_n C dL_law_1350 rfl 3 rfl ?_
  refine z_aload_n C dL_law_1351 rfl 4 rfl ?_
  refine z_iload C dL_law_1352 0 rfl ?_
  refine z_iconst (v := 1) C dL_law_1354 (by decide) ?_
  refine z_iadd C dL_law_1355 ?_
  refine z_sld C hX hbl hbA hv1 dL_law_1356 ?_
  refine z_eqst (st' := [.int q1, .ref (y 0)]) (congrArg (fun v => Value.int v :: _) hq1) ?_
  refine z_aload_n C dL_law_1357 rfl 4 rfl ?_
  refine z_iload C dL_law_1358 0 rfl ?_
  refine z_iconst (v := 2) C dL_law_1360 (by decide) ?_
  refine z_iadd C dL_law_1361 ?_
  refine z_sld C hX hbl hbA hv2 dL_law_1362 ?_
  refine z_eqst (st' := [.int q2, .int q1, .ref (y 0)]) (congrArg (fun v => Value.int v :: _) hq2) ?_
  refine z_aload_n C dL_law_1363 rfl 4 rfl ?_
  refine z_iload C dL_law_1364 0 rfl ?_
  refine z_iconst (v := 3) C dL_law_1366 (by decide) ?_
  refine z_iadd C dL_law_1367 ?_
  refine z_sld C hX hbl hbA hv3 dL_law_1368 ?_
  refine z_eqst (st' := [.int q3, .int q2, .int q1, .ref (y 0)]) (congrArg (fun v => Value.int v :: _) hq3) ?_
  refine z_aload_n C dL_law_1369 rfl 1 rfl ?_
  refine z_siH (ws' := (wY cI cJ y d (s_L_until_sy d sy q1 q2 q3) (s_L_until_sm d sm q1 q2 q3) (s_L_until_sd d sd q1 q2 q3) mi ti sL bL mD mT ((o, .inl (cJ, 1, .inr (.inl (s_L_until_ou d sy sm ou q1 q2 q3)))) :: (wM cI cJ z co d ti sL bL mD mT (zw sy) (zw sm) (zw sd) (zw mi) yr mo dy [])))) C (rest := []) (c_L_until l hfl D cI cJ (wM cI cJ z co d ti sL bL mD mT (zw sy) (zw sm) (zw sd) (zw mi) yr mo dy []) y o d sy sm sd mi ti sL bL mD mT ou q1 q2 q3 (g_0)) q_L_until gL_law_L_until ⟨rfl, rfl⟩ rfl rfl (Nat.le_of_ble_eq_true rfl) ⟨Nat.le_of_ble_eq_true rfl, Nat.le_of_ble_eq_true rfl⟩ ⟨Nat.le_trans (by omega) hnc, Nat.le_trans (by omega) hns⟩ dL_law_1370 ?_
  refine z_istore (lv' := [(5, .int (f_L_until d q1 q2 q3)), (4, .int i4), (3, .ref o), (2, .ref (z 0)), (1, .ref (y 0)), (0, .ref b)]) C dL_law_1373 (by decide) rfl ?_
  refine z_aload_n C dL_law_1375 rfl 3 rfl ?_
  refine z_aload_n C dL_law_1376 rfl 5 rfl ?_
  refine z_iload C dL_law_1377 1 rfl ?_
  refine z_iconst (v := 1) C dL_law_1379 (by decide) ?_
  refine z_iadd C dL_law_1380 ?_
  refine z_sld C hX hbl hbA hv1 dL_law_1381 ?_
  refine z_eqst (st' := [.int q1, .ref (z 0)]) (congrArg (fun v => Value.int v :: _) hq1) ?_
  refine z_aload_n C dL_law_1382 rfl 5 rfl ?_
  refine z_iload C dL_law_1383 1 rfl ?_
  refine z_iconst (v := 2) C dL_law_1385 (by decide) ?_
  refine z_iadd C dL_law_1386 ?_
  refine z_sld C hX hbl hbA hv2 dL_law_1387 ?_
  refine z_eqst (st' := [.int q2, .int q1, .ref (z 0)]) (congrArg (fun v => Value.int v :: _) hq2) ?_
  refine z_aload_n C dL_law_1388 rfl 5 rfl ?_
  refine z_iload C dL_law_1389 1 rfl ?_
  refine z_iconst (v := 3) C dL_law_1391 (by decide) ?_
  refine z_iadd C dL_law_1392 ?_
  refine z_sld C hX hbl hbA hv3 dL_law_1393 ?_
  refine z_eqst (st' := [.int q3, .int q2, .int q1, .ref (z 0)]) (congrArg (fun v => Value.int v :: _) hq3) ?_
  refine z_ws (ws' := (wM cI cJ z co d ti sL bL mD mT (zw sy) (zw sm) (zw sd) (zw mi) yr mo dy (wY cI cJ y d (s_L_until_sy d sy q1 q2 q3) (s_L_until_sm d sm q1 q2 q3) (s_L_until_sd d sd q1 q2 q3) mi ti sL bL mD mT [(o, .inl (cJ, 1, .inr (.inl (s_L_until_ou d sy sm ou q1 q2 q3))))]))) [12, 13, 14, 15, 16, 17, 18, 19, 20, 21, 22, 0, 1, 2, 3, 4, 5, 6, 7, 8, 9, 10, 11] rfl (by decide) rfl ?_
  refine z_wl (ws' := (wM cI cJ z (s_X3_until_co d q1 q2 q3) d ti sL bL mD mT (s_X3_until_sy d (zw sy) q1 q2 q3) (s_X3_until_sm d (zw sm) q1 q2 q3) (s_X3_until_sd d (zw sd) q1 q2 q3) (zw mi) (s_X3_until_yr d yr q1 q2 q3) (s_X3_until_mo d mo q1 q2 q3) (s_X3_until_dy d dy q1 q2 q3) (wY cI cJ y d (s_L_until_sy d sy q1 q2 q3) (s_L_until_sm d sm q1 q2 q3) (s_L_until_sd d sd q1 q2 q3) mi ti sL bL mD mT [(o, .inl (cJ, 1, .inr (.inl (s_L_until_ou d sy sm ou q1 q2 q3))))]))) (rest := []) (ci := 3) (q0 := 0) C (c_X3_until l hfl D cI cJ (wY cI cJ y d (s_L_until_sy d sy q1 q2 q3) (s_L_until_sm d sm q1 q2 q3) (s_L_until_sd d sd q1 q2 q3) mi ti sL bL mD mT [(o, .inl (cJ, 1, .inr (.inl (s_L_until_ou d sy sm ou q1 q2 q3))))]) z co d ti sL bL mD mT (zw sy) (zw sm) (zw sd) (zw mi) yr mo dy q1 q2 q3 (g_1)) q_X3_until rfl rfl rfl gL_law_X3_until ⟨rfl, rfl⟩ rfl rfl (Nat.le_of_ble_eq_true rfl) ⟨Nat.le_of_ble_eq_true rfl, Nat.le_of_ble_eq_true rfl⟩ ⟨Nat.le_trans (by omega) hnc, Nat.le_trans (by omega) hns⟩ dL_law_1394 ?_
  refine z_ws (ws' := (wY cI cJ y d (s_L_until_sy d sy q1 q2 q3) (s_L_until_sm d sm q1 q2 q3) (s_L_until_sd d sd q1 q2 q3) mi ti sL bL mD mT ((o, .inl (cJ, 1, .inr (.inl (s_L_until_ou d sy sm ou q1 q2 q3)))) :: (wM cI cJ z (s_X3_until_co d q1 q2 q3) d ti sL bL mD mT (s_X3_until_sy d (zw sy) q1 q2 q3) (s_X3_until_sm d (zw sm) q1 q2 q3) (s_X3_until_sd d (zw sd) q1 q2 q3) (zw mi) (s_X3_until_yr d yr q1 q2 q3) (s_X3_until_mo d mo q1 q2 q3) (s_X3_until_dy d dy q1 q2 q3) [])))) [11, 12, 13, 14, 15, 16, 17, 18, 19, 20, 21, 22, 0, 1, 2, 3, 4, 5, 6, 7, 8, 9, 10] rfl (by decide) rfl ?_
  refine z_lstore (lv' := [(6, .long (f_X3_until d (zw sy) (zw sm) q1 q2 q3)), (5, .int (f_L_until d q1 q2 q3)), (4, .int i4), (3, .ref o), (2, .ref (z 0)), (1, .ref (y 0)), (0, .ref b)]) C dL_law_1397 (by decide) rfl ?_
  refine z_aload_n C dL_law_1399 rfl 4 rfl ?_
  refine z_ws (ws' := (wM cI cJ z (s_X3_until_co d q1 q2 q3) d ti sL bL mD mT (s_X3_until_sy d (zw sy) q1 q2 q3) (s_X3_until_sm d (zw sm) q1 q2 q3) (s_X3_until_sd d (zw sd) q1 q2 q3) (zw mi) (s_X3_until_yr d yr q1 q2 q3) (s_X3_until_mo d mo q1 q2 q3) (s_X3_until_dy d dy q1 q2 q3) (wY cI cJ y d (s_L_until_sy d sy q1 q2 q3) (s_L_until_sm d sm q1 q2 q3) (s_L_until_sd d sd q1 q2 q3) mi ti sL bL mD mT [(o, .inl (cJ, 1, .inr (.inl (s_L_until_ou d sy sm ou q1 q2 q3))))]))) [12, 13, 14, 15, 16, 17, 18, 19, 20, 21, 22, 0, 1, 2, 3, 4, 5, 6, 7, 8, 9, 10, 11] rfl (by decide) rfl ?_
  refine z_wi (ws' := (wM cI cJ z (s_X3_until_co d q1 q2 q3) d ti sL bL mD mT (s_X3_until_sy d (zw sy) q1 q2 q3) (s_X3_until_sm d (zw sm) q1 q2 q3) (s_X3_until_sd d (zw sd) q1 q2 q3) (zw mi) (s_X3_until_yr d yr q1 q2 q3) (s_X3_until_mo d mo q1 q2 q3) (s_X3_until_dy d dy q1 q2 q3) (wY cI cJ y d (s_L_until_sy d sy q1 q2 q3) (s_L_until_sm d sm q1 q2 q3) (s_L_until_sd d sd q1 q2 q3) mi ti sL bL mD mT [(o, .inl (cJ, 1, .inr (.inl (s_L_until_ou d sy sm ou q1 q2 q3))))]))) (rest := []) (ci := 3) (q0 := 0) C (c_X3_thrown l hfl D cI cJ (wY cI cJ y d (s_L_until_sy d sy q1 q2 q3) (s_L_until_sm d sm q1 q2 q3) (s_L_until_sd d sd q1 q2 q3) mi ti sL bL mD mT [(o, .inl (cJ, 1, .inr (.inl (s_L_until_ou d sy sm ou q1 q2 q3))))]) z (s_X3_until_co d q1 q2 q3) d ti sL bL mD mT (s_X3_until_sy d (zw sy) q1 q2 q3) (s_X3_until_sm d (zw sm) q1 q2 q3) (s_X3_until_sd d (zw sd) q1 q2 q3) (zw mi) (s_X3_until_yr d yr q1 q2 q3) (s_X3_until_mo d mo q1 q2 q3) (s_X3_until_dy d dy q1 q2 q3)  ) q_X3_thrown rfl rfl rfl gL_law_X3_thrown ⟨rfl, rfl⟩ rfl rfl (Nat.le_of_ble_eq_true rfl) ⟨Nat.le_of_ble_eq_true rfl, Nat.le_of_ble_eq_true rfl⟩ ⟨Nat.le_trans (by omega) hnc, Nat.le_trans (by omega) hns⟩ dL_law_1400 ?_
  refine z_ws (ws' := (wY cI cJ y d (s_L_until_sy d sy q1 q2 q3) (s_L_until_sm d sm q1 q2 q3) (s_L_until_sd d sd q1 q2 q3) mi ti sL bL mD mT ((o, .inl (cJ, 1, .inr (.inl (s_L_until_ou d sy sm ou q1 q2 q3)))) :: (wM cI cJ z (s_X3_until_co d q1 q2 q3) d ti sL bL mD mT (s_X3_until_sy d (zw sy) q1 q2 q3) (s_X3_until_sm d (zw sm) q1 q2 q3) (s_X3_until_sd d (zw sd) q1 q2 q3) (zw mi) (s_X3_until_yr d yr q1 q2 q3) (s_X3_until_mo d mo q1 q2 q3) (s_X3_until_dy d dy q1 q2 q3) [])))) [11, 12, 13, 14, 15, 16, 17, 18, 19, 20, 21, 22, 0, 1, 2, 3, 4, 5, 6, 7, 8, 9, 10] rfl (by decide) rfl ?_
  refine z_iload C dL_law_1403 1 rfl ?_
  refine z_icmp_eq (tgt := 1410) C dL_law_1405 (by decide) (fun _ => ?_) (fun h => absurd (g_2) h)
  refine z_iload C dL_law_1410 1 rfl ?_
  refine z_if_ne (tgt := 1426) C dL_law_1412 (by decide) (fun h1 => ?_) (fun h1 => ?_)
  · refine z_goto (tgt := 4233) C dL_law_1426 (by decide) ?_
    refine z_sub [2, 3, 4, 5, 6] rfl ?_
    exact z_widen (by omega) (by omega) kk
  · refine z_aload_n C dL_law_1415 rfl 3 rfl ?_
    refine z_iconst (v := 0) C dL_law_1416 (by decide) ?_
    refine z_lald C 11 1 rfl rfl (zvpl 0 1 (by decide)) dL_law_1417 ?_
    refine z_eqst (st' := [.long ((s_L_until_ou d sy sm ou q1 q2 q3) 0)]) rfl ?_
    refine z_lload C dL_law_1418 0 rfl ?_
    refine z_lcmp_eq (tgt := 1426) C dL_law_1420 dL_law_1421 (by decide) (fun _ => ?_) (fun h => absurd (g_3 h1) h)
    refine z_goto (tgt := 4233) C dL_law_1426 (by decide) ?_
    refine z_sub [2, 3, 4, 5, 6] rfl ?_
    exact z_widen (by omega) (by omega) kk
def f_Lc14_j1 (q3 : Int32) : Int32 := (if q3 = 0 then 0 else 1)
def pre_Lc14 (d : Nat → Int64) (sy : Nat → Int32) (sm : Nat → Int32) (sd : Nat → Int32) (ou : Nat → Int64) (q1 : Int32) (q2 : Int32) (q3 : Int32) (q4 : Int32) : Prop := ((pre_L_go d sy sm sd q1 q2 (f_Lc14_j1 q3) q4)) ∧ ((pre_X3_go d (zw sy) (zw sm) (zw sd) q1 q2 (f_Lc14_j1 q3) q4)) ∧ (((s_X3_go_co d (zw sy) (zw sm) (zw sd) q1 q2 (f_Lc14_j1 q3) q4) = (f_L_go d sy sm sd q1 q2 (f_Lc14_j1 q3) q4))) ∧ (((f_L_go d sy sm sd q1 q2 (f_Lc14_j1 q3) q4) = 0) → (((s_L_go_ou d sy sm sd ou q1 q2 (f_Lc14_j1 q3) q4) 0) = (f_X3_go d (zw sy) (zw sm) (zw sd) q1 q2 (f_Lc14_j1 q3) q4)))
set_option maxHeartbeats 4000000 in
set_option maxRecDepth 100000 in
theorem law_c14 {p : Program} {l : Launch} {e : Env} {s : State} {m : MethodId} {args : Array Value} {below : List Frame} {meth : Method} {c : Code} {D : va_G} {cI cJ : ClassId} {A : Nat → Prop} {Q : State → Prop} {ret : Option FieldType} (C : ZC p l s m args meth c 9 D (zTys cI cJ) A cL_law wsL_law RL ret) (hfl : l.stackTraces = false) {b Ln : Nat} {xs : Nat → Int32} (hX : va_X b Ln xs s s.heap) (hbl : b < s.heap.size) (hbA : ¬ A b) (y z : Nat → Nat) (o : Nat) (d : Nat → Int64) (sy : Nat → Int32) (sm : Nat → Int32) (sd : Nat → Int32) (mi : Nat → Int32) (ti : Nat → Int64) (sL : Nat → Int64) (bL : Nat → Int64) (mD : Nat → Int64) (mT : Nat → Int64) (co : Int32) (yr : Int64) (mo : Int32) (dy : Int32) (ou : Nat → Int64) (q1 : Int32) (q2 : Int32) (q3 : Int32) (q4 : Int32) (q5 : Int32) (i4 : Int32) (hv1 : vp_in (i4 + 1) Ln) (hq1 : xs (i4 + 1).toNatClampNeg = q1) (hv2 : vp_in (i4 + 2) Ln) (hq2 : xs (i4 + 2).toNatClampNeg = q2) (hv3 : vp_in (i4 + 3) Ln) (hq3 : xs (i4 + 3).toNatClampNeg = q3) (hv4 : vp_in (i4 + 4) Ln) (hq4 : xs (i4 + 4).toNatClampNeg = q4) (hv5 : vp_in (i4 + 5) Ln) (hq5 : xs (i4 + 5).toNatClampNeg = q5) (nc ns : Nat) (hnc : nc + 6 ≤ room_1.cells) (hns : ns + 36 ≤ room_1.slots) (h_g : pre_Lc14 d sy sm sd ou q1 q2 q3 q4) (kk : ZW p l e room_1 s m args below meth c 9 D (zTys cI cJ) A Q (nc + 6) (ns + 36) (wY cI cJ y (s_L_go_d d sy sm sd q1 q2 (f_Lc14_j1 q3) q4) sy sm sd mi ti sL bL mD mT ((o, .inl (cJ, 1, .inr (.inl (s_L_go_ou d sy sm sd ou q1 q2 (f_Lc14_j1 q3) q4)))) :: (wM cI cJ z (s_X3_go_co d (zw sy) (zw sm) (zw sd) q1 q2 (f_Lc14_j1 q3) q4) (s_X3_go_d d (zw sy) (zw sm) (zw sd) q1 q2 (f_Lc14_j1 q3) q4) ti sL bL mD mT (zw sy) (zw sm) (zw sd) (zw mi) (s_X3_go_yr d (zw sy) (zw sm) (zw sd) yr q1 q2 (f_Lc14_j1 q3) q4) (s_X3_go_mo d (zw sy) (zw sm) (zw sd) mo q1 q2 (f_Lc14_j1 q3) q4) (s_X3_go_dy d (zw sy) (zw sm) (zw sd) dy q1 q2 (f_Lc14_j1 q3) q4) []))) 4233 [(4, .int i4), (3, .ref o), (2, .ref (z 0)), (1, .ref (y 0)), (0, .ref b)] []) : ZW p l e room_1 s m args below meth c 9 D (zTys cI cJ) A Q nc ns (wY cI cJ y d sy sm sd mi ti sL bL mD mT ((o, .inl (cJ, 1, .inr (.inl ou))) :: (wM cI cJ z co d ti sL bL mD mT (zw sy) (zw sm) (zw sd) (zw mi) yr mo dy []))) 1429 [(4, .int i4), (3, .ref o), (2, .ref (z 0)), (1, .ref (y 0)), (0, .ref b)] [] := by
  obtain ⟨g_0, g_1, g_2, g_3⟩ := h_g
  refine z_aload_n C dL_law_1429 rfl 3 rfl ?_
  refine z_aload_n C dL_law_1430 rfl 4 rfl ?_
  refine z_iload C dL_law_1431 0 rfl ?_
  refine z_iconst (v := 1) C dL_law_1433 (by decide) ?_
  refine z_iadd C dL_law_1434 ?_
  refine z_sld C hX hbl hbA hv1 dL_law_1435 ?_
  refine z_eqst (st' := [.int q1, .ref (y 0)]) (congrArg (fun v => Value.int v :: _) hq1) ?_
  refine z_aload_n C dL_law_1436 rfl 4 rfl ?_
  refine z_iload C dL_law_1437 0 rfl ?_
  refine z_iconst (v := 2) C dL_law_1439 (by decide) ?_
  refine z_iadd C dL_law_1440 ?_
  refine z_sld C hX hbl hbA hv2 dL_law_1441 ?_
  refine z_eqst (st' := [.int q2, .int q1, .ref (y 0)]) (congrArg (fun v => Value.int v :: _) hq2) ?_
  refine z_aload_n C dL_law_1442 rfl 4 rfl ?_
  refine z_iload C dL_law_1443 0 rfl ?_
  refine z_iconst (v := 3) C dL_law_1445 (by decide) ?_
  refine z_iadd C dL_law_1446 ?_
  refine z_sld C hX hbl hbA hv3 dL_law_1447 ?_
  refine z_eqst (st' := [.int q3, .int q2, .int q1, .ref (y 0)]) (congrArg (fun v => Value.int v :: _) hq3) ?_
  have K1 : ∀ (v1_0 : Int32), (f_Lc14_j1 q3) = v1_0 → ZW p l e room_1 s m args below meth c 9 D (zTys cI cJ) A Q nc ns (wY cI cJ y d sy sm sd mi ti sL bL mD mT ((o, .inl (cJ, 1, .inr (.inl ou))) :: (wM cI cJ z co d ti sL bL mD mT (zw sy) (zw sm) (zw sd) (zw mi) yr mo dy []))) 1456 [(4, .int i4), (3, .ref o), (2, .ref (z 0)), (1, .ref (y 0)), (0, .ref b)] [.int v1_0, .int q2, .int q1, .ref (y 0)] := by
    rintro _ rfl
    refine z_aload_n C dL_law_1456 rfl 4 rfl ?_
    refine z_iload C dL_law_1457 0 rfl ?_
    refine z_iconst (v := 4) C dL_law_1459 (by decide) ?_
    refine z_iadd C dL_law_1460 ?_
    refine z_sld C hX hbl hbA hv4 dL_law_1461 ?_
    refine z_eqst (st' := [.int q4, .int (f_Lc14_j1 q3), .int q2, .int q1, .ref (y 0)]) (congrArg (fun v => Value.int v :: _) hq4) ?_
    refine z_aload_n C dL_law_1462 rfl 1 rfl ?_
    refine z_siH (ws' := (wY cI cJ y (s_L_go_d d sy sm sd q1 q2 (f_Lc14_j1 q3) q4) sy sm sd mi ti sL bL mD mT ((o, .inl (cJ, 1, .inr (.inl (s_L_go_ou d sy sm sd ou q1 q2 (f_Lc14_j1 q3) q4)))) :: (wM cI cJ z co d ti sL bL mD mT (zw sy) (zw sm) (zw sd) (zw mi) yr mo dy [])))) C (rest := []) (c_L_go l hfl D cI cJ (wM cI cJ z co d ti sL bL mD mT (zw sy) (zw sm) (zw sd) (zw mi) yr mo dy []) y o d sy sm sd mi ti sL bL mD mT ou q1 q2 (f_Lc14_j1 q3) q4 (g_0)) q_L_go gL_law_L_go ⟨rfl, rfl⟩ rfl rfl (Nat.le_of_ble_eq_true rfl) ⟨Nat.le_of_ble_eq_true rfl, Nat.le_of_ble_eq_true rfl⟩ ⟨Nat.le_trans (by omega) hnc, Nat.le_trans (by omega) hns⟩ dL_law_1463 ?_
    refine z_istore (lv' := [(5, .int (f_L_go d sy sm sd q1 q2 (f_Lc14_j1 q3) q4)), (4, .int i4), (3, .ref o), (2, .ref (z 0)), (1, .ref (y 0)), (0, .ref b)]) C dL_law_1466 (by decide) rfl ?_
    refine z_aload_n C dL_law_1468 rfl 3 rfl ?_
    refine z_aload_n C dL_law_1469 rfl 5 rfl ?_
    refine z_iload C dL_law_1470 1 rfl ?_
    refine z_iconst (v := 1) C dL_law_1472 (by decide) ?_
    refine z_iadd C dL_law_1473 ?_
    refine z_sld C hX hbl hbA hv1 dL_law_1474 ?_
    refine z_eqst (st' := [.int q1, .ref (z 0)]) (congrArg (fun v => Value.int v :: _) hq1) ?_
    refine z_aload_n C dL_law_1475 rfl 5 rfl ?_
    refine z_iload C dL_law_1476 1 rfl ?_
    refine z_iconst (v := 2) C dL_law_1478 (by decide) ?_
    refine z_iadd C dL_law_1479 ?_
    refine z_sld C hX hbl hbA hv2 dL_law_1480 ?_
    refine z_eqst (st' := [.int q2, .int q1, .ref (z 0)]) (congrArg (fun v => Value.int v :: _) hq2) ?_
    refine z_aload_n C dL_law_1481 rfl 5 rfl ?_
    refine z_iload C dL_law_1482 1 rfl ?_
    refine z_iconst (v := 3) C dL_law_1484 (by decide) ?_
    refine z_iadd C dL_law_1485 ?_
    refine z_sld C hX hbl hbA hv3 dL_law_1486 ?_
    refine z_eqst (st' := [.int q3, .int q2, .int q1, .ref (z 0)]) (congrArg (fun v => Value.int v :: _) hq3) ?_
    have K2 : ∀ (v2_0 : Int32), (f_Lc14_j1 q3) = v2_0 → ZW p l e room_1 s m args below meth c 9 D (zTys cI cJ) A Q (nc + 4) (ns + 24) (wY cI cJ y (s_L_go_d d sy sm sd q1 q2 (f_Lc14_j1 q3) q4) sy sm sd mi ti sL bL mD mT ((o, .inl (cJ, 1, .inr (.inl (s_L_go_ou d sy sm sd ou q1 q2 (f_Lc14_j1 q3) q4)))) :: (wM cI cJ z co d ti sL bL mD mT (zw sy) (zw sm) (zw sd) (zw mi) yr mo dy []))) 1495 [(5, .int (f_L_go d sy sm sd q1 q2 (f_Lc14_j1 q3) q4)), (4, .int i4), (3, .ref o), (2, .ref (z 0)), (1, .ref (y 0)), (0, .ref b)] [.int v2_0, .int q2, .int q1, .ref (z 0)] := by
      rintro _ rfl
      refine z_aload_n C dL_law_1495 rfl 5 rfl ?_
      refine z_iload C dL_law_1496 1 rfl ?_
      refine z_iconst (v := 4) C dL_law_1498 (by decide) ?_
      refine z_iadd C dL_law_1499 ?_
      refine z_sld C hX hbl hbA hv4 dL_law_1500 ?_
      refine z_eqst (st' := [.int q4, .int (f_Lc14_j1 q3), .int q2, .int q1, .ref (z 0)]) (congrArg (fun v => Value.int v :: _) hq4) ?_
      refine z_ws (ws' := (wM cI cJ z co d ti sL bL mD mT (zw sy) (zw sm) (zw sd) (zw mi) yr mo dy (wY cI cJ y (s_L_go_d d sy sm sd q1 q2 (f_Lc14_j1 q3) q4) sy sm sd mi ti sL bL mD mT [(o, .inl (cJ, 1, .inr (.inl (s_L_go_ou d sy sm sd ou q1 q2 (f_Lc14_j1 q3) q4))))]))) [12, 13, 14, 15, 16, 17, 18, 19, 20, 21, 22, 0, 1, 2, 3, 4, 5, 6, 7, 8, 9, 10, 11] rfl (by decide) rfl ?_
      refine z_wl (ws' := (wM cI cJ z (s_X3_go_co d (zw sy) (zw sm) (zw sd) q1 q2 (f_Lc14_j1 q3) q4) (s_X3_go_d d (zw sy) (zw sm) (zw sd) q1 q2 (f_Lc14_j1 q3) q4) ti sL bL mD mT (zw sy) (zw sm) (zw sd) (zw mi) (s_X3_go_yr d (zw sy) (zw sm) (zw sd) yr q1 q2 (f_Lc14_j1 q3) q4) (s_X3_go_mo d (zw sy) (zw sm) (zw sd) mo q1 q2 (f_Lc14_j1 q3) q4) (s_X3_go_dy d (zw sy) (zw sm) (zw sd) dy q1 q2 (f_Lc14_j1 q3) q4) (wY cI cJ y (s_L_go_d d sy sm sd q1 q2 (f_Lc14_j1 q3) q4) sy sm sd mi ti sL bL mD mT [(o, .inl (cJ, 1, .inr (.inl (s_L_go_ou d sy sm sd ou q1 q2 (f_Lc14_j1 q3) q4))))]))) (rest := []) (ci := 3) (q0 := 0) C (c_X3_go l hfl D cI cJ (wY cI cJ y (s_L_go_d d sy sm sd q1 q2 (f_Lc14_j1 q3) q4) sy sm sd mi ti sL bL mD mT [(o, .inl (cJ, 1, .inr (.inl (s_L_go_ou d sy sm sd ou q1 q2 (f_Lc14_j1 q3) q4))))]) z co d ti sL bL mD mT (zw sy) (zw sm) (zw sd) (zw mi) yr mo dy q1 q2 (f_Lc14_j1 q3) q4 (g_1)) q_X3_go rfl rfl rfl gL_law_X3_go ⟨rfl, rfl⟩ rfl rfl (Nat.le_of_ble_eq_true rfl) ⟨Nat.le_of_ble_eq_true rfl, Nat.le_of_ble_eq_true rfl⟩ ⟨Nat.le_trans (by omega) hnc, Nat.le_trans (by omega) hns⟩ dL_law_1501 ?_
      refine z_ws (ws' := (wY cI cJ y (s_L_go_d d sy sm sd q1 q2 (f_Lc14_j1 q3) q4) sy sm sd mi ti sL bL mD mT ((o, .inl (cJ, 1, .inr (.inl (s_L_go_ou d sy sm sd ou q1 q2 (f_Lc14_j1 q3) q4)))) :: (wM cI cJ z (s_X3_go_co d (zw sy) (zw sm) (zw sd) q1 q2 (f_Lc14_j1 q3) q4) (s_X3_go_d d (zw sy) (zw sm) (zw sd) q1 q2 (f_Lc14_j1 q3) q4) ti sL bL mD mT (zw sy) (zw sm) (zw sd) (zw mi) (s_X3_go_yr d (zw sy) (zw sm) (zw sd) yr q1 q2 (f_Lc14_j1 q3) q4) (s_X3_go_mo d (zw sy) (zw sm) (zw sd) mo q1 q2 (f_Lc14_j1 q3) q4) (s_X3_go_dy d (zw sy) (zw sm) (zw sd) dy q1 q2 (f_Lc14_j1 q3) q4) [])))) [11, 12, 13, 14, 15, 16, 17, 18, 19, 20, 21, 22, 0, 1, 2, 3, 4, 5, 6, 7, 8, 9, 10] rfl (by decide) rfl ?_
      refine z_lstore (lv' := [(6, .long (f_X3_go d (zw sy) (zw sm) (zw sd) q1 q2 (f_Lc14_j1 q3) q4)), (5, .int (f_L_go d sy sm sd q1 q2 (f_Lc14_j1 q3) q4)), (4, .int i4), (3, .ref o), (2, .ref (z 0)), (1, .ref (y 0)), (0, .ref b)]) C dL_law_1504 (by decide) rfl ?_
      refine z_aload_n C dL_law_1506 rfl 4 rfl ?_
      refine z_ws (ws' := (wM cI cJ z (s_X3_go_co d (zw sy) (zw sm) (zw sd) q1 q2 (f_Lc14_j1 q3) q4) (s_X3_go_d d (zw sy) (zw sm) (zw sd) q1 q2 (f_Lc14_j1 q3) q4) ti sL bL mD mT (zw sy) (zw sm) (zw sd) (zw mi) (s_X3_go_yr d (zw sy) (zw sm) (zw sd) yr q1 q2 (f_Lc14_j1 q3) q4) (s_X3_go_mo d (zw sy) (zw sm) (zw sd) mo q1 q2 (f_Lc14_j1 q3) q4) (s_X3_go_dy d (zw sy) (zw sm) (zw sd) dy q1 q2 (f_Lc14_j1 q3) q4) (wY cI cJ y (s_L_go_d d sy sm sd q1 q2 (f_Lc14_j1 q3) q4) sy sm sd mi ti sL bL mD mT [(o, .inl (cJ, 1, .inr (.inl (s_L_go_ou d sy sm sd ou q1 q2 (f_Lc14_j1 q3) q4))))]))) [12, 13, 14, 15, 16, 17, 18, 19, 20, 21, 22, 0, 1, 2, 3, 4, 5, 6, 7, 8, 9, 10, 11] rfl (by decide) rfl ?_
      refine z_wi (ws' := (wM cI cJ z (s_X3_go_co d (zw sy) (zw sm) (zw sd) q1 q2 (f_Lc14_j1 q3) q4) (s_X3_go_d d (zw sy) (zw sm) (zw sd) q1 q2 (f_Lc14_j1 q3) q4) ti sL bL mD mT (zw sy) (zw sm) (zw sd) (zw mi) (s_X3_go_yr d (zw sy) (zw sm) (zw sd) yr q1 q2 (f_Lc14_j1 q3) q4) (s_X3_go_mo d (zw sy) (zw sm) (zw sd) mo q1 q2 (f_Lc14_j1 q3) q4) (s_X3_go_dy d (zw sy) (zw sm) (zw sd) dy q1 q2 (f_Lc14_j1 q3) q4) (wY cI cJ y (s_L_go_d d sy sm sd q1 q2 (f_Lc14_j1 q3) q4) sy sm sd mi ti sL bL mD mT [(o, .inl (cJ, 1, .inr (.inl (s_L_go_ou d sy sm sd ou q1 q2 (f_Lc14_j1 q3) q4))))]))) (rest := []) (ci := 3) (q0 := 0) C (c_X3_thrown l hfl D cI cJ (wY cI cJ y (s_L_go_d d sy sm sd q1 q2 (f_Lc14_j1 q3) q4) sy sm sd mi ti sL bL mD mT [(o, .inl (cJ, 1, .inr (.inl (s_L_go_ou d sy sm sd ou q1 q2 (f_Lc14_j1 q3) q4))))]) z (s_X3_go_co d (zw sy) (zw sm) (zw sd) q1 q2 (f_Lc14_j1 q3) q4) (s_X3_go_d d (zw sy) (zw sm) (zw sd) q1 q2 (f_Lc14_j1 q3) q4) ti sL bL mD mT (zw sy) (zw sm) (zw sd) (zw mi) (s_X3_go_yr d (zw sy) (zw sm) (zw sd) yr q1 q2 (f_Lc14_j1 q3) q4) (s_X3_go_mo d (zw sy) (zw sm) (zw sd) mo q1 q2 (f_Lc14_j1 q3) q4) (s_X3_go_dy d (zw sy) (zw sm) (zw sd) dy q1 q2 (f_Lc14_j1 q3) q4)  ) q_X3_thrown rfl rfl rfl gL_law_X3_thrown ⟨rfl, rfl⟩ rfl rfl (Nat.le_of_ble_eq_true rfl) ⟨Nat.le_of_ble_eq_true rfl, Nat.le_of_ble_eq_true rfl⟩ ⟨Nat.le_trans (by omega) hnc, Nat.le_trans (by omega) hns⟩ dL_law_1507 ?_
      refine z_ws (ws' := (wY cI cJ y (s_L_go_d d sy sm sd q1 q2 (f_Lc14_j1 q3) q4) sy sm sd mi ti sL bL mD mT ((o, .inl (cJ, 1, .inr (.inl (s_L_go_ou d sy sm sd ou q1 q2 (f_Lc14_j1 q3) q4)))) :: (wM cI cJ z (s_X3_go_co d (zw sy) (zw sm) (zw sd) q1 q2 (f_Lc14_j1 q3) q4) (s_X3_go_d d (zw sy) (zw sm) (zw sd) q1 q2 (f_Lc14_j1 q3) q4) ti sL bL mD mT (zw sy) (zw sm) (zw sd) (zw mi) (s_X3_go_yr d (zw sy) (zw sm) (zw sd) yr q1 q2 (f_Lc14_j1 q3) q4) (s_X3_go_mo d (zw sy) (zw sm) (zw sd) mo q1 q2 (f_Lc14_j1 q3) q4) (s_X3_go_dy d (zw sy) (zw sm) (zw sd) dy q1 q2 (f_Lc14_j1 q3) q4) [])))) [11, 12, 13, 14, 15, 16, 17, 18, 19, 20, 21, 22, 0, 1, 2, 3, 4, 5, 6, 7, 8, 9, 10] rfl (by decide) rfl ?_
      refine z_iload C dL_law_1510 1 rfl ?_
      refine z_icmp_eq (tgt := 1517) C dL_law_1512 (by decide) (fun _ => ?_) (fun h => absurd (g_2) h)
      refine z_iload C dL_law_1517 1 rfl ?_
      refine z_if_ne (tgt := 1533) C dL_law_1519 (by decide) (fun h3 => ?_) (fun h3 => ?_)
      · refine z_goto (tgt := 4233) C dL_law_1533 (by decide) ?_
        refine z_sub [2, 3, 4, 5, 6] rfl ?_
        exact z_widen (by omega) (by omega) kk
      · refine z_aload_n C dL_law_1522 rfl 3 rfl ?_
        refine z_iconst (v := 0) C dL_law_1523 (by decide) ?_
        refine z_lald C 11 1 rfl rfl (zvpl 0 1 (by decide)) dL_law_1524 ?_
        refine z_eqst (st' := [.long ((s_L_go_ou d sy sm sd ou q1 q2 (f_Lc14_j1 q3) q4) 0)]) rfl ?_
        refine z_lload C dL_law_1525 0 rfl ?_
        refine z_lcmp_eq (tgt := 1533) C dL_law_1527 dL_law_1528 (by decide) (fun _ => ?_) (fun h => absurd (g_3 h3) h)
        refine z_goto (tgt := 4233) C dL_law_1533 (by decide) ?_
        refine z_sub [2, 3, 4, 5, 6] rfl ?_
        exact z_widen (by omega) (by omega) kk
    refine z_if_eq (tgt := 1494) C dL_law_1487 (by decide) (fun h2 => ?_) (fun h2 => ?_)
    · refine z_iconst (v := 0) C dL_law_1494 (by decide) ?_
      exact K2 _ (by rw [f_Lc14_j1, if_pos h2])
    · refine z_iconst (v := 1) C dL_law_1490 (by decide) ?_
      refine z_goto (tgt := 1495) C dL_law_1491 (by decide) ?_
      exact K2 _ (by rw [f_Lc14_j1, if_neg h2])
  refine z_if_eq (tgt := 1455) C dL_law_1448 (by decide) (fun h1 => ?_) (fun h1 => ?_)
  · refine z_iconst (v := 0) C dL_law_1455 (by decide) ?_
    exact K1 _ (by rw [f_Lc14_j1, if_pos h1])
  · refine z_iconst (v := 1) C dL_law_1451 (by decide) ?_
    refine z_goto (tgt := 1456) C dL_law_1452 (by decide) ?_
    exact K1 _ (by rw [f_Lc14_j1, if_neg h1])
def pre_Lc15 (sy : Nat → Int32) (sm : Nat → Int32) (sd : Nat → Int32) (ou : Nat → Int64) (q1 : Int32) (q2 : Int32) : Prop := ((pre_L_spanPart q1 ((q2.toUInt32 % 65536).toInt32))) ∧ (((s_X3_spanPart_co q1 ((q2.toUInt32 % 65536).toInt32)) = (f_L_spanPart q1 ((q2.toUInt32 % 65536).toInt32)))) ∧ (((f_L_spanPart q1 ((q2.toUInt32 % 65536).toInt32)) = 0) → (((s_L_spanPart_ou sy sm sd ou q1 ((q2.toUInt32 % 65536).toInt32)) 0) = ((f_X3_spanPart (zw sy) (zw sm) (zw sd) q1 ((q2.toUInt32 % 65536).toInt32))).toInt64))
set_option maxHeartbeats 4000000 in
set_option maxRecDepth 100000 in
theorem law_c15 {p : Program} {l : Launch} {e : Env} {s : State} {m : MethodId} {args : Array Value} {below : List Frame} {meth : Method} {c : Code} {D : va_G} {cI cJ : ClassId} {A : Nat → Prop} {Q : State → Prop} {ret : Option FieldType} (C : ZC p l s m args meth c 9 D (zTys cI cJ) A cL_law wsL_law RL ret) (hfl : l.stackTraces = false) {b Ln : Nat} {xs : Nat → Int32} (hX : va_X b Ln xs s s.heap) (hbl : b < s.heap.size) (hbA : ¬ A b) (y z : Nat → Nat) (o : Nat) (d : Nat → Int64) (sy : Nat → Int32) (sm : Nat → Int32) (sd : Nat → Int32) (mi : Nat → Int32) (ti : Nat → Int64) (sL : Nat → Int64) (bL : Nat → Int64) (mD : Nat → Int64) (mT : Nat → Int64) (co : Int32) (yr : Int64) (mo : Int32) (dy : Int32) (ou : Nat → Int64) (q1 : Int32) (q2 : Int32) (q3 : Int32) (q4 : Int32) (q5 : Int32) (i4 : Int32) (hv1 : vp_in (i4 + 1) Ln) (hq1 : xs (i4 + 1).toNatClampNeg = q1) (hv2 : vp_in (i4 + 2) Ln) (hq2 : xs (i4 + 2).toNatClampNeg = q2) (hv3 : vp_in (i4 + 3) Ln) (hq3 : xs (i4 + 3).toNatClampNeg = q3) (hv4 : vp_in (i4 + 4) Ln) (hq4 : xs (i4 + 4).toNatClampNeg = q4) (hv5 : vp_in (i4 + 5) Ln) (hq5 : xs (i4 + 5).toNatClampNeg = q5) (nc ns : Nat) (hnc : nc + 6 ≤ room_1.cells) (hns : ns + 36 ≤ room_1.slots) (h_g : pre_Lc15 sy sm sd ou q1 q2) (kk : ZW p l e room_1 s m args below meth c 9 D (zTys cI cJ) A Q (nc + 6) (ns + 36) (wY cI cJ y d sy sm sd mi ti sL bL mD mT ((o, .inl (cJ, 1, .inr (.inl (s_L_spanPart_ou sy sm sd ou q1 ((q2.toUInt32 % 65536).toInt32))))) :: (wM cI cJ z (s_X3_spanPart_co q1 ((q2.toUInt32 % 65536).toInt32)) d ti sL bL mD mT (zw sy) (zw sm) (zw sd) (zw mi) yr mo dy []))) 4233 [(4, .int i4), (3, .ref o), (2, .ref (z 0)), (1, .ref (y 0)), (0, .ref b)] []) : ZW p l e room_1 s m args below meth c 9 D (zTys cI cJ) A Q nc ns (wY cI cJ y d sy sm sd mi ti sL bL mD mT ((o, .inl (cJ, 1, .inr (.inl ou))) :: (wM cI cJ z co d ti sL bL mD mT (zw sy) (zw sm) (zw sd) (zw mi) yr mo dy []))) 1536 [(4, .int i4), (3, .ref o), (2, .ref (z 0)), (1, .ref (y 0)), (0, .ref b)] [] := by
  obtain ⟨g_0, g_1, g_2⟩ := h_g
  refine z_aload_n C dL_law_1536 rfl 3 rfl ?_
  refine z_aload_n C dL_law_1537 rfl 4 rfl ?_
  refine z_iload C dL_law_1538 0 rfl ?_
  refine z_iconst (v := 1) C dL_law_1540 (by decide) ?_
  refine z_iadd C dL_law_1541 ?_
  refine z_sld C hX hbl hbA hv1 dL_law_1542 ?_
  refine z_eqst (st' := [.int q1, .ref (y 0)]) (congrArg (fun v => Value.int v :: _) hq1) ?_
  refine z_aload_n C dL_law_1543 rfl 4 rfl ?_
  refine z_iload C dL_law_1544 0 rfl ?_
  refine z_iconst (v := 2) C dL_law_1546 (by decide) ?_
  refine z_iadd C dL_law_1547 ?_
  refine z_sld C hX hbl hbA hv2 dL_law_1548 ?_
  refine z_eqst (st' := [.int q2, .int q1, .ref (y 0)]) (congrArg (fun v => Value.int v :: _) hq2) ?_
  refine z_i2c (v := (q2.toUInt32 % 65536).toInt32) C dL_law_1549 rfl ?_
  refine z_aload_n C dL_law_1550 rfl 1 rfl ?_
  refine z_siH (ws' := (wY cI cJ y d sy sm sd mi ti sL bL mD mT ((o, .inl (cJ, 1, .inr (.inl (s_L_spanPart_ou sy sm sd ou q1 ((q2.toUInt32 % 65536).toInt32))))) :: (wM cI cJ z co d ti sL bL mD mT (zw sy) (zw sm) (zw sd) (zw mi) yr mo dy [])))) C (rest := []) (c_L_spanPart l hfl D cI cJ (wM cI cJ z co d ti sL bL mD mT (zw sy) (zw sm) (zw sd) (zw mi) yr mo dy []) y o d sy sm sd mi ti sL bL mD mT ou q1 ((q2.toUInt32 % 65536).toInt32) (g_0)) q_L_spanPart gL_law_L_spanPart ⟨rfl, rfl⟩ rfl rfl (Nat.le_of_ble_eq_true rfl) ⟨Nat.le_of_ble_eq_true rfl, Nat.le_of_ble_eq_true rfl⟩ ⟨Nat.le_trans (by omega) hnc, Nat.le_trans (by omega) hns⟩ dL_law_1551 ?_
  refine z_istore (lv' := [(5, .int (f_L_spanPart q1 ((q2.toUInt32 % 65536).toInt32))), (4, .int i4), (3, .ref o), (2, .ref (z 0)), (1, .ref (y 0)), (0, .ref b)]) C dL_law_1554 (by decide) rfl ?_
  refine z_aload_n C dL_law_1556 rfl 3 rfl ?_
  refine z_aload_n C dL_law_1557 rfl 5 rfl ?_
  refine z_iload C dL_law_1558 1 rfl ?_
  refine z_iconst (v := 1) C dL_law_1560 (by decide) ?_
  refine z_iadd C dL_law_1561 ?_
  refine z_sld C hX hbl hbA hv1 dL_law_1562 ?_
  refine z_eqst (st' := [.int q1, .ref (z 0)]) (congrArg (fun v => Value.int v :: _) hq1) ?_
  refine z_aload_n C dL_law_1563 rfl 5 rfl ?_
  refine z_iload C dL_law_1564 1 rfl ?_
  refine z_iconst (v := 2) C dL_law_1566 (by decide) ?_
  refine z_iadd C dL_law_1567 ?_
  refine z_sld C hX hbl hbA hv2 dL_law_1568 ?_
  refine z_eqst (st' := [.int q2, .int q1, .ref (z 0)]) (congrArg (fun v => Value.int v :: _) hq2) ?_
  refine z_i2c (v := (q2.toUInt32 % 65536).toInt32) C dL_law_1569 rfl ?_
  refine z_ws (ws' := (wM cI cJ z co d ti sL bL mD mT (zw sy) (zw sm) (zw sd) (zw mi) yr mo dy (wY cI cJ y d sy sm sd mi ti sL bL mD mT [(o, .inl (cJ, 1, .inr (.inl (s_L_spanPart_ou sy sm sd ou q1 ((q2.toUInt32 % 65536).toInt32)))))]))) [12, 13, 14, 15, 16, 17, 18, 19, 20, 21, 22, 0, 1, 2, 3, 4, 5, 6, 7, 8, 9, 10, 11] rfl (by decide) rfl ?_
  refine z_wi (ws' := (wM cI cJ z (s_X3_spanPart_co q1 ((q2.toUInt32 % 65536).toInt32)) d ti sL bL mD mT (zw sy) (zw sm) (zw sd) (zw mi) yr mo dy (wY cI cJ y d sy sm sd mi ti sL bL mD mT [(o, .inl (cJ, 1, .inr (.inl (s_L_spanPart_ou sy sm sd ou q1 ((q2.toUInt32 % 65536).toInt32)))))]))) (rest := []) (ci := 3) (q0 := 0) C (c_X3_spanPart l hfl D cI cJ (wY cI cJ y d sy sm sd mi ti sL bL mD mT [(o, .inl (cJ, 1, .inr (.inl (s_L_spanPart_ou sy sm sd ou q1 ((q2.toUInt32 % 65536).toInt32)))))]) z co d ti sL bL mD mT (zw sy) (zw sm) (zw sd) (zw mi) yr mo dy q1 ((q2.toUInt32 % 65536).toInt32) ) q_X3_spanPart rfl rfl rfl gL_law_X3_spanPart ⟨rfl, rfl⟩ rfl rfl (Nat.le_of_ble_eq_true rfl) ⟨Nat.le_of_ble_eq_true rfl, Nat.le_of_ble_eq_true rfl⟩ ⟨Nat.le_trans (by omega) hnc, Nat.le_trans (by omega) hns⟩ dL_law_1570 ?_
  refine z_ws (ws' := (wY cI cJ y d sy sm sd mi ti sL bL mD mT ((o, .inl (cJ, 1, .inr (.inl (s_L_spanPart_ou sy sm sd ou q1 ((q2.toUInt32 % 65536).toInt32))))) :: (wM cI cJ z (s_X3_spanPart_co q1 ((q2.toUInt32 % 65536).toInt32)) d ti sL bL mD mT (zw sy) (zw sm) (zw sd) (zw mi) yr mo dy [])))) [11, 12, 13, 14, 15, 16, 17, 18, 19, 20, 21, 22, 0, 1, 2, 3, 4, 5, 6, 7, 8, 9, 10] rfl (by decide) rfl ?_
  refine z_istore (lv' := [(6, .int (f_X3_spanPart (zw sy) (zw sm) (zw sd) q1 ((q2.toUInt32 % 65536).toInt32))), (5, .int (f_L_spanPart q1 ((q2.toUInt32 % 65536).toInt32))), (4, .int i4), (3, .ref o), (2, .ref (z 0)), (1, .ref (y 0)), (0, .ref b)]) C dL_law_1573 (by decide) rfl ?_
  refine z_aload_n C dL_law_1575 rfl 4 rfl ?_
  refine z_ws (ws' := (wM cI cJ z (s_X3_spanPart_co q1 ((q2.toUInt32 % 65536).toInt32)) d ti sL bL mD mT (zw sy) (zw sm) (zw sd) (zw mi) yr mo dy (wY cI cJ y d sy sm sd mi ti sL bL mD mT [(o, .inl (cJ, 1, .inr (.inl (s_L_spanPart_ou sy sm sd ou q1 ((q2.toUInt32 % 65536).toInt32)))))]))) [12, 13, 14, 15, 16, 17, 18, 19, 20, 21, 22, 0, 1, 2, 3, 4, 5, 6, 7, 8, 9, 10, 11] rfl (by decide) rfl ?_
  refine z_wi (ws' := (wM cI cJ z (s_X3_spanPart_co q1 ((q2.toUInt32 % 65536).toInt32)) d ti sL bL mD mT (zw sy) (zw sm) (zw sd) (zw mi) yr mo dy (wY cI cJ y d sy sm sd mi ti sL bL mD mT [(o, .inl (cJ, 1, .inr (.inl (s_L_spanPart_ou sy sm sd ou q1 ((q2.toUInt32 % 65536).toInt32)))))]))) (rest := []) (ci := 3) (q0 := 0) C (c_X3_thrown l hfl D cI cJ (wY cI cJ y d sy sm sd mi ti sL bL mD mT [(o, .inl (cJ, 1, .inr (.inl (s_L_spanPart_ou sy sm sd ou q1 ((q2.toUInt32 % 65536).toInt32)))))]) z (s_X3_spanPart_co q1 ((q2.toUInt32 % 65536).toInt32)) d ti sL bL mD mT (zw sy) (zw sm) (zw sd) (zw mi) yr mo dy  ) q_X3_thrown rfl rfl rfl gL_law_X3_thrown ⟨rfl, rfl⟩ rfl rfl (Nat.le_of_ble_eq_true rfl) ⟨Nat.le_of_ble_eq_true rfl, Nat.le_of_ble_eq_true rfl⟩ ⟨Nat.le_trans (by omega) hnc, Nat.le_trans (by omega) hns⟩ dL_law_1576 ?_
  refine z_ws (ws' := (wY cI cJ y d sy sm sd mi ti sL bL mD mT ((o, .inl (cJ, 1, .inr (.inl (s_L_spanPart_ou sy sm sd ou q1 ((q2.toUInt32 % 65536).toInt32))))) :: (wM cI cJ z (s_X3_spanPart_co q1 ((q2.toUInt32 % 65536).toInt32)) d ti sL bL mD mT (zw sy) (zw sm) (zw sd) (zw mi) yr mo dy [])))) [11, 12, 13, 14, 15, 16, 17, 18, 19, 20, 21, 22, 0, 1, 2, 3, 4, 5, 6, 7, 8, 9, 10] rfl (by decide) rfl ?_
  refine z_iload C dL_law_1579 1 rfl ?_
  refine z_icmp_eq (tgt := 1586) C dL_law_1581 (by decide) (fun _ => ?_) (fun h => absurd (g_1) h)
  refine z_iload C dL_law_1586 1 rfl ?_
  refine z_if_ne (tgt := 1603) C dL_law_1588 (by decide) (fun h1 => ?_) (fun h1 => ?_)
  · refine z_goto (tgt := 4233) C dL_law_1603 (by decide) ?_
    refine z_sub [2, 3, 4, 5, 6] rfl ?_
    exact z_widen (by omega) (by omega) kk
  · refine z_aload_n C dL_law_1591 rfl 3 rfl ?_
    refine z_iconst (v := 0) C dL_law_1592 (by decide) ?_
    refine z_lald C 11 1 rfl rfl (zvpl 0 1 (by decide)) dL_law_1593 ?_
    refine z_eqst (st' := [.long ((s_L_spanPart_ou sy sm sd ou q1 ((q2.toUInt32 % 65536).toInt32)) 0)]) rfl ?_
    refine z_iload C dL_law_1594 0 rfl ?_
    refine z_i2l (v := ((f_X3_spanPart (zw sy) (zw sm) (zw sd) q1 ((q2.toUInt32 % 65536).toInt32))).toInt64) C dL_law_1596 rfl ?_
    refine z_lcmp_eq (tgt := 1603) C dL_law_1597 dL_law_1598 (by decide) (fun _ => ?_) (fun h => absurd (g_2 h1) h)
    refine z_goto (tgt := 4233) C dL_law_1603 (by decide) ?_
    refine z_sub [2, 3, 4, 5, 6] rfl ?_
    exact z_widen (by omega) (by omega) kk
