def f_Lc16_j1 (q3 : Int32) : Int32 := (if q3 = 0 then 0 else 1)
def pre_Lc16 (sy : Nat → Int32) (sm : Nat → Int32) (sd : Nat → Int32) (ou : Nat → Int64) (q1 : Int32) (q2 : Int32) (q3 : Int32) (q4 : Int32) : Prop := ((pre_L_addSpan sy sm sd q1 q2 (f_Lc16_j1 q3) q4)) ∧ (((s_X3_addSpan_co (zw sy) (zw sm) (zw sd) q1 q2 (f_Lc16_j1 q3) q4) = (f_L_addSpan sy sm sd q1 q2 (f_Lc16_j1 q3) q4))) ∧ (((f_L_addSpan sy sm sd q1 q2 (f_Lc16_j1 q3) q4) = 0) → (((s_L_addSpan_ou sy sm sd ou q1 q2 (f_Lc16_j1 q3) q4) 0) = (f_X3_addSpan (zw sy) (zw sm) (zw sd) q1 q2 (f_Lc16_j1 q3) q4)))
set_option maxHeartbeats 4000000 in
set_option maxRecDepth 100000 in
theorem law_c16 {p : Program} {l : Launch} {e : Env} {s : State} {m : MethodId} {args : Array Value} {below : List Frame} {meth : Method} {c : Code} {D : va_G} {cI cJ : ClassId} {A : Nat → Prop} {Q : State → Prop} {ret : Option FieldType} (C : ZC p l s m args meth c 9 D (zTys cI cJ) A cL_law wsL_law RL ret) (hfl : l.stackTraces = false) {b Ln : Nat} {xs : Nat → Int32} (hX : va_X b Ln xs s s.heap) (hbl : b < s.heap.size) (hbA : ¬ A b) (y z : Nat → Nat) (o : Nat) (d : Nat → Int64) (sy : Nat → Int32) (sm : Nat → Int32) (sd : Nat → Int32) (mi : Nat → Int32) (ti : Nat → Int64) (sL : Nat → Int64) (bL : Nat → Int64) (mD : Nat → Int64) (mT : Nat → Int64) (co : Int32) (yr : Int64) (mo : Int32) (dy : Int32) (ou : Nat → Int64) (q1 : Int32) (q2 : Int32) (q3 : Int32) (q4 : Int32) (q5 : Int32) (i4 : Int32) (hv1 : vp_in (i4 + 1) Ln) (hq1 : xs (i4 + 1).toNatClampNeg = q1) (hv2 : vp_in (i4 + 2) Ln) (hq2 : xs (i4 + 2).toNatClampNeg = q2) (hv3 : vp_in (i4 + 3) Ln) (hq3 : xs (i4 + 3).toNatClampNeg = q3) (hv4 : vp_in (i4 + 4) Ln) (hq4 : xs (i4 + 4).toNatClampNeg = q4) (hv5 : vp_in (i4 + 5) Ln) (hq5 : xs (i4 + 5).toNatClampNeg = q5) (nc ns : Nat) (hnc : nc + 6 ≤ room_1.cells) (hns : ns + 36 ≤ room_1.slots) (h_g : pre_Lc16 sy sm sd ou q1 q2 q3 q4) (kk : ZW p l e room_1 s m args below meth c 9 D (zTys cI cJ) A Q (nc + 6) (ns + 36) (wY cI cJ y d (s_L_addSpan_sy sy sm sd q1 q2 (f_Lc16_j1 q3) q4) (s_L_addSpan_sm sy sm sd q1 q2 (f_Lc16_j1 q3) q4) (s_L_addSpan_sd sy sm sd q1 q2 (f_Lc16_j1 q3) q4) mi ti sL bL mD mT ((o, .inl (cJ, 1, .inr (.inl (s_L_addSpan_ou sy sm sd ou q1 q2 (f_Lc16_j1 q3) q4)))) :: (wM cI cJ z (s_X3_addSpan_co (zw sy) (zw sm) (zw sd) q1 q2 (f_Lc16_j1 q3) q4) d ti sL bL mD mT (s_X3_addSpan_sy (zw sy) (zw sm) (zw sd) q1 q2 (f_Lc16_j1 q3) q4) (s_X3_addSpan_sm (zw sy) (zw sm) (zw sd) q1 q2 (f_Lc16_j1 q3) q4) (s_X3_addSpan_sd (zw sy) (zw sm) (zw sd) q1 q2 (f_Lc16_j1 q3) q4) (zw mi) yr mo dy []))) 4233 [(4, .int i4), (3, .ref o), (2, .ref (z 0)), (1, .ref (y 0)), (0, .ref b)] []) : ZW p l e room_1 s m args below meth c 9 D (zTys cI cJ) A Q nc ns (wY cI cJ y d sy sm sd mi ti sL bL mD mT ((o, .inl (cJ, 1, .inr (.inl ou))) :: (wM cI cJ z co d ti sL bL mD mT (zw sy) (zw sm) (zw sd) (zw mi) yr mo dy []))) 1606 [(4, .int i4), (3, .ref o), (2, .ref (z 0)), (1, .ref (y 0)), (0, .ref b)] [] := by
  obtain ⟨g_0, g_1, g_2⟩ := h_g
  refine z_aload_n C dL_law_1606 rfl 3 rfl ?_
  refine z_aload_n C dL_law_1607 rfl 4 rfl ?_
  refine z_iload C dL_law_1608 0 rfl ?_
  refine z_iconst (v := 1) C dL_law_1610 (by decide) ?_
  refine z_iadd C dL_law_1611 ?_
  refine z_sld C hX hbl hbA hv1 dL_law_1612 ?_
  refine z_eqst (st' := [.int q1, .ref (y 0)]) (congrArg (fun v => Value.int v :: _) hq1) ?_
  refine z_aload_n C dL_law_1613 rfl 4 rfl ?_
  refine z_iload C dL_law_1614 0 rfl ?_
  refine z_iconst (v := 2) C dL_law_1616 (by decide) ?_
  refine z_iadd C dL_law_1617 ?_
  refine z_sld C hX hbl hbA hv2 dL_law_1618 ?_
  refine z_eqst (st' := [.int q2, .int q1, .ref (y 0)]) (congrArg (fun v => Value.int v :: _) hq2) ?_
  refine z_aload_n C dL_law_1619 rfl 4 rfl ?_
  refine z_iload C dL_law_1620 0 rfl ?_
  refine z_iconst (v := 3) C dL_law_1622 (by decide) ?_
  refine z_iadd C dL_law_1623 ?_
  refine z_sld C hX hbl hbA hv3 dL_law_1624 ?_
  refine z_eqst (st' := [.int q3, .int q2, .int q1, .ref (y 0)]) (congrArg (fun v => Value.int v :: _) hq3) ?_
  have K1 : ∀ (v1_0 : Int32), (f_Lc16_j1 q3) = v1_0 → ZW p l e room_1 s m args below meth c 9 D (zTys cI cJ) A Q nc ns (wY cI cJ y d sy sm sd mi ti sL bL mD mT ((o, .inl (cJ, 1, .inr (.inl ou))) :: (wM cI cJ z co d ti sL bL mD mT (zw sy) (zw sm) (zw sd) (zw mi) yr mo dy []))) 1633 [(4, .int i4), (3, .ref o), (2, .ref (z 0)), (1, .ref (y 0)), (0, .ref b)] [.int v1_0, .int q2, .int q1, .ref (y 0)] := by
    rintro _ rfl
    refine z_aload_n C dL_law_1633 rfl 4 rfl ?_
    refine z_iload C dL_law_1634 0 rfl ?_
    refine z_iconst (v := 4) C dL_law_1636 (by decide) ?_
    refine z_iadd C dL_law_1637 ?_
    refine z_sld C hX hbl hbA hv4 dL_law_1638 ?_
    refine z_eqst (st' := [.int q4, .int (f_Lc16_j1 q3), .int q2, .int q1, .ref (y 0)]) (congrArg (fun v => Value.int v :: _) hq4) ?_
    refine z_aload_n C dL_law_1639 rfl 1 rfl ?_
    refine z_siH (ws' := (wY cI cJ y d (s_L_addSpan_sy sy sm sd q1 q2 (f_Lc16_j1 q3) q4) (s_L_addSpan_sm sy sm sd q1 q2 (f_Lc16_j1 q3) q4) (s_L_addSpan_sd sy sm sd q1 q2 (f_Lc16_j1 q3) q4) mi ti sL bL mD mT ((o, .inl (cJ, 1, .inr (.inl (s_L_addSpan_ou sy sm sd ou q1 q2 (f_Lc16_j1 q3) q4)))) :: (wM cI cJ z co d ti sL bL mD mT (zw sy) (zw sm) (zw sd) (zw mi) yr mo dy [])))) C (rest := []) (c_L_addSpan l hfl D cI cJ (wM cI cJ z co d ti sL bL mD mT (zw sy) (zw sm) (zw sd) (zw mi) yr mo dy []) y o d sy sm sd mi ti sL bL mD mT ou q1 q2 (f_Lc16_j1 q3) q4 (g_0)) q_L_addSpan gL_law_L_addSpan ⟨rfl, rfl⟩ rfl rfl (Nat.le_of_ble_eq_true rfl) ⟨Nat.le_of_ble_eq_true rfl, Nat.le_of_ble_eq_true rfl⟩ ⟨Nat.le_trans (by omega) hnc, Nat.le_trans (by omega) hns⟩ dL_law_1640 ?_
    refine z_istore (lv' := [(5, .int (f_L_addSpan sy sm sd q1 q2 (f_Lc16_j1 q3) q4)), (4, .int i4), (3, .ref o), (2, .ref (z 0)), (1, .ref (y 0)), (0, .ref b)]) C dL_law_1643 (by decide) rfl ?_
    refine z_aload_n C dL_law_1645 rfl 3 rfl ?_
    refine z_aload_n C dL_law_1646 rfl 5 rfl ?_
    refine z_iload C dL_law_1647 1 rfl ?_
    refine z_iconst (v := 1) C dL_law_1649 (by decide) ?_
    refine z_iadd C dL_law_1650 ?_
    refine z_sld C hX hbl hbA hv1 dL_law_1651 ?_
    refine z_eqst (st' := [.int q1, .ref (z 0)]) (congrArg (fun v => Value.int v :: _) hq1) ?_
    refine z_aload_n C dL_law_1652 rfl 5 rfl ?_
    refine z_iload C dL_law_1653 1 rfl ?_
    refine z_iconst (v := 2) C dL_law_1655 (by decide) ?_
    refine z_iadd C dL_law_1656 ?_
    refine z_sld C hX hbl hbA hv2 dL_law_1657 ?_
    refine z_eqst (st' := [.int q2, .int q1, .ref (z 0)]) (congrArg (fun v => Value.int v :: _) hq2) ?_
    refine z_aload_n C dL_law_1658 rfl 5 rfl ?_
    refine z_iload C dL_law_1659 1 rfl ?_
    refine z_iconst (v := 3) C dL_law_1661 (by decide) ?_
    refine z_iadd C dL_law_1662 ?_
    refine z_sld C hX hbl hbA hv3 dL_law_1663 ?_
    refine z_eqst (st' := [.int q3, .int q2, .int q1, .ref (z 0)]) (congrArg (fun v => Value.int v :: _) hq3) ?_
    have K2 : ∀ (v2_0 : Int32), (f_Lc16_j1 q3) = v2_0 → ZW p l e room_1 s m args below meth c 9 D (zTys cI cJ) A Q (nc + 4) (ns + 24) (wY cI cJ y d (s_L_addSpan_sy sy sm sd q1 q2 (f_Lc16_j1 q3) q4) (s_L_addSpan_sm sy sm sd q1 q2 (f_Lc16_j1 q3) q4) (s_L_addSpan_sd sy sm sd q1 q2 (f_Lc16_j1 q3) q4) mi ti sL bL mD mT ((o, .inl (cJ, 1, .inr (.inl (s_L_addSpan_ou sy sm sd ou q1 q2 (f_Lc16_j1 q3) q4)))) :: (wM cI cJ z co d ti sL bL mD mT (zw sy) (zw sm) (zw sd) (zw mi) yr mo dy []))) 1672 [(5, .int (f_L_addSpan sy sm sd q1 q2 (f_Lc16_j1 q3) q4)), (4, .int i4), (3, .ref o), (2, .ref (z 0)), (1, .ref (y 0)), (0, .ref b)] [.int v2_0, .int q2, .int q1, .ref (z 0)] := by
      rintro _ rfl
      refine z_aload_n C dL_law_1672 rfl 5 rfl ?_
      refine z_iload C dL_law_1673 1 rfl ?_
      refine z_iconst (v := 4) C dL_law_1675 (by decide) ?_
      refine z_iadd C dL_law_1676 ?_
      refine z_sld C hX hbl hbA hv4 dL_law_1677 ?_
      refine z_eqst (st' := [.int q4, .int (f_Lc16_j1 q3), .int q2, .int q1, .ref (z 0)]) (congrArg (fun v => Value.int v :: _) hq4) ?_
      refine z_ws (ws' := (wM cI cJ z co d ti sL bL mD mT (zw sy) (zw sm) (zw sd) (zw mi) yr mo dy (wY cI cJ y d (s_L_addSpan_sy sy sm sd q1 q2 (f_Lc16_j1 q3) q4) (s_L_addSpan_sm sy sm sd q1 q2 (f_Lc16_j1 q3) q4) (s_L_addSpan_sd sy sm sd q1 q2 (f_Lc16_j1 q3) q4) mi ti sL bL mD mT [(o, .inl (cJ, 1, .inr (.inl (s_L_addSpan_ou sy sm sd ou q1 q2 (f_Lc16_j1 q3) q4))))]))) [12, 13, 14, 15, 16, 17, 18, 19, 20, 21, 22, 0, 1, 2, 3, 4, 5, 6, 7, 8, 9, 10, 11] rfl (by decide) rfl ?_
      refine z_wl (ws' := (wM cI cJ z (s_X3_addSpan_co (zw sy) (zw sm) (zw sd) q1 q2 (f_Lc16_j1 q3) q4) d ti sL bL mD mT (s_X3_addSpan_sy (zw sy) (zw sm) (zw sd) q1 q2 (f_Lc16_j1 q3) q4) (s_X3_addSpan_sm (zw sy) (zw sm) (zw sd) q1 q2 (f_Lc16_j1 q3) q4) (s_X3_addSpan_sd (zw sy) (zw sm) (zw sd) q1 q2 (f_Lc16_j1 q3) q4) (zw mi) yr mo dy (wY cI cJ y d (s_L_addSpan_sy sy sm sd q1 q2 (f_Lc16_j1 q3) q4) (s_L_addSpan_sm sy sm sd q1 q2 (f_Lc16_j1 q3) q4) (s_L_addSpan_sd sy sm sd q1 q2 (f_Lc16_j1 q3) q4) mi ti sL bL mD mT [(o, .inl (cJ, 1, .inr (.inl (s_L_addSpan_ou sy sm sd ou q1 q2 (f_Lc16_j1 q3) q4))))]))) (rest := []) (ci := 3) (q0 := 0) C (c_X3_addSpan l hfl D cI cJ (wY cI cJ y d (s_L_addSpan_sy sy sm sd q1 q2 (f_Lc16_j1 q3) q4) (s_L_addSpan_sm sy sm sd q1 q2 (f_Lc16_j1 q3) q4) (s_L_addSpan_sd sy sm sd q1 q2 (f_Lc16_j1 q3) q4) mi ti sL bL mD mT [(o, .inl (cJ, 1, .inr (.inl (s_L_addSpan_ou sy sm sd ou q1 q2 (f_Lc16_j1 q3) q4))))]) z co d ti sL bL mD mT (zw sy) (zw sm) (zw sd) (zw mi) yr mo dy q1 q2 (f_Lc16_j1 q3) q4 ) q_X3_addSpan rfl rfl rfl gL_law_X3_addSpan ⟨rfl, rfl⟩ rfl rfl (Nat.le_of_ble_eq_true rfl) ⟨Nat.le_of_ble_eq_true rfl, Nat.le_of_ble_eq_true rfl⟩ ⟨Nat.le_trans (by omega) hnc, Nat.le_trans (by omega) hns⟩ dL_law_1678 ?_
      refine z_ws (ws' := (wY cI cJ y d (s_L_addSpan_sy sy sm sd q1 q2 (f_Lc16_j1 q3) q4) (s_L_addSpan_sm sy sm sd q1 q2 (f_Lc16_j1 q3) q4) (s_L_addSpan_sd sy sm sd q1 q2 (f_Lc16_j1 q3) q4) mi ti sL bL mD mT ((o, .inl (cJ, 1, .inr (.inl (s_L_addSpan_ou sy sm sd ou q1 q2 (f_Lc16_j1 q3) q4)))) :: (wM cI cJ z (s_X3_addSpan_co (zw sy) (zw sm) (zw sd) q1 q2 (f_Lc16_j1 q3) q4) d ti sL bL mD mT (s_X3_addSpan_sy (zw sy) (zw sm) (zw sd) q1 q2 (f_Lc16_j1 q3) q4) (s_X3_addSpan_sm (zw sy) (zw sm) (zw sd) q1 q2 (f_Lc16_j1 q3) q4) (s_X3_addSpan_sd (zw sy) (zw sm) (zw sd) q1 q2 (f_Lc16_j1 q3) q4) (zw mi) yr mo dy [])))) [11, 12, 13, 14, 15, 16, 17, 18, 19, 20, 21, 22, 0, 1, 2, 3, 4, 5, 6, 7, 8, 9, 10] rfl (by decide) rfl ?_
      refine z_lstore (lv' := [(6, .long (f_X3_addSpan (zw sy) (zw sm) (zw sd) q1 q2 (f_Lc16_j1 q3) q4)), (5, .int (f_L_addSpan sy sm sd q1 q2 (f_Lc16_j1 q3) q4)), (4, .int i4), (3, .ref o), (2, .ref (z 0)), (1, .ref (y 0)), (0, .ref b)]) C dL_law_1681 (by decide) rfl ?_
      refine z_aload_n C dL_law_1683 rfl 4 rfl ?_
      refine z_ws (ws' := (wM cI cJ z (s_X3_addSpan_co (zw sy) (zw sm) (zw sd) q1 q2 (f_Lc16_j1 q3) q4) d ti sL bL mD mT (s_X3_addSpan_sy (zw sy) (zw sm) (zw sd) q1 q2 (f_Lc16_j1 q3) q4) (s_X3_addSpan_sm (zw sy) (zw sm) (zw sd) q1 q2 (f_Lc16_j1 q3) q4) (s_X3_addSpan_sd (zw sy) (zw sm) (zw sd) q1 q2 (f_Lc16_j1 q3) q4) (zw mi) yr mo dy (wY cI cJ y d (s_L_addSpan_sy sy sm sd q1 q2 (f_Lc16_j1 q3) q4) (s_L_addSpan_sm sy sm sd q1 q2 (f_Lc16_j1 q3) q4) (s_L_addSpan_sd sy sm sd q1 q2 (f_Lc16_j1 q3) q4) mi ti sL bL mD mT [(o, .inl (cJ, 1, .inr (.inl (s_L_addSpan_ou sy sm sd ou q1 q2 (f_Lc16_j1 q3) q4))))]))) [12, 13, 14, 15, 16, 17, 18, 19, 20, 21, 22, 0, 1, 2, 3, 4, 5, 6, 7, 8, 9, 10, 11] rfl (by decide) rfl ?_
      refine z_wi (ws' := (wM cI cJ z (s_X3_addSpan_co (zw sy) (zw sm) (zw sd) q1 q2 (f_Lc16_j1 q3) q4) d ti sL bL mD mT (s_X3_addSpan_sy (zw sy) (zw sm) (zw sd) q1 q2 (f_Lc16_j1 q3) q4) (s_X3_addSpan_sm (zw sy) (zw sm) (zw sd) q1 q2 (f_Lc16_j1 q3) q4) (s_X3_addSpan_sd (zw sy) (zw sm) (zw sd) q1 q2 (f_Lc16_j1 q3) q4) (zw mi) yr mo dy (wY cI cJ y d (s_L_addSpan_sy sy sm sd q1 q2 (f_Lc16_j1 q3) q4) (s_L_addSpan_sm sy sm sd q1 q2 (f_Lc16_j1 q3) q4) (s_L_addSpan_sd sy sm sd q1 q2 (f_Lc16_j1 q3) q4) mi ti sL bL mD mT [(o, .inl (cJ, 1, .inr (.inl (s_L_addSpan_ou sy sm sd ou q1 q2 (f_Lc16_j1 q3) q4))))]))) (rest := []) (ci := 3) (q0 := 0) C (c_X3_thrown l hfl D cI cJ (wY cI cJ y d (s_L_addSpan_sy sy sm sd q1 q2 (f_Lc16_j1 q3) q4) (s_L_addSpan_sm sy sm sd q1 q2 (f_Lc16_j1 q3) q4) (s_L_addSpan_sd sy sm sd q1 q2 (f_Lc16_j1 q3) q4) mi ti sL bL mD mT [(o, .inl (cJ, 1, .inr (.inl (s_L_addSpan_ou sy sm sd ou q1 q2 (f_Lc16_j1 q3) q4))))]) z (s_X3_addSpan_co (zw sy) (zw sm) (zw sd) q1 q2 (f_Lc16_j1 q3) q4) d ti sL bL mD mT (s_X3_addSpan_sy (zw sy) (zw sm) (zw sd) q1 q2 (f_Lc16_j1 q3) q4) (s_X3_addSpan_sm (zw sy) (zw sm) (zw sd) q1 q2 (f_Lc16_j1 q3) q4) (s_X3_addSpan_sd (zw sy) (zw sm) (zw sd) q1 q2 (f_Lc16_j1 q3) q4) (zw mi) yr mo dy  ) q_X3_thrown rfl rfl rfl gL_law_X3_thrown ⟨rfl, rfl⟩ rfl rfl (Nat.le_of_ble_eq_true rfl) ⟨Nat.le_of_ble_eq_true rfl, Nat.le_of_ble_eq_true rfl⟩ ⟨Nat.le_trans (by omega) hnc, Nat.le_trans (by omega) hns⟩ dL_law_1684 ?_
      refine z_ws (ws' := (wY cI cJ y d (s_L_addSpan_sy sy sm sd q1 q2 (f_Lc16_j1 q3) q4) (s_L_addSpan_sm sy sm sd q1 q2 (f_Lc16_j1 q3) q4) (s_L_addSpan_sd sy sm sd q1 q2 (f_Lc16_j1 q3) q4) mi ti sL bL mD mT ((o, .inl (cJ, 1, .inr (.inl (s_L_addSpan_ou sy sm sd ou q1 q2 (f_Lc16_j1 q3) q4)))) :: (wM cI cJ z (s_X3_addSpan_co (zw sy) (zw sm) (zw sd) q1 q2 (f_Lc16_j1 q3) q4) d ti sL bL mD mT (s_X3_addSpan_sy (zw sy) (zw sm) (zw sd) q1 q2 (f_Lc16_j1 q3) q4) (s_X3_addSpan_sm (zw sy) (zw sm) (zw sd) q1 q2 (f_Lc16_j1 q3) q4) (s_X3_addSpan_sd (zw sy) (zw sm) (zw sd) q1 q2 (f_Lc16_j1 q3) q4) (zw mi) yr mo dy [])))) [11, 12, 13, 14, 15, 16, 17, 18, 19, 20, 21, 22, 0, 1, 2, 3, 4, 5, 6, 7, 8, 9, 10] rfl (by decide) rfl ?_
      refine z_iload C dL_law_1687 1 rfl ?_
      refine z_icmp_eq (tgt := 1694) C dL_law_1689 (by decide) (fun _ => ?_) (fun h => absurd (g_1) h)
      refine z_iload C dL_law_1694 1 rfl ?_
      refine z_if_ne (tgt := 1710) C dL_law_1696 (by decide) (fun h3 => ?_) (fun h3 => ?_)
      · refine z_goto (tgt := 4233) C dL_law_1710 (by decide) ?_
        refine z_sub [2, 3, 4, 5, 6] rfl ?_
        exact z_widen (by omega) (by omega) kk
      · refine z_aload_n C dL_law_1699 rfl 3 rfl ?_
        refine z_iconst (v := 0) C dL_law_1700 (by decide) ?_
        refine z_lald C 11 1 rfl rfl (zvpl 0 1 (by decide)) dL_law_1701 ?_
        refine z_eqst (st' := [.long ((s_L_addSpan_ou sy sm sd ou q1 q2 (f_Lc16_j1 q3) q4) 0)]) rfl ?_
        refine z_lload C dL_law_1702 0 rfl ?_
        refine z_lcmp_eq (tgt := 1710) C dL_law_1704 dL_law_1705 (by decide) (fun _ => ?_) (fun h => absurd (g_2 h3) h)
        refine z_goto (tgt := 4233) C dL_law_1710 (by decide) ?_
        refine z_sub [2, 3, 4, 5, 6] rfl ?_
        exact z_widen (by omega) (by omega) kk
    refine z_if_eq (tgt := 1671) C dL_law_1664 (by decide) (fun h2 => ?_) (fun h2 => ?_)
    · refine z_iconst (v := 0) C dL_law_1671 (by decide) ?_
      exact K2 _ (by rw [f_Lc16_j1, if_pos h2])
    · refine z_iconst (v := 1) C dL_law_1667 (by decide) ?_
      refine z_goto (tgt := 1672) C dL_law_1668 (by decide) ?_
      exact K2 _ (by rw [f_Lc16_j1, if_neg h2])
  refine z_if_eq (tgt := 1632) C dL_law_1625 (by decide) (fun h1 => ?_) (fun h1 => ?_)
  · refine z_iconst (v := 0) C dL_law_1632 (by decide) ?_
    exact K1 _ (by rw [f_Lc16_j1, if_pos h1])
  · refine z_iconst (v := 1) C dL_law_1628 (by decide) ?_
    refine z_goto (tgt := 1633) C dL_law_1629 (by decide) ?_
    exact K1 _ (by rw [f_Lc16_j1, if_neg h1])
def pre_Lc17 (sy : Nat → Int32) (sm : Nat → Int32) (sd : Nat → Int32) (ou : Nat → Int64) (q1 : Int32) (q2 : Int32) (q3 : Int32) : Prop := (((s_X3_timesSpan_co (zw sy) (zw sm) (zw sd) q1 q2 q3) = (f_L_timesSpan sy sm sd q1 q2 q3))) ∧ (((f_L_timesSpan sy sm sd q1 q2 q3) = 0) → (((s_L_timesSpan_ou sy sm sd ou q1 q2 q3) 0) = (f_X3_timesSpan (zw sy) (zw sm) (zw sd) q1 q2 q3)))
set_option maxHeartbeats 4000000 in
set_option maxRecDepth 100000 in
theorem law_c17 {p : Program} {l : Launch} {e : Env} {s : State} {m : MethodId} {args : Array Value} {below : List Frame} {meth : Method} {c : Code} {D : va_G} {cI cJ : ClassId} {A : Nat → Prop} {Q : State → Prop} {ret : Option FieldType} (C : ZC p l s m args meth c 9 D (zTys cI cJ) A cL_law wsL_law RL ret) (hfl : l.stackTraces = false) {b Ln : Nat} {xs : Nat → Int32} (hX : va_X b Ln xs s s.heap) (hbl : b < s.heap.size) (hbA : ¬ A b) (y z : Nat → Nat) (o : Nat) (d : Nat → Int64) (sy : Nat → Int32) (sm : Nat → Int32) (sd : Nat → Int32) (mi : Nat → Int32) (ti : Nat → Int64) (sL : Nat → Int64) (bL : Nat → Int64) (mD : Nat → Int64) (mT : Nat → Int64) (co : Int32) (yr : Int64) (mo : Int32) (dy : Int32) (ou : Nat → Int64) (q1 : Int32) (q2 : Int32) (q3 : Int32) (q4 : Int32) (q5 : Int32) (i4 : Int32) (hv1 : vp_in (i4 + 1) Ln) (hq1 : xs (i4 + 1).toNatClampNeg = q1) (hv2 : vp_in (i4 + 2) Ln) (hq2 : xs (i4 + 2).toNatClampNeg = q2) (hv3 : vp_in (i4 + 3) Ln) (hq3 : xs (i4 + 3).toNatClampNeg = q3) (hv4 : vp_in (i4 + 4) Ln) (hq4 : xs (i4 + 4).toNatClampNeg = q4) (hv5 : vp_in (i4 + 5) Ln) (hq5 : xs (i4 + 5).toNatClampNeg = q5) (nc ns : Nat) (hnc : nc + 6 ≤ room_1.cells) (hns : ns + 36 ≤ room_1.slots) (h_g : pre_Lc17 sy sm sd ou q1 q2 q3) (kk : ZW p l e room_1 s m args below meth c 9 D (zTys cI cJ) A Q (nc + 6) (ns + 36) (wY cI cJ y d (s_L_timesSpan_sy sy sm sd q1 q2 q3) (s_L_timesSpan_sm sy sm sd q1 q2 q3) (s_L_timesSpan_sd sy sm sd q1 q2 q3) mi ti sL bL mD mT ((o, .inl (cJ, 1, .inr (.inl (s_L_timesSpan_ou sy sm sd ou q1 q2 q3)))) :: (wM cI cJ z (s_X3_timesSpan_co (zw sy) (zw sm) (zw sd) q1 q2 q3) d ti sL bL mD mT (s_X3_timesSpan_sy (zw sy) (zw sm) (zw sd) q1 q2 q3) (s_X3_timesSpan_sm (zw sy) (zw sm) (zw sd) q1 q2 q3) (s_X3_timesSpan_sd (zw sy) (zw sm) (zw sd) q1 q2 q3) (zw mi) yr mo dy []))) 4233 [(4, .int i4), (3, .ref o), (2, .ref (z 0)), (1, .ref (y 0)), (0, .ref b)] []) : ZW p l e room_1 s m args below meth c 9 D (zTys cI cJ) A Q nc ns (wY cI cJ y d sy sm sd mi ti sL bL mD mT ((o, .inl (cJ, 1, .inr (.inl ou))) :: (wM cI cJ z co d ti sL bL mD mT (zw sy) (zw sm) (zw sd) (zw mi) yr mo dy []))) 1713 [(4, .int i4), (3, .ref o), (2, .ref (z 0)), (1, .ref (y 0)), (0, .ref b)] [] := by
  obtain ⟨g_0, g_1⟩ := h_g
  refine z_aload_n C dL_law_1713 rfl 3 rfl ?_
  refine z_aload_n C dL_law_1714 rfl 4 rfl ?_
  refine z_iload C dL_law_1715 0 rfl ?_
  refine z_iconst (v := 1) C dL_law_1717 (by decide) ?_
  refine z_iadd C dL_law_1718 ?_
  refine z_sld C hX hbl hbA hv1 dL_law_1719 ?_
  refine z_eqst (st' := [.int q1, .ref (y 0)]) (congrArg (fun v => Value.int v :: _) hq1) ?_
  refine z_aload_n C dL_law_1720 rfl 4 rfl ?_
  refine z_iload C dL_law_1721 0 rfl ?_
  refine z_iconst (v := 2) C dL_law_1723 (by decide) ?_
  refine z_iadd C dL_law_1724 ?_
  refine z_sld C hX hbl hbA hv2 dL_law_1725 ?_
  refine z_eqst (st' := [.int q2, .int q1, .ref (y 0)]) (congrArg (fun v => Value.int v :: _) hq2) ?_
  refine z_aload_n C dL_law_1726 rfl 4 rfl ?_
  refine z_iload C dL_law_1727 0 rfl ?_
  refine z_iconst (v := 3) C dL_law_1729 (by decide) ?_
  refine z_iadd C dL_law_1730 ?_
  refine z_sld C hX hbl hbA hv3 dL_law_1731 ?_
  refine z_eqst (st' := [.int q3, .int q2, .int q1, .ref (y 0)]) (congrArg (fun v => Value.int v :: _) hq3) ?_
  refine z_aload_n C dL_law_1732 rfl 1 rfl ?_
  refine z_siH (ws' := (wY cI cJ y d (s_L_timesSpan_sy sy sm sd q1 q2 q3) (s_L_timesSpan_sm sy sm sd q1 q2 q3) (s_L_timesSpan_sd sy sm sd q1 q2 q3) mi ti sL bL mD mT ((o, .inl (cJ, 1, .inr (.inl (s_L_timesSpan_ou sy sm sd ou q1 q2 q3)))) :: (wM cI cJ z co d ti sL bL mD mT (zw sy) (zw sm) (zw sd) (zw mi) yr mo dy [])))) C (rest := []) (c_L_timesSpan l hfl D cI cJ (wM cI cJ z co d ti sL bL mD mT (zw sy) (zw sm) (zw sd) (zw mi) yr mo dy []) y o d sy sm sd mi ti sL bL mD mT ou q1 q2 q3 ) q_L_timesSpan gL_law_L_timesSpan ⟨rfl, rfl⟩ rfl rfl (Nat.le_of_ble_eq_true rfl) ⟨Nat.le_of_ble_eq_true rfl, Nat.le_of_ble_eq_true rfl⟩ ⟨Nat.le_trans (by omega) hnc, Nat.le_trans (by omega) hns⟩ dL_law_1733 ?_
  refine z_istore (lv' := [(5, .int (f_L_timesSpan sy sm sd q1 q2 q3)), (4, .int i4), (3, .ref o), (2, .ref (z 0)), (1, .ref (y 0)), (0, .ref b)]) C dL_law_1736 (by decide) rfl ?_
  refine z_aload_n C dL_law_1738 rfl 3 rfl ?_
  refine z_aload_n C dL_law_1739 rfl 5 rfl ?_
  refine z_iload C dL_law_1740 1 rfl ?_
  refine z_iconst (v := 1) C dL_law_1742 (by decide) ?_
  refine z_iadd C dL_law_1743 ?_
  refine z_sld C hX hbl hbA hv1 dL_law_1744 ?_
  refine z_eqst (st' := [.int q1, .ref (z 0)]) (congrArg (fun v => Value.int v :: _) hq1) ?_
  refine z_aload_n C dL_law_1745 rfl 5 rfl ?_
  refine z_iload C dL_law_1746 1 rfl ?_
  refine z_iconst (v := 2) C dL_law_1748 (by decide) ?_
  refine z_iadd C dL_law_1749 ?_
  refine z_sld C hX hbl hbA hv2 dL_law_1750 ?_
  refine z_eqst (st' := [.int q2, .int q1, .ref (z 0)]) (congrArg (fun v => Value.int v :: _) hq2) ?_
  refine z_aload_n C dL_law_1751 rfl 5 rfl ?_
  refine z_iload C dL_law_1752 1 rfl ?_
  refine z_iconst (v := 3) C dL_law_1754 (by decide) ?_
  refine z_iadd C dL_law_1755 ?_
  refine z_sld C hX hbl hbA hv3 dL_law_1756 ?_
  refine z_eqst (st' := [.int q3, .int q2, .int q1, .ref (z 0)]) (congrArg (fun v => Value.int v :: _) hq3) ?_
  refine z_ws (ws' := (wM cI cJ z co d ti sL bL mD mT (zw sy) (zw sm) (zw sd) (zw mi) yr mo dy (wY cI cJ y d (s_L_timesSpan_sy sy sm sd q1 q2 q3) (s_L_timesSpan_sm sy sm sd q1 q2 q3) (s_L_timesSpan_sd sy sm sd q1 q2 q3) mi ti sL bL mD mT [(o, .inl (cJ, 1, .inr (.inl (s_L_timesSpan_ou sy sm sd ou q1 q2 q3))))]))) [12, 13, 14, 15, 16, 17, 18, 19, 20, 21, 22, 0, 1, 2, 3, 4, 5, 6, 7, 8, 9, 10, 11] rfl (by decide) rfl ?_
  refine z_wl (ws' := (wM cI cJ z (s_X3_timesSpan_co (zw sy) (zw sm) (zw sd) q1 q2 q3) d ti sL bL mD mT (s_X3_timesSpan_sy (zw sy) (zw sm) (zw sd) q1 q2 q3) (s_X3_timesSpan_sm (zw sy) (zw sm) (zw sd) q1 q2 q3) (s_X3_timesSpan_sd (zw sy) (zw sm) (zw sd) q1 q2 q3) (zw mi) yr mo dy (wY cI cJ y d (s_L_timesSpan_sy sy sm sd q1 q2 q3) (s_L_timesSpan_sm sy sm sd q1 q2 q3) (s_L_timesSpan_sd sy sm sd q1 q2 q3) mi ti sL bL mD mT [(o, .inl (cJ, 1, .inr (.inl (s_L_timesSpan_ou sy sm sd ou q1 q2 q3))))]))) (rest := []) (ci := 3) (q0 := 0) C (c_X3_timesSpan l hfl D cI cJ (wY cI cJ y d (s_L_timesSpan_sy sy sm sd q1 q2 q3) (s_L_timesSpan_sm sy sm sd q1 q2 q3) (s_L_timesSpan_sd sy sm sd q1 q2 q3) mi ti sL bL mD mT [(o, .inl (cJ, 1, .inr (.inl (s_L_timesSpan_ou sy sm sd ou q1 q2 q3))))]) z co d ti sL bL mD mT (zw sy) (zw sm) (zw sd) (zw mi) yr mo dy q1 q2 q3 ) q_X3_timesSpan rfl rfl rfl gL_law_X3_timesSpan ⟨rfl, rfl⟩ rfl rfl (Nat.le_of_ble_eq_true rfl) ⟨Nat.le_of_ble_eq_true rfl, Nat.le_of_ble_eq_true rfl⟩ ⟨Nat.le_trans (by omega) hnc, Nat.le_trans (by omega) hns⟩ dL_law_1757 ?_
  refine z_ws (ws' := (wY cI cJ y d (s_L_timesSpan_sy sy sm sd q1 q2 q3) (s_L_timesSpan_sm sy sm sd q1 q2 q3) (s_L_timesSpan_sd sy sm sd q1 q2 q3) mi ti sL bL mD mT ((o, .inl (cJ, 1, .inr (.inl (s_L_timesSpan_ou sy sm sd ou q1 q2 q3)))) :: (wM cI cJ z (s_X3_timesSpan_co (zw sy) (zw sm) (zw sd) q1 q2 q3) d ti sL bL mD mT (s_X3_timesSpan_sy (zw sy) (zw sm) (zw sd) q1 q2 q3) (s_X3_timesSpan_sm (zw sy) (zw sm) (zw sd) q1 q2 q3) (s_X3_timesSpan_sd (zw sy) (zw sm) (zw sd) q1 q2 q3) (zw mi) yr mo dy [])))) [11, 12, 13, 14, 15, 16, 17, 18, 19, 20, 21, 22, 0, 1, 2, 3, 4, 5, 6, 7, 8, 9, 10] rfl (by decide) rfl ?_
  refine z_lstore (lv' := [(6, .long (f_X3_timesSpan (zw sy) (zw sm) (zw sd) q1 q2 q3)), (5, .int (f_L_timesSpan sy sm sd q1 q2 q3)), (4, .int i4), (3, .ref o), (2, .ref (z 0)), (1, .ref (y 0)), (0, .ref b)]) C dL_law_1760 (by decide) rfl ?_
  refine z_aload_n C dL_law_1762 rfl 4 rfl ?_
  refine z_ws (ws' := (wM cI cJ z (s_X3_timesSpan_co (zw sy) (zw sm) (zw sd) q1 q2 q3) d ti sL bL mD mT (s_X3_timesSpan_sy (zw sy) (zw sm) (zw sd) q1 q2 q3) (s_X3_timesSpan_sm (zw sy) (zw sm) (zw sd) q1 q2 q3) (s_X3_timesSpan_sd (zw sy) (zw sm) (zw sd) q1 q2 q3) (zw mi) yr mo dy (wY cI cJ y d (s_L_timesSpan_sy sy sm sd q1 q2 q3) (s_L_timesSpan_sm sy sm sd q1 q2 q3) (s_L_timesSpan_sd sy sm sd q1 q2 q3) mi ti sL bL mD mT [(o, .inl (cJ, 1, .inr (.inl (s_L_timesSpan_ou sy sm sd ou q1 q2 q3))))]))) [12, 13, 14, 15, 16, 17, 18, 19, 20, 21, 22, 0, 1, 2, 3, 4, 5, 6, 7, 8, 9, 10, 11] rfl (by decide) rfl ?_
  refine z_wi (ws' := (wM cI cJ z (s_X3_timesSpan_co (zw sy) (zw sm) (zw sd) q1 q2 q3) d ti sL bL mD mT (s_X3_timesSpan_sy (zw sy) (zw sm) (zw sd) q1 q2 q3) (s_X3_timesSpan_sm (zw sy) (zw sm) (zw sd) q1 q2 q3) (s_X3_timesSpan_sd (zw sy) (zw sm) (zw sd) q1 q2 q3) (zw mi) yr mo dy (wY cI cJ y d (s_L_timesSpan_sy sy sm sd q1 q2 q3) (s_L_timesSpan_sm sy sm sd q1 q2 q3) (s_L_timesSpan_sd sy sm sd q1 q2 q3) mi ti sL bL mD mT [(o, .inl (cJ, 1, .inr (.inl (s_L_timesSpan_ou sy sm sd ou q1 q2 q3))))]))) (rest := []) (ci := 3) (q0 := 0) C (c_X3_thrown l hfl D cI cJ (wY cI cJ y d (s_L_timesSpan_sy sy sm sd q1 q2 q3) (s_L_timesSpan_sm sy sm sd q1 q2 q3) (s_L_timesSpan_sd sy sm sd q1 q2 q3) mi ti sL bL mD mT [(o, .inl (cJ, 1, .inr (.inl (s_L_timesSpan_ou sy sm sd ou q1 q2 q3))))]) z (s_X3_timesSpan_co (zw sy) (zw sm) (zw sd) q1 q2 q3) d ti sL bL mD mT (s_X3_timesSpan_sy (zw sy) (zw sm) (zw sd) q1 q2 q3) (s_X3_timesSpan_sm (zw sy) (zw sm) (zw sd) q1 q2 q3) (s_X3_timesSpan_sd (zw sy) (zw sm) (zw sd) q1 q2 q3) (zw mi) yr mo dy  ) q_X3_thrown rfl rfl rfl gL_law_X3_thrown ⟨rfl, rfl⟩ rfl rfl (Nat.le_of_ble_eq_true rfl) ⟨Nat.le_of_ble_eq_true rfl, Nat.le_of_ble_eq_true rfl⟩ ⟨Nat.le_trans (by omega) hnc, Nat.le_trans (by omega) hns⟩ dL_law_1763 ?_
  refine z_ws (ws' := (wY cI cJ y d (s_L_timesSpan_sy sy sm sd q1 q2 q3) (s_L_timesSpan_sm sy sm sd q1 q2 q3) (s_L_timesSpan_sd sy sm sd q1 q2 q3) mi ti sL bL mD mT ((o, .inl (cJ, 1, .inr (.inl (s_L_timesSpan_ou sy sm sd ou q1 q2 q3)))) :: (wM cI cJ z (s_X3_timesSpan_co (zw sy) (zw sm) (zw sd) q1 q2 q3) d ti sL bL mD mT (s_X3_timesSpan_sy (zw sy) (zw sm) (zw sd) q1 q2 q3) (s_X3_timesSpan_sm (zw sy) (zw sm) (zw sd) q1 q2 q3) (s_X3_timesSpan_sd (zw sy) (zw sm) (zw sd) q1 q2 q3) (zw mi) yr mo dy [])))) [11, 12, 13, 14, 15, 16, 17, 18, 19, 20, 21, 22, 0, 1, 2, 3, 4, 5, 6, 7, 8, 9, 10] rfl (by decide) rfl ?_
  refine z_iload C dL_law_1766 1 rfl ?_
  refine z_icmp_eq (tgt := 1773) C dL_law_1768 (by decide) (fun _ => ?_) (fun h => absurd (g_0) h)
  refine z_iload C dL_law_1773 1 rfl ?_
  refine z_if_ne (tgt := 1789) C dL_law_1775 (by decide) (fun h1 => ?_) (fun h1 => ?_)
  · refine z_goto (tgt := 4233) C dL_law_1789 (by decide) ?_
    refine z_sub [2, 3, 4, 5, 6] rfl ?_
    exact z_widen (by omega) (by omega) kk
  · refine z_aload_n C dL_law_1778 rfl 3 rfl ?_
    refine z_iconst (v := 0) C dL_law_1779 (by decide) ?_
    refine z_lald C 11 1 rfl rfl (zvpl 0 1 (by decide)) dL_law_1780 ?_
    refine z_eqst (st' := [.long ((s_L_timesSpan_ou sy sm sd ou q1 q2 q3) 0)]) rfl ?_
    refine z_lload C dL_law_1781 0 rfl ?_
    refine z_lcmp_eq (tgt := 1789) C dL_law_1783 dL_law_1784 (by decide) (fun _ => ?_) (fun h => absurd (g_1 h1) h)
    refine z_goto (tgt := 4233) C dL_law_1789 (by decide) ?_
    refine z_sub [2, 3, 4, 5, 6] rfl ?_
    exact z_widen (by omega) (by omega) kk
def pre_Lc18 (sy : Nat → Int32) (sm : Nat → Int32) (sd : Nat → Int32) (ou : Nat → Int64) (q1 : Int32) (q2 : Int32) : Prop := ((pre_L_plainSpan sy sm sd q1 q2)) ∧ (((s_X3_plainSpan_co (zw sy) (zw sm) (zw sd) q1 q2) = (f_L_plainSpan sy sm sd q1 q2))) ∧ (((f_L_plainSpan sy sm sd q1 q2) = 0) → (((s_L_plainSpan_ou sy sm sd ou q1 q2) 0) = (f_X3_plainSpan (zw sy) (zw sm) (zw sd) q1 q2)))
set_option maxHeartbeats 4000000 in
set_option maxRecDepth 100000 in
theorem law_c18 {p : Program} {l : Launch} {e : Env} {s : State} {m : MethodId} {args : Array Value} {below : List Frame} {meth : Method} {c : Code} {D : va_G} {cI cJ : ClassId} {A : Nat → Prop} {Q : State → Prop} {ret : Option FieldType} (C : ZC p l s m args meth c 9 D (zTys cI cJ) A cL_law wsL_law RL ret) (hfl : l.stackTraces = false) {b Ln : Nat} {xs : Nat → Int32} (hX : va_X b Ln xs s s.heap) (hbl : b < s.heap.size) (hbA : ¬ A b) (y z : Nat → Nat) (o : Nat) (d : Nat → Int64) (sy : Nat → Int32) (sm : Nat → Int32) (sd : Nat → Int32) (mi : Nat → Int32) (ti : Nat → Int64) (sL : Nat → Int64) (bL : Nat → Int64) (mD : Nat → Int64) (mT : Nat → Int64) (co : Int32) (yr : Int64) (mo : Int32) (dy : Int32) (ou : Nat → Int64) (q1 : Int32) (q2 : Int32) (q3 : Int32) (q4 : Int32) (q5 : Int32) (i4 : Int32) (hv1 : vp_in (i4 + 1) Ln) (hq1 : xs (i4 + 1).toNatClampNeg = q1) (hv2 : vp_in (i4 + 2) Ln) (hq2 : xs (i4 + 2).toNatClampNeg = q2) (hv3 : vp_in (i4 + 3) Ln) (hq3 : xs (i4 + 3).toNatClampNeg = q3) (hv4 : vp_in (i4 + 4) Ln) (hq4 : xs (i4 + 4).toNatClampNeg = q4) (hv5 : vp_in (i4 + 5) Ln) (hq5 : xs (i4 + 5).toNatClampNeg = q5) (nc ns : Nat) (hnc : nc + 6 ≤ room_1.cells) (hns : ns + 36 ≤ room_1.slots) (h_g : pre_Lc18 sy sm sd ou q1 q2) (kk : ZW p l e room_1 s m args below meth c 9 D (zTys cI cJ) A Q (nc + 6) (ns + 36) (wY cI cJ y d (s_L_plainSpan_sy sy sm sd q1 q2) (s_L_plainSpan_sm sy sm sd q1 q2) (s_L_plainSpan_sd sy sm sd q1 q2) mi ti sL bL mD mT ((o, .inl (cJ, 1, .inr (.inl (s_L_plainSpan_ou sy sm sd ou q1 q2)))) :: (wM cI cJ z (s_X3_plainSpan_co (zw sy) (zw sm) (zw sd) q1 q2) d ti sL bL mD mT (s_X3_plainSpan_sy (zw sy) (zw sm) (zw sd) q1 q2) (s_X3_plainSpan_sm (zw sy) (zw sm) (zw sd) q1 q2) (s_X3_plainSpan_sd (zw sy) (zw sm) (zw sd) q1 q2) (zw mi) yr mo dy []))) 4233 [(4, .int i4), (3, .ref o), (2, .ref (z 0)), (1, .ref (y 0)), (0, .ref b)] []) : ZW p l e room_1 s m args below meth c 9 D (zTys cI cJ) A Q nc ns (wY cI cJ y d sy sm sd mi ti sL bL mD mT ((o, .inl (cJ, 1, .inr (.inl ou))) :: (wM cI cJ z co d ti sL bL mD mT (zw sy) (zw sm) (zw sd) (zw mi) yr mo dy []))) 1792 [(4, .int i4), (3, .ref o), (2, .ref (z 0)), (1, .ref (y 0)), (0, .ref b)] [] := by
  obtain ⟨g_0, g_1, g_2⟩ := h_g
  refine z_aload_n C dL_law_1792 rfl 3 rfl ?_
  refine z_aload_n C dL_law_1793 rfl 4 rfl ?_
  refine z_iload C dL_law_1794 0 rfl ?_
  refine z_iconst (v := 1) C dL_law_1796 (by decide) ?_
  refine z_iadd C dL_law_1797 ?_
  refine z_sld C hX hbl hbA hv1 dL_law_1798 ?_
  refine z_eqst (st' := [.int q1, .ref (y 0)]) (congrArg (fun v => Value.int v :: _) hq1) ?_
  refine z_aload_n C dL_law_1799 rfl 4 rfl ?_
  refine z_iload C dL_law_1800 0 rfl ?_
  refine z_iconst (v := 2) C dL_law_1802 (by decide) ?_
  refine z_iadd C dL_law_1803 ?_
  refine z_sld C hX hbl hbA hv2 dL_law_1804 ?_
  refine z_eqst (st' := [.int q2, .int q1, .ref (y 0)]) (congrArg (fun v => Value.int v :: _) hq2) ?_
  refine z_aload_n C dL_law_1805 rfl 1 rfl ?_
  refine z_siH (ws' := (wY cI cJ y d (s_L_plainSpan_sy sy sm sd q1 q2) (s_L_plainSpan_sm sy sm sd q1 q2) (s_L_plainSpan_sd sy sm sd q1 q2) mi ti sL bL mD mT ((o, .inl (cJ, 1, .inr (.inl (s_L_plainSpan_ou sy sm sd ou q1 q2)))) :: (wM cI cJ z co d ti sL bL mD mT (zw sy) (zw sm) (zw sd) (zw mi) yr mo dy [])))) C (rest := []) (c_L_plainSpan l hfl D cI cJ (wM cI cJ z co d ti sL bL mD mT (zw sy) (zw sm) (zw sd) (zw mi) yr mo dy []) y o d sy sm sd mi ti sL bL mD mT ou q1 q2 (g_0)) q_L_plainSpan gL_law_L_plainSpan ⟨rfl, rfl⟩ rfl rfl (Nat.le_of_ble_eq_true rfl) ⟨Nat.le_of_ble_eq_true rfl, Nat.le_of_ble_eq_true rfl⟩ ⟨Nat.le_trans (by omega) hnc, Nat.le_trans (by omega) hns⟩ dL_law_1806 ?_
  refine z_istore (lv' := [(5, .int (f_L_plainSpan sy sm sd q1 q2)), (4, .int i4), (3, .ref o), (2, .ref (z 0)), (1, .ref (y 0)), (0, .ref b)]) C dL_law_1809 (by decide) rfl ?_
  refine z_aload_n C dL_law_1811 rfl 3 rfl ?_
  refine z_aload_n C dL_law_1812 rfl 5 rfl ?_
  refine z_iload C dL_law_1813 1 rfl ?_
  refine z_iconst (v := 1) C dL_law_1815 (by decide) ?_
  refine z_iadd C dL_law_1816 ?_
  refine z_sld C hX hbl hbA hv1 dL_law_1817 ?_
  refine z_eqst (st' := [.int q1, .ref (z 0)]) (congrArg (fun v => Value.int v :: _) hq1) ?_
  refine z_aload_n C dL_law_1818 rfl 5 rfl ?_
  refine z_iload C dL_law_1819 1 rfl ?_
  refine z_iconst (v := 2) C dL_law_1821 (by decide) ?_
  refine z_iadd C dL_law_1822 ?_
  refine z_sld C hX hbl hbA hv2 dL_law_1823 ?_
  refine z_eqst (st' := [.int q2, .int q1, .ref (z 0)]) (congrArg (fun v => Value.int v :: _) hq2) ?_
  refine z_ws (ws' := (wM cI cJ z co d ti sL bL mD mT (zw sy) (zw sm) (zw sd) (zw mi) yr mo dy (wY cI cJ y d (s_L_plainSpan_sy sy sm sd q1 q2) (s_L_plainSpan_sm sy sm sd q1 q2) (s_L_plainSpan_sd sy sm sd q1 q2) mi ti sL bL mD mT [(o, .inl (cJ, 1, .inr (.inl (s_L_plainSpan_ou sy sm sd ou q1 q2))))]))) [12, 13, 14, 15, 16, 17, 18, 19, 20, 21, 22, 0, 1, 2, 3, 4, 5, 6, 7, 8, 9, 10, 11] rfl (by decide) rfl ?_
  refine z_wl (ws' := (wM cI cJ z (s_X3_plainSpan_co (zw sy) (zw sm) (zw sd) q1 q2) d ti sL bL mD mT (s_X3_plainSpan_sy (zw sy) (zw sm) (zw sd) q1 q2) (s_X3_plainSpan_sm (zw sy) (zw sm) (zw sd) q1 q2) (s_X3_plainSpan_sd (zw sy) (zw sm) (zw sd) q1 q2) (zw mi) yr mo dy (wY cI cJ y d (s_L_plainSpan_sy sy sm sd q1 q2) (s_L_plainSpan_sm sy sm sd q1 q2) (s_L_plainSpan_sd sy sm sd q1 q2) mi ti sL bL mD mT [(o, .inl (cJ, 1, .inr (.inl (s_L_plainSpan_ou sy sm sd ou q1 q2))))]))) (rest := []) (ci := 3) (q0 := 0) C (c_X3_plainSpan l hfl D cI cJ (wY cI cJ y d (s_L_plainSpan_sy sy sm sd q1 q2) (s_L_plainSpan_sm sy sm sd q1 q2) (s_L_plainSpan_sd sy sm sd q1 q2) mi ti sL bL mD mT [(o, .inl (cJ, 1, .inr (.inl (s_L_plainSpan_ou sy sm sd ou q1 q2))))]) z co d ti sL bL mD mT (zw sy) (zw sm) (zw sd) (zw mi) yr mo dy q1 q2 ) q_X3_plainSpan rfl rfl rfl gL_law_X3_plainSpan ⟨rfl, rfl⟩ rfl rfl (Nat.le_of_ble_eq_true rfl) ⟨Nat.le_of_ble_eq_true rfl, Nat.le_of_ble_eq_true rfl⟩ ⟨Nat.le_trans (by omega) hnc, Nat.le_trans (by omega) hns⟩ dL_law_1824 ?_
  refine z_ws (ws' := (wY cI cJ y d (s_L_plainSpan_sy sy sm sd q1 q2) (s_L_plainSpan_sm sy sm sd q1 q2) (s_L_plainSpan_sd sy sm sd q1 q2) mi ti sL bL mD mT ((o, .inl (cJ, 1, .inr (.inl (s_L_plainSpan_ou sy sm sd ou q1 q2)))) :: (wM cI cJ z (s_X3_plainSpan_co (zw sy) (zw sm) (zw sd) q1 q2) d ti sL bL mD mT (s_X3_plainSpan_sy (zw sy) (zw sm) (zw sd) q1 q2) (s_X3_plainSpan_sm (zw sy) (zw sm) (zw sd) q1 q2) (s_X3_plainSpan_sd (zw sy) (zw sm) (zw sd) q1 q2) (zw mi) yr mo dy [])))) [11, 12, 13, 14, 15, 16, 17, 18, 19, 20, 21, 22, 0, 1, 2, 3, 4, 5, 6, 7, 8, 9, 10] rfl (by decide) rfl ?_
  refine z_lstore (lv' := [(6, .long (f_X3_plainSpan (zw sy) (zw sm) (zw sd) q1 q2)), (5, .int (f_L_plainSpan sy sm sd q1 q2)), (4, .int i4), (3, .ref o), (2, .ref (z 0)), (1, .ref (y 0)), (0, .ref b)]) C dL_law_1827 (by decide) rfl ?_
  refine z_aload_n C dL_law_1829 rfl 4 rfl ?_
  refine z_ws (ws' := (wM cI cJ z (s_X3_plainSpan_co (zw sy) (zw sm) (zw sd) q1 q2) d ti sL bL mD mT (s_X3_plainSpan_sy (zw sy) (zw sm) (zw sd) q1 q2) (s_X3_plainSpan_sm (zw sy) (zw sm) (zw sd) q1 q2) (s_X3_plainSpan_sd (zw sy) (zw sm) (zw sd) q1 q2) (zw mi) yr mo dy (wY cI cJ y d (s_L_plainSpan_sy sy sm sd q1 q2) (s_L_plainSpan_sm sy sm sd q1 q2) (s_L_plainSpan_sd sy sm sd q1 q2) mi ti sL bL mD mT [(o, .inl (cJ, 1, .inr (.inl (s_L_plainSpan_ou sy sm sd ou q1 q2))))]))) [12, 13, 14, 15, 16, 17, 18, 19, 20, 21, 22, 0, 1, 2, 3, 4, 5, 6, 7, 8, 9, 10, 11] rfl (by decide) rfl ?_
  refine z_wi (ws' := (wM cI cJ z (s_X3_plainSpan_co (zw sy) (zw sm) (zw sd) q1 q2) d ti sL bL mD mT (s_X3_plainSpan_sy (zw sy) (zw sm) (zw sd) q1 q2) (s_X3_plainSpan_sm (zw sy) (zw sm) (zw sd) q1 q2) (s_X3_plainSpan_sd (zw sy) (zw sm) (zw sd) q1 q2) (zw mi) yr mo dy (wY cI cJ y d (s_L_plainSpan_sy sy sm sd q1 q2) (s_L_plainSpan_sm sy sm sd q1 q2) (s_L_plainSpan_sd sy sm sd q1 q2) mi ti sL bL mD mT [(o, .inl (cJ, 1, .inr (.inl (s_L_plainSpan_ou sy sm sd ou q1 q2))))]))) (rest := []) (ci := 3) (q0 := 0) C (c_X3_thrown l hfl D cI cJ (wY cI cJ y d (s_L_plainSpan_sy sy sm sd q1 q2) (s_L_plainSpan_sm sy sm sd q1 q2) (s_L_plainSpan_sd sy sm sd q1 q2) mi ti sL bL mD mT [(o, .inl (cJ, 1, .inr (.inl (s_L_plainSpan_ou sy sm sd ou q1 q2))))]) z (s_X3_plainSpan_co (zw sy) (zw sm) (zw sd) q1 q2) d ti sL bL mD mT (s_X3_plainSpan_sy (zw sy) (zw sm) (zw sd) q1 q2) (s_X3_plainSpan_sm (zw sy) (zw sm) (zw sd) q1 q2) (s_X3_plainSpan_sd (zw sy) (zw sm) (zw sd) q1 q2) (zw mi) yr mo dy  ) q_X3_thrown rfl rfl rfl gL_law_X3_thrown ⟨rfl, rfl⟩ rfl rfl (Nat.le_of_ble_eq_true rfl) ⟨Nat.le_of_ble_eq_true rfl, Nat.le_of_ble_eq_true rfl⟩ ⟨Nat.le_trans (by omega) hnc, Nat.le_trans (by omega) hns⟩ dL_law_1830 ?_
  refine z_ws (ws' := (wY cI cJ y d (s_L_plainSpan_sy sy sm sd q1 q2) (s_L_plainSpan_sm sy sm sd q1 q2) (s_L_plainSpan_sd sy sm sd q1 q2) mi ti sL bL mD mT ((o, .inl (cJ, 1, .inr (.inl (s_L_plainSpan_ou sy sm sd ou q1 q2)))) :: (wM cI cJ z (s_X3_plainSpan_co (zw sy) (zw sm) (zw sd) q1 q2) d ti sL bL mD mT (s_X3_plainSpan_sy (zw sy) (zw sm) (zw sd) q1 q2) (s_X3_plainSpan_sm (zw sy) (zw sm) (zw sd) q1 q2) (s_X3_plainSpan_sd (zw sy) (zw sm) (zw sd) q1 q2) (zw mi) yr mo dy [])))) [11, 12, 13, 14, 15, 16, 17, 18, 19, 20, 21, 22, 0, 1, 2, 3, 4, 5, 6, 7, 8, 9, 10] rfl (by decide) rfl ?_
  refine z_iload C dL_law_1833 1 rfl ?_
  refine z_icmp_eq (tgt := 1840) C dL_law_1835 (by decide) (fun _ => ?_) (fun h => absurd (g_1) h)
  refine z_iload C dL_law_1840 1 rfl ?_
  refine z_if_ne (tgt := 1856) C dL_law_1842 (by decide) (fun h1 => ?_) (fun h1 => ?_)
  · refine z_goto (tgt := 4233) C dL_law_1856 (by decide) ?_
    refine z_sub [2, 3, 4, 5, 6] rfl ?_
    exact z_widen (by omega) (by omega) kk
  · refine z_aload_n C dL_law_1845 rfl 3 rfl ?_
    refine z_iconst (v := 0) C dL_law_1846 (by decide) ?_
    refine z_lald C 11 1 rfl rfl (zvpl 0 1 (by decide)) dL_law_1847 ?_
    refine z_eqst (st' := [.long ((s_L_plainSpan_ou sy sm sd ou q1 q2) 0)]) rfl ?_
    refine z_lload C dL_law_1848 0 rfl ?_
    refine z_lcmp_eq (tgt := 1856) C dL_law_1850 dL_law_1851 (by decide) (fun _ => ?_) (fun h => absurd (g_2 h1) h)
    refine z_goto (tgt := 4233) C dL_law_1856 (by decide) ?_
    refine z_sub [2, 3, 4, 5, 6] rfl ?_
    exact z_widen (by omega) (by omega) kk
def pre_Lc19 (mi : Nat → Int32) (ou : Nat → Int64) (q1 : Int32) (q2 : Int32) (q3 : Int32) : Prop := ((pre_L_month q1 q2 q3)) ∧ (((s_X3_month_co q1 q2 q3) = (f_L_month q1 q2 q3))) ∧ (((f_L_month q1 q2 q3) = 0) → (((s_L_month_ou ou q1 q2 q3) 0) = ((f_X3_month (zw mi) q1 q2 q3)).toInt64))
set_option maxHeartbeats 4000000 in
set_option maxRecDepth 100000 in
theorem law_c19 {p : Program} {l : Launch} {e : Env} {s : State} {m : MethodId} {args : Array Value} {below : List Frame} {meth : Method} {c : Code} {D : va_G} {cI cJ : ClassId} {A : Nat → Prop} {Q : State → Prop} {ret : Option FieldType} (C : ZC p l s m args meth c 9 D (zTys cI cJ) A cL_law wsL_law RL ret) (hfl : l.stackTraces = false) {b Ln : Nat} {xs : Nat → Int32} (hX : va_X b Ln xs s s.heap) (hbl : b < s.heap.size) (hbA : ¬ A b) (y z : Nat → Nat) (o : Nat) (d : Nat → Int64) (sy : Nat → Int32) (sm : Nat → Int32) (sd : Nat → Int32) (mi : Nat → Int32) (ti : Nat → Int64) (sL : Nat → Int64) (bL : Nat → Int64) (mD : Nat → Int64) (mT : Nat → Int64) (co : Int32) (yr : Int64) (mo : Int32) (dy : Int32) (ou : Nat → Int64) (q1 : Int32) (q2 : Int32) (q3 : Int32) (q4 : Int32) (q5 : Int32) (i4 : Int32) (hv1 : vp_in (i4 + 1) Ln) (hq1 : xs (i4 + 1).toNatClampNeg = q1) (hv2 : vp_in (i4 + 2) Ln) (hq2 : xs (i4 + 2).toNatClampNeg = q2) (hv3 : vp_in (i4 + 3) Ln) (hq3 : xs (i4 + 3).toNatClampNeg = q3) (hv4 : vp_in (i4 + 4) Ln) (hq4 : xs (i4 + 4).toNatClampNeg = q4) (hv5 : vp_in (i4 + 5) Ln) (hq5 : xs (i4 + 5).toNatClampNeg = q5) (nc ns : Nat) (hnc : nc + 6 ≤ room_1.cells) (hns : ns + 36 ≤ room_1.slots) (h_g : pre_Lc19 mi ou q1 q2 q3) (kk : ZW p l e room_1 s m args below meth c 9 D (zTys cI cJ) A Q (nc + 6) (ns + 36) (wY cI cJ y d sy sm sd (s_L_month_mi mi q1 q2 q3) ti sL bL mD mT ((o, .inl (cJ, 1, .inr (.inl (s_L_month_ou ou q1 q2 q3)))) :: (wM cI cJ z (s_X3_month_co q1 q2 q3) d ti sL bL mD mT (zw sy) (zw sm) (zw sd) (s_X3_month_mi (zw mi) q1 q2 q3) yr mo dy []))) 4233 [(4, .int i4), (3, .ref o), (2, .ref (z 0)), (1, .ref (y 0)), (0, .ref b)] []) : ZW p l e room_1 s m args below meth c 9 D (zTys cI cJ) A Q nc ns (wY cI cJ y d sy sm sd mi ti sL bL mD mT ((o, .inl (cJ, 1, .inr (.inl ou))) :: (wM cI cJ z co d ti sL bL mD mT (zw sy) (zw sm) (zw sd) (zw mi) yr mo dy []))) 1859 [(4, .int i4), (3, .ref o), (2, .ref (z 0)), (1, .ref (y 0)), (0, .ref b)] [] := by
  obtain ⟨g_0, g_1, g_2⟩ := h_g
  refine z_aload_n C dL_law_1859 rfl 3 rfl ?_
  refine z_aload_n C dL_law_1860 rfl 4 rfl ?_
  refine z_iload C dL_law_1861 0 rfl ?_
  refine z_iconst (v := 1) C dL_law_1863 (by decide) ?_
  refine z_iadd C dL_law_1864 ?_
  refine z_sld C hX hbl hbA hv1 dL_law_1865 ?_
  refine z_eqst (st' := [.int q1, .ref (y 0)]) (congrArg (fun v => Value.int v :: _) hq1) ?_
  refine z_aload_n C dL_law_1866 rfl 4 rfl ?_
  refine z_iload C dL_law_1867 0 rfl ?_
  refine z_iconst (v := 2) C dL_law_1869 (by decide) ?_
  refine z_iadd C dL_law_1870 ?_
  refine z_sld C hX hbl hbA hv2 dL_law_1871 ?_
  refine z_eqst (st' := [.int q2, .int q1, .ref (y 0)]) (congrArg (fun v => Value.int v :: _) hq2) ?_
  refine z_aload_n C dL_law_1872 rfl 4 rfl ?_
  refine z_iload C dL_law_1873 0 rfl ?_
  refine z_iconst (v := 3) C dL_law_1875 (by decide) ?_
  refine z_iadd C dL_law_1876 ?_
  refine z_sld C hX hbl hbA hv3 dL_law_1877 ?_
  refine z_eqst (st' := [.int q3, .int q2, .int q1, .ref (y 0)]) (congrArg (fun v => Value.int v :: _) hq3) ?_
  refine z_aload_n C dL_law_1878 rfl 1 rfl ?_
  refine z_siH (ws' := (wY cI cJ y d sy sm sd (s_L_month_mi mi q1 q2 q3) ti sL bL mD mT ((o, .inl (cJ, 1, .inr (.inl (s_L_month_ou ou q1 q2 q3)))) :: (wM cI cJ z co d ti sL bL mD mT (zw sy) (zw sm) (zw sd) (zw mi) yr mo dy [])))) C (rest := []) (c_L_month l hfl D cI cJ (wM cI cJ z co d ti sL bL mD mT (zw sy) (zw sm) (zw sd) (zw mi) yr mo dy []) y o d sy sm sd mi ti sL bL mD mT ou q1 q2 q3 (g_0)) q_L_month gL_law_L_month ⟨rfl, rfl⟩ rfl rfl (Nat.le_of_ble_eq_true rfl) ⟨Nat.le_of_ble_eq_true rfl, Nat.le_of_ble_eq_true rfl⟩ ⟨Nat.le_trans (by omega) hnc, Nat.le_trans (by omega) hns⟩ dL_law_1879 ?_
  refine z_istore (lv' := [(5, .int (f_L_month q1 q2 q3)), (4, .int i4), (3, .ref o), (2, .ref (z 0)), (1, .ref (y 0)), (0, .ref b)]) C dL_law_1882 (by decide) rfl ?_
  refine z_aload_n C dL_law_1884 rfl 3 rfl ?_
  refine z_aload_n C dL_law_1885 rfl 5 rfl ?_
  refine z_iload C dL_law_1886 1 rfl ?_
  refine z_iconst (v := 1) C dL_law_1888 (by decide) ?_
  refine z_iadd C dL_law_1889 ?_
  refine z_sld C hX hbl hbA hv1 dL_law_1890 ?_
  refine z_eqst (st' := [.int q1, .ref (z 0)]) (congrArg (fun v => Value.int v :: _) hq1) ?_
  refine z_aload_n C dL_law_1891 rfl 5 rfl ?_
  refine z_iload C dL_law_1892 1 rfl ?_
  refine z_iconst (v := 2) C dL_law_1894 (by decide) ?_
  refine z_iadd C dL_law_1895 ?_
  refine z_sld C hX hbl hbA hv2 dL_law_1896 ?_
  refine z_eqst (st' := [.int q2, .int q1, .ref (z 0)]) (congrArg (fun v => Value.int v :: _) hq2) ?_
  refine z_aload_n C dL_law_1897 rfl 5 rfl ?_
  refine z_iload C dL_law_1898 1 rfl ?_
  refine z_iconst (v := 3) C dL_law_1900 (by decide) ?_
  refine z_iadd C dL_law_1901 ?_
  refine z_sld C hX hbl hbA hv3 dL_law_1902 ?_
  refine z_eqst (st' := [.int q3, .int q2, .int q1, .ref (z 0)]) (congrArg (fun v => Value.int v :: _) hq3) ?_
  refine z_ws (ws' := (wM cI cJ z co d ti sL bL mD mT (zw sy) (zw sm) (zw sd) (zw mi) yr mo dy (wY cI cJ y d sy sm sd (s_L_month_mi mi q1 q2 q3) ti sL bL mD mT [(o, .inl (cJ, 1, .inr (.inl (s_L_month_ou ou q1 q2 q3))))]))) [12, 13, 14, 15, 16, 17, 18, 19, 20, 21, 22, 0, 1, 2, 3, 4, 5, 6, 7, 8, 9, 10, 11] rfl (by decide) rfl ?_
  refine z_wi (ws' := (wM cI cJ z (s_X3_month_co q1 q2 q3) d ti sL bL mD mT (zw sy) (zw sm) (zw sd) (s_X3_month_mi (zw mi) q1 q2 q3) yr mo dy (wY cI cJ y d sy sm sd (s_L_month_mi mi q1 q2 q3) ti sL bL mD mT [(o, .inl (cJ, 1, .inr (.inl (s_L_month_ou ou q1 q2 q3))))]))) (rest := []) (ci := 3) (q0 := 0) C (c_X3_month l hfl D cI cJ (wY cI cJ y d sy sm sd (s_L_month_mi mi q1 q2 q3) ti sL bL mD mT [(o, .inl (cJ, 1, .inr (.inl (s_L_month_ou ou q1 q2 q3))))]) z co d ti sL bL mD mT (zw sy) (zw sm) (zw sd) (zw mi) yr mo dy q1 q2 q3 ) q_X3_month rfl rfl rfl gL_law_X3_month ⟨rfl, rfl⟩ rfl rfl (Nat.le_of_ble_eq_true rfl) ⟨Nat.le_of_ble_eq_true rfl, Nat.le_of_ble_eq_true rfl⟩ ⟨Nat.le_trans (by omega) hnc, Nat.le_trans (by omega) hns⟩ dL_law_1903 ?_
  refine z_ws (ws' := (wY cI cJ y d sy sm sd (s_L_month_mi mi q1 q2 q3) ti sL bL mD mT ((o, .inl (cJ, 1, .inr (.inl (s_L_month_ou ou q1 q2 q3)))) :: (wM cI cJ z (s_X3_month_co q1 q2 q3) d ti sL bL mD mT (zw sy) (zw sm) (zw sd) (s_X3_month_mi (zw mi) q1 q2 q3) yr mo dy [])))) [11, 12, 13, 14, 15, 16, 17, 18, 19, 20, 21, 22, 0, 1, 2, 3, 4, 5, 6, 7, 8, 9, 10] rfl (by decide) rfl ?_
  refine z_istore (lv' := [(6, .int (f_X3_month (zw mi) q1 q2 q3)), (5, .int (f_L_month q1 q2 q3)), (4, .int i4), (3, .ref o), (2, .ref (z 0)), (1, .ref (y 0)), (0, .ref b)]) C dL_law_1906 (by decide) rfl ?_
  refine z_aload_n C dL_law_1908 rfl 4 rfl ?_
  refine z_ws (ws' := (wM cI cJ z (s_X3_month_co q1 q2 q3) d ti sL bL mD mT (zw sy) (zw sm) (zw sd) (s_X3_month_mi (zw mi) q1 q2 q3) yr mo dy (wY cI cJ y d sy sm sd (s_L_month_mi mi q1 q2 q3) ti sL bL mD mT [(o, .inl (cJ, 1, .inr (.inl (s_L_month_ou ou q1 q2 q3))))]))) [12, 13, 14, 15, 16, 17, 18, 19, 20, 21, 22, 0, 1, 2, 3, 4, 5, 6, 7, 8, 9, 10, 11] rfl (by decide) rfl ?_
  refine z_wi (ws' := (wM cI cJ z (s_X3_month_co q1 q2 q3) d ti sL bL mD mT (zw sy) (zw sm) (zw sd) (s_X3_month_mi (zw mi) q1 q2 q3) yr mo dy (wY cI cJ y d sy sm sd (s_L_month_mi mi q1 q2 q3) ti sL bL mD mT [(o, .inl (cJ, 1, .inr (.inl (s_L_month_ou ou q1 q2 q3))))]))) (rest := []) (ci := 3) (q0 := 0) C (c_X3_thrown l hfl D cI cJ (wY cI cJ y d sy sm sd (s_L_month_mi mi q1 q2 q3) ti sL bL mD mT [(o, .inl (cJ, 1, .inr (.inl (s_L_month_ou ou q1 q2 q3))))]) z (s_X3_month_co q1 q2 q3) d ti sL bL mD mT (zw sy) (zw sm) (zw sd) (s_X3_month_mi (zw mi) q1 q2 q3) yr mo dy  ) q_X3_thrown rfl rfl rfl gL_law_X3_thrown ⟨rfl, rfl⟩ rfl rfl (Nat.le_of_ble_eq_true rfl) ⟨Nat.le_of_ble_eq_true rfl, Nat.le_of_ble_eq_true rfl⟩ ⟨Nat.le_trans (by omega) hnc, Nat.le_trans (by omega) hns⟩ dL_law_1909 ?_
  refine z_ws (ws' := (wY cI cJ y d sy sm sd (s_L_month_mi mi q1 q2 q3) ti sL bL mD mT ((o, .inl (cJ, 1, .inr (.inl (s_L_month_ou ou q1 q2 q3)))) :: (wM cI cJ z (s_X3_month_co q1 q2 q3) d ti sL bL mD mT (zw sy) (zw sm) (zw sd) (s_X3_month_mi (zw mi) q1 q2 q3) yr mo dy [])))) [11, 12, 13, 14, 15, 16, 17, 18, 19, 20, 21, 22, 0, 1, 2, 3, 4, 5, 6, 7, 8, 9, 10] rfl (by decide) rfl ?_
  refine z_iload C dL_law_1912 1 rfl ?_
  refine z_icmp_eq (tgt := 1919) C dL_law_1914 (by decide) (fun _ => ?_) (fun h => absurd (g_1) h)
  refine z_iload C dL_law_1919 1 rfl ?_
  refine z_if_ne (tgt := 1936) C dL_law_1921 (by decide) (fun h1 => ?_) (fun h1 => ?_)
  · refine z_goto (tgt := 4233) C dL_law_1936 (by decide) ?_
    refine z_sub [2, 3, 4, 5, 6] rfl ?_
    exact z_widen (by omega) (by omega) kk
  · refine z_aload_n C dL_law_1924 rfl 3 rfl ?_
    refine z_iconst (v := 0) C dL_law_1925 (by decide) ?_
    refine z_lald C 11 1 rfl rfl (zvpl 0 1 (by decide)) dL_law_1926 ?_
    refine z_eqst (st' := [.long ((s_L_month_ou ou q1 q2 q3) 0)]) rfl ?_
    refine z_iload C dL_law_1927 0 rfl ?_
    refine z_i2l (v := ((f_X3_month (zw mi) q1 q2 q3)).toInt64) C dL_law_1929 rfl ?_
    refine z_lcmp_eq (tgt := 1936) C dL_law_1930 dL_law_1931 (by decide) (fun _ => ?_) (fun h => absurd (g_2 h1) h)
    refine z_goto (tgt := 4233) C dL_law_1936 (by decide) ?_
    refine z_sub [2, 3, 4, 5, 6] rfl ?_
    exact z_widen (by omega) (by omega) kk
def pre_Lc20 (mi : Nat → Int32) (ou : Nat → Int64) (q1 : Int32) (q2 : Int32) (q3 : Int32) (q4 : Int32) : Prop := (((s_X3_moveMonth_co (zw mi) q1 ((q2.toUInt32 % 65536).toInt32) q3 q4) = (f_L_moveMonth mi q1 ((q2.toUInt32 % 65536).toInt32) q3 q4))) ∧ (((f_L_moveMonth mi q1 ((q2.toUInt32 % 65536).toInt32) q3 q4) = 0) → (((s_L_moveMonth_ou mi ou q1 ((q2.toUInt32 % 65536).toInt32) q3 q4) 0) = ((f_X3_moveMonth (zw mi) q1 ((q2.toUInt32 % 65536).toInt32) q3 q4)).toInt64))
set_option maxHeartbeats 4000000 in
set_option maxRecDepth 100000 in
theorem law_c20 {p : Program} {l : Launch} {e : Env} {s : State} {m : MethodId} {args : Array Value} {below : List Frame} {meth : Method} {c : Code} {D : va_G} {cI cJ : ClassId} {A : Nat → Prop} {Q : State → Prop} {ret : Option FieldType} (C : ZC p l s m args meth c 9 D (zTys cI cJ) A cL_law wsL_law RL ret) (hfl : l.stackTraces = false) {b Ln : Nat} {xs : Nat → Int32} (hX : va_X b Ln xs s s.heap) (hbl : b < s.heap.size) (hbA : ¬ A b) (y z : Nat → Nat) (o : Nat) (d : Nat → Int64) (sy : Nat → Int32) (sm : Nat → Int32) (sd : Nat → Int32) (mi : Nat → Int32) (ti : Nat → Int64) (sL : Nat → Int64) (bL : Nat → Int64) (mD : Nat → Int64) (mT : Nat → Int64) (co : Int32) (yr : Int64) (mo : Int32) (dy : Int32) (ou : Nat → Int64) (q1 : Int32) (q2 : Int32) (q3 : Int32) (q4 : Int32) (q5 : Int32) (i4 : Int32) (hv1 : vp_in (i4 + 1) Ln) (hq1 : xs (i4 + 1).toNatClampNeg = q1) (hv2 : vp_in (i4 + 2) Ln) (hq2 : xs (i4 + 2).toNatClampNeg = q2) (hv3 : vp_in (i4 + 3) Ln) (hq3 : xs (i4 + 3).toNatClampNeg = q3) (hv4 : vp_in (i4 + 4) Ln) (hq4 : xs (i4 + 4).toNatClampNeg = q4) (hv5 : vp_in (i4 + 5) Ln) (hq5 : xs (i4 + 5).toNatClampNeg = q5) (nc ns : Nat) (hnc : nc + 6 ≤ room_1.cells) (hns : ns + 36 ≤ room_1.slots) (h_g : pre_Lc20 mi ou q1 q2 q3 q4) (kk : ZW p l e room_1 s m args below meth c 9 D (zTys cI cJ) A Q (nc + 6) (ns + 36) (wY cI cJ y d sy sm sd (s_L_moveMonth_mi mi q1 ((q2.toUInt32 % 65536).toInt32) q3 q4) ti sL bL mD mT ((o, .inl (cJ, 1, .inr (.inl (s_L_moveMonth_ou mi ou q1 ((q2.toUInt32 % 65536).toInt32) q3 q4)))) :: (wM cI cJ z (s_X3_moveMonth_co (zw mi) q1 ((q2.toUInt32 % 65536).toInt32) q3 q4) d ti sL bL mD mT (zw sy) (zw sm) (zw sd) (s_X3_moveMonth_mi (zw mi) q1 ((q2.toUInt32 % 65536).toInt32) q3 q4) yr mo dy []))) 4233 [(4, .int i4), (3, .ref o), (2, .ref (z 0)), (1, .ref (y 0)), (0, .ref b)] []) : ZW p l e room_1 s m args below meth c 9 D (zTys cI cJ) A Q nc ns (wY cI cJ y d sy sm sd mi ti sL bL mD mT ((o, .inl (cJ, 1, .inr (.inl ou))) :: (wM cI cJ z co d ti sL bL mD mT (zw sy) (zw sm) (zw sd) (zw mi) yr mo dy []))) 1939 [(4, .int i4), (3, .ref o), (2, .ref (z 0)), (1, .ref (y 0)), (0, .ref b)] [] := by
  obtain ⟨g_0, g_1⟩ := h_g
  refine z_aload_n C dL_law_1939 rfl 3 rfl ?_
  refine z_aload_n C dL_law_1940 rfl 4 rfl ?_
  refine z_iload C dL_law_1941 0 rfl ?_
  refine z_iconst (v := 1) C dL_law_1943 (by decide) ?_
  refine z_iadd C dL_law_1944 ?_
  refine z_sld C hX hbl hbA hv1 dL_law_1945 ?_
  refine z_eqst (st' := [.int q1, .ref (y 0)]) (congrArg (fun v => Value.int v :: _) hq1) ?_
  refine z_aload_n C dL_law_1946 rfl 4 rfl ?_
  refine z_iload C dL_law_1947 0 rfl ?_
  refine z_iconst (v := 2) C dL_law_1949 (by decide) ?_
  refine z_iadd C dL_law_1950 ?_
  refine z_sld C hX hbl hbA hv2 dL_law_1951 ?_
  refine z_eqst (st' := [.int q2, .int q1, .ref (y 0)]) (congrArg (fun v => Value.int v :: _) hq2) ?_
  refine z_i2c (v := (q2.toUInt32 % 65536).toInt32) C dL_law_1952 rfl ?_
  refine z_aload_n C dL_law_1953 rfl 4 rfl ?_
  refine z_iload C dL_law_1954 0 rfl ?_
  refine z_iconst (v := 3) C dL_law_1956 (by decide) ?_
  refine z_iadd C dL_law_1957 ?_
  refine z_sld C hX hbl hbA hv3 dL_law_1958 ?_
  refine z_eqst (st' := [.int q3, .int ((q2.toUInt32 % 65536).toInt32), .int q1, .ref (y 0)]) (congrArg (fun v => Value.int v :: _) hq3) ?_
  refine z_aload_n C dL_law_1959 rfl 4 rfl ?_
  refine z_iload C dL_law_1960 0 rfl ?_
  refine z_iconst (v := 4) C dL_law_1962 (by decide) ?_
  refine z_iadd C dL_law_1963 ?_
  refine z_sld C hX hbl hbA hv4 dL_law_1964 ?_
  refine z_eqst (st' := [.int q4, .int q3, .int ((q2.toUInt32 % 65536).toInt32), .int q1, .ref (y 0)]) (congrArg (fun v => Value.int v :: _) hq4) ?_
  refine z_aload_n C dL_law_1965 rfl 1 rfl ?_
  refine z_siH (ws' := (wY cI cJ y d sy sm sd (s_L_moveMonth_mi mi q1 ((q2.toUInt32 % 65536).toInt32) q3 q4) ti sL bL mD mT ((o, .inl (cJ, 1, .inr (.inl (s_L_moveMonth_ou mi ou q1 ((q2.toUInt32 % 65536).toInt32) q3 q4)))) :: (wM cI cJ z co d ti sL bL mD mT (zw sy) (zw sm) (zw sd) (zw mi) yr mo dy [])))) C (rest := []) (c_L_moveMonth l hfl D cI cJ (wM cI cJ z co d ti sL bL mD mT (zw sy) (zw sm) (zw sd) (zw mi) yr mo dy []) y o d sy sm sd mi ti sL bL mD mT ou q1 ((q2.toUInt32 % 65536).toInt32) q3 q4 ) q_L_moveMonth gL_law_L_moveMonth ⟨rfl, rfl⟩ rfl rfl (Nat.le_of_ble_eq_true rfl) ⟨Nat.le_of_ble_eq_true rfl, Nat.le_of_ble_eq_true rfl⟩ ⟨Nat.le_trans (by omega) hnc, Nat.le_trans (by omega) hns⟩ dL_law_1966 ?_
  refine z_istore (lv' := [(5, .int (f_L_moveMonth mi q1 ((q2.toUInt32 % 65536).toInt32) q3 q4)), (4, .int i4), (3, .ref o), (2, .ref (z 0)), (1, .ref (y 0)), (0, .ref b)]) C dL_law_1969 (by decide) rfl ?_
  refine z_aload_n C dL_law_1971 rfl 3 rfl ?_
  refine z_aload_n C dL_law_1972 rfl 5 rfl ?_
  refine z_iload C dL_law_1973 1 rfl ?_
  refine z_iconst (v := 1) C dL_law_1975 (by decide) ?_
  refine z_iadd C dL_law_1976 ?_
  refine z_sld C hX hbl hbA hv1 dL_law_1977 ?_
  refine z_eqst (st' := [.int q1, .ref (z 0)]) (congrArg (fun v => Value.int v :: _) hq1) ?_
  refine z_aload_n C dL_law_1978 rfl 5 rfl ?_
  refine z_iload C dL_law_1979 1 rfl ?_
  refine z_iconst (v := 2) C dL_law_1981 (by decide) ?_
  refine z_iadd C dL_law_1982 ?_
  refine z_sld C hX hbl hbA hv2 dL_law_1983 ?_
  refine z_eqst (st' := [.int q2, .int q1, .ref (z 0)]) (congrArg (fun v => Value.int v :: _) hq2) ?_
  refine z_i2c (v := (q2.toUInt32 % 65536).toInt32) C dL_law_1984 rfl ?_
  refine z_aload_n C dL_law_1985 rfl 5 rfl ?_
  refine z_iload C dL_law_1986 1 rfl ?_
  refine z_iconst (v := 3) C dL_law_1988 (by decide) ?_
  refine z_iadd C dL_law_1989 ?_
  refine z_sld C hX hbl hbA hv3 dL_law_1990 ?_
  refine z_eqst (st' := [.int q3, .int ((q2.toUInt32 % 65536).toInt32), .int q1, .ref (z 0)]) (congrArg (fun v => Value.int v :: _) hq3) ?_
  refine z_aload_n C dL_law_1991 rfl 5 rfl ?_
  refine z_iload C dL_law_1992 1 rfl ?_
  refine z_iconst (v := 4) C dL_law_1994 (by decide) ?_
  refine z_iadd C dL_law_1995 ?_
  refine z_sld C hX hbl hbA hv4 dL_law_1996 ?_
  refine z_eqst (st' := [.int q4, .int q3, .int ((q2.toUInt32 % 65536).toInt32), .int q1, .ref (z 0)]) (congrArg (fun v => Value.int v :: _) hq4) ?_
  refine z_ws (ws' := (wM cI cJ z co d ti sL bL mD mT (zw sy) (zw sm) (zw sd) (zw mi) yr mo dy (wY cI cJ y d sy sm sd (s_L_moveMonth_mi mi q1 ((q2.toUInt32 % 65536).toInt32) q3 q4) ti sL bL mD mT [(o, .inl (cJ, 1, .inr (.inl (s_L_moveMonth_ou mi ou q1 ((q2.toUInt32 % 65536).toInt32) q3 q4))))]))) [12, 13, 14, 15, 16, 17, 18, 19, 20, 21, 22, 0, 1, 2, 3, 4, 5, 6, 7, 8, 9, 10, 11] rfl (by decide) rfl ?_
  refine z_wi (ws' := (wM cI cJ z (s_X3_moveMonth_co (zw mi) q1 ((q2.toUInt32 % 65536).toInt32) q3 q4) d ti sL bL mD mT (zw sy) (zw sm) (zw sd) (s_X3_moveMonth_mi (zw mi) q1 ((q2.toUInt32 % 65536).toInt32) q3 q4) yr mo dy (wY cI cJ y d sy sm sd (s_L_moveMonth_mi mi q1 ((q2.toUInt32 % 65536).toInt32) q3 q4) ti sL bL mD mT [(o, .inl (cJ, 1, .inr (.inl (s_L_moveMonth_ou mi ou q1 ((q2.toUInt32 % 65536).toInt32) q3 q4))))]))) (rest := []) (ci := 3) (q0 := 0) C (c_X3_moveMonth l hfl D cI cJ (wY cI cJ y d sy sm sd (s_L_moveMonth_mi mi q1 ((q2.toUInt32 % 65536).toInt32) q3 q4) ti sL bL mD mT [(o, .inl (cJ, 1, .inr (.inl (s_L_moveMonth_ou mi ou q1 ((q2.toUInt32 % 65536).toInt32) q3 q4))))]) z co d ti sL bL mD mT (zw sy) (zw sm) (zw sd) (zw mi) yr mo dy q1 ((q2.toUInt32 % 65536).toInt32) q3 q4 ) q_X3_moveMonth rfl rfl rfl gL_law_X3_moveMonth ⟨rfl, rfl⟩ rfl rfl (Nat.le_of_ble_eq_true rfl) ⟨Nat.le_of_ble_eq_true rfl, Nat.le_of_ble_eq_true rfl⟩ ⟨Nat.le_trans (by omega) hnc, Nat.le_trans (by omega) hns⟩ dL_law_1997 ?_
  refine z_ws (ws' := (wY cI cJ y d sy sm sd (s_L_moveMonth_mi mi q1 ((q2.toUInt32 % 65536).toInt32) q3 q4) ti sL bL mD mT ((o, .inl (cJ, 1, .inr (.inl (s_L_moveMonth_ou mi ou q1 ((q2.toUInt32 % 65536).toInt32) q3 q4)))) :: (wM cI cJ z (s_X3_moveMonth_co (zw mi) q1 ((q2.toUInt32 % 65536).toInt32) q3 q4) d ti sL bL mD mT (zw sy) (zw sm) (zw sd) (s_X3_moveMonth_mi (zw mi) q1 ((q2.toUInt32 % 65536).toInt32) q3 q4) yr mo dy [])))) [11, 12, 13, 14, 15, 16, 17, 18, 19, 20, 21, 22, 0, 1, 2, 3, 4, 5, 6, 7, 8, 9, 10] rfl (by decide) rfl ?_
  refine z_istore (lv' := [(6, .int (f_X3_moveMonth (zw mi) q1 ((q2.toUInt32 % 65536).toInt32) q3 q4)), (5, .int (f_L_moveMonth mi q1 ((q2.toUInt32 % 65536).toInt32) q3 q4)), (4, .int i4), (3, .ref o), (2, .ref (z 0)), (1, .ref (y 0)), (0, .ref b)]) C dL_law_2000 (by decide) rfl ?_
  refine z_aload_n C dL_law_2002 rfl 4 rfl ?_
  refine z_ws (ws' := (wM cI cJ z (s_X3_moveMonth_co (zw mi) q1 ((q2.toUInt32 % 65536).toInt32) q3 q4) d ti sL bL mD mT (zw sy) (zw sm) (zw sd) (s_X3_moveMonth_mi (zw mi) q1 ((q2.toUInt32 % 65536).toInt32) q3 q4) yr mo dy (wY cI cJ y d sy sm sd (s_L_moveMonth_mi mi q1 ((q2.toUInt32 % 65536).toInt32) q3 q4) ti sL bL mD mT [(o, .inl (cJ, 1, .inr (.inl (s_L_moveMonth_ou mi ou q1 ((q2.toUInt32 % 65536).toInt32) q3 q4))))]))) [12, 13, 14, 15, 16, 17, 18, 19, 20, 21, 22, 0, 1, 2, 3, 4, 5, 6, 7, 8, 9, 10, 11] rfl (by decide) rfl ?_
  refine z_wi (ws' := (wM cI cJ z (s_X3_moveMonth_co (zw mi) q1 ((q2.toUInt32 % 65536).toInt32) q3 q4) d ti sL bL mD mT (zw sy) (zw sm) (zw sd) (s_X3_moveMonth_mi (zw mi) q1 ((q2.toUInt32 % 65536).toInt32) q3 q4) yr mo dy (wY cI cJ y d sy sm sd (s_L_moveMonth_mi mi q1 ((q2.toUInt32 % 65536).toInt32) q3 q4) ti sL bL mD mT [(o, .inl (cJ, 1, .inr (.inl (s_L_moveMonth_ou mi ou q1 ((q2.toUInt32 % 65536).toInt32) q3 q4))))]))) (rest := []) (ci := 3) (q0 := 0) C (c_X3_thrown l hfl D cI cJ (wY cI cJ y d sy sm sd (s_L_moveMonth_mi mi q1 ((q2.toUInt32 % 65536).toInt32) q3 q4) ti sL bL mD mT [(o, .inl (cJ, 1, .inr (.inl (s_L_moveMonth_ou mi ou q1 ((q2.toUInt32 % 65536).toInt32) q3 q4))))]) z (s_X3_moveMonth_co (zw mi) q1 ((q2.toUInt32 % 65536).toInt32) q3 q4) d ti sL bL mD mT (zw sy) (zw sm) (zw sd) (s_X3_moveMonth_mi (zw mi) q1 ((q2.toUInt32 % 65536).toInt32) q3 q4) yr mo dy  ) q_X3_thrown rfl rfl rfl gL_law_X3_thrown ⟨rfl, rfl⟩ rfl rfl (Nat.le_of_ble_eq_true rfl) ⟨Nat.le_of_ble_eq_true rfl, Nat.le_of_ble_eq_true rfl⟩ ⟨Nat.le_trans (by omega) hnc, Nat.le_trans (by omega) hns⟩ dL_law_2003 ?_
  refine z_ws (ws' := (wY cI cJ y d sy sm sd (s_L_moveMonth_mi mi q1 ((q2.toUInt32 % 65536).toInt32) q3 q4) ti sL bL mD mT ((o, .inl (cJ, 1, .inr (.inl (s_L_moveMonth_ou mi ou q1 ((q2.toUInt32 % 65536).toInt32) q3 q4)))) :: (wM cI cJ z (s_X3_moveMonth_co (zw mi) q1 ((q2.toUInt32 % 65536).toInt32) q3 q4) d ti sL bL mD mT (zw sy) (zw sm) (zw sd) (s_X3_moveMonth_mi (zw mi) q1 ((q2.toUInt32 % 65536).toInt32) q3 q4) yr mo dy [])))) [11, 12, 13, 14, 15, 16, 17, 18, 19, 20, 21, 22, 0, 1, 2, 3, 4, 5, 6, 7, 8, 9, 10] rfl (by decide) rfl ?_
  refine z_iload C dL_law_2006 1 rfl ?_
  refine z_icmp_eq (tgt := 2013) C dL_law_2008 (by decide) (fun _ => ?_) (fun h => absurd (g_0) h)
  refine z_iload C dL_law_2013 1 rfl ?_
  refine z_if_ne (tgt := 2030) C dL_law_2015 (by decide) (fun h1 => ?_) (fun h1 => ?_)
  · refine z_goto (tgt := 4233) C dL_law_2030 (by decide) ?_
    refine z_sub [2, 3, 4, 5, 6] rfl ?_
    exact z_widen (by omega) (by omega) kk
  · refine z_aload_n C dL_law_2018 rfl 3 rfl ?_
    refine z_iconst (v := 0) C dL_law_2019 (by decide) ?_
    refine z_lald C 11 1 rfl rfl (zvpl 0 1 (by decide)) dL_law_2020 ?_
    refine z_eqst (st' := [.long ((s_L_moveMonth_ou mi ou q1 ((q2.toUInt32 % 65536).toInt32) q3 q4) 0)]) rfl ?_
    refine z_iload C dL_law_2021 0 rfl ?_
    refine z_i2l (v := ((f_X3_moveMonth (zw mi) q1 ((q2.toUInt32 % 65536).toInt32) q3 q4)).toInt64) C dL_law_2023 rfl ?_
    refine z_lcmp_eq (tgt := 2030) C dL_law_2024 dL_law_2025 (by decide) (fun _ => ?_) (fun h => absurd (g_1 h1) h)
    refine z_goto (tgt := 4233) C dL_law_2030 (by decide) ?_
    refine z_sub [2, 3, 4, 5, 6] rfl ?_
    exact z_widen (by omega) (by omega) kk
def pre_Lc21 (mi : Nat → Int32) (ou : Nat → Int64) (q1 : Int32) (q2 : Int32) : Prop := ((pre_L_monthPart q1 ((q2.toUInt32 % 65536).toInt32))) ∧ (((s_X3_monthPart_co (zw mi) q1 ((q2.toUInt32 % 65536).toInt32)) = (f_L_monthPart q1 ((q2.toUInt32 % 65536).toInt32)))) ∧ (((f_L_monthPart q1 ((q2.toUInt32 % 65536).toInt32)) = 0) → (((s_L_monthPart_ou mi ou q1 ((q2.toUInt32 % 65536).toInt32)) 0) = ((f_X3_monthPart (zw mi) q1 ((q2.toUInt32 % 65536).toInt32))).toInt64))
set_option maxHeartbeats 4000000 in
set_option maxRecDepth 100000 in
theorem law_c21 {p : Program} {l : Launch} {e : Env} {s : State} {m : MethodId} {args : Array Value} {below : List Frame} {meth : Method} {c : Code} {D : va_G} {cI cJ : ClassId} {A : Nat → Prop} {Q : State → Prop} {ret : Option FieldType} (C : ZC p l s m args meth c 9 D (zTys cI cJ) A cL_law wsL_law RL ret) (hfl : l.stackTraces = false) {b Ln : Nat} {xs : Nat → Int32} (hX : va_X b Ln xs s s.heap) (hbl : b < s.heap.size) (hbA : ¬ A b) (y z : Nat → Nat) (o : Nat) (d : Nat → Int64) (sy : Nat → Int32) (sm : Nat → Int32) (sd : Nat → Int32) (mi : Nat → Int32) (ti : Nat → Int64) (sL : Nat → Int64) (bL : Nat → Int64) (mD : Nat → Int64) (mT : Nat → Int64) (co : Int32) (yr : Int64) (mo : Int32) (dy : Int32) (ou : Nat → Int64) (q1 : Int32) (q2 : Int32) (q3 : Int32) (q4 : Int32) (q5 : Int32) (i4 : Int32) (hv1 : vp_in (i4 + 1) Ln) (hq1 : xs (i4 + 1).toNatClampNeg = q1) (hv2 : vp_in (i4 + 2) Ln) (hq2 : xs (i4 + 2).toNatClampNeg = q2) (hv3 : vp_in (i4 + 3) Ln) (hq3 : xs (i4 + 3).toNatClampNeg = q3) (hv4 : vp_in (i4 + 4) Ln) (hq4 : xs (i4 + 4).toNatClampNeg = q4) (hv5 : vp_in (i4 + 5) Ln) (hq5 : xs (i4 + 5).toNatClampNeg = q5) (nc ns : Nat) (hnc : nc + 6 ≤ room_1.cells) (hns : ns + 36 ≤ room_1.slots) (h_g : pre_Lc21 mi ou q1 q2) (kk : ZW p l e room_1 s m args below meth c 9 D (zTys cI cJ) A Q (nc + 6) (ns + 36) (wY cI cJ y d sy sm sd mi ti sL bL mD mT ((o, .inl (cJ, 1, .inr (.inl (s_L_monthPart_ou mi ou q1 ((q2.toUInt32 % 65536).toInt32))))) :: (wM cI cJ z (s_X3_monthPart_co (zw mi) q1 ((q2.toUInt32 % 65536).toInt32)) d ti sL bL mD mT (zw sy) (zw sm) (zw sd) (zw mi) yr mo dy []))) 4233 [(4, .int i4), (3, .ref o), (2, .ref (z 0)), (1, .ref (y 0)), (0, .ref b)] []) : ZW p l e room_1 s m args below meth c 9 D (zTys cI cJ) A Q nc ns (wY cI cJ y d sy sm sd mi ti sL bL mD mT ((o, .inl (cJ, 1, .inr (.inl ou))) :: (wM cI cJ z co d ti sL bL mD mT (zw sy) (zw sm) (zw sd) (zw mi) yr mo dy []))) 2033 [(4, .int i4), (3, .ref o), (2, .ref (z 0)), (1, .ref (y 0)), (0, .ref b)] [] := by
  obtain ⟨g_0, g_1, g_2⟩ := h_g
  refine z_aload_n C dL_law_2033 rfl 3 rfl ?_
  refine z_aload_n C dL_law_2034 rfl 4 rfl ?_
  refine z_iload C dL_law_2035 0 rfl ?_
  refine z_iconst (v := 1) C dL_law_2037 (by decide) ?_
  refine z_iadd C dL_law_2038 ?_
  refine z_sld C hX hbl hbA hv1 dL_law_2039 ?_
  refine z_eqst (st' := [.int q1, .ref (y 0)]) (congrArg (fun v => Value.int v :: _) hq1) ?_
  refine z_aload_n C dL_law_2040 rfl 4 rfl ?_
  refine z_iload C dL_law_2041 0 rfl ?_
  refine z_iconst (v := 2) C dL_law_2043 (by decide) ?_
  refine z_iadd C dL_law_2044 ?_
  refine z_sld C hX hbl hbA hv2 dL_law_2045 ?_
  refine z_eqst (st' := [.int q2, .int q1, .ref (y 0)]) (congrArg (fun v => Value.int v :: _) hq2) ?_
  refine z_i2c (v := (q2.toUInt32 % 65536).toInt32) C dL_law_2046 rfl ?_
  refine z_aload_n C dL_law_2047 rfl 1 rfl ?_
  refine z_siH (ws' := (wY cI cJ y d sy sm sd mi ti sL bL mD mT ((o, .inl (cJ, 1, .inr (.inl (s_L_monthPart_ou mi ou q1 ((q2.toUInt32 % 65536).toInt32))))) :: (wM cI cJ z co d ti sL bL mD mT (zw sy) (zw sm) (zw sd) (zw mi) yr mo dy [])))) C (rest := []) (c_L_monthPart l hfl D cI cJ (wM cI cJ z co d ti sL bL mD mT (zw sy) (zw sm) (zw sd) (zw mi) yr mo dy []) y o d sy sm sd mi ti sL bL mD mT ou q1 ((q2.toUInt32 % 65536).toInt32) (g_0)) q_L_monthPart gL_law_L_monthPart ⟨rfl, rfl⟩ rfl rfl (Nat.le_of_ble_eq_true rfl) ⟨Nat.le_of_ble_eq_true rfl, Nat.le_of_ble_eq_true rfl⟩ ⟨Nat.le_trans (by omega) hnc, Nat.le_trans (by omega) hns⟩ dL_law_2048 ?_
  refine z_istore (lv' := [(5, .int (f_L_monthPart q1 ((q2.toUInt32 % 65536).toInt32))), (4, .int i4), (3, .ref o), (2, .ref (z 0)), (1, .ref (y 0)), (0, .ref b)]) C dL_law_2051 (by decide) rfl ?_
  refine z_aload_n C dL_law_2053 rfl 3 rfl ?_
  refine z_aload_n C dL_law_2054 rfl 5 rfl ?_
  refine z_iload C dL_law_2055 1 rfl ?_
  refine z_iconst (v := 1) C dL_law_2057 (by decide) ?_
  refine z_iadd C dL_law_2058 ?_
  refine z_sld C hX hbl hbA hv1 dL_law_2059 ?_
  refine z_eqst (st' := [.int q1, .ref (z 0)]) (congrArg (fun v => Value.int v :: _) hq1) ?_
  refine z_aload_n C dL_law_2060 rfl 5 rfl ?_
  refine z_iload C dL_law_2061 1 rfl ?_
  refine z_iconst (v := 2) C dL_law_2063 (by decide) ?_
  refine z_iadd C dL_law_2064 ?_
  refine z_sld C hX hbl hbA hv2 dL_law_2065 ?_
  refine z_eqst (st' := [.int q2, .int q1, .ref (z 0)]) (congrArg (fun v => Value.int v :: _) hq2) ?_
  refine z_i2c (v := (q2.toUInt32 % 65536).toInt32) C dL_law_2066 rfl ?_
  refine z_ws (ws' := (wM cI cJ z co d ti sL bL mD mT (zw sy) (zw sm) (zw sd) (zw mi) yr mo dy (wY cI cJ y d sy sm sd mi ti sL bL mD mT [(o, .inl (cJ, 1, .inr (.inl (s_L_monthPart_ou mi ou q1 ((q2.toUInt32 % 65536).toInt32)))))]))) [12, 13, 14, 15, 16, 17, 18, 19, 20, 21, 22, 0, 1, 2, 3, 4, 5, 6, 7, 8, 9, 10, 11] rfl (by decide) rfl ?_
  refine z_wi (ws' := (wM cI cJ z (s_X3_monthPart_co (zw mi) q1 ((q2.toUInt32 % 65536).toInt32)) d ti sL bL mD mT (zw sy) (zw sm) (zw sd) (zw mi) yr mo dy (wY cI cJ y d sy sm sd mi ti sL bL mD mT [(o, .inl (cJ, 1, .inr (.inl (s_L_monthPart_ou mi ou q1 ((q2.toUInt32 % 65536).toInt32)))))]))) (rest := []) (ci := 3) (q0 := 0) C (c_X3_monthPart l hfl D cI cJ (wY cI cJ y d sy sm sd mi ti sL bL mD mT [(o, .inl (cJ, 1, .inr (.inl (s_L_monthPart_ou mi ou q1 ((q2.toUInt32 % 65536).toInt32)))))]) z co d ti sL bL mD mT (zw sy) (zw sm) (zw sd) (zw mi) yr mo dy q1 ((q2.toUInt32 % 65536).toInt32) ) q_X3_monthPart rfl rfl rfl gL_law_X3_monthPart ⟨rfl, rfl⟩ rfl rfl (Nat.le_of_ble_eq_true rfl) ⟨Nat.le_of_ble_eq_true rfl, Nat.le_of_ble_eq_true rfl⟩ ⟨Nat.le_trans (by omega) hnc, Nat.le_trans (by omega) hns⟩ dL_law_2067 ?_
  refine z_ws (ws' := (wY cI cJ y d sy sm sd mi ti sL bL mD mT ((o, .inl (cJ, 1, .inr (.inl (s_L_monthPart_ou mi ou q1 ((q2.toUInt32 % 65536).toInt32))))) :: (wM cI cJ z (s_X3_monthPart_co (zw mi) q1 ((q2.toUInt32 % 65536).toInt32)) d ti sL bL mD mT (zw sy) (zw sm) (zw sd) (zw mi) yr mo dy [])))) [11, 12, 13, 14, 15, 16, 17, 18, 19, 20, 21, 22, 0, 1, 2, 3, 4, 5, 6, 7, 8, 9, 10] rfl (by decide) rfl ?_
  refine z_istore (lv' := [(6, .int (f_X3_monthPart (zw mi) q1 ((q2.toUInt32 % 65536).toInt32))), (5, .int (f_L_monthPart q1 ((q2.toUInt32 % 65536).toInt32))), (4, .int i4), (3, .ref o), (2, .ref (z 0)), (1, .ref (y 0)), (0, .ref b)]) C dL_law_2070 (by decide) rfl ?_
  refine z_aload_n C dL_law_2072 rfl 4 rfl ?_
  refine z_ws (ws' := (wM cI cJ z (s_X3_monthPart_co (zw mi) q1 ((q2.toUInt32 % 65536).toInt32)) d ti sL bL mD mT (zw sy) (zw sm) (zw sd) (zw mi) yr mo dy (wY cI cJ y d sy sm sd mi ti sL bL mD mT [(o, .inl (cJ, 1, .inr (.inl (s_L_monthPart_ou mi ou q1 ((q2.toUInt32 % 65536).toInt32)))))]))) [12, 13, 14, 15, 16, 17, 18, 19, 20, 21, 22, 0, 1, 2, 3, 4, 5, 6, 7, 8, 9, 10, 11] rfl (by decide) rfl ?_
  refine z_wi (ws' := (wM cI cJ z (s_X3_monthPart_co (zw mi) q1 ((q2.toUInt32 % 65536).toInt32)) d ti sL bL mD mT (zw sy) (zw sm) (zw sd) (zw mi) yr mo dy (wY cI cJ y d sy sm sd mi ti sL bL mD mT [(o, .inl (cJ, 1, .inr (.inl (s_L_monthPart_ou mi ou q1 ((q2.toUInt32 % 65536).toInt32)))))]))) (rest := []) (ci := 3) (q0 := 0) C (c_X3_thrown l hfl D cI cJ (wY cI cJ y d sy sm sd mi ti sL bL mD mT [(o, .inl (cJ, 1, .inr (.inl (s_L_monthPart_ou mi ou q1 ((q2.toUInt32 % 65536).toInt32)))))]) z (s_X3_monthPart_co (zw mi) q1 ((q2.toUInt32 % 65536).toInt32)) d ti sL bL mD mT (zw sy) (zw sm) (zw sd) (zw mi) yr mo dy  ) q_X3_thrown rfl rfl rfl gL_law_X3_thrown ⟨rfl, rfl⟩ rfl rfl (Nat.le_of_ble_eq_true rfl) ⟨Nat.le_of_ble_eq_true rfl, Nat.le_of_ble_eq_true rfl⟩ ⟨Nat.le_trans (by omega) hnc, Nat.le_trans (by omega) hns⟩ dL_law_2073 ?_
  refine z_ws (ws' := (wY cI cJ y d sy sm sd mi ti sL bL mD mT ((o, .inl (cJ, 1, .inr (.inl (s_L_monthPart_ou mi ou q1 ((q2.toUInt32 % 65536).toInt32))))) :: (wM cI cJ z (s_X3_monthPart_co (zw mi) q1 ((q2.toUInt32 % 65536).toInt32)) d ti sL bL mD mT (zw sy) (zw sm) (zw sd) (zw mi) yr mo dy [])))) [11, 12, 13, 14, 15, 16, 17, 18, 19, 20, 21, 22, 0, 1, 2, 3, 4, 5, 6, 7, 8, 9, 10] rfl (by decide) rfl ?_
  refine z_iload C dL_law_2076 1 rfl ?_
  refine z_icmp_eq (tgt := 2083) C dL_law_2078 (by decide) (fun _ => ?_) (fun h => absurd (g_1) h)
  refine z_iload C dL_law_2083 1 rfl ?_
  refine z_if_ne (tgt := 2100) C dL_law_2085 (by decide) (fun h1 => ?_) (fun h1 => ?_)
  · refine z_goto (tgt := 4233) C dL_law_2100 (by decide) ?_
    refine z_sub [2, 3, 4, 5, 6] rfl ?_
    exact z_widen (by omega) (by omega) kk
  · refine z_aload_n C dL_law_2088 rfl 3 rfl ?_
    refine z_iconst (v := 0) C dL_law_2089 (by decide) ?_
    refine z_lald C 11 1 rfl rfl (zvpl 0 1 (by decide)) dL_law_2090 ?_
    refine z_eqst (st' := [.long ((s_L_monthPart_ou mi ou q1 ((q2.toUInt32 % 65536).toInt32)) 0)]) rfl ?_
    refine z_iload C dL_law_2091 0 rfl ?_
    refine z_i2l (v := ((f_X3_monthPart (zw mi) q1 ((q2.toUInt32 % 65536).toInt32))).toInt64) C dL_law_2093 rfl ?_
    refine z_lcmp_eq (tgt := 2100) C dL_law_2094 dL_law_2095 (by decide) (fun _ => ?_) (fun h => absurd (g_2 h1) h)
    refine z_goto (tgt := 4233) C dL_law_2100 (by decide) ?_
    refine z_sub [2, 3, 4, 5, 6] rfl ?_
    exact z_widen (by omega) (by omega) kk
def pre_Lc22 (d : Nat → Int64) (mi : Nat → Int32) (ou : Nat → Int64) (q1 : Int32) (q2 : Int32) (q3 : Int32) : Prop := ((pre_L_atDay mi q1 q2 q3)) ∧ ((pre_X3_atDay (zw mi) q1 q2 q3)) ∧ (((s_X3_atDay_co (zw mi) q1 q2 q3) = (f_L_atDay mi q1 q2 q3))) ∧ (((f_L_atDay mi q1 q2 q3) = 0) → (((s_L_atDay_ou mi ou q1 q2 q3) 0) = (f_X3_atDay d (zw mi) q1 q2 q3)))
set_option maxHeartbeats 4000000 in
set_option maxRecDepth 100000 in
theorem law_c22 {p : Program} {l : Launch} {e : Env} {s : State} {m : MethodId} {args : Array Value} {below : List Frame} {meth : Method} {c : Code} {D : va_G} {cI cJ : ClassId} {A : Nat → Prop} {Q : State → Prop} {ret : Option FieldType} (C : ZC p l s m args meth c 9 D (zTys cI cJ) A cL_law wsL_law RL ret) (hfl : l.stackTraces = false) {b Ln : Nat} {xs : Nat → Int32} (hX : va_X b Ln xs s s.heap) (hbl : b < s.heap.size) (hbA : ¬ A b) (y z : Nat → Nat) (o : Nat) (d : Nat → Int64) (sy : Nat → Int32) (sm : Nat → Int32) (sd : Nat → Int32) (mi : Nat → Int32) (ti : Nat → Int64) (sL : Nat → Int64) (bL : Nat → Int64) (mD : Nat → Int64) (mT : Nat → Int64) (co : Int32) (yr : Int64) (mo : Int32) (dy : Int32) (ou : Nat → Int64) (q1 : Int32) (q2 : Int32) (q3 : Int32) (q4 : Int32) (q5 : Int32) (i4 : Int32) (hv1 : vp_in (i4 + 1) Ln) (hq1 : xs (i4 + 1).toNatClampNeg = q1) (hv2 : vp_in (i4 + 2) Ln) (hq2 : xs (i4 + 2).toNatClampNeg = q2) (hv3 : vp_in (i4 + 3) Ln) (hq3 : xs (i4 + 3).toNatClampNeg = q3) (hv4 : vp_in (i4 + 4) Ln) (hq4 : xs (i4 + 4).toNatClampNeg = q4) (hv5 : vp_in (i4 + 5) Ln) (hq5 : xs (i4 + 5).toNatClampNeg = q5) (nc ns : Nat) (hnc : nc + 6 ≤ room_1.cells) (hns : ns + 36 ≤ room_1.slots) (h_g : pre_Lc22 d mi ou q1 q2 q3) (kk : ZW p l e room_1 s m args below meth c 9 D (zTys cI cJ) A Q (nc + 6) (ns + 36) (wY cI cJ y (s_L_atDay_d d mi q1 q2 q3) sy sm sd mi ti sL bL mD mT ((o, .inl (cJ, 1, .inr (.inl (s_L_atDay_ou mi ou q1 q2 q3)))) :: (wM cI cJ z (s_X3_atDay_co (zw mi) q1 q2 q3) (s_X3_atDay_d d (zw mi) q1 q2 q3) ti sL bL mD mT (zw sy) (zw sm) (zw sd) (zw mi) yr mo dy []))) 4233 [(4, .int i4), (3, .ref o), (2, .ref (z 0)), (1, .ref (y 0)), (0, .ref b)] []) : ZW p l e room_1 s m args below meth c 9 D (zTys cI cJ) A Q nc ns (wY cI cJ y d sy sm sd mi ti sL bL mD mT ((o, .inl (cJ, 1, .inr (.inl ou))) :: (wM cI cJ z co d ti sL bL mD mT (zw sy) (zw sm) (zw sd) (zw mi) yr mo dy []))) 2103 [(4, .int i4), (3, .ref o), (2, .ref (z 0)), (1, .ref (y 0)), (0, .ref b)] [] := by
  obtain ⟨g_0, g_1, g_2, g_3⟩ := h_g
  refine z_aload_n C dL_law_2103 rfl 3 rfl ?_
  refine z_aload_n C dL_law_2104 rfl 4 rfl ?_
  refine z_iload C dL_law_2105 0 rfl ?_
  refine z_iconst (v := 1) C dL_law_2107 (by decide) ?_
  refine z_iadd C dL_law_2108 ?_
  refine z_sld C hX hbl hbA hv1 dL_law_2109 ?_
  refine z_eqst (st' := [.int q1, .ref (y 0)]) (congrArg (fun v => Value.int v :: _) hq1) ?_
  refine z_aload_n C dL_law_2110 rfl 4 rfl ?_
  refine z_iload C dL_law_2111 0 rfl ?_
  refine z_iconst (v := 2) C dL_law_2113 (by decide) ?_
  refine z_iadd C dL_law_2114 ?_
  refine z_sld C hX hbl hbA hv2 dL_law_2115 ?_
  refine z_eqst (st' := [.int q2, .int q1, .ref (y 0)]) (congrArg (fun v => Value.int v :: _) hq2) ?_
  refine z_aload_n C dL_law_2116 rfl 4 rfl ?_
  refine z_iload C dL_law_2117 0 rfl ?_
  refine z_iconst (v := 3) C dL_law_2119 (by decide) ?_
  refine z_iadd C dL_law_2120 ?_
  refine z_sld C hX hbl hbA hv3 dL_law_2121 ?_
  refine z_eqst (st' := [.int q3, .int q2, .int q1, .ref (y 0)]) (congrArg (fun v => Value.int v :: _) hq3) ?_
  refine z_aload_n C dL_law_2122 rfl 1 rfl ?_
  refine z_siH (ws' := (wY cI cJ y (s_L_atDay_d d mi q1 q2 q3) sy sm sd mi ti sL bL mD mT ((o, .inl (cJ, 1, .inr (.inl (s_L_atDay_ou mi ou q1 q2 q3)))) :: (wM cI cJ z co d ti sL bL mD mT (zw sy) (zw sm) (zw sd) (zw mi) yr mo dy [])))) C (rest := []) (c_L_atDay l hfl D cI cJ (wM cI cJ z co d ti sL bL mD mT (zw sy) (zw sm) (zw sd) (zw mi) yr mo dy []) y o d sy sm sd mi ti sL bL mD mT ou q1 q2 q3 (g_0)) q_L_atDay gL_law_L_atDay ⟨rfl, rfl⟩ rfl rfl (Nat.le_of_ble_eq_true rfl) ⟨Nat.le_of_ble_eq_true rfl, Nat.le_of_ble_eq_true rfl⟩ ⟨Nat.le_trans (by omega) hnc, Nat.le_trans (by omega) hns⟩ dL_law_2123 ?_
  refine z_istore (lv' := [(5, .int (f_L_atDay mi q1 q2 q3)), (4, .int i4), (3, .ref o), (2, .ref (z 0)), (1, .ref (y 0)), (0, .ref b)]) C dL_law_2126 (by decide) rfl ?_
  refine z_aload_n C dL_law_2128 rfl 3 rfl ?_
  refine z_aload_n C dL_law_2129 rfl 5 rfl ?_
  refine z_iload C dL_law_2130 1 rfl ?_
  refine z_iconst (v := 1) C dL_law_2132 (by decide) ?_
  refine z_iadd C dL_law_2133 ?_
  refine z_sld C hX hbl hbA hv1 dL_law_2134 ?_
  refine z_eqst (st' := [.int q1, .ref (z 0)]) (congrArg (fun v => Value.int v :: _) hq1) ?_
  refine z_aload_n C dL_law_2135 rfl 5 rfl ?_
  refine z_iload C dL_law_2136 1 rfl ?_
  refine z_iconst (v := 2) C dL_law_2138 (by decide) ?_
  refine z_iadd C dL_law_2139 ?_
  refine z_sld C hX hbl hbA hv2 dL_law_2140 ?_
  refine z_eqst (st' := [.int q2, .int q1, .ref (z 0)]) (congrArg (fun v => Value.int v :: _) hq2) ?_
  refine z_aload_n C dL_law_2141 rfl 5 rfl ?_
  refine z_iload C dL_law_2142 1 rfl ?_
  refine z_iconst (v := 3) C dL_law_2144 (by decide) ?_
  refine z_iadd C dL_law_2145 ?_
  refine z_sld C hX hbl hbA hv3 dL_law_2146 ?_
  refine z_eqst (st' := [.int q3, .int q2, .int q1, .ref (z 0)]) (congrArg (fun v => Value.int v :: _) hq3) ?_
  refine z_ws (ws' := (wM cI cJ z co d ti sL bL mD mT (zw sy) (zw sm) (zw sd) (zw mi) yr mo dy (wY cI cJ y (s_L_atDay_d d mi q1 q2 q3) sy sm sd mi ti sL bL mD mT [(o, .inl (cJ, 1, .inr (.inl (s_L_atDay_ou mi ou q1 q2 q3))))]))) [12, 13, 14, 15, 16, 17, 18, 19, 20, 21, 22, 0, 1, 2, 3, 4, 5, 6, 7, 8, 9, 10, 11] rfl (by decide) rfl ?_
  refine z_wl (ws' := (wM cI cJ z (s_X3_atDay_co (zw mi) q1 q2 q3) (s_X3_atDay_d d (zw mi) q1 q2 q3) ti sL bL mD mT (zw sy) (zw sm) (zw sd) (zw mi) yr mo dy (wY cI cJ y (s_L_atDay_d d mi q1 q2 q3) sy sm sd mi ti sL bL mD mT [(o, .inl (cJ, 1, .inr (.inl (s_L_atDay_ou mi ou q1 q2 q3))))]))) (rest := []) (ci := 3) (q0 := 0) C (c_X3_atDay l hfl D cI cJ (wY cI cJ y (s_L_atDay_d d mi q1 q2 q3) sy sm sd mi ti sL bL mD mT [(o, .inl (cJ, 1, .inr (.inl (s_L_atDay_ou mi ou q1 q2 q3))))]) z co d ti sL bL mD mT (zw sy) (zw sm) (zw sd) (zw mi) yr mo dy q1 q2 q3 (g_1)) q_X3_atDay rfl rfl rfl gL_law_X3_atDay ⟨rfl, rfl⟩ rfl rfl (Nat.le_of_ble_eq_true rfl) ⟨Nat.le_of_ble_eq_true rfl, Nat.le_of_ble_eq_true rfl⟩ ⟨Nat.le_trans (by omega) hnc, Nat.le_trans (by omega) hns⟩ dL_law_2147 ?_
  refine z_ws (ws' := (wY cI cJ y (s_L_atDay_d d mi q1 q2 q3) sy sm sd mi ti sL bL mD mT ((o, .inl (cJ, 1, .inr (.inl (s_L_atDay_ou mi ou q1 q2 q3)))) :: (wM cI cJ z (s_X3_atDay_co (zw mi) q1 q2 q3) (s_X3_atDay_d d (zw mi) q1 q2 q3) ti sL bL mD mT (zw sy) (zw sm) (zw sd) (zw mi) yr mo dy [])))) [11, 12, 13, 14, 15, 16, 17, 18, 19, 20, 21, 22, 0, 1, 2, 3, 4, 5, 6, 7, 8, 9, 10] rfl (by decide) rfl ?_
  refine z_lstore (lv' := [(6, .long (f_X3_atDay d (zw mi) q1 q2 q3)), (5, .int (f_L_atDay mi q1 q2 q3)), (4, .int i4), (3, .ref o), (2, .ref (z 0)), (1, .ref (y 0)), (0, .ref b)]) C dL_law_2150 (by decide) rfl ?_
  refine z_aload_n C dL_law_2152 rfl 4 rfl ?_
  refine z_ws (ws' := (wM cI cJ z (s_X3_atDay_co (zw mi) q1 q2 q3) (s_X3_atDay_d d (zw mi) q1 q2 q3) ti sL bL mD mT (zw sy) (zw sm) (zw sd) (zw mi) yr mo dy (wY cI cJ y (s_L_atDay_d d mi q1 q2 q3) sy sm sd mi ti sL bL mD mT [(o, .inl (cJ, 1, .inr (.inl (s_L_atDay_ou mi ou q1 q2 q3))))]))) [12, 13, 14, 15, 16, 17, 18, 19, 20, 21, 22, 0, 1, 2, 3, 4, 5, 6, 7, 8, 9, 10, 11] rfl (by decide) rfl ?_
  refine z_wi (ws' := (wM cI cJ z (s_X3_atDay_co (zw mi) q1 q2 q3) (s_X3_atDay_d d (zw mi) q1 q2 q3) ti sL bL mD mT (zw sy) (zw sm) (zw sd) (zw mi) yr mo dy (wY cI cJ y (s_L_atDay_d d mi q1 q2 q3) sy sm sd mi ti sL bL mD mT [(o, .inl (cJ, 1, .inr (.inl (s_L_atDay_ou mi ou q1 q2 q3))))]))) (rest := []) (ci := 3) (q0 := 0) C (c_X3_thrown l hfl D cI cJ (wY cI cJ y (s_L_atDay_d d mi q1 q2 q3) sy sm sd mi ti sL bL mD mT [(o, .inl (cJ, 1, .inr (.inl (s_L_atDay_ou mi ou q1 q2 q3))))]) z (s_X3_atDay_co (zw mi) q1 q2 q3) (s_X3_atDay_d d (zw mi) q1 q2 q3) ti sL bL mD mT (zw sy) (zw sm) (zw sd) (zw mi) yr mo dy  ) q_X3_thrown rfl rfl rfl gL_law_X3_thrown ⟨rfl, rfl⟩ rfl rfl (Nat.le_of_ble_eq_true rfl) ⟨Nat.le_of_ble_eq_true rfl, Nat.le_of_ble_eq_true rfl⟩ ⟨Nat.le_trans (by omega) hnc, Nat.le_trans (by omega) hns⟩ dL_law_2153 ?_
  refine z_ws (ws' := (wY cI cJ y (s_L_atDay_d d mi q1 q2 q3) sy sm sd mi ti sL bL mD mT ((o, .inl (cJ, 1, .inr (.inl (s_L_atDay_ou mi ou q1 q2 q3)))) :: (wM cI cJ z (s_X3_atDay_co (zw mi) q1 q2 q3) (s_X3_atDay_d d (zw mi) q1 q2 q3) ti sL bL mD mT (zw sy) (zw sm) (zw sd) (zw mi) yr mo dy [])))) [11, 12, 13, 14, 15, 16, 17, 18, 19, 20, 21, 22, 0, 1, 2, 3, 4, 5, 6, 7, 8, 9, 10] rfl (by decide) rfl ?_
  refine z_iload C dL_law_2156 1 rfl ?_
  refine z_icmp_eq (tgt := 2163) C dL_law_2158 (by decide) (fun _ => ?_) (fun h => absurd (g_2) h)
  refine z_iload C dL_law_2163 1 rfl ?_
  refine z_if_ne (tgt := 2179) C dL_law_2165 (by decide) (fun h1 => ?_) (fun h1 => ?_)
  · refine z_goto (tgt := 4233) C dL_law_2179 (by decide) ?_
    refine z_sub [2, 3, 4, 5, 6] rfl ?_
    exact z_widen (by omega) (by omega) kk
  · refine z_aload_n C dL_law_2168 rfl 3 rfl ?_
    refine z_iconst (v := 0) C dL_law_2169 (by decide) ?_
    refine z_lald C 11 1 rfl rfl (zvpl 0 1 (by decide)) dL_law_2170 ?_
    refine z_eqst (st' := [.long ((s_L_atDay_ou mi ou q1 q2 q3) 0)]) rfl ?_
    refine z_lload C dL_law_2171 0 rfl ?_
    refine z_lcmp_eq (tgt := 2179) C dL_law_2173 dL_law_2174 (by decide) (fun _ => ?_) (fun h => absurd (g_3 h1) h)
    refine z_goto (tgt := 4233) C dL_law_2179 (by decide) ?_
    refine z_sub [2, 3, 4, 5, 6] rfl ?_
    exact z_widen (by omega) (by omega) kk
def pre_Lc23 (mi : Nat → Int32) (ou : Nat → Int64) (q1 : Int32) (q2 : Int32) : Prop := ((pre_L_orderMonths q1 q2)) ∧ (((s_X3_orderMonths_co q1 q2) = (f_L_orderMonths q1 q2))) ∧ (((f_L_orderMonths q1 q2) = 0) → (((s_L_orderMonths_ou mi ou q1 q2) 0) = ((f_X3_orderMonths (zw mi) q1 q2)).toInt64))
set_option maxHeartbeats 4000000 in
set_option maxRecDepth 100000 in
theorem law_c23 {p : Program} {l : Launch} {e : Env} {s : State} {m : MethodId} {args : Array Value} {below : List Frame} {meth : Method} {c : Code} {D : va_G} {cI cJ : ClassId} {A : Nat → Prop} {Q : State → Prop} {ret : Option FieldType} (C : ZC p l s m args meth c 9 D (zTys cI cJ) A cL_law wsL_law RL ret) (hfl : l.stackTraces = false) {b Ln : Nat} {xs : Nat → Int32} (hX : va_X b Ln xs s s.heap) (hbl : b < s.heap.size) (hbA : ¬ A b) (y z : Nat → Nat) (o : Nat) (d : Nat → Int64) (sy : Nat → Int32) (sm : Nat → Int32) (sd : Nat → Int32) (mi : Nat → Int32) (ti : Nat → Int64) (sL : Nat → Int64) (bL : Nat → Int64) (mD : Nat → Int64) (mT : Nat → Int64) (co : Int32) (yr : Int64) (mo : Int32) (dy : Int32) (ou : Nat → Int64) (q1 : Int32) (q2 : Int32) (q3 : Int32) (q4 : Int32) (q5 : Int32) (i4 : Int32) (hv1 : vp_in (i4 + 1) Ln) (hq1 : xs (i4 + 1).toNatClampNeg = q1) (hv2 : vp_in (i4 + 2) Ln) (hq2 : xs (i4 + 2).toNatClampNeg = q2) (hv3 : vp_in (i4 + 3) Ln) (hq3 : xs (i4 + 3).toNatClampNeg = q3) (hv4 : vp_in (i4 + 4) Ln) (hq4 : xs (i4 + 4).toNatClampNeg = q4) (hv5 : vp_in (i4 + 5) Ln) (hq5 : xs (i4 + 5).toNatClampNeg = q5) (nc ns : Nat) (hnc : nc + 6 ≤ room_1.cells) (hns : ns + 36 ≤ room_1.slots) (h_g : pre_Lc23 mi ou q1 q2) (kk : ZW p l e room_1 s m args below meth c 9 D (zTys cI cJ) A Q (nc + 6) (ns + 36) (wY cI cJ y d sy sm sd mi ti sL bL mD mT ((o, .inl (cJ, 1, .inr (.inl (s_L_orderMonths_ou mi ou q1 q2)))) :: (wM cI cJ z (s_X3_orderMonths_co q1 q2) d ti sL bL mD mT (zw sy) (zw sm) (zw sd) (zw mi) yr mo dy []))) 4233 [(4, .int i4), (3, .ref o), (2, .ref (z 0)), (1, .ref (y 0)), (0, .ref b)] []) : ZW p l e room_1 s m args below meth c 9 D (zTys cI cJ) A Q nc ns (wY cI cJ y d sy sm sd mi ti sL bL mD mT ((o, .inl (cJ, 1, .inr (.inl ou))) :: (wM cI cJ z co d ti sL bL mD mT (zw sy) (zw sm) (zw sd) (zw mi) yr mo dy []))) 2182 [(4, .int i4), (3, .ref o), (2, .ref (z 0)), (1, .ref (y 0)), (0, .ref b)] [] := by
  obtain ⟨g_0, g_1, g_2⟩ := h_g
  refine z_aload_n C dL_law_2182 rfl 3 rfl ?_
  refine z_aload_n C dL_law_2183 rfl 4 rfl ?_
  refine z_iload C dL_law_2184 0 rfl ?_
  refine z_iconst (v := 1) C dL_law_2186 (by decide) ?_
  refine z_iadd C dL_law_2187 ?_
  refine z_sld C hX hbl hbA hv1 dL_law_2188 ?_
  refine z_eqst (st' := [.int q1, .ref (y 0)]) (congrArg (fun v => Value.int v :: _) hq1) ?_
  refine z_aload_n C dL_law_2189 rfl 4 rfl ?_
  refine z_iload C dL_law_2190 0 rfl ?_
  refine z_iconst (v := 2) C dL_law_2192 (by decide) ?_
  refine z_iadd C dL_law_2193 ?_
  refine z_sld C hX hbl hbA hv2 dL_law_2194 ?_
  refine z_eqst (st' := [.int q2, .int q1, .ref (y 0)]) (congrArg (fun v => Value.int v :: _) hq2) ?_
  refine z_aload_n C dL_law_2195 rfl 1 rfl ?_
  refine z_siH (ws' := (wY cI cJ y d sy sm sd mi ti sL bL mD mT ((o, .inl (cJ, 1, .inr (.inl (s_L_orderMonths_ou mi ou q1 q2)))) :: (wM cI cJ z co d ti sL bL mD mT (zw sy) (zw sm) (zw sd) (zw mi) yr mo dy [])))) C (rest := []) (c_L_orderMonths l hfl D cI cJ (wM cI cJ z co d ti sL bL mD mT (zw sy) (zw sm) (zw sd) (zw mi) yr mo dy []) y o d sy sm sd mi ti sL bL mD mT ou q1 q2 (g_0)) q_L_orderMonths gL_law_L_orderMonths ⟨rfl, rfl⟩ rfl rfl (Nat.le_of_ble_eq_true rfl) ⟨Nat.le_of_ble_eq_true rfl, Nat.le_of_ble_eq_true rfl⟩ ⟨Nat.le_trans (by omega) hnc, Nat.le_trans (by omega) hns⟩ dL_law_2196 ?_
  refine z_istore (lv' := [(5, .int (f_L_orderMonths q1 q2)), (4, .int i4), (3, .ref o), (2, .ref (z 0)), (1, .ref (y 0)), (0, .ref b)]) C dL_law_2199 (by decide) rfl ?_
  refine z_aload_n C dL_law_2201 rfl 3 rfl ?_
  refine z_aload_n C dL_law_2202 rfl 5 rfl ?_
  refine z_iload C dL_law_2203 1 rfl ?_
  refine z_iconst (v := 1) C dL_law_2205 (by decide) ?_
  refine z_iadd C dL_law_2206 ?_
  refine z_sld C hX hbl hbA hv1 dL_law_2207 ?_
  refine z_eqst (st' := [.int q1, .ref (z 0)]) (congrArg (fun v => Value.int v :: _) hq1) ?_
  refine z_aload_n C dL_law_2208 rfl 5 rfl ?_
  refine z_iload C dL_law_2209 1 rfl ?_
  refine z_iconst (v := 2) C dL_law_2211 (by decide) ?_
  refine z_iadd C dL_law_2212 ?_
  refine z_sld C hX hbl hbA hv2 dL_law_2213 ?_
  refine z_eqst (st' := [.int q2, .int q1, .ref (z 0)]) (congrArg (fun v => Value.int v :: _) hq2) ?_
  refine z_ws (ws' := (wM cI cJ z co d ti sL bL mD mT (zw sy) (zw sm) (zw sd) (zw mi) yr mo dy (wY cI cJ y d sy sm sd mi ti sL bL mD mT [(o, .inl (cJ, 1, .inr (.inl (s_L_orderMonths_ou mi ou q1 q2))))]))) [12, 13, 14, 15, 16, 17, 18, 19, 20, 21, 22, 0, 1, 2, 3, 4, 5, 6, 7, 8, 9, 10, 11] rfl (by decide) rfl ?_
  refine z_wi (ws' := (wM cI cJ z (s_X3_orderMonths_co q1 q2) d ti sL bL mD mT (zw sy) (zw sm) (zw sd) (zw mi) yr mo dy (wY cI cJ y d sy sm sd mi ti sL bL mD mT [(o, .inl (cJ, 1, .inr (.inl (s_L_orderMonths_ou mi ou q1 q2))))]))) (rest := []) (ci := 3) (q0 := 0) C (c_X3_orderMonths l hfl D cI cJ (wY cI cJ y d sy sm sd mi ti sL bL mD mT [(o, .inl (cJ, 1, .inr (.inl (s_L_orderMonths_ou mi ou q1 q2))))]) z co d ti sL bL mD mT (zw sy) (zw sm) (zw sd) (zw mi) yr mo dy q1 q2 ) q_X3_orderMonths rfl rfl rfl gL_law_X3_orderMonths ⟨rfl, rfl⟩ rfl rfl (Nat.le_of_ble_eq_true rfl) ⟨Nat.le_of_ble_eq_true rfl, Nat.le_of_ble_eq_true rfl⟩ ⟨Nat.le_trans (by omega) hnc, Nat.le_trans (by omega) hns⟩ dL_law_2214 ?_
  refine z_ws (ws' := (wY cI cJ y d sy sm sd mi ti sL bL mD mT ((o, .inl (cJ, 1, .inr (.inl (s_L_orderMonths_ou mi ou q1 q2)))) :: (wM cI cJ z (s_X3_orderMonths_co q1 q2) d ti sL bL mD mT (zw sy) (zw sm) (zw sd) (zw mi) yr mo dy [])))) [11, 12, 13, 14, 15, 16, 17, 18, 19, 20, 21, 22, 0, 1, 2, 3, 4, 5, 6, 7, 8, 9, 10] rfl (by decide) rfl ?_
  refine z_istore (lv' := [(6, .int (f_X3_orderMonths (zw mi) q1 q2)), (5, .int (f_L_orderMonths q1 q2)), (4, .int i4), (3, .ref o), (2, .ref (z 0)), (1, .ref (y 0)), (0, .ref b)]) C dL_law_2217 (by decide) rfl ?_
  refine z_aload_n C dL_law_2219 rfl 4 rfl ?_
  refine z_ws (ws' := (wM cI cJ z (s_X3_orderMonths_co q1 q2) d ti sL bL mD mT (zw sy) (zw sm) (zw sd) (zw mi) yr mo dy (wY cI cJ y d sy sm sd mi ti sL bL mD mT [(o, .inl (cJ, 1, .inr (.inl (s_L_orderMonths_ou mi ou q1 q2))))]))) [12, 13, 14, 15, 16, 17, 18, 19, 20, 21, 22, 0, 1, 2, 3, 4, 5, 6, 7, 8, 9, 10, 11] rfl (by decide) rfl ?_
  refine z_wi (ws' := (wM cI cJ z (s_X3_orderMonths_co q1 q2) d ti sL bL mD mT (zw sy) (zw sm) (zw sd) (zw mi) yr mo dy (wY cI cJ y d sy sm sd mi ti sL bL mD mT [(o, .inl (cJ, 1, .inr (.inl (s_L_orderMonths_ou mi ou q1 q2))))]))) (rest := []) (ci := 3) (q0 := 0) C (c_X3_thrown l hfl D cI cJ (wY cI cJ y d sy sm sd mi ti sL bL mD mT [(o, .inl (cJ, 1, .inr (.inl (s_L_orderMonths_ou mi ou q1 q2))))]) z (s_X3_orderMonths_co q1 q2) d ti sL bL mD mT (zw sy) (zw sm) (zw sd) (zw mi) yr mo dy  ) q_X3_thrown rfl rfl rfl gL_law_X3_thrown ⟨rfl, rfl⟩ rfl rfl (Nat.le_of_ble_eq_true rfl) ⟨Nat.le_of_ble_eq_true rfl, Nat.le_of_ble_eq_true rfl⟩ ⟨Nat.le_trans (by omega) hnc, Nat.le_trans (by omega) hns⟩ dL_law_2220 ?_
  refine z_ws (ws' := (wY cI cJ y d sy sm sd mi ti sL bL mD mT ((o, .inl (cJ, 1, .inr (.inl (s_L_orderMonths_ou mi ou q1 q2)))) :: (wM cI cJ z (s_X3_orderMonths_co q1 q2) d ti sL bL mD mT (zw sy) (zw sm) (zw sd) (zw mi) yr mo dy [])))) [11, 12, 13, 14, 15, 16, 17, 18, 19, 20, 21, 22, 0, 1, 2, 3, 4, 5, 6, 7, 8, 9, 10] rfl (by decide) rfl ?_
  refine z_iload C dL_law_2223 1 rfl ?_
  refine z_icmp_eq (tgt := 2230) C dL_law_2225 (by decide) (fun _ => ?_) (fun h => absurd (g_1) h)
  refine z_iload C dL_law_2230 1 rfl ?_
  refine z_if_ne (tgt := 2247) C dL_law_2232 (by decide) (fun h1 => ?_) (fun h1 => ?_)
  · refine z_goto (tgt := 4233) C dL_law_2247 (by decide) ?_
    refine z_sub [2, 3, 4, 5, 6] rfl ?_
    exact z_widen (by omega) (by omega) kk
  · refine z_aload_n C dL_law_2235 rfl 3 rfl ?_
    refine z_iconst (v := 0) C dL_law_2236 (by decide) ?_
    refine z_lald C 11 1 rfl rfl (zvpl 0 1 (by decide)) dL_law_2237 ?_
    refine z_eqst (st' := [.long ((s_L_orderMonths_ou mi ou q1 q2) 0)]) rfl ?_
    refine z_iload C dL_law_2238 0 rfl ?_
    refine z_i2l (v := ((f_X3_orderMonths (zw mi) q1 q2)).toInt64) C dL_law_2240 rfl ?_
    refine z_lcmp_eq (tgt := 2247) C dL_law_2241 dL_law_2242 (by decide) (fun _ => ?_) (fun h => absurd (g_2 h1) h)
    refine z_goto (tgt := 4233) C dL_law_2247 (by decide) ?_
    refine z_sub [2, 3, 4, 5, 6] rfl ?_
    exact z_widen (by omega) (by omega) kk
def pre_Lc24 (ti : Nat → Int64) (ou : Nat → Int64) (q1 : Int32) (q2 : Int32) (q3 : Int32) (q4 : Int32) (q5 : Int32) : Prop := ((pre_L_time q1 q2 q3 q4 q5)) ∧ (((s_X3_time_co q1 q2 q3 q4 q5) = (f_L_time q1 q2 q3 q4 q5))) ∧ (((f_L_time q1 q2 q3 q4 q5) = 0) → (((s_L_time_ou ti ou q1 q2 q3 q4 q5) 0) = (f_X3_time ti q1 q2 q3 q4 q5)))
set_option maxHeartbeats 4000000 in
set_option maxRecDepth 100000 in
theorem law_c24 {p : Program} {l : Launch} {e : Env} {s : State} {m : MethodId} {args : Array Value} {below : List Frame} {meth : Method} {c : Code} {D : va_G} {cI cJ : ClassId} {A : Nat → Prop} {Q : State → Prop} {ret : Option FieldType} (C : ZC p l s m args meth c 9 D (zTys cI cJ) A cL_law wsL_law RL ret) (hfl : l.stackTraces = false) {b Ln : Nat} {xs : Nat → Int32} (hX : va_X b Ln xs s s.heap) (hbl : b < s.heap.size) (hbA : ¬ A b) (y z : Nat → Nat) (o : Nat) (d : Nat → Int64) (sy : Nat → Int32) (sm : Nat → Int32) (sd : Nat → Int32) (mi : Nat → Int32) (ti : Nat → Int64) (sL : Nat → Int64) (bL : Nat → Int64) (mD : Nat → Int64) (mT : Nat → Int64) (co : Int32) (yr : Int64) (mo : Int32) (dy : Int32) (ou : Nat → Int64) (q1 : Int32) (q2 : Int32) (q3 : Int32) (q4 : Int32) (q5 : Int32) (i4 : Int32) (hv1 : vp_in (i4 + 1) Ln) (hq1 : xs (i4 + 1).toNatClampNeg = q1) (hv2 : vp_in (i4 + 2) Ln) (hq2 : xs (i4 + 2).toNatClampNeg = q2) (hv3 : vp_in (i4 + 3) Ln) (hq3 : xs (i4 + 3).toNatClampNeg = q3) (hv4 : vp_in (i4 + 4) Ln) (hq4 : xs (i4 + 4).toNatClampNeg = q4) (hv5 : vp_in (i4 + 5) Ln) (hq5 : xs (i4 + 5).toNatClampNeg = q5) (nc ns : Nat) (hnc : nc + 6 ≤ room_1.cells) (hns : ns + 36 ≤ room_1.slots) (h_g : pre_Lc24 ti ou q1 q2 q3 q4 q5) (kk : ZW p l e room_1 s m args below meth c 9 D (zTys cI cJ) A Q (nc + 6) (ns + 36) (wY cI cJ y d sy sm sd mi (s_L_time_ti ti q1 q2 q3 q4 q5) sL bL mD mT ((o, .inl (cJ, 1, .inr (.inl (s_L_time_ou ti ou q1 q2 q3 q4 q5)))) :: (wM cI cJ z (s_X3_time_co q1 q2 q3 q4 q5) d (s_X3_time_ti ti q1 q2 q3 q4 q5) sL bL mD mT (zw sy) (zw sm) (zw sd) (zw mi) yr mo dy []))) 4233 [(4, .int i4), (3, .ref o), (2, .ref (z 0)), (1, .ref (y 0)), (0, .ref b)] []) : ZW p l e room_1 s m args below meth c 9 D (zTys cI cJ) A Q nc ns (wY cI cJ y d sy sm sd mi ti sL bL mD mT ((o, .inl (cJ, 1, .inr (.inl ou))) :: (wM cI cJ z co d ti sL bL mD mT (zw sy) (zw sm) (zw sd) (zw mi) yr mo dy []))) 2250 [(4, .int i4), (3, .ref o), (2, .ref (z 0)), (1, .ref (y 0)), (0, .ref b)] [] := by
  obtain ⟨g_0, g_1, g_2⟩ := h_g
  refine z_aload_n C dL_law_2250 rfl 3 rfl ?_
  refine z_aload_n C dL_law_2251 rfl 4 rfl ?_
  refine z_iload C dL_law_2252 0 rfl ?_
  refine z_iconst (v := 1) C dL_law_2254 (by decide) ?_
  refine z_iadd C dL_law_2255 ?_
  refine z_sld C hX hbl hbA hv1 dL_law_2256 ?_
  refine z_eqst (st' := [.int q1, .ref (y 0)]) (congrArg (fun v => Value.int v :: _) hq1) ?_
  refine z_aload_n C dL_law_2257 rfl 4 rfl ?_
  refine z_iload C dL_law_2258 0 rfl ?_
  refine z_iconst (v := 2) C dL_law_2260 (by decide) ?_
  refine z_iadd C dL_law_2261 ?_
  refine z_sld C hX hbl hbA hv2 dL_law_2262 ?_
  refine z_eqst (st' := [.int q2, .int q1, .ref (y 0)]) (congrArg (fun v => Value.int v :: _) hq2) ?_
  refine z_aload_n C dL_law_2263 rfl 4 rfl ?_
  refine z_iload C dL_law_2264 0 rfl ?_
  refine z_iconst (v := 3) C dL_law_2266 (by decide) ?_
  refine z_iadd C dL_law_2267 ?_
  refine z_sld C hX hbl hbA hv3 dL_law_2268 ?_
  refine z_eqst (st' := [.int q3, .int q2, .int q1, .ref (y 0)]) (congrArg (fun v => Value.int v :: _) hq3) ?_
  refine z_aload_n C dL_law_2269 rfl 4 rfl ?_
  refine z_iload C dL_law_2270 0 rfl ?_
  refine z_iconst (v := 4) C dL_law_2272 (by decide) ?_
  refine z_iadd C dL_law_2273 ?_
  refine z_sld C hX hbl hbA hv4 dL_law_2274 ?_
  refine z_eqst (st' := [.int q4, .int q3, .int q2, .int q1, .ref (y 0)]) (congrArg (fun v => Value.int v :: _) hq4) ?_
  refine z_aload_n C dL_law_2275 rfl 4 rfl ?_
  refine z_iload C dL_law_2276 0 rfl ?_
  refine z_iconst (v := 5) C dL_law_2278 (by decide) ?_
  refine z_iadd C dL_law_2279 ?_
  refine z_sld C hX hbl hbA hv5 dL_law_2280 ?_
  refine z_eqst (st' := [.int q5, .int q4, .int q3, .int q2, .int q1, .ref (y 0)]) (congrArg (fun v => Value.int v :: _) hq5) ?_
  refine z_aload_n C dL_law_2281 rfl 1 rfl ?_
  refine z_siH (ws' := (wY cI cJ y d sy sm sd mi (s_L_time_ti ti q1 q2 q3 q4 q5) sL bL mD mT ((o, .inl (cJ, 1, .inr (.inl (s_L_time_ou ti ou q1 q2 q3 q4 q5)))) :: (wM cI cJ z co d ti sL bL mD mT (zw sy) (zw sm) (zw sd) (zw mi) yr mo dy [])))) C (rest := []) (c_L_time l hfl D cI cJ (wM cI cJ z co d ti sL bL mD mT (zw sy) (zw sm) (zw sd) (zw mi) yr mo dy []) y o d sy sm sd mi ti sL bL mD mT ou q1 q2 q3 q4 q5 (g_0)) q_L_time gL_law_L_time ⟨rfl, rfl⟩ rfl rfl (Nat.le_of_ble_eq_true rfl) ⟨Nat.le_of_ble_eq_true rfl, Nat.le_of_ble_eq_true rfl⟩ ⟨Nat.le_trans (by omega) hnc, Nat.le_trans (by omega) hns⟩ dL_law_2282 ?_
  refine z_istore (lv' := [(5, .int (f_L_time q1 q2 q3 q4 q5)), (4, .int i4), (3, .ref o), (2, .ref (z 0)), (1, .ref (y 0)), (0, .ref b)]) C dL_law_2285 (by decide) rfl ?_
  refine z_aload_n C dL_law_2287 rfl 3 rfl ?_
  refine z_aload_n C dL_law_2288 rfl 5 rfl ?_
  refine z_iload C dL_law_2289 1 rfl ?_
  refine z_iconst (v := 1) C dL_law_2291 (by decide) ?_
  refine z_iadd C dL_law_2292 ?_
  refine z_sld C hX hbl hbA hv1 dL_law_2293 ?_
  refine z_eqst (st' := [.int q1, .ref (z 0)]) (congrArg (fun v => Value.int v :: _) hq1) ?_
  refine z_aload_n C dL_law_2294 rfl 5 rfl ?_
  refine z_iload C dL_law_2295 1 rfl ?_
  refine z_iconst (v := 2) C dL_law_2297 (by decide) ?_
  refine z_iadd C dL_law_2298 ?_
  refine z_sld C hX hbl hbA hv2 dL_law_2299 ?_
  refine z_eqst (st' := [.int q2, .int q1, .ref (z 0)]) (congrArg (fun v => Value.int v :: _) hq2) ?_
  refine z_aload_n C dL_law_2300 rfl 5 rfl ?_
  refine z_iload C dL_law_2301 1 rfl ?_
  refine z_iconst (v := 3) C dL_law_2303 (by decide) ?_
  refine z_iadd C dL_law_2304 ?_
  refine z_sld C hX hbl hbA hv3 dL_law_2305 ?_
  refine z_eqst (st' := [.int q3, .int q2, .int q1, .ref (z 0)]) (congrArg (fun v => Value.int v :: _) hq3) ?_
  refine z_aload_n C dL_law_2306 rfl 5 rfl ?_
  refine z_iload C dL_law_2307 1 rfl ?_
  refine z_iconst (v := 4) C dL_law_2309 (by decide) ?_
  refine z_iadd C dL_law_2310 ?_
  refine z_sld C hX hbl hbA hv4 dL_law_2311 ?_
  refine z_eqst (st' := [.int q4, .int q3, .int q2, .int q1, .ref (z 0)]) (congrArg (fun v => Value.int v :: _) hq4) ?_
  refine z_aload_n C dL_law_2312 rfl 5 rfl ?_
  refine z_iload C dL_law_2313 1 rfl ?_
  refine z_iconst (v := 5) C dL_law_2315 (by decide) ?_
  refine z_iadd C dL_law_2316 ?_
  refine z_sld C hX hbl hbA hv5 dL_law_2317 ?_
  refine z_eqst (st' := [.int q5, .int q4, .int q3, .int q2, .int q1, .ref (z 0)]) (congrArg (fun v => Value.int v :: _) hq5) ?_
  refine z_ws (ws' := (wM cI cJ z co d ti sL bL mD mT (zw sy) (zw sm) (zw sd) (zw mi) yr mo dy (wY cI cJ y d sy sm sd mi (s_L_time_ti ti q1 q2 q3 q4 q5) sL bL mD mT [(o, .inl (cJ, 1, .inr (.inl (s_L_time_ou ti ou q1 q2 q3 q4 q5))))]))) [12, 13, 14, 15, 16, 17, 18, 19, 20, 21, 22, 0, 1, 2, 3, 4, 5, 6, 7, 8, 9, 10, 11] rfl (by decide) rfl ?_
  refine z_wl (ws' := (wM cI cJ z (s_X3_time_co q1 q2 q3 q4 q5) d (s_X3_time_ti ti q1 q2 q3 q4 q5) sL bL mD mT (zw sy) (zw sm) (zw sd) (zw mi) yr mo dy (wY cI cJ y d sy sm sd mi (s_L_time_ti ti q1 q2 q3 q4 q5) sL bL mD mT [(o, .inl (cJ, 1, .inr (.inl (s_L_time_ou ti ou q1 q2 q3 q4 q5))))]))) (rest := []) (ci := 3) (q0 := 0) C (c_X3_time l hfl D cI cJ (wY cI cJ y d sy sm sd mi (s_L_time_ti ti q1 q2 q3 q4 q5) sL bL mD mT [(o, .inl (cJ, 1, .inr (.inl (s_L_time_ou ti ou q1 q2 q3 q4 q5))))]) z co d ti sL bL mD mT (zw sy) (zw sm) (zw sd) (zw mi) yr mo dy q1 q2 q3 q4 q5 ) q_X3_time rfl rfl rfl gL_law_X3_time ⟨rfl, rfl⟩ rfl rfl (Nat.le_of_ble_eq_true rfl) ⟨Nat.le_of_ble_eq_true rfl, Nat.le_of_ble_eq_true rfl⟩ ⟨Nat.le_trans (by omega) hnc, Nat.le_trans (by omega) hns⟩ dL_law_2318 ?_
  refine z_ws (ws' := (wY cI cJ y d sy sm sd mi (s_L_time_ti ti q1 q2 q3 q4 q5) sL bL mD mT ((o, .inl (cJ, 1, .inr (.inl (s_L_time_ou ti ou q1 q2 q3 q4 q5)))) :: (wM cI cJ z (s_X3_time_co q1 q2 q3 q4 q5) d (s_X3_time_ti ti q1 q2 q3 q4 q5) sL bL mD mT (zw sy) (zw sm) (zw sd) (zw mi) yr mo dy [])))) [11, 12, 13, 14, 15, 16, 17, 18, 19, 20, 21, 22, 0, 1, 2, 3, 4, 5, 6, 7, 8, 9, 10] rfl (by decide) rfl ?_
  refine z_lstore (lv' := [(6, .long (f_X3_time ti q1 q2 q3 q4 q5)), (5, .int (f_L_time q1 q2 q3 q4 q5)), (4, .int i4), (3, .ref o), (2, .ref (z 0)), (1, .ref (y 0)), (0, .ref b)]) C dL_law_2321 (by decide) rfl ?_
  refine z_aload_n C dL_law_2323 rfl 4 rfl ?_
  refine z_ws (ws' := (wM cI cJ z (s_X3_time_co q1 q2 q3 q4 q5) d (s_X3_time_ti ti q1 q2 q3 q4 q5) sL bL mD mT (zw sy) (zw sm) (zw sd) (zw mi) yr mo dy (wY cI cJ y d sy sm sd mi (s_L_time_ti ti q1 q2 q3 q4 q5) sL bL mD mT [(o, .inl (cJ, 1, .inr (.inl (s_L_time_ou ti ou q1 q2 q3 q4 q5))))]))) [12, 13, 14, 15, 16, 17, 18, 19, 20, 21, 22, 0, 1, 2, 3, 4, 5, 6, 7, 8, 9, 10, 11] rfl (by decide) rfl ?_
  refine z_wi (ws' := (wM cI cJ z (s_X3_time_co q1 q2 q3 q4 q5) d (s_X3_time_ti ti q1 q2 q3 q4 q5) sL bL mD mT (zw sy) (zw sm) (zw sd) (zw mi) yr mo dy (wY cI cJ y d sy sm sd mi (s_L_time_ti ti q1 q2 q3 q4 q5) sL bL mD mT [(o, .inl (cJ, 1, .inr (.inl (s_L_time_ou ti ou q1 q2 q3 q4 q5))))]))) (rest := []) (ci := 3) (q0 := 0) C (c_X3_thrown l hfl D cI cJ (wY cI cJ y d sy sm sd mi (s_L_time_ti ti q1 q2 q3 q4 q5) sL bL mD mT [(o, .inl (cJ, 1, .inr (.inl (s_L_time_ou ti ou q1 q2 q3 q4 q5))))]) z (s_X3_time_co q1 q2 q3 q4 q5) d (s_X3_time_ti ti q1 q2 q3 q4 q5) sL bL mD mT (zw sy) (zw sm) (zw sd) (zw mi) yr mo dy  ) q_X3_thrown rfl rfl rfl gL_law_X3_thrown ⟨rfl, rfl⟩ rfl rfl (Nat.le_of_ble_eq_true rfl) ⟨Nat.le_of_ble_eq_true rfl, Nat.le_of_ble_eq_true rfl⟩ ⟨Nat.le_trans (by omega) hnc, Nat.le_trans (by omega) hns⟩ dL_law_2324 ?_
  refine z_ws (ws' := (wY cI cJ y d sy sm sd mi (s_L_time_ti ti q1 q2 q3 q4 q5) sL bL mD mT ((o, .inl (cJ, 1, .inr (.inl (s_L_time_ou ti ou q1 q2 q3 q4 q5)))) :: (wM cI cJ z (s_X3_time_co q1 q2 q3 q4 q5) d (s_X3_time_ti ti q1 q2 q3 q4 q5) sL bL mD mT (zw sy) (zw sm) (zw sd) (zw mi) yr mo dy [])))) [11, 12, 13, 14, 15, 16, 17, 18, 19, 20, 21, 22, 0, 1, 2, 3, 4, 5, 6, 7, 8, 9, 10] rfl (by decide) rfl ?_
  refine z_iload C dL_law_2327 1 rfl ?_
  refine z_icmp_eq (tgt := 2334) C dL_law_2329 (by decide) (fun _ => ?_) (fun h => absurd (g_1) h)
  refine z_iload C dL_law_2334 1 rfl ?_
  refine z_if_ne (tgt := 2350) C dL_law_2336 (by decide) (fun h1 => ?_) (fun h1 => ?_)
  · refine z_goto (tgt := 4233) C dL_law_2350 (by decide) ?_
    refine z_sub [2, 3, 4, 5, 6] rfl ?_
    exact z_widen (by omega) (by omega) kk
  · refine z_aload_n C dL_law_2339 rfl 3 rfl ?_
    refine z_iconst (v := 0) C dL_law_2340 (by decide) ?_
    refine z_lald C 11 1 rfl rfl (zvpl 0 1 (by decide)) dL_law_2341 ?_
    refine z_eqst (st' := [.long ((s_L_time_ou ti ou q1 q2 q3 q4 q5) 0)]) rfl ?_
    refine z_lload C dL_law_2342 0 rfl ?_
    refine z_lcmp_eq (tgt := 2350) C dL_law_2344 dL_law_2345 (by decide) (fun _ => ?_) (fun h => absurd (g_2 h1) h)
    refine z_goto (tgt := 4233) C dL_law_2350 (by decide) ?_
    refine z_sub [2, 3, 4, 5, 6] rfl ?_
    exact z_widen (by omega) (by omega) kk
def pre_Lc25 (ou : Nat → Int64) (q1 : Int32) (q2 : Int32) (q3 : Int32) : Prop := ((pre_L_ofBillionths q1 (((q2).toInt64 <<< ((32 : Int32).toInt64 &&& 63)) ||| ((q3).toInt64 &&& 4294967295)))) ∧ (((s_X3_ofBillionths_co q1 (((q2).toInt64 <<< ((32 : Int32).toInt64 &&& 63)) ||| ((q3).toInt64 &&& 4294967295))) = (f_L_ofBillionths q1 (((q2).toInt64 <<< ((32 : Int32).toInt64 &&& 63)) ||| ((q3).toInt64 &&& 4294967295))))) ∧ (((f_L_ofBillionths q1 (((q2).toInt64 <<< ((32 : Int32).toInt64 &&& 63)) ||| ((q3).toInt64 &&& 4294967295))) = 0) → (((s_L_ofBillionths_ou ou q1 (((q2).toInt64 <<< ((32 : Int32).toInt64 &&& 63)) ||| ((q3).toInt64 &&& 4294967295))) 0) = ((f_X3_ofBillionths q1 (((q2).toInt64 <<< ((32 : Int32).toInt64 &&& 63)) ||| ((q3).toInt64 &&& 4294967295)))).toInt64))
set_option maxHeartbeats 4000000 in
set_option maxRecDepth 100000 in
theorem law_c25 {p : Program} {l : Launch} {e : Env} {s : State} {m : MethodId} {args : Array Value} {below : List Frame} {meth : Method} {c : Code} {D : va_G} {cI cJ : ClassId} {A : Nat → Prop} {Q : State → Prop} {ret : Option FieldType} (C : ZC p l s m args meth c 9 D (zTys cI cJ) A cL_law wsL_law RL ret) (hfl : l.stackTraces = false) {b Ln : Nat} {xs : Nat → Int32} (hX : va_X b Ln xs s s.heap) (hbl : b < s.heap.size) (hbA : ¬ A b) (y z : Nat → Nat) (o : Nat) (d : Nat → Int64) (sy : Nat → Int32) (sm : Nat → Int32) (sd : Nat → Int32) (mi : Nat → Int32) (ti : Nat → Int64) (sL : Nat → Int64) (bL : Nat → Int64) (mD : Nat → Int64) (mT : Nat → Int64) (co : Int32) (yr : Int64) (mo : Int32) (dy : Int32) (ou : Nat → Int64) (q1 : Int32) (q2 : Int32) (q3 : Int32) (q4 : Int32) (q5 : Int32) (i4 : Int32) (hv1 : vp_in (i4 + 1) Ln) (hq1 : xs (i4 + 1).toNatClampNeg = q1) (hv2 : vp_in (i4 + 2) Ln) (hq2 : xs (i4 + 2).toNatClampNeg = q2) (hv3 : vp_in (i4 + 3) Ln) (hq3 : xs (i4 + 3).toNatClampNeg = q3) (hv4 : vp_in (i4 + 4) Ln) (hq4 : xs (i4 + 4).toNatClampNeg = q4) (hv5 : vp_in (i4 + 5) Ln) (hq5 : xs (i4 + 5).toNatClampNeg = q5) (nc ns : Nat) (hnc : nc + 6 ≤ room_1.cells) (hns : ns + 36 ≤ room_1.slots) (h_g : pre_Lc25 ou q1 q2 q3) (kk : ZW p l e room_1 s m args below meth c 9 D (zTys cI cJ) A Q (nc + 6) (ns + 36) (wY cI cJ y d sy sm sd mi (s_L_ofBillionths_ti ti q1 (((q2).toInt64 <<< ((32 : Int32).toInt64 &&& 63)) ||| ((q3).toInt64 &&& 4294967295))) sL bL mD mT ((o, .inl (cJ, 1, .inr (.inl (s_L_ofBillionths_ou ou q1 (((q2).toInt64 <<< ((32 : Int32).toInt64 &&& 63)) ||| ((q3).toInt64 &&& 4294967295)))))) :: (wM cI cJ z (s_X3_ofBillionths_co q1 (((q2).toInt64 <<< ((32 : Int32).toInt64 &&& 63)) ||| ((q3).toInt64 &&& 4294967295))) d (s_X3_ofBillionths_ti ti q1 (((q2).toInt64 <<< ((32 : Int32).toInt64 &&& 63)) ||| ((q3).toInt64 &&& 4294967295))) sL bL mD mT (zw sy) (zw sm) (zw sd) (zw mi) yr mo dy []))) 4233 [(4, .int i4), (3, .ref o), (2, .ref (z 0)), (1, .ref (y 0)), (0, .ref b)] []) : ZW p l e room_1 s m args below meth c 9 D (zTys cI cJ) A Q nc ns (wY cI cJ y d sy sm sd mi ti sL bL mD mT ((o, .inl (cJ, 1, .inr (.inl ou))) :: (wM cI cJ z co d ti sL bL mD mT (zw sy) (zw sm) (zw sd) (zw mi) yr mo dy []))) 2353 [(4, .int i4), (3, .ref o), (2, .ref (z 0)), (1, .ref (y 0)), (0, .ref b)] [] := by
  have w1 := C.1.2.2.2.2 (.constantLong RL 181 (4294967295)) (by decide +kernel)
  obtain ⟨g_0, g_1, g_2⟩ := h_g
  refine z_aload_n C dL_law_2353 rfl 3 rfl ?_
  refine z_aload_n C dL_law_2354 rfl 4 rfl ?_
  refine z_iload C dL_law_2355 0 rfl ?_
  refine z_iconst (v := 1) C dL_law_2357 (by decide) ?_
  refine z_iadd C dL_law_2358 ?_
  refine z_sld C hX hbl hbA hv1 dL_law_2359 ?_
  refine z_eqst (st' := [.int q1, .ref (y 0)]) (congrArg (fun v => Value.int v :: _) hq1) ?_
  refine z_aload_n C dL_law_2360 rfl 4 rfl ?_
  refine z_iload C dL_law_2361 0 rfl ?_
  refine z_iconst (v := 2) C dL_law_2363 (by decide) ?_
  refine z_iadd C dL_law_2364 ?_
  refine z_sld C hX hbl hbA hv2 dL_law_2365 ?_
  refine z_eqst (st' := [.int q2, .int q1, .ref (y 0)]) (congrArg (fun v => Value.int v :: _) hq2) ?_
  refine z_i2l (v := (q2).toInt64) C dL_law_2366 rfl ?_
  refine z_bipush (v := 32) C dL_law_2367 (by decide) ?_
  refine z_lshl (v := ((q2).toInt64 <<< ((32 : Int32).toInt64 &&& 63))) C dL_law_2369 rfl ?_
  refine z_aload_n C dL_law_2370 rfl 4 rfl ?_
  refine z_iload C dL_law_2371 0 rfl ?_
  refine z_iconst (v := 3) C dL_law_2373 (by decide) ?_
  refine z_iadd C dL_law_2374 ?_
  refine z_sld C hX hbl hbA hv3 dL_law_2375 ?_
  refine z_eqst (st' := [.int q3, .long ((q2).toInt64 <<< ((32 : Int32).toInt64 &&& 63)), .int q1, .ref (y 0)]) (congrArg (fun v => Value.int v :: _) hq3) ?_
  refine z_i2l (v := (q3).toInt64) C dL_law_2376 rfl ?_
  refine z_ldc2 (v := 4294967295) C w1 dL_law_2377 ?_
  refine z_land C dL_law_2380 ?_
  refine z_lor C dL_law_2381 ?_
  refine z_aload_n C dL_law_2382 rfl 1 rfl ?_
  refine z_siH (ws' := (wY cI cJ y d sy sm sd mi (s_L_ofBillionths_ti ti q1 (((q2).toInt64 <<< ((32 : Int32).toInt64 &&& 63)) ||| ((q3).toInt64 &&& 4294967295))) sL bL mD mT ((o, .inl (cJ, 1, .inr (.inl (s_L_ofBillionths_ou ou q1 (((q2).toInt64 <<< ((32 : Int32).toInt64 &&& 63)) ||| ((q3).toInt64 &&& 4294967295)))))) :: (wM cI cJ z co d ti sL bL mD mT (zw sy) (zw sm) (zw sd) (zw mi) yr mo dy [])))) C (rest := []) (c_L_ofBillionths l hfl D cI cJ (wM cI cJ z co d ti sL bL mD mT (zw sy) (zw sm) (zw sd) (zw mi) yr mo dy []) y o d sy sm sd mi ti sL bL mD mT ou q1 (((q2).toInt64 <<< ((32 : Int32).toInt64 &&& 63)) ||| ((q3).toInt64 &&& 4294967295)) (g_0)) q_L_ofBillionths gL_law_L_ofBillionths ⟨rfl, rfl⟩ rfl rfl (Nat.le_of_ble_eq_true rfl) ⟨Nat.le_of_ble_eq_true rfl, Nat.le_of_ble_eq_true rfl⟩ ⟨Nat.le_trans (by omega) hnc, Nat.le_trans (by omega) hns⟩ dL_law_2383 ?_
  refine z_istore (lv' := [(5, .int (f_L_ofBillionths q1 (((q2).toInt64 <<< ((32 : Int32).toInt64 &&& 63)) ||| ((q3).toInt64 &&& 4294967295)))), (4, .int i4), (3, .ref o), (2, .ref (z 0)), (1, .ref (y 0)), (0, .ref b)]) C dL_law_2386 (by decide) rfl ?_
  refine z_aload_n C dL_law_2388 rfl 3 rfl ?_
  refine z_aload_n C dL_law_2389 rfl 5 rfl ?_
  refine z_iload C dL_law_2390 1 rfl ?_
  refine z_iconst (v := 1) C dL_law_2392 (by decide) ?_
  refine z_iadd C dL_law_2393 ?_
  refine z_sld C hX hbl hbA hv1 dL_law_2394 ?_
  refine z_eqst (st' := [.int q1, .ref (z 0)]) (congrArg (fun v => Value.int v :: _) hq1) ?_
  refine z_aload_n C dL_law_2395 rfl 5 rfl ?_
  refine z_iload C dL_law_2396 1 rfl ?_
  refine z_iconst (v := 2) C dL_law_2398 (by decide) ?_
  refine z_iadd C dL_law_2399 ?_
  refine z_sld C hX hbl hbA hv2 dL_law_2400 ?_
  refine z_eqst (st' := [.int q2, .int q1, .ref (z 0)]) (congrArg (fun v => Value.int v :: _) hq2) ?_
  refine z_i2l (v := (q2).toInt64) C dL_law_2401 rfl ?_
  refine z_bipush (v := 32) C dL_law_2402 (by decide) ?_
  refine z_lshl (v := ((q2).toInt64 <<< ((32 : Int32).toInt64 &&& 63))) C dL_law_2404 rfl ?_
  refine z_aload_n C dL_law_2405 rfl 5 rfl ?_
  refine z_iload C dL_law_2406 1 rfl ?_
  refine z_iconst (v := 3) C dL_law_2408 (by decide) ?_
  refine z_iadd C dL_law_2409 ?_
  refine z_sld C hX hbl hbA hv3 dL_law_2410 ?_
  refine z_eqst (st' := [.int q3, .long ((q2).toInt64 <<< ((32 : Int32).toInt64 &&& 63)), .int q1, .ref (z 0)]) (congrArg (fun v => Value.int v :: _) hq3) ?_
  refine z_i2l (v := (q3).toInt64) C dL_law_2411 rfl ?_
  refine z_ldc2 (v := 4294967295) C w1 dL_law_2412 ?_
  refine z_land C dL_law_2415 ?_
  refine z_lor C dL_law_2416 ?_
  refine z_ws (ws' := (wM cI cJ z co d ti sL bL mD mT (zw sy) (zw sm) (zw sd) (zw mi) yr mo dy (wY cI cJ y d sy sm sd mi (s_L_ofBillionths_ti ti q1 (((q2).toInt64 <<< ((32 : Int32).toInt64 &&& 63)) ||| ((q3).toInt64 &&& 4294967295))) sL bL mD mT [(o, .inl (cJ, 1, .inr (.inl (s_L_ofBillionths_ou ou q1 (((q2).toInt64 <<< ((32 : Int32).toInt64 &&& 63)) ||| ((q3).toInt64 &&& 4294967295))))))]))) [12, 13, 14, 15, 16, 17, 18, 19, 20, 21, 22, 0, 1, 2, 3, 4, 5, 6, 7, 8, 9, 10, 11] rfl (by decide) rfl ?_
  refine z_wi (ws' := (wM cI cJ z (s_X3_ofBillionths_co q1 (((q2).toInt64 <<< ((32 : Int32).toInt64 &&& 63)) ||| ((q3).toInt64 &&& 4294967295))) d (s_X3_ofBillionths_ti ti q1 (((q2).toInt64 <<< ((32 : Int32).toInt64 &&& 63)) ||| ((q3).toInt64 &&& 4294967295))) sL bL mD mT (zw sy) (zw sm) (zw sd) (zw mi) yr mo dy (wY cI cJ y d sy sm sd mi (s_L_ofBillionths_ti ti q1 (((q2).toInt64 <<< ((32 : Int32).toInt64 &&& 63)) ||| ((q3).toInt64 &&& 4294967295))) sL bL mD mT [(o, .inl (cJ, 1, .inr (.inl (s_L_ofBillionths_ou ou q1 (((q2).toInt64 <<< ((32 : Int32).toInt64 &&& 63)) ||| ((q3).toInt64 &&& 4294967295))))))]))) (rest := []) (ci := 3) (q0 := 0) C (c_X3_ofBillionths l hfl D cI cJ (wY cI cJ y d sy sm sd mi (s_L_ofBillionths_ti ti q1 (((q2).toInt64 <<< ((32 : Int32).toInt64 &&& 63)) ||| ((q3).toInt64 &&& 4294967295))) sL bL mD mT [(o, .inl (cJ, 1, .inr (.inl (s_L_ofBillionths_ou ou q1 (((q2).toInt64 <<< ((32 : Int32).toInt64 &&& 63)) ||| ((q3).toInt64 &&& 4294967295))))))]) z co d ti sL bL mD mT (zw sy) (zw sm) (zw sd) (zw mi) yr mo dy q1 (((q2).toInt64 <<< ((32 : Int32).toInt64 &&& 63)) ||| ((q3).toInt64 &&& 4294967295)) ) q_X3_ofBillionths rfl rfl rfl gL_law_X3_ofBillionths ⟨rfl, rfl⟩ rfl rfl (Nat.le_of_ble_eq_true rfl) ⟨Nat.le_of_ble_eq_true rfl, Nat.le_of_ble_eq_true rfl⟩ ⟨Nat.le_trans (by omega) hnc, Nat.le_trans (by omega) hns⟩ dL_law_2417 ?_
  refine z_ws (ws' := (wY cI cJ y d sy sm sd mi (s_L_ofBillionths_ti ti q1 (((q2).toInt64 <<< ((32 : Int32).toInt64 &&& 63)) ||| ((q3).toInt64 &&& 4294967295))) sL bL mD mT ((o, .inl (cJ, 1, .inr (.inl (s_L_ofBillionths_ou ou q1 (((q2).toInt64 <<< ((32 : Int32).toInt64 &&& 63)) ||| ((q3).toInt64 &&& 4294967295)))))) :: (wM cI cJ z (s_X3_ofBillionths_co q1 (((q2).toInt64 <<< ((32 : Int32).toInt64 &&& 63)) ||| ((q3).toInt64 &&& 4294967295))) d (s_X3_ofBillionths_ti ti q1 (((q2).toInt64 <<< ((32 : Int32).toInt64 &&& 63)) ||| ((q3).toInt64 &&& 4294967295))) sL bL mD mT (zw sy) (zw sm) (zw sd) (zw mi) yr mo dy [])))) [11, 12, 13, 14, 15, 16, 17, 18, 19, 20, 21, 22, 0, 1, 2, 3, 4, 5, 6, 7, 8, 9, 10] rfl (by decide) rfl ?_
  refine z_istore (lv' := [(6, .int (f_X3_ofBillionths q1 (((q2).toInt64 <<< ((32 : Int32).toInt64 &&& 63)) ||| ((q3).toInt64 &&& 4294967295)))), (5, .int (f_L_ofBillionths q1 (((q2).toInt64 <<< ((32 : Int32).toInt64 &&& 63)) ||| ((q3).toInt64 &&& 4294967295)))), (4, .int i4), (3, .ref o), (2, .ref (z 0)), (1, .ref (y 0)), (0, .ref b)]) C dL_law_2420 (by decide) rfl ?_
  refine z_aload_n C dL_law_2422 rfl 4 rfl ?_
  refine z_ws (ws' := (wM cI cJ z (s_X3_ofBillionths_co q1 (((q2).toInt64 <<< ((32 : Int32).toInt64 &&& 63)) ||| ((q3).toInt64 &&& 4294967295))) d (s_X3_ofBillionths_ti ti q1 (((q2).toInt64 <<< ((32 : Int32).toInt64 &&& 63)) ||| ((q3).toInt64 &&& 4294967295))) sL bL mD mT (zw sy) (zw sm) (zw sd) (zw mi) yr mo dy (wY cI cJ y d sy sm sd mi (s_L_ofBillionths_ti ti q1 (((q2).toInt64 <<< ((32 : Int32).toInt64 &&& 63)) ||| ((q3).toInt64 &&& 4294967295))) sL bL mD mT [(o, .inl (cJ, 1, .inr (.inl (s_L_ofBillionths_ou ou q1 (((q2).toInt64 <<< ((32 : Int32).toInt64 &&& 63)) ||| ((q3).toInt64 &&& 4294967295))))))]))) [12, 13, 14, 15, 16, 17, 18, 19, 20, 21, 22, 0, 1, 2, 3, 4, 5, 6, 7, 8, 9, 10, 11] rfl (by decide) rfl ?_
  refine z_wi (ws' := (wM cI cJ z (s_X3_ofBillionths_co q1 (((q2).toInt64 <<< ((32 : Int32).toInt64 &&& 63)) ||| ((q3).toInt64 &&& 4294967295))) d (s_X3_ofBillionths_ti ti q1 (((q2).toInt64 <<< ((32 : Int32).toInt64 &&& 63)) ||| ((q3).toInt64 &&& 4294967295))) sL bL mD mT (zw sy) (zw sm) (zw sd) (zw mi) yr mo dy (wY cI cJ y d sy sm sd mi (s_L_ofBillionths_ti ti q1 (((q2).toInt64 <<< ((32 : Int32).toInt64 &&& 63)) ||| ((q3).toInt64 &&& 4294967295))) sL bL mD mT [(o, .inl (cJ, 1, .inr (.inl (s_L_ofBillionths_ou ou q1 (((q2).toInt64 <<< ((32 : Int32).toInt64 &&& 63)) ||| ((q3).toInt64 &&& 4294967295))))))]))) (rest := []) (ci := 3) (q0 := 0) C (c_X3_thrown l hfl D cI cJ (wY cI cJ y d sy sm sd mi (s_L_ofBillionths_ti ti q1 (((q2).toInt64 <<< ((32 : Int32).toInt64 &&& 63)) ||| ((q3).toInt64 &&& 4294967295))) sL bL mD mT [(o, .inl (cJ, 1, .inr (.inl (s_L_ofBillionths_ou ou q1 (((q2).toInt64 <<< ((32 : Int32).toInt64 &&& 63)) ||| ((q3).toInt64 &&& 4294967295))))))]) z (s_X3_ofBillionths_co q1 (((q2).toInt64 <<< ((32 : Int32).toInt64 &&& 63)) ||| ((q3).toInt64 &&& 4294967295))) d (s_X3_ofBillionths_ti ti q1 (((q2).toInt64 <<< ((32 : Int32).toInt64 &&& 63)) ||| ((q3).toInt64 &&& 4294967295))) sL bL mD mT (zw sy) (zw sm) (zw sd) (zw mi) yr mo dy  ) q_X3_thrown rfl rfl rfl gL_law_X3_thrown ⟨rfl, rfl⟩ rfl rfl (Nat.le_of_ble_eq_true rfl) ⟨Nat.le_of_ble_eq_true rfl, Nat.le_of_ble_eq_true rfl⟩ ⟨Nat.le_trans (by omega) hnc, Nat.le_trans (by omega) hns⟩ dL_law_2423 ?_
  refine z_ws (ws' := (wY cI cJ y d sy sm sd mi (s_L_ofBillionths_ti ti q1 (((q2).toInt64 <<< ((32 : Int32).toInt64 &&& 63)) ||| ((q3).toInt64 &&& 4294967295))) sL bL mD mT ((o, .inl (cJ, 1, .inr (.inl (s_L_ofBillionths_ou ou q1 (((q2).toInt64 <<< ((32 : Int32).toInt64 &&& 63)) ||| ((q3).toInt64 &&& 4294967295)))))) :: (wM cI cJ z (s_X3_ofBillionths_co q1 (((q2).toInt64 <<< ((32 : Int32).toInt64 &&& 63)) ||| ((q3).toInt64 &&& 4294967295))) d (s_X3_ofBillionths_ti ti q1 (((q2).toInt64 <<< ((32 : Int32).toInt64 &&& 63)) ||| ((q3).toInt64 &&& 4294967295))) sL bL mD mT (zw sy) (zw sm) (zw sd) (zw mi) yr mo dy [])))) [11, 12, 13, 14, 15, 16, 17, 18, 19, 20, 21, 22, 0, 1, 2, 3, 4, 5, 6, 7, 8, 9, 10] rfl (by decide) rfl ?_
  refine z_iload C dL_law_2426 1 rfl ?_
  refine z_icmp_eq (tgt := 2433) C dL_law_2428 (by decide) (fun _ => ?_) (fun h => absurd (g_1) h)
  refine z_iload C dL_law_2433 1 rfl ?_
  refine z_if_ne (tgt := 2450) C dL_law_2435 (by decide) (fun h1 => ?_) (fun h1 => ?_)
  · refine z_goto (tgt := 4233) C dL_law_2450 (by decide) ?_
    refine z_sub [2, 3, 4, 5, 6] rfl ?_
    exact z_widen (by omega) (by omega) kk
  · refine z_aload_n C dL_law_2438 rfl 3 rfl ?_
    refine z_iconst (v := 0) C dL_law_2439 (by decide) ?_
    refine z_lald C 11 1 rfl rfl (zvpl 0 1 (by decide)) dL_law_2440 ?_
    refine z_eqst (st' := [.long ((s_L_ofBillionths_ou ou q1 (((q2).toInt64 <<< ((32 : Int32).toInt64 &&& 63)) ||| ((q3).toInt64 &&& 4294967295))) 0)]) rfl ?_
    refine z_iload C dL_law_2441 0 rfl ?_
    refine z_i2l (v := ((f_X3_ofBillionths q1 (((q2).toInt64 <<< ((32 : Int32).toInt64 &&& 63)) ||| ((q3).toInt64 &&& 4294967295)))).toInt64) C dL_law_2443 rfl ?_
    refine z_lcmp_eq (tgt := 2450) C dL_law_2444 dL_law_2445 (by decide) (fun _ => ?_) (fun h => absurd (g_2 h1) h)
    refine z_goto (tgt := 4233) C dL_law_2450 (by decide) ?_
    refine z_sub [2, 3, 4, 5, 6] rfl ?_
    exact z_widen (by omega) (by omega) kk
def pre_Lc26 (ti : Nat → Int64) (ou : Nat → Int64) (q1 : Int32) (q2 : Int32) : Prop := ((pre_L_timePart q1 ((q2.toUInt32 % 65536).toInt32))) ∧ (((s_X3_timePart_co q1 ((q2.toUInt32 % 65536).toInt32)) = (f_L_timePart q1 ((q2.toUInt32 % 65536).toInt32)))) ∧ (((f_L_timePart q1 ((q2.toUInt32 % 65536).toInt32)) = 0) → (((s_L_timePart_ou ti ou q1 ((q2.toUInt32 % 65536).toInt32)) 0) = ((f_X3_timePart ti q1 ((q2.toUInt32 % 65536).toInt32))).toInt64))
set_option maxHeartbeats 4000000 in
set_option maxRecDepth 100000 in
theorem law_c26 {p : Program} {l : Launch} {e : Env} {s : State} {m : MethodId} {args : Array Value} {below : List Frame} {meth : Method} {c : Code} {D : va_G} {cI cJ : ClassId} {A : Nat → Prop} {Q : State → Prop} {ret : Option FieldType} (C : ZC p l s m args meth c 9 D (zTys cI cJ) A cL_law wsL_law RL ret) (hfl : l.stackTraces = false) {b Ln : Nat} {xs : Nat → Int32} (hX : va_X b Ln xs s s.heap) (hbl : b < s.heap.size) (hbA : ¬ A b) (y z : Nat → Nat) (o : Nat) (d : Nat → Int64) (sy : Nat → Int32) (sm : Nat → Int32) (sd : Nat → Int32) (mi : Nat → Int32) (ti : Nat → Int64) (sL : Nat → Int64) (bL : Nat → Int64) (mD : Nat → Int64) (mT : Nat → Int64) (co : Int32) (yr : Int64) (mo : Int32) (dy : Int32) (ou : Nat → Int64) (q1 : Int32) (q2 : Int32) (q3 : Int32) (q4 : Int32) (q5 : Int32) (i4 : Int32) (hv1 : vp_in (i4 + 1) Ln) (hq1 : xs (i4 + 1).toNatClampNeg = q1) (hv2 : vp_in (i4 + 2) Ln) (hq2 : xs (i4 + 2).toNatClampNeg = q2) (hv3 : vp_in (i4 + 3) Ln) (hq3 : xs (i4 + 3).toNatClampNeg = q3) (hv4 : vp_in (i4 + 4) Ln) (hq4 : xs (i4 + 4).toNatClampNeg = q4) (hv5 : vp_in (i4 + 5) Ln) (hq5 : xs (i4 + 5).toNatClampNeg = q5) (nc ns : Nat) (hnc : nc + 6 ≤ room_1.cells) (hns : ns + 36 ≤ room_1.slots) (h_g : pre_Lc26 ti ou q1 q2) (kk : ZW p l e room_1 s m args below meth c 9 D (zTys cI cJ) A Q (nc + 6) (ns + 36) (wY cI cJ y d sy sm sd mi ti sL bL mD mT ((o, .inl (cJ, 1, .inr (.inl (s_L_timePart_ou ti ou q1 ((q2.toUInt32 % 65536).toInt32))))) :: (wM cI cJ z (s_X3_timePart_co q1 ((q2.toUInt32 % 65536).toInt32)) d ti sL bL mD mT (zw sy) (zw sm) (zw sd) (zw mi) yr mo dy []))) 4233 [(4, .int i4), (3, .ref o), (2, .ref (z 0)), (1, .ref (y 0)), (0, .ref b)] []) : ZW p l e room_1 s m args below meth c 9 D (zTys cI cJ) A Q nc ns (wY cI cJ y d sy sm sd mi ti sL bL mD mT ((o, .inl (cJ, 1, .inr (.inl ou))) :: (wM cI cJ z co d ti sL bL mD mT (zw sy) (zw sm) (zw sd) (zw mi) yr mo dy []))) 2453 [(4, .int i4), (3, .ref o), (2, .ref (z 0)), (1, .ref (y 0)), (0, .ref b)] [] := by
  obtain ⟨g_0, g_1, g_2⟩ := h_g
  refine z_aload_n C dL_law_2453 rfl 3 rfl ?_
  refine z_aload_n C dL_law_2454 rfl 4 rfl ?_
  refine z_iload C dL_law_2455 0 rfl ?_
  refine z_iconst (v := 1) C dL_law_2457 (by decide) ?_
  refine z_iadd C dL_law_2458 ?_
  refine z_sld C hX hbl hbA hv1 dL_law_2459 ?_
  refine z_eqst (st' := [.int q1, .ref (y 0)]) (congrArg (fun v => Value.int v :: _) hq1) ?_
  refine z_aload_n C dL_law_2460 rfl 4 rfl ?_
  refine z_iload C dL_law_2461 0 rfl ?_
  refine z_iconst (v := 2) C dL_law_2463 (by decide) ?_
  refine z_iadd C dL_law_2464 ?_
  refine z_sld C hX hbl hbA hv2 dL_law_2465 ?_
  refine z_eqst (st' := [.int q2, .int q1, .ref (y 0)]) (congrArg (fun v => Value.int v :: _) hq2) ?_
  refine z_i2c (v := (q2.toUInt32 % 65536).toInt32) C dL_law_2466 rfl ?_
  refine z_aload_n C dL_law_2467 rfl 1 rfl ?_
  refine z_siH (ws' := (wY cI cJ y d sy sm sd mi ti sL bL mD mT ((o, .inl (cJ, 1, .inr (.inl (s_L_timePart_ou ti ou q1 ((q2.toUInt32 % 65536).toInt32))))) :: (wM cI cJ z co d ti sL bL mD mT (zw sy) (zw sm) (zw sd) (zw mi) yr mo dy [])))) C (rest := []) (c_L_timePart l hfl D cI cJ (wM cI cJ z co d ti sL bL mD mT (zw sy) (zw sm) (zw sd) (zw mi) yr mo dy []) y o d sy sm sd mi ti sL bL mD mT ou q1 ((q2.toUInt32 % 65536).toInt32) (g_0)) q_L_timePart gL_law_L_timePart ⟨rfl, rfl⟩ rfl rfl (Nat.le_of_ble_eq_true rfl) ⟨Nat.le_of_ble_eq_true rfl, Nat.le_of_ble_eq_true rfl⟩ ⟨Nat.le_trans (by omega) hnc, Nat.le_trans (by omega) hns⟩ dL_law_2468 ?_
  refine z_istore (lv' := [(5, .int (f_L_timePart q1 ((q2.toUInt32 % 65536).toInt32))), (4, .int i4), (3, .ref o), (2, .ref (z 0)), (1, .ref (y 0)), (0, .ref b)]) C dL_law_2471 (by decide) rfl ?_
  refine z_aload_n C dL_law_2473 rfl 3 rfl ?_
  refine z_aload_n C dL_law_2474 rfl 5 rfl ?_
  refine z_iload C dL_law_2475 1 rfl ?_
  refine z_iconst (v := 1) C dL_law_2477 (by decide) ?_
  refine z_iadd C dL_law_2478 ?_
  refine z_sld C hX hbl hbA hv1 dL_law_2479 ?_
  refine z_eqst (st' := [.int q1, .ref (z 0)]) (congrArg (fun v => Value.int v :: _) hq1) ?_
  refine z_aload_n C dL_law_2480 rfl 5 rfl ?_
  refine z_iload C dL_law_2481 1 rfl ?_
  refine z_iconst (v := 2) C dL_law_2483 (by decide) ?_
  refine z_iadd C dL_law_2484 ?_
  refine z_sld C hX hbl hbA hv2 dL_law_2485 ?_
  refine z_eqst (st' := [.int q2, .int q1, .ref (z 0)]) (congrArg (fun v => Value.int v :: _) hq2) ?_
  refine z_i2c (v := (q2.toUInt32 % 65536).toInt32) C dL_law_2486 rfl ?_
  refine z_ws (ws' := (wM cI cJ z co d ti sL bL mD mT (zw sy) (zw sm) (zw sd) (zw mi) yr mo dy (wY cI cJ y d sy sm sd mi ti sL bL mD mT [(o, .inl (cJ, 1, .inr (.inl (s_L_timePart_ou ti ou q1 ((q2.toUInt32 % 65536).toInt32)))))]))) [12, 13, 14, 15, 16, 17, 18, 19, 20, 21, 22, 0, 1, 2, 3, 4, 5, 6, 7, 8, 9, 10, 11] rfl (by decide) rfl ?_
  refine z_wi (ws' := (wM cI cJ z (s_X3_timePart_co q1 ((q2.toUInt32 % 65536).toInt32)) d ti sL bL mD mT (zw sy) (zw sm) (zw sd) (zw mi) yr mo dy (wY cI cJ y d sy sm sd mi ti sL bL mD mT [(o, .inl (cJ, 1, .inr (.inl (s_L_timePart_ou ti ou q1 ((q2.toUInt32 % 65536).toInt32)))))]))) (rest := []) (ci := 3) (q0 := 0) C (c_X3_timePart l hfl D cI cJ (wY cI cJ y d sy sm sd mi ti sL bL mD mT [(o, .inl (cJ, 1, .inr (.inl (s_L_timePart_ou ti ou q1 ((q2.toUInt32 % 65536).toInt32)))))]) z co d ti sL bL mD mT (zw sy) (zw sm) (zw sd) (zw mi) yr mo dy q1 ((q2.toUInt32 % 65536).toInt32) ) q_X3_timePart rfl rfl rfl gL_law_X3_timePart ⟨rfl, rfl⟩ rfl rfl (Nat.le_of_ble_eq_true rfl) ⟨Nat.le_of_ble_eq_true rfl, Nat.le_of_ble_eq_true rfl⟩ ⟨Nat.le_trans (by omega) hnc, Nat.le_trans (by omega) hns⟩ dL_law_2487 ?_
  refine z_ws (ws' := (wY cI cJ y d sy sm sd mi ti sL bL mD mT ((o, .inl (cJ, 1, .inr (.inl (s_L_timePart_ou ti ou q1 ((q2.toUInt32 % 65536).toInt32))))) :: (wM cI cJ z (s_X3_timePart_co q1 ((q2.toUInt32 % 65536).toInt32)) d ti sL bL mD mT (zw sy) (zw sm) (zw sd) (zw mi) yr mo dy [])))) [11, 12, 13, 14, 15, 16, 17, 18, 19, 20, 21, 22, 0, 1, 2, 3, 4, 5, 6, 7, 8, 9, 10] rfl (by decide) rfl ?_
  refine z_istore (lv' := [(6, .int (f_X3_timePart ti q1 ((q2.toUInt32 % 65536).toInt32))), (5, .int (f_L_timePart q1 ((q2.toUInt32 % 65536).toInt32))), (4, .int i4), (3, .ref o), (2, .ref (z 0)), (1, .ref (y 0)), (0, .ref b)]) C dL_law_2490 (by decide) rfl ?_
  refine z_aload_n C dL_law_2492 rfl 4 rfl ?_
  refine z_ws (ws' := (wM cI cJ z (s_X3_timePart_co q1 ((q2.toUInt32 % 65536).toInt32)) d ti sL bL mD mT (zw sy) (zw sm) (zw sd) (zw mi) yr mo dy (wY cI cJ y d sy sm sd mi ti sL bL mD mT [(o, .inl (cJ, 1, .inr (.inl (s_L_timePart_ou ti ou q1 ((q2.toUInt32 % 65536).toInt32)))))]))) [12, 13, 14, 15, 16, 17, 18, 19, 20, 21, 22, 0, 1, 2, 3, 4, 5, 6, 7, 8, 9, 10, 11] rfl (by decide) rfl ?_
  refine z_wi (ws' := (wM cI cJ z (s_X3_timePart_co q1 ((q2.toUInt32 % 65536).toInt32)) d ti sL bL mD mT (zw sy) (zw sm) (zw sd) (zw mi) yr mo dy (wY cI cJ y d sy sm sd mi ti sL bL mD mT [(o, .inl (cJ, 1, .inr (.inl (s_L_timePart_ou ti ou q1 ((q2.toUInt32 % 65536).toInt32)))))]))) (rest := []) (ci := 3) (q0 := 0) C (c_X3_thrown l hfl D cI cJ (wY cI cJ y d sy sm sd mi ti sL bL mD mT [(o, .inl (cJ, 1, .inr (.inl (s_L_timePart_ou ti ou q1 ((q2.toUInt32 % 65536).toInt32)))))]) z (s_X3_timePart_co q1 ((q2.toUInt32 % 65536).toInt32)) d ti sL bL mD mT (zw sy) (zw sm) (zw sd) (zw mi) yr mo dy  ) q_X3_thrown rfl rfl rfl gL_law_X3_thrown ⟨rfl, rfl⟩ rfl rfl (Nat.le_of_ble_eq_true rfl) ⟨Nat.le_of_ble_eq_true rfl, Nat.le_of_ble_eq_true rfl⟩ ⟨Nat.le_trans (by omega) hnc, Nat.le_trans (by omega) hns⟩ dL_law_2493 ?_
  refine z_ws (ws' := (wY cI cJ y d sy sm sd mi ti sL bL mD mT ((o, .inl (cJ, 1, .inr (.inl (s_L_timePart_ou ti ou q1 ((q2.toUInt32 % 65536).toInt32))))) :: (wM cI cJ z (s_X3_timePart_co q1 ((q2.toUInt32 % 65536).toInt32)) d ti sL bL mD mT (zw sy) (zw sm) (zw sd) (zw mi) yr mo dy [])))) [11, 12, 13, 14, 15, 16, 17, 18, 19, 20, 21, 22, 0, 1, 2, 3, 4, 5, 6, 7, 8, 9, 10] rfl (by decide) rfl ?_
  refine z_iload C dL_law_2496 1 rfl ?_
  refine z_icmp_eq (tgt := 2503) C dL_law_2498 (by decide) (fun _ => ?_) (fun h => absurd (g_1) h)
  refine z_iload C dL_law_2503 1 rfl ?_
  refine z_if_ne (tgt := 2520) C dL_law_2505 (by decide) (fun h1 => ?_) (fun h1 => ?_)
  · refine z_goto (tgt := 4233) C dL_law_2520 (by decide) ?_
    refine z_sub [2, 3, 4, 5, 6] rfl ?_
    exact z_widen (by omega) (by omega) kk
  · refine z_aload_n C dL_law_2508 rfl 3 rfl ?_
    refine z_iconst (v := 0) C dL_law_2509 (by decide) ?_
    refine z_lald C 11 1 rfl rfl (zvpl 0 1 (by decide)) dL_law_2510 ?_
    refine z_eqst (st' := [.long ((s_L_timePart_ou ti ou q1 ((q2.toUInt32 % 65536).toInt32)) 0)]) rfl ?_
    refine z_iload C dL_law_2511 0 rfl ?_
    refine z_i2l (v := ((f_X3_timePart ti q1 ((q2.toUInt32 % 65536).toInt32))).toInt64) C dL_law_2513 rfl ?_
    refine z_lcmp_eq (tgt := 2520) C dL_law_2514 dL_law_2515 (by decide) (fun _ => ?_) (fun h => absurd (g_2 h1) h)
    refine z_goto (tgt := 4233) C dL_law_2520 (by decide) ?_
    refine z_sub [2, 3, 4, 5, 6] rfl ?_
    exact z_widen (by omega) (by omega) kk
def pre_Lc27 (ti : Nat → Int64) (ou : Nat → Int64) (q1 : Int32) (q2 : Int32) (q3 : Int32) (q4 : Int32) (q5 : Int32) : Prop := ((pre_L_moveTime q1 ((q2.toUInt32 % 65536).toInt32) (((q3).toInt64 <<< ((32 : Int32).toInt64 &&& 63)) ||| ((q4).toInt64 &&& 4294967295)) q5)) ∧ ((pre_X3_moveTime q1 ((q2.toUInt32 % 65536).toInt32) (((q3).toInt64 <<< ((32 : Int32).toInt64 &&& 63)) ||| ((q4).toInt64 &&& 4294967295)) q5)) ∧ (((s_X3_moveTime_co q1 ((q2.toUInt32 % 65536).toInt32) (((q3).toInt64 <<< ((32 : Int32).toInt64 &&& 63)) ||| ((q4).toInt64 &&& 4294967295)) q5) = (f_L_moveTime q1 ((q2.toUInt32 % 65536).toInt32) (((q3).toInt64 <<< ((32 : Int32).toInt64 &&& 63)) ||| ((q4).toInt64 &&& 4294967295)) q5))) ∧ (((f_L_moveTime q1 ((q2.toUInt32 % 65536).toInt32) (((q3).toInt64 <<< ((32 : Int32).toInt64 &&& 63)) ||| ((q4).toInt64 &&& 4294967295)) q5) = 0) → (((s_L_moveTime_ou ti ou q1 ((q2.toUInt32 % 65536).toInt32) (((q3).toInt64 <<< ((32 : Int32).toInt64 &&& 63)) ||| ((q4).toInt64 &&& 4294967295)) q5) 0) = (f_X3_moveTime ti q1 ((q2.toUInt32 % 65536).toInt32) (((q3).toInt64 <<< ((32 : Int32).toInt64 &&& 63)) ||| ((q4).toInt64 &&& 4294967295)) q5)))
set_option maxHeartbeats 4000000 in
set_option maxRecDepth 100000 in
theorem law_c27 {p : Program} {l : Launch} {e : Env} {s : State} {m : MethodId} {args : Array Value} {below : List Frame} {meth : Method} {c : Code} {D : va_G} {cI cJ : ClassId} {A : Nat → Prop} {Q : State → Prop} {ret : Option FieldType} (C : ZC p l s m args meth c 9 D (zTys cI cJ) A cL_law wsL_law RL ret) (hfl : l.stackTraces = false) {b Ln : Nat} {xs : Nat → Int32} (hX : va_X b Ln xs s s.heap) (hbl : b < s.heap.size) (hbA : ¬ A b) (y z : Nat → Nat) (o : Nat) (d : Nat → Int64) (sy : Nat → Int32) (sm : Nat → Int32) (sd : Nat → Int32) (mi : Nat → Int32) (ti : Nat → Int64) (sL : Nat → Int64) (bL : Nat → Int64) (mD : Nat → Int64) (mT : Nat → Int64) (co : Int32) (yr : Int64) (mo : Int32) (dy : Int32) (ou : Nat → Int64) (q1 : Int32) (q2 : Int32) (q3 : Int32) (q4 : Int32) (q5 : Int32) (i4 : Int32) (hv1 : vp_in (i4 + 1) Ln) (hq1 : xs (i4 + 1).toNatClampNeg = q1) (hv2 : vp_in (i4 + 2) Ln) (hq2 : xs (i4 + 2).toNatClampNeg = q2) (hv3 : vp_in (i4 + 3) Ln) (hq3 : xs (i4 + 3).toNatClampNeg = q3) (hv4 : vp_in (i4 + 4) Ln) (hq4 : xs (i4 + 4).toNatClampNeg = q4) (hv5 : vp_in (i4 + 5) Ln) (hq5 : xs (i4 + 5).toNatClampNeg = q5) (nc ns : Nat) (hnc : nc + 6 ≤ room_1.cells) (hns : ns + 36 ≤ room_1.slots) (h_g : pre_Lc27 ti ou q1 q2 q3 q4 q5) (kk : ZW p l e room_1 s m args below meth c 9 D (zTys cI cJ) A Q (nc + 6) (ns + 36) (wY cI cJ y d sy sm sd mi (s_L_moveTime_ti ti q1 ((q2.toUInt32 % 65536).toInt32) (((q3).toInt64 <<< ((32 : Int32).toInt64 &&& 63)) ||| ((q4).toInt64 &&& 4294967295)) q5) sL bL mD mT ((o, .inl (cJ, 1, .inr (.inl (s_L_moveTime_ou ti ou q1 ((q2.toUInt32 % 65536).toInt32) (((q3).toInt64 <<< ((32 : Int32).toInt64 &&& 63)) ||| ((q4).toInt64 &&& 4294967295)) q5)))) :: (wM cI cJ z (s_X3_moveTime_co q1 ((q2.toUInt32 % 65536).toInt32) (((q3).toInt64 <<< ((32 : Int32).toInt64 &&& 63)) ||| ((q4).toInt64 &&& 4294967295)) q5) d (s_X3_moveTime_ti ti q1 ((q2.toUInt32 % 65536).toInt32) (((q3).toInt64 <<< ((32 : Int32).toInt64 &&& 63)) ||| ((q4).toInt64 &&& 4294967295)) q5) sL bL mD mT (zw sy) (zw sm) (zw sd) (zw mi) yr mo dy []))) 4233 [(4, .int i4), (3, .ref o), (2, .ref (z 0)), (1, .ref (y 0)), (0, .ref b)] []) : ZW p l e room_1 s m args below meth c 9 D (zTys cI cJ) A Q nc ns (wY cI cJ y d sy sm sd mi ti sL bL mD mT ((o, .inl (cJ, 1, .inr (.inl ou))) :: (wM cI cJ z co d ti sL bL mD mT (zw sy) (zw sm) (zw sd) (zw mi) yr mo dy []))) 2523 [(4, .int i4), (3, .ref o), (2, .ref (z 0)), (1, .ref (y 0)), (0, .ref b)] [] := by
  have w1 := C.1.2.2.2.2 (.constantLong RL 181 (4294967295)) (by decide +kernel)
  obtain ⟨g_0, g_1, g_2, g_3⟩ := h_g
  refine z_aload_n C dL_law_2523 rfl 3 rfl ?_
  refine z_aload_n C dL_law_2524 rfl 4 rfl ?_
  refine z_iload C dL_law_2525 0 rfl ?_
  refine z_iconst (v := 1) C dL_law_2527 (by decide) ?_
  refine z_iadd C dL_law_2528 ?_
  refine z_sld C hX hbl hbA hv1 dL_law_2529 ?_
  refine z_eqst (st' := [.int q1, .ref (y 0)]) (congrArg (fun v => Value.int v :: _) hq1) ?_
  refine z_aload_n C dL_law_2530 rfl 4 rfl ?_
  refine z_iload C dL_law_2531 0 rfl ?_
  refine z_iconst (v := 2) C dL_law_2533 (by decide) ?_
  refine z_iadd C dL_law_2534 ?_
  refine z_sld C hX hbl hbA hv2 dL_law_2535 ?_
  refine z_eqst (st' := [.int q2, .int q1, .ref (y 0)]) (congrArg (fun v => Value.int v :: _) hq2) ?_
  refine z_i2c (v := (q2.toUInt32 % 65536).toInt32) C dL_law_2536 rfl ?_
  refine z_aload_n C dL_law_2537 rfl 4 rfl ?_
  refine z_iload C dL_law_2538 0 rfl ?_
  refine z_iconst (v := 3) C dL_law_2540 (by decide) ?_
  refine z_iadd C dL_law_2541 ?_
  refine z_sld C hX hbl hbA hv3 dL_law_2542 ?_
  refine z_eqst (st' := [.int q3, .int ((q2.toUInt32 % 65536).toInt32), .int q1, .ref (y 0)]) (congrArg (fun v => Value.int v :: _) hq3) ?_
  refine z_i2l (v := (q3).toInt64) C dL_law_2543 rfl ?_
  refine z_bipush (v := 32) C dL_law_2544 (by decide) ?_
  refine z_lshl (v := ((q3).toInt64 <<< ((32 : Int32).toInt64 &&& 63))) C dL_law_2546 rfl ?_
  refine z_aload_n C dL_law_2547 rfl 4 rfl ?_
  refine z_iload C dL_law_2548 0 rfl ?_
  refine z_iconst (v := 4) C dL_law_2550 (by decide) ?_
  refine z_iadd C dL_law_2551 ?_
  refine z_sld C hX hbl hbA hv4 dL_law_2552 ?_
  refine z_eqst (st' := [.int q4, .long ((q3).toInt64 <<< ((32 : Int32).toInt64 &&& 63)), .int ((q2.toUInt32 % 65536).toInt32), .int q1, .ref (y 0)]) (congrArg (fun v => Value.int v :: _) hq4) ?_
  refine z_i2l (v := (q4).toInt64) C dL_law_2553 rfl ?_
  refine z_ldc2 (v := 4294967295) C w1 dL_law_2554 ?_
  refine z_land C dL_law_2557 ?_
  refine z_lor C dL_law_2558 ?_
  refine z_aload_n C dL_law_2559 rfl 4 rfl ?_
  refine z_iload C dL_law_2560 0 rfl ?_
  refine z_iconst (v := 5) C dL_law_2562 (by decide) ?_
  refine z_iadd C dL_law_2563 ?_
  refine z_sld C hX hbl hbA hv5 dL_law_2564 ?_
  refine z_eqst (st' := [.int q5, .long (((q3).toInt64 <<< ((32 : Int32).toInt64 &&& 63)) ||| ((q4).toInt64 &&& 4294967295)), .int ((q2.toUInt32 % 65536).toInt32), .int q1, .ref (y 0)]) (congrArg (fun v => Value.int v :: _) hq5) ?_
  refine z_aload_n C dL_law_2565 rfl 1 rfl ?_
  refine z_siH (ws' := (wY cI cJ y d sy sm sd mi (s_L_moveTime_ti ti q1 ((q2.toUInt32 % 65536).toInt32) (((q3).toInt64 <<< ((32 : Int32).toInt64 &&& 63)) ||| ((q4).toInt64 &&& 4294967295)) q5) sL bL mD mT ((o, .inl (cJ, 1, .inr (.inl (s_L_moveTime_ou ti ou q1 ((q2.toUInt32 % 65536).toInt32) (((q3).toInt64 <<< ((32 : Int32).toInt64 &&& 63)) ||| ((q4).toInt64 &&& 4294967295)) q5)))) :: (wM cI cJ z co d ti sL bL mD mT (zw sy) (zw sm) (zw sd) (zw mi) yr mo dy [])))) C (rest := []) (c_L_moveTime l hfl D cI cJ (wM cI cJ z co d ti sL bL mD mT (zw sy) (zw sm) (zw sd) (zw mi) yr mo dy []) y o d sy sm sd mi ti sL bL mD mT ou q1 ((q2.toUInt32 % 65536).toInt32) (((q3).toInt64 <<< ((32 : Int32).toInt64 &&& 63)) ||| ((q4).toInt64 &&& 4294967295)) q5 (g_0)) q_L_moveTime gL_law_L_moveTime ⟨rfl, rfl⟩ rfl rfl (Nat.le_of_ble_eq_true rfl) ⟨Nat.le_of_ble_eq_true rfl, Nat.le_of_ble_eq_true rfl⟩ ⟨Nat.le_trans (by omega) hnc, Nat.le_trans (by omega) hns⟩ dL_law_2566 ?_
  refine z_istore (lv' := [(5, .int (f_L_moveTime q1 ((q2.toUInt32 % 65536).toInt32) (((q3).toInt64 <<< ((32 : Int32).toInt64 &&& 63)) ||| ((q4).toInt64 &&& 4294967295)) q5)), (4, .int i4), (3, .ref o), (2, .ref (z 0)), (1, .ref (y 0)), (0, .ref b)]) C dL_law_2569 (by decide) rfl ?_
  refine z_aload_n C dL_law_2571 rfl 3 rfl ?_
  refine z_aload_n C dL_law_2572 rfl 5 rfl ?_
  refine z_iload C dL_law_2573 1 rfl ?_
  refine z_iconst (v := 1) C dL_law_2575 (by decide) ?_
  refine z_iadd C dL_law_2576 ?_
  refine z_sld C hX hbl hbA hv1 dL_law_2577 ?_
  refine z_eqst (st' := [.int q1, .ref (z 0)]) (congrArg (fun v => Value.int v :: _) hq1) ?_
  refine z_aload_n C dL_law_2578 rfl 5 rfl ?_
  refine z_iload C dL_law_2579 1 rfl ?_
  refine z_iconst (v := 2) C dL_law_2581 (by decide) ?_
  refine z_iadd C dL_law_2582 ?_
  refine z_sld C hX hbl hbA hv2 dL_law_2583 ?_
  refine z_eqst (st' := [.int q2, .int q1, .ref (z 0)]) (congrArg (fun v => Value.int v :: _) hq2) ?_
  refine z_i2c (v := (q2.toUInt32 % 65536).toInt32) C dL_law_2584 rfl ?_
  refine z_aload_n C dL_law_2585 rfl 5 rfl ?_
  refine z_iload C dL_law_2586 1 rfl ?_
  refine z_iconst (v := 3) C dL_law_2588 (by decide) ?_
  refine z_iadd C dL_law_2589 ?_
  refine z_sld C hX hbl hbA hv3 dL_law_2590 ?_
  refine z_eqst (st' := [.int q3, .int ((q2.toUInt32 % 65536).toInt32), .int q1, .ref (z 0)]) (congrArg (fun v => Value.int v :: _) hq3) ?_
  refine z_i2l (v := (q3).toInt64) C dL_law_2591 rfl ?_
  refine z_bipush (v := 32) C dL_law_2592 (by decide) ?_
  refine z_lshl (v := ((q3).toInt64 <<< ((32 : Int32).toInt64 &&& 63))) C dL_law_2594 rfl ?_
  refine z_aload_n C dL_law_2595 rfl 5 rfl ?_
  refine z_iload C dL_law_2596 1 rfl ?_
  refine z_iconst (v := 4) C dL_law_2598 (by decide) ?_
  refine z_iadd C dL_law_2599 ?_
  refine z_sld C hX hbl hbA hv4 dL_law_2600 ?_
  refine z_eqst (st' := [.int q4, .long ((q3).toInt64 <<< ((32 : Int32).toInt64 &&& 63)), .int ((q2.toUInt32 % 65536).toInt32), .int q1, .ref (z 0)]) (congrArg (fun v => Value.int v :: _) hq4) ?_
  refine z_i2l (v := (q4).toInt64) C dL_law_2601 rfl ?_
  refine z_ldc2 (v := 4294967295) C w1 dL_law_2602 ?_
  refine z_land C dL_law_2605 ?_
  refine z_lor C dL_law_2606 ?_
  refine z_aload_n C dL_law_2607 rfl 5 rfl ?_
  refine z_iload C dL_law_2608 1 rfl ?_
  refine z_iconst (v := 5) C dL_law_2610 (by decide) ?_
  refine z_iadd C dL_law_2611 ?_
  refine z_sld C hX hbl hbA hv5 dL_law_2612 ?_
  refine z_eqst (st' := [.int q5, .long (((q3).toInt64 <<< ((32 : Int32).toInt64 &&& 63)) ||| ((q4).toInt64 &&& 4294967295)), .int ((q2.toUInt32 % 65536).toInt32), .int q1, .ref (z 0)]) (congrArg (fun v => Value.int v :: _) hq5) ?_
  refine z_ws (ws' := (wM cI cJ z co d ti sL bL mD mT (zw sy) (zw sm) (zw sd) (zw mi) yr mo dy (wY cI cJ y d sy sm sd mi (s_L_moveTime_ti ti q1 ((q2.toUInt32 % 65536).toInt32) (((q3).toInt64 <<< ((32 : Int32).toInt64 &&& 63)) ||| ((q4).toInt64 &&& 4294967295)) q5) sL bL mD mT [(o, .inl (cJ, 1, .inr (.inl (s_L_moveTime_ou ti ou q1 ((q2.toUInt32 % 65536).toInt32) (((q3).toInt64 <<< ((32 : Int32).toInt64 &&& 63)) ||| ((q4).toInt64 &&& 4294967295)) q5))))]))) [12, 13, 14, 15, 16, 17, 18, 19, 20, 21, 22, 0, 1, 2, 3, 4, 5, 6, 7, 8, 9, 10, 11] rfl (by decide) rfl ?_
  refine z_wl (ws' := (wM cI cJ z (s_X3_moveTime_co q1 ((q2.toUInt32 % 65536).toInt32) (((q3).toInt64 <<< ((32 : Int32).toInt64 &&& 63)) ||| ((q4).toInt64 &&& 4294967295)) q5) d (s_X3_moveTime_ti ti q1 ((q2.toUInt32 % 65536).toInt32) (((q3).toInt64 <<< ((32 : Int32).toInt64 &&& 63)) ||| ((q4).toInt64 &&& 4294967295)) q5) sL bL mD mT (zw sy) (zw sm) (zw sd) (zw mi) yr mo dy (wY cI cJ y d sy sm sd mi (s_L_moveTime_ti ti q1 ((q2.toUInt32 % 65536).toInt32) (((q3).toInt64 <<< ((32 : Int32).toInt64 &&& 63)) ||| ((q4).toInt64 &&& 4294967295)) q5) sL bL mD mT [(o, .inl (cJ, 1, .inr (.inl (s_L_moveTime_ou ti ou q1 ((q2.toUInt32 % 65536).toInt32) (((q3).toInt64 <<< ((32 : Int32).toInt64 &&& 63)) ||| ((q4).toInt64 &&& 4294967295)) q5))))]))) (rest := []) (ci := 3) (q0 := 0) C (c_X3_moveTime l hfl D cI cJ (wY cI cJ y d sy sm sd mi (s_L_moveTime_ti ti q1 ((q2.toUInt32 % 65536).toInt32) (((q3).toInt64 <<< ((32 : Int32).toInt64 &&& 63)) ||| ((q4).toInt64 &&& 4294967295)) q5) sL bL mD mT [(o, .inl (cJ, 1, .inr (.inl (s_L_moveTime_ou ti ou q1 ((q2.toUInt32 % 65536).toInt32) (((q3).toInt64 <<< ((32 : Int32).toInt64 &&& 63)) ||| ((q4).toInt64 &&& 4294967295)) q5))))]) z co d ti sL bL mD mT (zw sy) (zw sm) (zw sd) (zw mi) yr mo dy q1 ((q2.toUInt32 % 65536).toInt32) (((q3).toInt64 <<< ((32 : Int32).toInt64 &&& 63)) ||| ((q4).toInt64 &&& 4294967295)) q5 (g_1)) q_X3_moveTime rfl rfl rfl gL_law_X3_moveTime ⟨rfl, rfl⟩ rfl rfl (Nat.le_of_ble_eq_true rfl) ⟨Nat.le_of_ble_eq_true rfl, Nat.le_of_ble_eq_true rfl⟩ ⟨Nat.le_trans (by omega) hnc, Nat.le_trans (by omega) hns⟩ dL_law_2613 ?_
  refine z_ws (ws' := (wY cI cJ y d sy sm sd mi (s_L_moveTime_ti ti q1 ((q2.toUInt32 % 65536).toInt32) (((q3).toInt64 <<< ((32 : Int32).toInt64 &&& 63)) ||| ((q4).toInt64 &&& 4294967295)) q5) sL bL mD mT ((o, .inl (cJ, 1, .inr (.inl (s_L_moveTime_ou ti ou q1 ((q2.toUInt32 % 65536).toInt32) (((q3).toInt64 <<< ((32 : Int32).toInt64 &&& 63)) ||| ((q4).toInt64 &&& 4294967295)) q5)))) :: (wM cI cJ z (s_X3_moveTime_co q1 ((q2.toUInt32 % 65536).toInt32) (((q3).toInt64 <<< ((32 : Int32).toInt64 &&& 63)) ||| ((q4).toInt64 &&& 4294967295)) q5) d (s_X3_moveTime_ti ti q1 ((q2.toUInt32 % 65536).toInt32) (((q3).toInt64 <<< ((32 : Int32).toInt64 &&& 63)) ||| ((q4).toInt64 &&& 4294967295)) q5) sL bL mD mT (zw sy) (zw sm) (zw sd) (zw mi) yr mo dy [])))) [11, 12, 13, 14, 15, 16, 17, 18, 19, 20, 21, 22, 0, 1, 2, 3, 4, 5, 6, 7, 8, 9, 10] rfl (by decide) rfl ?_
  refine z_lstore (lv' := [(6, .long (f_X3_moveTime ti q1 ((q2.toUInt32 % 65536).toInt32) (((q3).toInt64 <<< ((32 : Int32).toInt64 &&& 63)) ||| ((q4).toInt64 &&& 4294967295)) q5)), (5, .int (f_L_moveTime q1 ((q2.toUInt32 % 65536).toInt32) (((q3).toInt64 <<< ((32 : Int32).toInt64 &&& 63)) ||| ((q4).toInt64 &&& 4294967295)) q5)), (4, .int i4), (3, .ref o), (2, .ref (z 0)), (1, .ref (y 0)), (0, .ref b)]) C dL_law_2616 (by decide) rfl ?_
  refine z_aload_n C dL_law_2618 rfl 4 rfl ?_
  refine z_ws (ws' := (wM cI cJ z (s_X3_moveTime_co q1 ((q2.toUInt32 % 65536).toInt32) (((q3).toInt64 <<< ((32 : Int32).toInt64 &&& 63)) ||| ((q4).toInt64 &&& 4294967295)) q5) d (s_X3_moveTime_ti ti q1 ((q2.toUInt32 % 65536).toInt32) (((q3).toInt64 <<< ((32 : Int32).toInt64 &&& 63)) ||| ((q4).toInt64 &&& 4294967295)) q5) sL bL mD mT (zw sy) (zw sm) (zw sd) (zw mi) yr mo dy (wY cI cJ y d sy sm sd mi (s_L_moveTime_ti ti q1 ((q2.toUInt32 % 65536).toInt32) (((q3).toInt64 <<< ((32 : Int32).toInt64 &&& 63)) ||| ((q4).toInt64 &&& 4294967295)) q5) sL bL mD mT [(o, .inl (cJ, 1, .inr (.inl (s_L_moveTime_ou ti ou q1 ((q2.toUInt32 % 65536).toInt32) (((q3).toInt64 <<< ((32 : Int32).toInt64 &&& 63)) ||| ((q4).toInt64 &&& 4294967295)) q5))))]))) [12, 13, 14, 15, 16, 17, 18, 19, 20, 21, 22, 0, 1, 2, 3, 4, 5, 6, 7, 8, 9, 10, 11] rfl (by decide) rfl ?_
  refine z_wi (ws' := (wM cI cJ z (s_X3_moveTime_co q1 ((q2.toUInt32 % 65536).toInt32) (((q3).toInt64 <<< ((32 : Int32).toInt64 &&& 63)) ||| ((q4).toInt64 &&& 4294967295)) q5) d (s_X3_moveTime_ti ti q1 ((q2.toUInt32 % 65536).toInt32) (((q3).toInt64 <<< ((32 : Int32).toInt64 &&& 63)) ||| ((q4).toInt64 &&& 4294967295)) q5) sL bL mD mT (zw sy) (zw sm) (zw sd) (zw mi) yr mo dy (wY cI cJ y d sy sm sd mi (s_L_moveTime_ti ti q1 ((q2.toUInt32 % 65536).toInt32) (((q3).toInt64 <<< ((32 : Int32).toInt64 &&& 63)) ||| ((q4).toInt64 &&& 4294967295)) q5) sL bL mD mT [(o, .inl (cJ, 1, .inr (.inl (s_L_moveTime_ou ti ou q1 ((q2.toUInt32 % 65536).toInt32) (((q3).toInt64 <<< ((32 : Int32).toInt64 &&& 63)) ||| ((q4).toInt64 &&& 4294967295)) q5))))]))) (rest := []) (ci := 3) (q0 := 0) C (c_X3_thrown l hfl D cI cJ (wY cI cJ y d sy sm sd mi (s_L_moveTime_ti ti q1 ((q2.toUInt32 % 65536).toInt32) (((q3).toInt64 <<< ((32 : Int32).toInt64 &&& 63)) ||| ((q4).toInt64 &&& 4294967295)) q5) sL bL mD mT [(o, .inl (cJ, 1, .inr (.inl (s_L_moveTime_ou ti ou q1 ((q2.toUInt32 % 65536).toInt32) (((q3).toInt64 <<< ((32 : Int32).toInt64 &&& 63)) ||| ((q4).toInt64 &&& 4294967295)) q5))))]) z (s_X3_moveTime_co q1 ((q2.toUInt32 % 65536).toInt32) (((q3).toInt64 <<< ((32 : Int32).toInt64 &&& 63)) ||| ((q4).toInt64 &&& 4294967295)) q5) d (s_X3_moveTime_ti ti q1 ((q2.toUInt32 % 65536).toInt32) (((q3).toInt64 <<< ((32 : Int32).toInt64 &&& 63)) ||| ((q4).toInt64 &&& 4294967295)) q5) sL bL mD mT (zw sy) (zw sm) (zw sd) (zw mi) yr mo dy  ) q_X3_thrown rfl rfl rfl gL_law_X3_thrown ⟨rfl, rfl⟩ rfl rfl (Nat.le_of_ble_eq_true rfl) ⟨Nat.le_of_ble_eq_true rfl, Nat.le_of_ble_eq_true rfl⟩ ⟨Nat.le_trans (by omega) hnc, Nat.le_trans (by omega) hns⟩ dL_law_2619 ?_
  refine z_ws (ws' := (wY cI cJ y d sy sm sd mi (s_L_moveTime_ti ti q1 ((q2.toUInt32 % 65536).toInt32) (((q3).toInt64 <<< ((32 : Int32).toInt64 &&& 63)) ||| ((q4).toInt64 &&& 4294967295)) q5) sL bL mD mT ((o, .inl (cJ, 1, .inr (.inl (s_L_moveTime_ou ti ou q1 ((q2.toUInt32 % 65536).toInt32) (((q3).toInt64 <<< ((32 : Int32).toInt64 &&& 63)) ||| ((q4).toInt64 &&& 4294967295)) q5)))) :: (wM cI cJ z (s_X3_moveTime_co q1 ((q2.toUInt32 % 65536).toInt32) (((q3).toInt64 <<< ((32 : Int32).toInt64 &&& 63)) ||| ((q4).toInt64 &&& 4294967295)) q5) d (s_X3_moveTime_ti ti q1 ((q2.toUInt32 % 65536).toInt32) (((q3).toInt64 <<< ((32 : Int32).toInt64 &&& 63)) ||| ((q4).toInt64 &&& 4294967295)) q5) sL bL mD mT (zw sy) (zw sm) (zw sd) (zw mi) yr mo dy [])))) [11, 12, 13, 14, 15, 16, 17, 18, 19, 20, 21, 22, 0, 1, 2, 3, 4, 5, 6, 7, 8, 9, 10] rfl (by decide) rfl ?_
  refine z_iload C dL_law_2622 1 rfl ?_
  refine z_icmp_eq (tgt := 2629) C dL_law_2624 (by decide) (fun _ => ?_) (fun h => absurd (g_2) h)
  refine z_iload C dL_law_2629 1 rfl ?_
  refine z_if_ne (tgt := 2645) C dL_law_2631 (by decide) (fun h1 => ?_) (fun h1 => ?_)
  · refine z_goto (tgt := 4233) C dL_law_2645 (by decide) ?_
    refine z_sub [2, 3, 4, 5, 6] rfl ?_
    exact z_widen (by omega) (by omega) kk
  · refine z_aload_n C dL_law_2634 rfl 3 rfl ?_
    refine z_iconst (v := 0) C dL_law_2635 (by decide) ?_
    refine z_lald C 11 1 rfl rfl (zvpl 0 1 (by decide)) dL_law_2636 ?_
    refine z_eqst (st' := [.long ((s_L_moveTime_ou ti ou q1 ((q2.toUInt32 % 65536).toInt32) (((q3).toInt64 <<< ((32 : Int32).toInt64 &&& 63)) ||| ((q4).toInt64 &&& 4294967295)) q5) 0)]) rfl ?_
    refine z_lload C dL_law_2637 0 rfl ?_
    refine z_lcmp_eq (tgt := 2645) C dL_law_2639 dL_law_2640 (by decide) (fun _ => ?_) (fun h => absurd (g_3 h1) h)
    refine z_goto (tgt := 4233) C dL_law_2645 (by decide) ?_
    refine z_sub [2, 3, 4, 5, 6] rfl ?_
    exact z_widen (by omega) (by omega) kk
def pre_Lc28 (ti : Nat → Int64) (ou : Nat → Int64) (q1 : Int32) (q2 : Int32) (q3 : Int32) : Prop := ((pre_L_cutTime q1 ((q2.toUInt32 % 65536).toInt32) q3)) ∧ (((s_X3_cutTime_co q1 ((q2.toUInt32 % 65536).toInt32) q3) = (f_L_cutTime q1 ((q2.toUInt32 % 65536).toInt32) q3))) ∧ (((f_L_cutTime q1 ((q2.toUInt32 % 65536).toInt32) q3) = 0) → (((s_L_cutTime_ou ti ou q1 ((q2.toUInt32 % 65536).toInt32) q3) 0) = (f_X3_cutTime ti q1 ((q2.toUInt32 % 65536).toInt32) q3)))
set_option maxHeartbeats 4000000 in
set_option maxRecDepth 100000 in
theorem law_c28 {p : Program} {l : Launch} {e : Env} {s : State} {m : MethodId} {args : Array Value} {below : List Frame} {meth : Method} {c : Code} {D : va_G} {cI cJ : ClassId} {A : Nat → Prop} {Q : State → Prop} {ret : Option FieldType} (C : ZC p l s m args meth c 9 D (zTys cI cJ) A cL_law wsL_law RL ret) (hfl : l.stackTraces = false) {b Ln : Nat} {xs : Nat → Int32} (hX : va_X b Ln xs s s.heap) (hbl : b < s.heap.size) (hbA : ¬ A b) (y z : Nat → Nat) (o : Nat) (d : Nat → Int64) (sy : Nat → Int32) (sm : Nat → Int32) (sd : Nat → Int32) (mi : Nat → Int32) (ti : Nat → Int64) (sL : Nat → Int64) (bL : Nat → Int64) (mD : Nat → Int64) (mT : Nat → Int64) (co : Int32) (yr : Int64) (mo : Int32) (dy : Int32) (ou : Nat → Int64) (q1 : Int32) (q2 : Int32) (q3 : Int32) (q4 : Int32) (q5 : Int32) (i4 : Int32) (hv1 : vp_in (i4 + 1) Ln) (hq1 : xs (i4 + 1).toNatClampNeg = q1) (hv2 : vp_in (i4 + 2) Ln) (hq2 : xs (i4 + 2).toNatClampNeg = q2) (hv3 : vp_in (i4 + 3) Ln) (hq3 : xs (i4 + 3).toNatClampNeg = q3) (hv4 : vp_in (i4 + 4) Ln) (hq4 : xs (i4 + 4).toNatClampNeg = q4) (hv5 : vp_in (i4 + 5) Ln) (hq5 : xs (i4 + 5).toNatClampNeg = q5) (nc ns : Nat) (hnc : nc + 6 ≤ room_1.cells) (hns : ns + 36 ≤ room_1.slots) (h_g : pre_Lc28 ti ou q1 q2 q3) (kk : ZW p l e room_1 s m args below meth c 9 D (zTys cI cJ) A Q (nc + 6) (ns + 36) (wY cI cJ y d sy sm sd mi (s_L_cutTime_ti ti q1 ((q2.toUInt32 % 65536).toInt32) q3) sL bL mD mT ((o, .inl (cJ, 1, .inr (.inl (s_L_cutTime_ou ti ou q1 ((q2.toUInt32 % 65536).toInt32) q3)))) :: (wM cI cJ z (s_X3_cutTime_co q1 ((q2.toUInt32 % 65536).toInt32) q3) d (s_X3_cutTime_ti ti q1 ((q2.toUInt32 % 65536).toInt32) q3) sL bL mD mT (zw sy) (zw sm) (zw sd) (zw mi) yr mo dy []))) 4233 [(4, .int i4), (3, .ref o), (2, .ref (z 0)), (1, .ref (y 0)), (0, .ref b)] []) : ZW p l e room_1 s m args below meth c 9 D (zTys cI cJ) A Q nc ns (wY cI cJ y d sy sm sd mi ti sL bL mD mT ((o, .inl (cJ, 1, .inr (.inl ou))) :: (wM cI cJ z co d ti sL bL mD mT (zw sy) (zw sm) (zw sd) (zw mi) yr mo dy []))) 2648 [(4, .int i4), (3, .ref o), (2, .ref (z 0)), (1, .ref (y 0)), (0, .ref b)] [] := by
  obtain ⟨g_0, g_1, g_2⟩ := h_g
  refine z_aload_n C dL_law_2648 rfl 3 rfl ?_
  refine z_aload_n C dL_law_2649 rfl 4 rfl ?_
  refine z_iload C dL_law_2650 0 rfl ?_
  refine z_iconst (v := 1) C dL_law_2652 (by decide) ?_
  refine z_iadd C dL_law_2653 ?_
  refine z_sld C hX hbl hbA hv1 dL_law_2654 ?_
  refine z_eqst (st' := [.int q1, .ref (y 0)]) (congrArg (fun v => Value.int v :: _) hq1) ?_
  refine z_aload_n C dL_law_2655 rfl 4 rfl ?_
  refine z_iload C dL_law_2656 0 rfl ?_
  refine z_iconst (v := 2) C dL_law_2658 (by decide) ?_
  refine z_iadd C dL_law_2659 ?_
  refine z_sld C hX hbl hbA hv2 dL_law_2660 ?_
  refine z_eqst (st' := [.int q2, .int q1, .ref (y 0)]) (congrArg (fun v => Value.int v :: _) hq2) ?_
  refine z_i2c (v := (q2.toUInt32 % 65536).toInt32) C dL_law_2661 rfl ?_
  refine z_aload_n C dL_law_2662 rfl 4 rfl ?_
  refine z_iload C dL_law_2663 0 rfl ?_
  refine z_iconst (v := 3) C dL_law_2665 (by decide) ?_
  refine z_iadd C dL_law_2666 ?_
  refine z_sld C hX hbl hbA hv3 dL_law_2667 ?_
  refine z_eqst (st' := [.int q3, .int ((q2.toUInt32 % 65536).toInt32), .int q1, .ref (y 0)]) (congrArg (fun v => Value.int v :: _) hq3) ?_
  refine z_aload_n C dL_law_2668 rfl 1 rfl ?_
  refine z_siH (ws' := (wY cI cJ y d sy sm sd mi (s_L_cutTime_ti ti q1 ((q2.toUInt32 % 65536).toInt32) q3) sL bL mD mT ((o, .inl (cJ, 1, .inr (.inl (s_L_cutTime_ou ti ou q1 ((q2.toUInt32 % 65536).toInt32) q3)))) :: (wM cI cJ z co d ti sL bL mD mT (zw sy) (zw sm) (zw sd) (zw mi) yr mo dy [])))) C (rest := []) (c_L_cutTime l hfl D cI cJ (wM cI cJ z co d ti sL bL mD mT (zw sy) (zw sm) (zw sd) (zw mi) yr mo dy []) y o d sy sm sd mi ti sL bL mD mT ou q1 ((q2.toUInt32 % 65536).toInt32) q3 (g_0)) q_L_cutTime gL_law_L_cutTime ⟨rfl, rfl⟩ rfl rfl (Nat.le_of_ble_eq_true rfl) ⟨Nat.le_of_ble_eq_true rfl, Nat.le_of_ble_eq_true rfl⟩ ⟨Nat.le_trans (by omega) hnc, Nat.le_trans (by omega) hns⟩ dL_law_2669 ?_
  refine z_istore (lv' := [(5, .int (f_L_cutTime q1 ((q2.toUInt32 % 65536).toInt32) q3)), (4, .int i4), (3, .ref o), (2, .ref (z 0)), (1, .ref (y 0)), (0, .ref b)]) C dL_law_2672 (by decide) rfl ?_
  refine z_aload_n C dL_law_2674 rfl 3 rfl ?_
  refine z_aload_n C dL_law_2675 rfl 5 rfl ?_
  refine z_iload C dL_law_2676 1 rfl ?_
  refine z_iconst (v := 1) C dL_law_2678 (by decide) ?_
  refine z_iadd C dL_law_2679 ?_
  refine z_sld C hX hbl hbA hv1 dL_law_2680 ?_
  refine z_eqst (st' := [.int q1, .ref (z 0)]) (congrArg (fun v => Value.int v :: _) hq1) ?_
  refine z_aload_n C dL_law_2681 rfl 5 rfl ?_
  refine z_iload C dL_law_2682 1 rfl ?_
  refine z_iconst (v := 2) C dL_law_2684 (by decide) ?_
  refine z_iadd C dL_law_2685 ?_
  refine z_sld C hX hbl hbA hv2 dL_law_2686 ?_
  refine z_eqst (st' := [.int q2, .int q1, .ref (z 0)]) (congrArg (fun v => Value.int v :: _) hq2) ?_
  refine z_i2c (v := (q2.toUInt32 % 65536).toInt32) C dL_law_2687 rfl ?_
  refine z_aload_n C dL_law_2688 rfl 5 rfl ?_
  refine z_iload C dL_law_2689 1 rfl ?_
  refine z_iconst (v := 3) C dL_law_2691 (by decide) ?_
  refine z_iadd C dL_law_2692 ?_
  refine z_sld C hX hbl hbA hv3 dL_law_2693 ?_
  refine z_eqst (st' := [.int q3, .int ((q2.toUInt32 % 65536).toInt32), .int q1, .ref (z 0)]) (congrArg (fun v => Value.int v :: _) hq3) ?_
  refine z_ws (ws' := (wM cI cJ z co d ti sL bL mD mT (zw sy) (zw sm) (zw sd) (zw mi) yr mo dy (wY cI cJ y d sy sm sd mi (s_L_cutTime_ti ti q1 ((q2.toUInt32 % 65536).toInt32) q3) sL bL mD mT [(o, .inl (cJ, 1, .inr (.inl (s_L_cutTime_ou ti ou q1 ((q2.toUInt32 % 65536).toInt32) q3))))]))) [12, 13, 14, 15, 16, 17, 18, 19, 20, 21, 22, 0, 1, 2, 3, 4, 5, 6, 7, 8, 9, 10, 11] rfl (by decide) rfl ?_
  refine z_wl (ws' := (wM cI cJ z (s_X3_cutTime_co q1 ((q2.toUInt32 % 65536).toInt32) q3) d (s_X3_cutTime_ti ti q1 ((q2.toUInt32 % 65536).toInt32) q3) sL bL mD mT (zw sy) (zw sm) (zw sd) (zw mi) yr mo dy (wY cI cJ y d sy sm sd mi (s_L_cutTime_ti ti q1 ((q2.toUInt32 % 65536).toInt32) q3) sL bL mD mT [(o, .inl (cJ, 1, .inr (.inl (s_L_cutTime_ou ti ou q1 ((q2.toUInt32 % 65536).toInt32) q3))))]))) (rest := []) (ci := 3) (q0 := 0) C (c_X3_cutTime l hfl D cI cJ (wY cI cJ y d sy sm sd mi (s_L_cutTime_ti ti q1 ((q2.toUInt32 % 65536).toInt32) q3) sL bL mD mT [(o, .inl (cJ, 1, .inr (.inl (s_L_cutTime_ou ti ou q1 ((q2.toUInt32 % 65536).toInt32) q3))))]) z co d ti sL bL mD mT (zw sy) (zw sm) (zw sd) (zw mi) yr mo dy q1 ((q2.toUInt32 % 65536).toInt32) q3 ) q_X3_cutTime rfl rfl rfl gL_law_X3_cutTime ⟨rfl, rfl⟩ rfl rfl (Nat.le_of_ble_eq_true rfl) ⟨Nat.le_of_ble_eq_true rfl, Nat.le_of_ble_eq_true rfl⟩ ⟨Nat.le_trans (by omega) hnc, Nat.le_trans (by omega) hns⟩ dL_law_2694 ?_
  refine z_ws (ws' := (wY cI cJ y d sy sm sd mi (s_L_cutTime_ti ti q1 ((q2.toUInt32 % 65536).toInt32) q3) sL bL mD mT ((o, .inl (cJ, 1, .inr (.inl (s_L_cutTime_ou ti ou q1 ((q2.toUInt32 % 65536).toInt32) q3)))) :: (wM cI cJ z (s_X3_cutTime_co q1 ((q2.toUInt32 % 65536).toInt32) q3) d (s_X3_cutTime_ti ti q1 ((q2.toUInt32 % 65536).toInt32) q3) sL bL mD mT (zw sy) (zw sm) (zw sd) (zw mi) yr mo dy [])))) [11, 12, 13, 14, 15, 16, 17, 18, 19, 20, 21, 22, 0, 1, 2, 3, 4, 5, 6, 7, 8, 9, 10] rfl (by decide) rfl ?_
  refine z_lstore (lv' := [(6, .long (f_X3_cutTime ti q1 ((q2.toUInt32 % 65536).toInt32) q3)), (5, .int (f_L_cutTime q1 ((q2.toUInt32 % 65536).toInt32) q3)), (4, .int i4), (3, .ref o), (2, .ref (z 0)), (1, .ref (y 0)), (0, .ref b)]) C dL_law_2697 (by decide) rfl ?_
  refine z_aload_n C dL_law_2699 rfl 4 rfl ?_
  refine z_ws (ws' := (wM cI cJ z (s_X3_cutTime_co q1 ((q2.toUInt32 % 65536).toInt32) q3) d (s_X3_cutTime_ti ti q1 ((q2.toUInt32 % 65536).toInt32) q3) sL bL mD mT (zw sy) (zw sm) (zw sd) (zw mi) yr mo dy (wY cI cJ y d sy sm sd mi (s_L_cutTime_ti ti q1 ((q2.toUInt32 % 65536).toInt32) q3) sL bL mD mT [(o, .inl (cJ, 1, .inr (.inl (s_L_cutTime_ou ti ou q1 ((q2.toUInt32 % 65536).toInt32) q3))))]))) [12, 13, 14, 15, 16, 17, 18, 19, 20, 21, 22, 0, 1, 2, 3, 4, 5, 6, 7, 8, 9, 10, 11] rfl (by decide) rfl ?_
  refine z_wi (ws' := (wM cI cJ z (s_X3_cutTime_co q1 ((q2.toUInt32 % 65536).toInt32) q3) d (s_X3_cutTime_ti ti q1 ((q2.toUInt32 % 65536).toInt32) q3) sL bL mD mT (zw sy) (zw sm) (zw sd) (zw mi) yr mo dy (wY cI cJ y d sy sm sd mi (s_L_cutTime_ti ti q1 ((q2.toUInt32 % 65536).toInt32) q3) sL bL mD mT [(o, .inl (cJ, 1, .inr (.inl (s_L_cutTime_ou ti ou q1 ((q2.toUInt32 % 65536).toInt32) q3))))]))) (rest := []) (ci := 3) (q0 := 0) C (c_X3_thrown l hfl D cI cJ (wY cI cJ y d sy sm sd mi (s_L_cutTime_ti ti q1 ((q2.toUInt32 % 65536).toInt32) q3) sL bL mD mT [(o, .inl (cJ, 1, .inr (.inl (s_L_cutTime_ou ti ou q1 ((q2.toUInt32 % 65536).toInt32) q3))))]) z (s_X3_cutTime_co q1 ((q2.toUInt32 % 65536).toInt32) q3) d (s_X3_cutTime_ti ti q1 ((q2.toUInt32 % 65536).toInt32) q3) sL bL mD mT (zw sy) (zw sm) (zw sd) (zw mi) yr mo dy  ) q_X3_thrown rfl rfl rfl gL_law_X3_thrown ⟨rfl, rfl⟩ rfl rfl (Nat.le_of_ble_eq_true rfl) ⟨Nat.le_of_ble_eq_true rfl, Nat.le_of_ble_eq_true rfl⟩ ⟨Nat.le_trans (by omega) hnc, Nat.le_trans (by omega) hns⟩ dL_law_2700 ?_
  refine z_ws (ws' := (wY cI cJ y d sy sm sd mi (s_L_cutTime_ti ti q1 ((q2.toUInt32 % 65536).toInt32) q3) sL bL mD mT ((o, .inl (cJ, 1, .inr (.inl (s_L_cutTime_ou ti ou q1 ((q2.toUInt32 % 65536).toInt32) q3)))) :: (wM cI cJ z (s_X3_cutTime_co q1 ((q2.toUInt32 % 65536).toInt32) q3) d (s_X3_cutTime_ti ti q1 ((q2.toUInt32 % 65536).toInt32) q3) sL bL mD mT (zw sy) (zw sm) (zw sd) (zw mi) yr mo dy [])))) [11, 12, 13, 14, 15, 16, 17, 18, 19, 20, 21, 22, 0, 1, 2, 3, 4, 5, 6, 7, 8, 9, 10] rfl (by decide) rfl ?_
  refine z_iload C dL_law_2703 1 rfl ?_
  refine z_icmp_eq (tgt := 2710) C dL_law_2705 (by decide) (fun _ => ?_) (fun h => absurd (g_1) h)
  refine z_iload C dL_law_2710 1 rfl ?_
  refine z_if_ne (tgt := 2726) C dL_law_2712 (by decide) (fun h1 => ?_) (fun h1 => ?_)
  · refine z_goto (tgt := 4233) C dL_law_2726 (by decide) ?_
    refine z_sub [2, 3, 4, 5, 6] rfl ?_
    exact z_widen (by omega) (by omega) kk
  · refine z_aload_n C dL_law_2715 rfl 3 rfl ?_
    refine z_iconst (v := 0) C dL_law_2716 (by decide) ?_
    refine z_lald C 11 1 rfl rfl (zvpl 0 1 (by decide)) dL_law_2717 ?_
    refine z_eqst (st' := [.long ((s_L_cutTime_ou ti ou q1 ((q2.toUInt32 % 65536).toInt32) q3) 0)]) rfl ?_
    refine z_lload C dL_law_2718 0 rfl ?_
    refine z_lcmp_eq (tgt := 2726) C dL_law_2720 dL_law_2721 (by decide) (fun _ => ?_) (fun h => absurd (g_2 h1) h)
    refine z_goto (tgt := 4233) C dL_law_2726 (by decide) ?_
    refine z_sub [2, 3, 4, 5, 6] rfl ?_
    exact z_widen (by omega) (by omega) kk
def f_Lc29_j1 (q3 : Int32) : Int32 := (if q3 = 0 then 0 else 1)
def pre_Lc29 (ti : Nat → Int64) (sL : Nat → Int64) (bL : Nat → Int64) (ou : Nat → Int64) (q1 : Int32) (q2 : Int32) (q3 : Int32) (q4 : Int32) : Prop := ((pre_L_goTime q1 q2 q4)) ∧ ((pre_X3_goTime q1 q2 q4)) ∧ (((s_X3_goTime_co q1 q2 q4) = (f_L_goTime q1 q2 q4))) ∧ (((f_L_goTime q1 q2 q4) = 0) → (((s_L_goTime_ou ti sL bL ou q1 q2 (f_Lc29_j1 q3) q4) 0) = (f_X3_goTime ti sL bL q1 q2 (f_Lc29_j1 q3) q4)))
set_option maxHeartbeats 4000000 in
set_option maxRecDepth 100000 in
theorem law_c29 {p : Program} {l : Launch} {e : Env} {s : State} {m : MethodId} {args : Array Value} {below : List Frame} {meth : Method} {c : Code} {D : va_G} {cI cJ : ClassId} {A : Nat → Prop} {Q : State → Prop} {ret : Option FieldType} (C : ZC p l s m args meth c 9 D (zTys cI cJ) A cL_law wsL_law RL ret) (hfl : l.stackTraces = false) {b Ln : Nat} {xs : Nat → Int32} (hX : va_X b Ln xs s s.heap) (hbl : b < s.heap.size) (hbA : ¬ A b) (y z : Nat → Nat) (o : Nat) (d : Nat → Int64) (sy : Nat → Int32) (sm : Nat → Int32) (sd : Nat → Int32) (mi : Nat → Int32) (ti : Nat → Int64) (sL : Nat → Int64) (bL : Nat → Int64) (mD : Nat → Int64) (mT : Nat → Int64) (co : Int32) (yr : Int64) (mo : Int32) (dy : Int32) (ou : Nat → Int64) (q1 : Int32) (q2 : Int32) (q3 : Int32) (q4 : Int32) (q5 : Int32) (i4 : Int32) (hv1 : vp_in (i4 + 1) Ln) (hq1 : xs (i4 + 1).toNatClampNeg = q1) (hv2 : vp_in (i4 + 2) Ln) (hq2 : xs (i4 + 2).toNatClampNeg = q2) (hv3 : vp_in (i4 + 3) Ln) (hq3 : xs (i4 + 3).toNatClampNeg = q3) (hv4 : vp_in (i4 + 4) Ln) (hq4 : xs (i4 + 4).toNatClampNeg = q4) (hv5 : vp_in (i4 + 5) Ln) (hq5 : xs (i4 + 5).toNatClampNeg = q5) (nc ns : Nat) (hnc : nc + 6 ≤ room_1.cells) (hns : ns + 36 ≤ room_1.slots) (h_g : pre_Lc29 ti sL bL ou q1 q2 q3 q4) (kk : ZW p l e room_1 s m args below meth c 9 D (zTys cI cJ) A Q (nc + 6) (ns + 36) (wY cI cJ y d sy sm sd mi (s_L_goTime_ti ti sL bL q1 q2 (f_Lc29_j1 q3) q4) sL bL mD mT ((o, .inl (cJ, 1, .inr (.inl (s_L_goTime_ou ti sL bL ou q1 q2 (f_Lc29_j1 q3) q4)))) :: (wM cI cJ z (s_X3_goTime_co q1 q2 q4) d (s_X3_goTime_ti ti sL bL q1 q2 (f_Lc29_j1 q3) q4) sL bL mD mT (zw sy) (zw sm) (zw sd) (zw mi) yr mo dy []))) 4233 [(4, .int i4), (3, .ref o), (2, .ref (z 0)), (1, .ref (y 0)), (0, .ref b)] []) : ZW p l e room_1 s m args below meth c 9 D (zTys cI cJ) A Q nc ns (wY cI cJ y d sy sm sd mi ti sL bL mD mT ((o, .inl (cJ, 1, .inr (.inl ou))) :: (wM cI cJ z co d ti sL bL mD mT (zw sy) (zw sm) (zw sd) (zw mi) yr mo dy []))) 2729 [(4, .int i4), (3, .ref o), (2, .ref (z 0)), (1, .ref (y 0)), (0, .ref b)] [] := by
  obtain ⟨g_0, g_1, g_2, g_3⟩ := h_g
  refine z_aload_n C dL_law_2729 rfl 3 rfl ?_
  refine z_aload_n C dL_law_2730 rfl 4 rfl ?_
  refine z_iload C dL_law_2731 0 rfl ?_
  refine z_iconst (v := 1) C dL_law_2733 (by decide) ?_
  refine z_iadd C dL_law_2734 ?_
  refine z_sld C hX hbl hbA hv1 dL_law_2735 ?_
  refine z_eqst (st' := [.int q1, .ref (y 0)]) (congrArg (fun v => Value.int v :: _) hq1) ?_
  refine z_aload_n C dL_law_2736 rfl 4 rfl ?_
  refine z_iload C dL_law_2737 0 rfl ?_
  refine z_iconst (v := 2) C dL_law_2739 (by decide) ?_
  refine z_iadd C dL_law_2740 ?_
  refine z_sld C hX hbl hbA hv2 dL_law_2741 ?_
  refine z_eqst (st' := [.int q2, .int q1, .ref (y 0)]) (congrArg (fun v => Value.int v :: _) hq2) ?_
  refine z_aload_n C dL_law_2742 rfl 4 rfl ?_
  refine z_iload C dL_law_2743 0 rfl ?_
  refine z_iconst (v := 3) C dL_law_2745 (by decide) ?_
  refine z_iadd C dL_law_2746 ?_
  refine z_sld C hX hbl hbA hv3 dL_law_2747 ?_
  refine z_eqst (st' := [.int q3, .int q2, .int q1, .ref (y 0)]) (congrArg (fun v => Value.int v :: _) hq3) ?_
  have K1 : ∀ (v1_0 : Int32), (f_Lc29_j1 q3) = v1_0 → ZW p l e room_1 s m args below meth c 9 D (zTys cI cJ) A Q nc ns (wY cI cJ y d sy sm sd mi ti sL bL mD mT ((o, .inl (cJ, 1, .inr (.inl ou))) :: (wM cI cJ z co d ti sL bL mD mT (zw sy) (zw sm) (zw sd) (zw mi) yr mo dy []))) 2756 [(4, .int i4), (3, .ref o), (2, .ref (z 0)), (1, .ref (y 0)), (0, .ref b)] [.int v1_0, .int q2, .int q1, .ref (y 0)] := by
    rintro _ rfl
    refine z_aload_n C dL_law_2756 rfl 4 rfl ?_
    refine z_iload C dL_law_2757 0 rfl ?_
    refine z_iconst (v := 4) C dL_law_2759 (by decide) ?_
    refine z_iadd C dL_law_2760 ?_
    refine z_sld C hX hbl hbA hv4 dL_law_2761 ?_
    refine z_eqst (st' := [.int q4, .int (f_Lc29_j1 q3), .int q2, .int q1, .ref (y 0)]) (congrArg (fun v => Value.int v :: _) hq4) ?_
    refine z_aload_n C dL_law_2762 rfl 1 rfl ?_
    refine z_siH (ws' := (wY cI cJ y d sy sm sd mi (s_L_goTime_ti ti sL bL q1 q2 (f_Lc29_j1 q3) q4) sL bL mD mT ((o, .inl (cJ, 1, .inr (.inl (s_L_goTime_ou ti sL bL ou q1 q2 (f_Lc29_j1 q3) q4)))) :: (wM cI cJ z co d ti sL bL mD mT (zw sy) (zw sm) (zw sd) (zw mi) yr mo dy [])))) C (rest := []) (c_L_goTime l hfl D cI cJ (wM cI cJ z co d ti sL bL mD mT (zw sy) (zw sm) (zw sd) (zw mi) yr mo dy []) y o d sy sm sd mi ti sL bL mD mT ou q1 q2 (f_Lc29_j1 q3) q4 (g_0)) q_L_goTime gL_law_L_goTime ⟨rfl, rfl⟩ rfl rfl (Nat.le_of_ble_eq_true rfl) ⟨Nat.le_of_ble_eq_true rfl, Nat.le_of_ble_eq_true rfl⟩ ⟨Nat.le_trans (by omega) hnc, Nat.le_trans (by omega) hns⟩ dL_law_2763 ?_
    refine z_istore (lv' := [(5, .int (f_L_goTime q1 q2 q4)), (4, .int i4), (3, .ref o), (2, .ref (z 0)), (1, .ref (y 0)), (0, .ref b)]) C dL_law_2766 (by decide) rfl ?_
    refine z_aload_n C dL_law_2768 rfl 3 rfl ?_
    refine z_aload_n C dL_law_2769 rfl 5 rfl ?_
    refine z_iload C dL_law_2770 1 rfl ?_
    refine z_iconst (v := 1) C dL_law_2772 (by decide) ?_
    refine z_iadd C dL_law_2773 ?_
    refine z_sld C hX hbl hbA hv1 dL_law_2774 ?_
    refine z_eqst (st' := [.int q1, .ref (z 0)]) (congrArg (fun v => Value.int v :: _) hq1) ?_
    refine z_aload_n C dL_law_2775 rfl 5 rfl ?_
    refine z_iload C dL_law_2776 1 rfl ?_
    refine z_iconst (v := 2) C dL_law_2778 (by decide) ?_
    refine z_iadd C dL_law_2779 ?_
    refine z_sld C hX hbl hbA hv2 dL_law_2780 ?_
    refine z_eqst (st' := [.int q2, .int q1, .ref (z 0)]) (congrArg (fun v => Value.int v :: _) hq2) ?_
    refine z_aload_n C dL_law_2781 rfl 5 rfl ?_
    refine z_iload C dL_law_2782 1 rfl ?_
    refine z_iconst (v := 3) C dL_law_2784 (by decide) ?_
    refine z_iadd C dL_law_2785 ?_
    refine z_sld C hX hbl hbA hv3 dL_law_2786 ?_
    refine z_eqst (st' := [.int q3, .int q2, .int q1, .ref (z 0)]) (congrArg (fun v => Value.int v :: _) hq3) ?_
    have K2 : ∀ (v2_0 : Int32), (f_Lc29_j1 q3) = v2_0 → ZW p l e room_1 s m args below meth c 9 D (zTys cI cJ) A Q (nc + 3) (ns + 18) (wY cI cJ y d sy sm sd mi (s_L_goTime_ti ti sL bL q1 q2 (f_Lc29_j1 q3) q4) sL bL mD mT ((o, .inl (cJ, 1, .inr (.inl (s_L_goTime_ou ti sL bL ou q1 q2 (f_Lc29_j1 q3) q4)))) :: (wM cI cJ z co d ti sL bL mD mT (zw sy) (zw sm) (zw sd) (zw mi) yr mo dy []))) 2795 [(5, .int (f_L_goTime q1 q2 q4)), (4, .int i4), (3, .ref o), (2, .ref (z 0)), (1, .ref (y 0)), (0, .ref b)] [.int v2_0, .int q2, .int q1, .ref (z 0)] := by
      rintro _ rfl
      refine z_aload_n C dL_law_2795 rfl 5 rfl ?_
      refine z_iload C dL_law_2796 1 rfl ?_
      refine z_iconst (v := 4) C dL_law_2798 (by decide) ?_
      refine z_iadd C dL_law_2799 ?_
      refine z_sld C hX hbl hbA hv4 dL_law_2800 ?_
      refine z_eqst (st' := [.int q4, .int (f_Lc29_j1 q3), .int q2, .int q1, .ref (z 0)]) (congrArg (fun v => Value.int v :: _) hq4) ?_
      refine z_ws (ws' := (wM cI cJ z co d ti sL bL mD mT (zw sy) (zw sm) (zw sd) (zw mi) yr mo dy (wY cI cJ y d sy sm sd mi (s_L_goTime_ti ti sL bL q1 q2 (f_Lc29_j1 q3) q4) sL bL mD mT [(o, .inl (cJ, 1, .inr (.inl (s_L_goTime_ou ti sL bL ou q1 q2 (f_Lc29_j1 q3) q4))))]))) [12, 13, 14, 15, 16, 17, 18, 19, 20, 21, 22, 0, 1, 2, 3, 4, 5, 6, 7, 8, 9, 10, 11] rfl (by decide) rfl ?_
      refine z_wl (ws' := (wM cI cJ z (s_X3_goTime_co q1 q2 q4) d (s_X3_goTime_ti ti sL bL q1 q2 (f_Lc29_j1 q3) q4) sL bL mD mT (zw sy) (zw sm) (zw sd) (zw mi) yr mo dy (wY cI cJ y d sy sm sd mi (s_L_goTime_ti ti sL bL q1 q2 (f_Lc29_j1 q3) q4) sL bL mD mT [(o, .inl (cJ, 1, .inr (.inl (s_L_goTime_ou ti sL bL ou q1 q2 (f_Lc29_j1 q3) q4))))]))) (rest := []) (ci := 3) (q0 := 0) C (c_X3_goTime l hfl D cI cJ (wY cI cJ y d sy sm sd mi (s_L_goTime_ti ti sL bL q1 q2 (f_Lc29_j1 q3) q4) sL bL mD mT [(o, .inl (cJ, 1, .inr (.inl (s_L_goTime_ou ti sL bL ou q1 q2 (f_Lc29_j1 q3) q4))))]) z co d ti sL bL mD mT (zw sy) (zw sm) (zw sd) (zw mi) yr mo dy q1 q2 (f_Lc29_j1 q3) q4 (g_1)) q_X3_goTime rfl rfl rfl gL_law_X3_goTime ⟨rfl, rfl⟩ rfl rfl (Nat.le_of_ble_eq_true rfl) ⟨Nat.le_of_ble_eq_true rfl, Nat.le_of_ble_eq_true rfl⟩ ⟨Nat.le_trans (by omega) hnc, Nat.le_trans (by omega) hns⟩ dL_law_2801 ?_
      refine z_ws (ws' := (wY cI cJ y d sy sm sd mi (s_L_goTime_ti ti sL bL q1 q2 (f_Lc29_j1 q3) q4) sL bL mD mT ((o, .inl (cJ, 1, .inr (.inl (s_L_goTime_ou ti sL bL ou q1 q2 (f_Lc29_j1 q3) q4)))) :: (wM cI cJ z (s_X3_goTime_co q1 q2 q4) d (s_X3_goTime_ti ti sL bL q1 q2 (f_Lc29_j1 q3) q4) sL bL mD mT (zw sy) (zw sm) (zw sd) (zw mi) yr mo dy [])))) [11, 12, 13, 14, 15, 16, 17, 18, 19, 20, 21, 22, 0, 1, 2, 3, 4, 5, 6, 7, 8, 9, 10] rfl (by decide) rfl ?_
      refine z_lstore (lv' := [(6, .long (f_X3_goTime ti sL bL q1 q2 (f_Lc29_j1 q3) q4)), (5, .int (f_L_goTime q1 q2 q4)), (4, .int i4), (3, .ref o), (2, .ref (z 0)), (1, .ref (y 0)), (0, .ref b)]) C dL_law_2804 (by decide) rfl ?_
      refine z_aload_n C dL_law_2806 rfl 4 rfl ?_
      refine z_ws (ws' := (wM cI cJ z (s_X3_goTime_co q1 q2 q4) d (s_X3_goTime_ti ti sL bL q1 q2 (f_Lc29_j1 q3) q4) sL bL mD mT (zw sy) (zw sm) (zw sd) (zw mi) yr mo dy (wY cI cJ y d sy sm sd mi (s_L_goTime_ti ti sL bL q1 q2 (f_Lc29_j1 q3) q4) sL bL mD mT [(o, .inl (cJ, 1, .inr (.inl (s_L_goTime_ou ti sL bL ou q1 q2 (f_Lc29_j1 q3) q4))))]))) [12, 13, 14, 15, 16, 17, 18, 19, 20, 21, 22, 0, 1, 2, 3, 4, 5, 6, 7, 8, 9, 10, 11] rfl (by decide) rfl ?_
      refine z_wi (ws' := (wM cI cJ z (s_X3_goTime_co q1 q2 q4) d (s_X3_goTime_ti ti sL bL q1 q2 (f_Lc29_j1 q3) q4) sL bL mD mT (zw sy) (zw sm) (zw sd) (zw mi) yr mo dy (wY cI cJ y d sy sm sd mi (s_L_goTime_ti ti sL bL q1 q2 (f_Lc29_j1 q3) q4) sL bL mD mT [(o, .inl (cJ, 1, .inr (.inl (s_L_goTime_ou ti sL bL ou q1 q2 (f_Lc29_j1 q3) q4))))]))) (rest := []) (ci := 3) (q0 := 0) C (c_X3_thrown l hfl D cI cJ (wY cI cJ y d sy sm sd mi (s_L_goTime_ti ti sL bL q1 q2 (f_Lc29_j1 q3) q4) sL bL mD mT [(o, .inl (cJ, 1, .inr (.inl (s_L_goTime_ou ti sL bL ou q1 q2 (f_Lc29_j1 q3) q4))))]) z (s_X3_goTime_co q1 q2 q4) d (s_X3_goTime_ti ti sL bL q1 q2 (f_Lc29_j1 q3) q4) sL bL mD mT (zw sy) (zw sm) (zw sd) (zw mi) yr mo dy  ) q_X3_thrown rfl rfl rfl gL_law_X3_thrown ⟨rfl, rfl⟩ rfl rfl (Nat.le_of_ble_eq_true rfl) ⟨Nat.le_of_ble_eq_true rfl, Nat.le_of_ble_eq_true rfl⟩ ⟨Nat.le_trans (by omega) hnc, Nat.le_trans (by omega) hns⟩ dL_law_2807 ?_
      refine z_ws (ws' := (wY cI cJ y d sy sm sd mi (s_L_goTime_ti ti sL bL q1 q2 (f_Lc29_j1 q3) q4) sL bL mD mT ((o, .inl (cJ, 1, .inr (.inl (s_L_goTime_ou ti sL bL ou q1 q2 (f_Lc29_j1 q3) q4)))) :: (wM cI cJ z (s_X3_goTime_co q1 q2 q4) d (s_X3_goTime_ti ti sL bL q1 q2 (f_Lc29_j1 q3) q4) sL bL mD mT (zw sy) (zw sm) (zw sd) (zw mi) yr mo dy [])))) [11, 12, 13, 14, 15, 16, 17, 18, 19, 20, 21, 22, 0, 1, 2, 3, 4, 5, 6, 7, 8, 9, 10] rfl (by decide) rfl ?_
      refine z_iload C dL_law_2810 1 rfl ?_
      refine z_icmp_eq (tgt := 2817) C dL_law_2812 (by decide) (fun _ => ?_) (fun h => absurd (g_2) h)
      refine z_iload C dL_law_2817 1 rfl ?_
      refine z_if_ne (tgt := 2833) C dL_law_2819 (by decide) (fun h3 => ?_) (fun h3 => ?_)
      · refine z_goto (tgt := 4233) C dL_law_2833 (by decide) ?_
        refine z_sub [2, 3, 4, 5, 6] rfl ?_
        exact z_widen (by omega) (by omega) kk
      · refine z_aload_n C dL_law_2822 rfl 3 rfl ?_
        refine z_iconst (v := 0) C dL_law_2823 (by decide) ?_
        refine z_lald C 11 1 rfl rfl (zvpl 0 1 (by decide)) dL_law_2824 ?_
        refine z_eqst (st' := [.long ((s_L_goTime_ou ti sL bL ou q1 q2 (f_Lc29_j1 q3) q4) 0)]) rfl ?_
        refine z_lload C dL_law_2825 0 rfl ?_
        refine z_lcmp_eq (tgt := 2833) C dL_law_2827 dL_law_2828 (by decide) (fun _ => ?_) (fun h => absurd (g_3 h3) h)
        refine z_goto (tgt := 4233) C dL_law_2833 (by decide) ?_
        refine z_sub [2, 3, 4, 5, 6] rfl ?_
        exact z_widen (by omega) (by omega) kk
    refine z_if_eq (tgt := 2794) C dL_law_2787 (by decide) (fun h2 => ?_) (fun h2 => ?_)
    · refine z_iconst (v := 0) C dL_law_2794 (by decide) ?_
      exact K2 _ (by rw [f_Lc29_j1, if_pos h2])
    · refine z_iconst (v := 1) C dL_law_2790 (by decide) ?_
      refine z_goto (tgt := 2795) C dL_law_2791 (by decide) ?_
      exact K2 _ (by rw [f_Lc29_j1, if_neg h2])
  refine z_if_eq (tgt := 2755) C dL_law_2748 (by decide) (fun h1 => ?_) (fun h1 => ?_)
  · refine z_iconst (v := 0) C dL_law_2755 (by decide) ?_
    exact K1 _ (by rw [f_Lc29_j1, if_pos h1])
  · refine z_iconst (v := 1) C dL_law_2751 (by decide) ?_
    refine z_goto (tgt := 2756) C dL_law_2752 (by decide) ?_
    exact K1 _ (by rw [f_Lc29_j1, if_neg h1])
def pre_Lc30 (ti : Nat → Int64) (ou : Nat → Int64) (q1 : Int32) (q2 : Int32) : Prop := ((pre_L_orderTimes q1 q2)) ∧ (((s_X3_orderTimes_co q1 q2) = (f_L_orderTimes q1 q2))) ∧ (((f_L_orderTimes q1 q2) = 0) → (((s_L_orderTimes_ou ti ou q1 q2) 0) = ((f_X3_orderTimes ti q1 q2)).toInt64))
set_option maxHeartbeats 4000000 in
set_option maxRecDepth 100000 in
theorem law_c30 {p : Program} {l : Launch} {e : Env} {s : State} {m : MethodId} {args : Array Value} {below : List Frame} {meth : Method} {c : Code} {D : va_G} {cI cJ : ClassId} {A : Nat → Prop} {Q : State → Prop} {ret : Option FieldType} (C : ZC p l s m args meth c 9 D (zTys cI cJ) A cL_law wsL_law RL ret) (hfl : l.stackTraces = false) {b Ln : Nat} {xs : Nat → Int32} (hX : va_X b Ln xs s s.heap) (hbl : b < s.heap.size) (hbA : ¬ A b) (y z : Nat → Nat) (o : Nat) (d : Nat → Int64) (sy : Nat → Int32) (sm : Nat → Int32) (sd : Nat → Int32) (mi : Nat → Int32) (ti : Nat → Int64) (sL : Nat → Int64) (bL : Nat → Int64) (mD : Nat → Int64) (mT : Nat → Int64) (co : Int32) (yr : Int64) (mo : Int32) (dy : Int32) (ou : Nat → Int64) (q1 : Int32) (q2 : Int32) (q3 : Int32) (q4 : Int32) (q5 : Int32) (i4 : Int32) (hv1 : vp_in (i4 + 1) Ln) (hq1 : xs (i4 + 1).toNatClampNeg = q1) (hv2 : vp_in (i4 + 2) Ln) (hq2 : xs (i4 + 2).toNatClampNeg = q2) (hv3 : vp_in (i4 + 3) Ln) (hq3 : xs (i4 + 3).toNatClampNeg = q3) (hv4 : vp_in (i4 + 4) Ln) (hq4 : xs (i4 + 4).toNatClampNeg = q4) (hv5 : vp_in (i4 + 5) Ln) (hq5 : xs (i4 + 5).toNatClampNeg = q5) (nc ns : Nat) (hnc : nc + 6 ≤ room_1.cells) (hns : ns + 36 ≤ room_1.slots) (h_g : pre_Lc30 ti ou q1 q2) (kk : ZW p l e room_1 s m args below meth c 9 D (zTys cI cJ) A Q (nc + 6) (ns + 36) (wY cI cJ y d sy sm sd mi ti sL bL mD mT ((o, .inl (cJ, 1, .inr (.inl (s_L_orderTimes_ou ti ou q1 q2)))) :: (wM cI cJ z (s_X3_orderTimes_co q1 q2) d ti sL bL mD mT (zw sy) (zw sm) (zw sd) (zw mi) yr mo dy []))) 4233 [(4, .int i4), (3, .ref o), (2, .ref (z 0)), (1, .ref (y 0)), (0, .ref b)] []) : ZW p l e room_1 s m args below meth c 9 D (zTys cI cJ) A Q nc ns (wY cI cJ y d sy sm sd mi ti sL bL mD mT ((o, .inl (cJ, 1, .inr (.inl ou))) :: (wM cI cJ z co d ti sL bL mD mT (zw sy) (zw sm) (zw sd) (zw mi) yr mo dy []))) 2836 [(4, .int i4), (3, .ref o), (2, .ref (z 0)), (1, .ref (y 0)), (0, .ref b)] [] := by
  obtain ⟨g_0, g_1, g_2⟩ := h_g
  refine z_aload_n C dL_law_2836 rfl 3 rfl ?_
  refine z_aload_n C dL_law_2837 rfl 4 rfl ?_
  refine z_iload C dL_law_2838 0 rfl ?_
  refine z_iconst (v := 1) C dL_law_2840 (by decide) ?_
  refine z_iadd C dL_law_2841 ?_
  refine z_sld C hX hbl hbA hv1 dL_law_2842 ?_
  refine z_eqst (st' := [.int q1, .ref (y 0)]) (congrArg (fun v => Value.int v :: _) hq1) ?_
  refine z_aload_n C dL_law_2843 rfl 4 rfl ?_
  refine z_iload C dL_law_2844 0 rfl ?_
  refine z_iconst (v := 2) C dL_law_2846 (by decide) ?_
  refine z_iadd C dL_law_2847 ?_
  refine z_sld C hX hbl hbA hv2 dL_law_2848 ?_
  refine z_eqst (st' := [.int q2, .int q1, .ref (y 0)]) (congrArg (fun v => Value.int v :: _) hq2) ?_
  refine z_aload_n C dL_law_2849 rfl 1 rfl ?_
  refine z_siH (ws' := (wY cI cJ y d sy sm sd mi ti sL bL mD mT ((o, .inl (cJ, 1, .inr (.inl (s_L_orderTimes_ou ti ou q1 q2)))) :: (wM cI cJ z co d ti sL bL mD mT (zw sy) (zw sm) (zw sd) (zw mi) yr mo dy [])))) C (rest := []) (c_L_orderTimes l hfl D cI cJ (wM cI cJ z co d ti sL bL mD mT (zw sy) (zw sm) (zw sd) (zw mi) yr mo dy []) y o d sy sm sd mi ti sL bL mD mT ou q1 q2 (g_0)) q_L_orderTimes gL_law_L_orderTimes ⟨rfl, rfl⟩ rfl rfl (Nat.le_of_ble_eq_true rfl) ⟨Nat.le_of_ble_eq_true rfl, Nat.le_of_ble_eq_true rfl⟩ ⟨Nat.le_trans (by omega) hnc, Nat.le_trans (by omega) hns⟩ dL_law_2850 ?_
  refine z_istore (lv' := [(5, .int (f_L_orderTimes q1 q2)), (4, .int i4), (3, .ref o), (2, .ref (z 0)), (1, .ref (y 0)), (0, .ref b)]) C dL_law_2853 (by decide) rfl ?_
  refine z_aload_n C dL_law_2855 rfl 3 rfl ?_
  refine z_aload_n C dL_law_2856 rfl 5 rfl ?_
  refine z_iload C dL_law_2857 1 rfl ?_
  refine z_iconst (v := 1) C dL_law_2859 (by decide) ?_
  refine z_iadd C dL_law_2860 ?_
  refine z_sld C hX hbl hbA hv1 dL_law_2861 ?_
  refine z_eqst (st' := [.int q1, .ref (z 0)]) (congrArg (fun v => Value.int v :: _) hq1) ?_
  refine z_aload_n C dL_law_2862 rfl 5 rfl ?_
  refine z_iload C dL_law_2863 1 rfl ?_
  refine z_iconst (v := 2) C dL_law_2865 (by decide) ?_
  refine z_iadd C dL_law_2866 ?_
  refine z_sld C hX hbl hbA hv2 dL_law_2867 ?_
  refine z_eqst (st' := [.int q2, .int q1, .ref (z 0)]) (congrArg (fun v => Value.int v :: _) hq2) ?_
  refine z_ws (ws' := (wM cI cJ z co d ti sL bL mD mT (zw sy) (zw sm) (zw sd) (zw mi) yr mo dy (wY cI cJ y d sy sm sd mi ti sL bL mD mT [(o, .inl (cJ, 1, .inr (.inl (s_L_orderTimes_ou ti ou q1 q2))))]))) [12, 13, 14, 15, 16, 17, 18, 19, 20, 21, 22, 0, 1, 2, 3, 4, 5, 6, 7, 8, 9, 10, 11] rfl (by decide) rfl ?_
  refine z_wi (ws' := (wM cI cJ z (s_X3_orderTimes_co q1 q2) d ti sL bL mD mT (zw sy) (zw sm) (zw sd) (zw mi) yr mo dy (wY cI cJ y d sy sm sd mi ti sL bL mD mT [(o, .inl (cJ, 1, .inr (.inl (s_L_orderTimes_ou ti ou q1 q2))))]))) (rest := []) (ci := 3) (q0 := 0) C (c_X3_orderTimes l hfl D cI cJ (wY cI cJ y d sy sm sd mi ti sL bL mD mT [(o, .inl (cJ, 1, .inr (.inl (s_L_orderTimes_ou ti ou q1 q2))))]) z co d ti sL bL mD mT (zw sy) (zw sm) (zw sd) (zw mi) yr mo dy q1 q2 ) q_X3_orderTimes rfl rfl rfl gL_law_X3_orderTimes ⟨rfl, rfl⟩ rfl rfl (Nat.le_of_ble_eq_true rfl) ⟨Nat.le_of_ble_eq_true rfl, Nat.le_of_ble_eq_true rfl⟩ ⟨Nat.le_trans (by omega) hnc, Nat.le_trans (by omega) hns⟩ dL_law_2868 ?_
  refine z_ws (ws' := (wY cI cJ y d sy sm sd mi ti sL bL mD mT ((o, .inl (cJ, 1, .inr (.inl (s_L_orderTimes_ou ti ou q1 q2)))) :: (wM cI cJ z (s_X3_orderTimes_co q1 q2) d ti sL bL mD mT (zw sy) (zw sm) (zw sd) (zw mi) yr mo dy [])))) [11, 12, 13, 14, 15, 16, 17, 18, 19, 20, 21, 22, 0, 1, 2, 3, 4, 5, 6, 7, 8, 9, 10] rfl (by decide) rfl ?_
  refine z_istore (lv' := [(6, .int (f_X3_orderTimes ti q1 q2)), (5, .int (f_L_orderTimes q1 q2)), (4, .int i4), (3, .ref o), (2, .ref (z 0)), (1, .ref (y 0)), (0, .ref b)]) C dL_law_2871 (by decide) rfl ?_
  refine z_aload_n C dL_law_2873 rfl 4 rfl ?_
  refine z_ws (ws' := (wM cI cJ z (s_X3_orderTimes_co q1 q2) d ti sL bL mD mT (zw sy) (zw sm) (zw sd) (zw mi) yr mo dy (wY cI cJ y d sy sm sd mi ti sL bL mD mT [(o, .inl (cJ, 1, .inr (.inl (s_L_orderTimes_ou ti ou q1 q2))))]))) [12, 13, 14, 15, 16, 17, 18, 19, 20, 21, 22, 0, 1, 2, 3, 4, 5, 6, 7, 8, 9, 10, 11] rfl (by decide) rfl ?_
  refine z_wi (ws' := (wM cI cJ z (s_X3_orderTimes_co q1 q2) d ti sL bL mD mT (zw sy) (zw sm) (zw sd) (zw mi) yr mo dy (wY cI cJ y d sy sm sd mi ti sL bL mD mT [(o, .inl (cJ, 1, .inr (.inl (s_L_orderTimes_ou ti ou q1 q2))))]))) (rest := []) (ci := 3) (q0 := 0) C (c_X3_thrown l hfl D cI cJ (wY cI cJ y d sy sm sd mi ti sL bL mD mT [(o, .inl (cJ, 1, .inr (.inl (s_L_orderTimes_ou ti ou q1 q2))))]) z (s_X3_orderTimes_co q1 q2) d ti sL bL mD mT (zw sy) (zw sm) (zw sd) (zw mi) yr mo dy  ) q_X3_thrown rfl rfl rfl gL_law_X3_thrown ⟨rfl, rfl⟩ rfl rfl (Nat.le_of_ble_eq_true rfl) ⟨Nat.le_of_ble_eq_true rfl, Nat.le_of_ble_eq_true rfl⟩ ⟨Nat.le_trans (by omega) hnc, Nat.le_trans (by omega) hns⟩ dL_law_2874 ?_
  refine z_ws (ws' := (wY cI cJ y d sy sm sd mi ti sL bL mD mT ((o, .inl (cJ, 1, .inr (.inl (s_L_orderTimes_ou ti ou q1 q2)))) :: (wM cI cJ z (s_X3_orderTimes_co q1 q2) d ti sL bL mD mT (zw sy) (zw sm) (zw sd) (zw mi) yr mo dy [])))) [11, 12, 13, 14, 15, 16, 17, 18, 19, 20, 21, 22, 0, 1, 2, 3, 4, 5, 6, 7, 8, 9, 10] rfl (by decide) rfl ?_
  refine z_iload C dL_law_2877 1 rfl ?_
  refine z_icmp_eq (tgt := 2884) C dL_law_2879 (by decide) (fun _ => ?_) (fun h => absurd (g_1) h)
  refine z_iload C dL_law_2884 1 rfl ?_
  refine z_if_ne (tgt := 2901) C dL_law_2886 (by decide) (fun h1 => ?_) (fun h1 => ?_)
  · refine z_goto (tgt := 4233) C dL_law_2901 (by decide) ?_
    refine z_sub [2, 3, 4, 5, 6] rfl ?_
    exact z_widen (by omega) (by omega) kk
  · refine z_aload_n C dL_law_2889 rfl 3 rfl ?_
    refine z_iconst (v := 0) C dL_law_2890 (by decide) ?_
    refine z_lald C 11 1 rfl rfl (zvpl 0 1 (by decide)) dL_law_2891 ?_
    refine z_eqst (st' := [.long ((s_L_orderTimes_ou ti ou q1 q2) 0)]) rfl ?_
    refine z_iload C dL_law_2892 0 rfl ?_
    refine z_i2l (v := ((f_X3_orderTimes ti q1 q2)).toInt64) C dL_law_2894 rfl ?_
    refine z_lcmp_eq (tgt := 2901) C dL_law_2895 dL_law_2896 (by decide) (fun _ => ?_) (fun h => absurd (g_2 h1) h)
    refine z_goto (tgt := 4233) C dL_law_2901 (by decide) ?_
    refine z_sub [2, 3, 4, 5, 6] rfl ?_
    exact z_widen (by omega) (by omega) kk
def pre_Lc31 (ou : Nat → Int64) (q1 : Int32) (q2 : Int32) (q3 : Int32) (q4 : Int32) (q5 : Int32) : Prop := (((s_X3_length_co q1 (((q2).toInt64 <<< ((32 : Int32).toInt64 &&& 63)) ||| ((q3).toInt64 &&& 4294967295)) (((q4).toInt64 <<< ((32 : Int32).toInt64 &&& 63)) ||| ((q5).toInt64 &&& 4294967295))) = (f_L_length q1 (((q2).toInt64 <<< ((32 : Int32).toInt64 &&& 63)) ||| ((q3).toInt64 &&& 4294967295)) (((q4).toInt64 <<< ((32 : Int32).toInt64 &&& 63)) ||| ((q5).toInt64 &&& 4294967295))))) ∧ (((f_L_length q1 (((q2).toInt64 <<< ((32 : Int32).toInt64 &&& 63)) ||| ((q3).toInt64 &&& 4294967295)) (((q4).toInt64 <<< ((32 : Int32).toInt64 &&& 63)) ||| ((q5).toInt64 &&& 4294967295))) = 0) → (((s_L_length_ou ou q1 (((q2).toInt64 <<< ((32 : Int32).toInt64 &&& 63)) ||| ((q3).toInt64 &&& 4294967295)) (((q4).toInt64 <<< ((32 : Int32).toInt64 &&& 63)) ||| ((q5).toInt64 &&& 4294967295))) 0) = (f_X3_length q1 (((q2).toInt64 <<< ((32 : Int32).toInt64 &&& 63)) ||| ((q3).toInt64 &&& 4294967295)) (((q4).toInt64 <<< ((32 : Int32).toInt64 &&& 63)) ||| ((q5).toInt64 &&& 4294967295)))))
set_option maxHeartbeats 4000000 in
set_option maxRecDepth 100000 in
theorem law_c31 {p : Program} {l : Launch} {e : Env} {s : State} {m : MethodId} {args : Array Value} {below : List Frame} {meth : Method} {c : Code} {D : va_G} {cI cJ : ClassId} {A : Nat → Prop} {Q : State → Prop} {ret : Option FieldType} (C : ZC p l s m args meth c 9 D (zTys cI cJ) A cL_law wsL_law RL ret) (hfl : l.stackTraces = false) {b Ln : Nat} {xs : Nat → Int32} (hX : va_X b Ln xs s s.heap) (hbl : b < s.heap.size) (hbA : ¬ A b) (y z : Nat → Nat) (o : Nat) (d : Nat → Int64) (sy : Nat → Int32) (sm : Nat → Int32) (sd : Nat → Int32) (mi : Nat → Int32) (ti : Nat → Int64) (sL : Nat → Int64) (bL : Nat → Int64) (mD : Nat → Int64) (mT : Nat → Int64) (co : Int32) (yr : Int64) (mo : Int32) (dy : Int32) (ou : Nat → Int64) (q1 : Int32) (q2 : Int32) (q3 : Int32) (q4 : Int32) (q5 : Int32) (i4 : Int32) (hv1 : vp_in (i4 + 1) Ln) (hq1 : xs (i4 + 1).toNatClampNeg = q1) (hv2 : vp_in (i4 + 2) Ln) (hq2 : xs (i4 + 2).toNatClampNeg = q2) (hv3 : vp_in (i4 + 3) Ln) (hq3 : xs (i4 + 3).toNatClampNeg = q3) (hv4 : vp_in (i4 + 4) Ln) (hq4 : xs (i4 + 4).toNatClampNeg = q4) (hv5 : vp_in (i4 + 5) Ln) (hq5 : xs (i4 + 5).toNatClampNeg = q5) (nc ns : Nat) (hnc : nc + 6 ≤ room_1.cells) (hns : ns + 36 ≤ room_1.slots) (h_g : pre_Lc31 ou q1 q2 q3 q4 q5) (kk : ZW p l e room_1 s m args below meth c 9 D (zTys cI cJ) A Q (nc + 6) (ns + 36) (wY cI cJ y d sy sm sd mi ti (s_L_length_sL sL q1 (((q2).toInt64 <<< ((32 : Int32).toInt64 &&& 63)) ||| ((q3).toInt64 &&& 4294967295)) (((q4).toInt64 <<< ((32 : Int32).toInt64 &&& 63)) ||| ((q5).toInt64 &&& 4294967295))) (s_L_length_bL bL q1 (((q2).toInt64 <<< ((32 : Int32).toInt64 &&& 63)) ||| ((q3).toInt64 &&& 4294967295)) (((q4).toInt64 <<< ((32 : Int32).toInt64 &&& 63)) ||| ((q5).toInt64 &&& 4294967295))) mD mT ((o, .inl (cJ, 1, .inr (.inl (s_L_length_ou ou q1 (((q2).toInt64 <<< ((32 : Int32).toInt64 &&& 63)) ||| ((q3).toInt64 &&& 4294967295)) (((q4).toInt64 <<< ((32 : Int32).toInt64 &&& 63)) ||| ((q5).toInt64 &&& 4294967295)))))) :: (wM cI cJ z (s_X3_length_co q1 (((q2).toInt64 <<< ((32 : Int32).toInt64 &&& 63)) ||| ((q3).toInt64 &&& 4294967295)) (((q4).toInt64 <<< ((32 : Int32).toInt64 &&& 63)) ||| ((q5).toInt64 &&& 4294967295))) d ti (s_X3_length_sL sL q1 (((q2).toInt64 <<< ((32 : Int32).toInt64 &&& 63)) ||| ((q3).toInt64 &&& 4294967295)) (((q4).toInt64 <<< ((32 : Int32).toInt64 &&& 63)) ||| ((q5).toInt64 &&& 4294967295))) (s_X3_length_bL bL q1 (((q2).toInt64 <<< ((32 : Int32).toInt64 &&& 63)) ||| ((q3).toInt64 &&& 4294967295)) (((q4).toInt64 <<< ((32 : Int32).toInt64 &&& 63)) ||| ((q5).toInt64 &&& 4294967295))) mD mT (zw sy) (zw sm) (zw sd) (zw mi) yr mo dy []))) 4233 [(4, .int i4), (3, .ref o), (2, .ref (z 0)), (1, .ref (y 0)), (0, .ref b)] []) : ZW p l e room_1 s m args below meth c 9 D (zTys cI cJ) A Q nc ns (wY cI cJ y d sy sm sd mi ti sL bL mD mT ((o, .inl (cJ, 1, .inr (.inl ou))) :: (wM cI cJ z co d ti sL bL mD mT (zw sy) (zw sm) (zw sd) (zw mi) yr mo dy []))) 2904 [(4, .int i4), (3, .ref o), (2, .ref (z 0)), (1, .ref (y 0)), (0, .ref b)] [] := by
  have w1 := C.1.2.2.2.2 (.constantLong RL 181 (4294967295)) (by decide +kernel)
  obtain ⟨g_0, g_1⟩ := h_g
  refine z_aload_n C dL_law_2904 rfl 3 rfl ?_
  refine z_aload_n C dL_law_2905 rfl 4 rfl ?_
  refine z_iload C dL_law_2906 0 rfl ?_
  refine z_iconst (v := 1) C dL_law_2908 (by decide) ?_
  refine z_iadd C dL_law_2909 ?_
  refine z_sld C hX hbl hbA hv1 dL_law_2910 ?_
  refine z_eqst (st' := [.int q1, .ref (y 0)]) (congrArg (fun v => Value.int v :: _) hq1) ?_
  refine z_aload_n C dL_law_2911 rfl 4 rfl ?_
  refine z_iload C dL_law_2912 0 rfl ?_
  refine z_iconst (v := 2) C dL_law_2914 (by decide) ?_
  refine z_iadd C dL_law_2915 ?_
  refine z_sld C hX hbl hbA hv2 dL_law_2916 ?_
  refine z_eqst (st' := [.int q2, .int q1, .ref (y 0)]) (congrArg (fun v => Value.int v :: _) hq2) ?_
  refine z_i2l (v := (q2).toInt64) C dL_law_2917 rfl ?_
  refine z_bipush (v := 32) C dL_law_2918 (by decide) ?_
  refine z_lshl (v := ((q2).toInt64 <<< ((32 : Int32).toInt64 &&& 63))) C dL_law_2920 rfl ?_
  refine z_aload_n C dL_law_2921 rfl 4 rfl ?_
  refine z_iload C dL_law_2922 0 rfl ?_
  refine z_iconst (v := 3) C dL_law_2924 (by decide) ?_
  refine z_iadd C dL_law_2925 ?_
  refine z_sld C hX hbl hbA hv3 dL_law_2926 ?_
  refine z_eqst (st' := [.int q3, .long ((q2).toInt64 <<< ((32 : Int32).toInt64 &&& 63)), .int q1, .ref (y 0)]) (congrArg (fun v => Value.int v :: _) hq3) ?_
  refine z_i2l (v := (q3).toInt64) C dL_law_2927 rfl ?_
  refine z_ldc2 (v := 4294967295) C w1 dL_law_2928 ?_
  refine z_land C dL_law_2931 ?_
  refine z_lor C dL_law_2932 ?_
  refine z_aload_n C dL_law_2933 rfl 4 rfl ?_
  refine z_iload C dL_law_2934 0 rfl ?_
  refine z_iconst (v := 4) C dL_law_2936 (by decide) ?_
  refine z_iadd C dL_law_2937 ?_
  refine z_sld C hX hbl hbA hv4 dL_law_2938 ?_
  refine z_eqst (st' := [.int q4, .long (((q2).toInt64 <<< ((32 : Int32).toInt64 &&& 63)) ||| ((q3).toInt64 &&& 4294967295)), .int q1, .ref (y 0)]) (congrArg (fun v => Value.int v :: _) hq4) ?_
  refine z_i2l (v := (q4).toInt64) C dL_law_2939 rfl ?_
  refine z_bipush (v := 32) C dL_law_2940 (by decide) ?_
  refine z_lshl (v := ((q4).toInt64 <<< ((32 : Int32).toInt64 &&& 63))) C dL_law_2942 rfl ?_
  refine z_aload_n C dL_law_2943 rfl 4 rfl ?_
  refine z_iload C dL_law_2944 0 rfl ?_
  refine z_iconst (v := 5) C dL_law_2946 (by decide) ?_
  refine z_iadd C dL_law_2947 ?_
  refine z_sld C hX hbl hbA hv5 dL_law_2948 ?_
  refine z_eqst (st' := [.int q5, .long ((q4).toInt64 <<< ((32 : Int32).toInt64 &&& 63)), .long (((q2).toInt64 <<< ((32 : Int32).toInt64 &&& 63)) ||| ((q3).toInt64 &&& 4294967295)), .int q1, .ref (y 0)]) (congrArg (fun v => Value.int v :: _) hq5) ?_
  refine z_i2l (v := (q5).toInt64) C dL_law_2949 rfl ?_
  refine z_ldc2 (v := 4294967295) C w1 dL_law_2950 ?_
  refine z_land C dL_law_2953 ?_
  refine z_lor C dL_law_2954 ?_
  refine z_aload_n C dL_law_2955 rfl 1 rfl ?_
  refine z_siH (ws' := (wY cI cJ y d sy sm sd mi ti (s_L_length_sL sL q1 (((q2).toInt64 <<< ((32 : Int32).toInt64 &&& 63)) ||| ((q3).toInt64 &&& 4294967295)) (((q4).toInt64 <<< ((32 : Int32).toInt64 &&& 63)) ||| ((q5).toInt64 &&& 4294967295))) (s_L_length_bL bL q1 (((q2).toInt64 <<< ((32 : Int32).toInt64 &&& 63)) ||| ((q3).toInt64 &&& 4294967295)) (((q4).toInt64 <<< ((32 : Int32).toInt64 &&& 63)) ||| ((q5).toInt64 &&& 4294967295))) mD mT ((o, .inl (cJ, 1, .inr (.inl (s_L_length_ou ou q1 (((q2).toInt64 <<< ((32 : Int32).toInt64 &&& 63)) ||| ((q3).toInt64 &&& 4294967295)) (((q4).toInt64 <<< ((32 : Int32).toInt64 &&& 63)) ||| ((q5).toInt64 &&& 4294967295)))))) :: (wM cI cJ z co d ti sL bL mD mT (zw sy) (zw sm) (zw sd) (zw mi) yr mo dy [])))) C (rest := []) (c_L_length l hfl D cI cJ (wM cI cJ z co d ti sL bL mD mT (zw sy) (zw sm) (zw sd) (zw mi) yr mo dy []) y o d sy sm sd mi ti sL bL mD mT ou q1 (((q2).toInt64 <<< ((32 : Int32).toInt64 &&& 63)) ||| ((q3).toInt64 &&& 4294967295)) (((q4).toInt64 <<< ((32 : Int32).toInt64 &&& 63)) ||| ((q5).toInt64 &&& 4294967295)) ) q_L_length gL_law_L_length ⟨rfl, rfl⟩ rfl rfl (Nat.le_of_ble_eq_true rfl) ⟨Nat.le_of_ble_eq_true rfl, Nat.le_of_ble_eq_true rfl⟩ ⟨Nat.le_trans (by omega) hnc, Nat.le_trans (by omega) hns⟩ dL_law_2956 ?_
  refine z_istore (lv' := [(5, .int (f_L_length q1 (((q2).toInt64 <<< ((32 : Int32).toInt64 &&& 63)) ||| ((q3).toInt64 &&& 4294967295)) (((q4).toInt64 <<< ((32 : Int32).toInt64 &&& 63)) ||| ((q5).toInt64 &&& 4294967295)))), (4, .int i4), (3, .ref o), (2, .ref (z 0)), (1, .ref (y 0)), (0, .ref b)]) C dL_law_2959 (by decide) rfl ?_
  refine z_aload_n C dL_law_2961 rfl 3 rfl ?_
  refine z_aload_n C dL_law_2962 rfl 5 rfl ?_
  refine z_iload C dL_law_2963 1 rfl ?_
  refine z_iconst (v := 1) C dL_law_2965 (by decide) ?_
  refine z_iadd C dL_law_2966 ?_
  refine z_sld C hX hbl hbA hv1 dL_law_2967 ?_
  refine z_eqst (st' := [.int q1, .ref (z 0)]) (congrArg (fun v => Value.int v :: _) hq1) ?_
  refine z_aload_n C dL_law_2968 rfl 5 rfl ?_
  refine z_iload C dL_law_2969 1 rfl ?_
  refine z_iconst (v := 2) C dL_law_2971 (by decide) ?_
  refine z_iadd C dL_law_2972 ?_
  refine z_sld C hX hbl hbA hv2 dL_law_2973 ?_
  refine z_eqst (st' := [.int q2, .int q1, .ref (z 0)]) (congrArg (fun v => Value.int v :: _) hq2) ?_
  refine z_i2l (v := (q2).toInt64) C dL_law_2974 rfl ?_
  refine z_bipush (v := 32) C dL_law_2975 (by decide) ?_
  refine z_lshl (v := ((q2).toInt64 <<< ((32 : Int32).toInt64 &&& 63))) C dL_law_2977 rfl ?_
  refine z_aload_n C dL_law_2978 rfl 5 rfl ?_
  refine z_iload C dL_law_2979 1 rfl ?_
  refine z_iconst (v := 3) C dL_law_2981 (by decide) ?_
  refine z_iadd C dL_law_2982 ?_
  refine z_sld C hX hbl hbA hv3 dL_law_2983 ?_
  refine z_eqst (st' := [.int q3, .long ((q2).toInt64 <<< ((32 : Int32).toInt64 &&& 63)), .int q1, .ref (z 0)]) (congrArg (fun v => Value.int v :: _) hq3) ?_
  refine z_i2l (v := (q3).toInt64) C dL_law_2984 rfl ?_
  refine z_ldc2 (v := 4294967295) C w1 dL_law_2985 ?_
  refine z_land C dL_law_2988 ?_
  refine z_lor C dL_law_2989 ?_
  refine z_aload_n C dL_law_2990 rfl 5 rfl ?_
  refine z_iload C dL_law_2991 1 rfl ?_
  refine z_iconst (v := 4) C dL_law_2993 (by decide) ?_
  refine z_iadd C dL_law_2994 ?_
  refine z_sld C hX hbl hbA hv4 dL_law_2995 ?_
  refine z_eqst (st' := [.int q4, .long (((q2).toInt64 <<< ((32 : Int32).toInt64 &&& 63)) ||| ((q3).toInt64 &&& 4294967295)), .int q1, .ref (z 0)]) (congrArg (fun v => Value.int v :: _) hq4) ?_
  refine z_i2l (v := (q4).toInt64) C dL_law_2996 rfl ?_
  refine z_bipush (v := 32) C dL_law_2997 (by decide) ?_
  refine z_lshl (v := ((q4).toInt64 <<< ((32 : Int32).toInt64 &&& 63))) C dL_law_2999 rfl ?_
  refine z_aload_n C dL_law_3000 rfl 5 rfl ?_
  refine z_iload C dL_law_3001 1 rfl ?_
  refine z_iconst (v := 5) C dL_law_3003 (by decide) ?_
  refine z_iadd C dL_law_3004 ?_
  refine z_sld C hX hbl hbA hv5 dL_law_3005 ?_
  refine z_eqst (st' := [.int q5, .long ((q4).toInt64 <<< ((32 : Int32).toInt64 &&& 63)), .long (((q2).toInt64 <<< ((32 : Int32).toInt64 &&& 63)) ||| ((q3).toInt64 &&& 4294967295)), .int q1, .ref (z 0)]) (congrArg (fun v => Value.int v :: _) hq5) ?_
  refine z_i2l (v := (q5).toInt64) C dL_law_3006 rfl ?_
  refine z_ldc2 (v := 4294967295) C w1 dL_law_3007 ?_
  refine z_land C dL_law_3010 ?_
  refine z_lor C dL_law_3011 ?_
  refine z_ws (ws' := (wM cI cJ z co d ti sL bL mD mT (zw sy) (zw sm) (zw sd) (zw mi) yr mo dy (wY cI cJ y d sy sm sd mi ti (s_L_length_sL sL q1 (((q2).toInt64 <<< ((32 : Int32).toInt64 &&& 63)) ||| ((q3).toInt64 &&& 4294967295)) (((q4).toInt64 <<< ((32 : Int32).toInt64 &&& 63)) ||| ((q5).toInt64 &&& 4294967295))) (s_L_length_bL bL q1 (((q2).toInt64 <<< ((32 : Int32).toInt64 &&& 63)) ||| ((q3).toInt64 &&& 4294967295)) (((q4).toInt64 <<< ((32 : Int32).toInt64 &&& 63)) ||| ((q5).toInt64 &&& 4294967295))) mD mT [(o, .inl (cJ, 1, .inr (.inl (s_L_length_ou ou q1 (((q2).toInt64 <<< ((32 : Int32).toInt64 &&& 63)) ||| ((q3).toInt64 &&& 4294967295)) (((q4).toInt64 <<< ((32 : Int32).toInt64 &&& 63)) ||| ((q5).toInt64 &&& 4294967295))))))]))) [12, 13, 14, 15, 16, 17, 18, 19, 20, 21, 22, 0, 1, 2, 3, 4, 5, 6, 7, 8, 9, 10, 11] rfl (by decide) rfl ?_
  refine z_wl (ws' := (wM cI cJ z (s_X3_length_co q1 (((q2).toInt64 <<< ((32 : Int32).toInt64 &&& 63)) ||| ((q3).toInt64 &&& 4294967295)) (((q4).toInt64 <<< ((32 : Int32).toInt64 &&& 63)) ||| ((q5).toInt64 &&& 4294967295))) d ti (s_X3_length_sL sL q1 (((q2).toInt64 <<< ((32 : Int32).toInt64 &&& 63)) ||| ((q3).toInt64 &&& 4294967295)) (((q4).toInt64 <<< ((32 : Int32).toInt64 &&& 63)) ||| ((q5).toInt64 &&& 4294967295))) (s_X3_length_bL bL q1 (((q2).toInt64 <<< ((32 : Int32).toInt64 &&& 63)) ||| ((q3).toInt64 &&& 4294967295)) (((q4).toInt64 <<< ((32 : Int32).toInt64 &&& 63)) ||| ((q5).toInt64 &&& 4294967295))) mD mT (zw sy) (zw sm) (zw sd) (zw mi) yr mo dy (wY cI cJ y d sy sm sd mi ti (s_L_length_sL sL q1 (((q2).toInt64 <<< ((32 : Int32).toInt64 &&& 63)) ||| ((q3).toInt64 &&& 4294967295)) (((q4).toInt64 <<< ((32 : Int32).toInt64 &&& 63)) ||| ((q5).toInt64 &&& 4294967295))) (s_L_length_bL bL q1 (((q2).toInt64 <<< ((32 : Int32).toInt64 &&& 63)) ||| ((q3).toInt64 &&& 4294967295)) (((q4).toInt64 <<< ((32 : Int32).toInt64 &&& 63)) ||| ((q5).toInt64 &&& 4294967295))) mD mT [(o, .inl (cJ, 1, .inr (.inl (s_L_length_ou ou q1 (((q2).toInt64 <<< ((32 : Int32).toInt64 &&& 63)) ||| ((q3).toInt64 &&& 4294967295)) (((q4).toInt64 <<< ((32 : Int32).toInt64 &&& 63)) ||| ((q5).toInt64 &&& 4294967295))))))]))) (rest := []) (ci := 3) (q0 := 0) C (c_X3_length l hfl D cI cJ (wY cI cJ y d sy sm sd mi ti (s_L_length_sL sL q1 (((q2).toInt64 <<< ((32 : Int32).toInt64 &&& 63)) ||| ((q3).toInt64 &&& 4294967295)) (((q4).toInt64 <<< ((32 : Int32).toInt64 &&& 63)) ||| ((q5).toInt64 &&& 4294967295))) (s_L_length_bL bL q1 (((q2).toInt64 <<< ((32 : Int32).toInt64 &&& 63)) ||| ((q3).toInt64 &&& 4294967295)) (((q4).toInt64 <<< ((32 : Int32).toInt64 &&& 63)) ||| ((q5).toInt64 &&& 4294967295))) mD mT [(o, .inl (cJ, 1, .inr (.inl (s_L_length_ou ou q1 (((q2).toInt64 <<< ((32 : Int32).toInt64 &&& 63)) ||| ((q3).toInt64 &&& 4294967295)) (((q4).toInt64 <<< ((32 : Int32).toInt64 &&& 63)) ||| ((q5).toInt64 &&& 4294967295))))))]) z co d ti sL bL mD mT (zw sy) (zw sm) (zw sd) (zw mi) yr mo dy q1 (((q2).toInt64 <<< ((32 : Int32).toInt64 &&& 63)) ||| ((q3).toInt64 &&& 4294967295)) (((q4).toInt64 <<< ((32 : Int32).toInt64 &&& 63)) ||| ((q5).toInt64 &&& 4294967295)) ) q_X3_length rfl rfl rfl gL_law_X3_length ⟨rfl, rfl⟩ rfl rfl (Nat.le_of_ble_eq_true rfl) ⟨Nat.le_of_ble_eq_true rfl, Nat.le_of_ble_eq_true rfl⟩ ⟨Nat.le_trans (by omega) hnc, Nat.le_trans (by omega) hns⟩ dL_law_3012 ?_
  refine z_ws (ws' := (wY cI cJ y d sy sm sd mi ti (s_L_length_sL sL q1 (((q2).toInt64 <<< ((32 : Int32).toInt64 &&& 63)) ||| ((q3).toInt64 &&& 4294967295)) (((q4).toInt64 <<< ((32 : Int32).toInt64 &&& 63)) ||| ((q5).toInt64 &&& 4294967295))) (s_L_length_bL bL q1 (((q2).toInt64 <<< ((32 : Int32).toInt64 &&& 63)) ||| ((q3).toInt64 &&& 4294967295)) (((q4).toInt64 <<< ((32 : Int32).toInt64 &&& 63)) ||| ((q5).toInt64 &&& 4294967295))) mD mT ((o, .inl (cJ, 1, .inr (.inl (s_L_length_ou ou q1 (((q2).toInt64 <<< ((32 : Int32).toInt64 &&& 63)) ||| ((q3).toInt64 &&& 4294967295)) (((q4).toInt64 <<< ((32 : Int32).toInt64 &&& 63)) ||| ((q5).toInt64 &&& 4294967295)))))) :: (wM cI cJ z (s_X3_length_co q1 (((q2).toInt64 <<< ((32 : Int32).toInt64 &&& 63)) ||| ((q3).toInt64 &&& 4294967295)) (((q4).toInt64 <<< ((32 : Int32).toInt64 &&& 63)) ||| ((q5).toInt64 &&& 4294967295))) d ti (s_X3_length_sL sL q1 (((q2).toInt64 <<< ((32 : Int32).toInt64 &&& 63)) ||| ((q3).toInt64 &&& 4294967295)) (((q4).toInt64 <<< ((32 : Int32).toInt64 &&& 63)) ||| ((q5).toInt64 &&& 4294967295))) (s_X3_length_bL bL q1 (((q2).toInt64 <<< ((32 : Int32).toInt64 &&& 63)) ||| ((q3).toInt64 &&& 4294967295)) (((q4).toInt64 <<< ((32 : Int32).toInt64 &&& 63)) ||| ((q5).toInt64 &&& 4294967295))) mD mT (zw sy) (zw sm) (zw sd) (zw mi) yr mo dy [])))) [11, 12, 13, 14, 15, 16, 17, 18, 19, 20, 21, 22, 0, 1, 2, 3, 4, 5, 6, 7, 8, 9, 10] rfl (by decide) rfl ?_
  refine z_lstore (lv' := [(6, .long (f_X3_length q1 (((q2).toInt64 <<< ((32 : Int32).toInt64 &&& 63)) ||| ((q3).toInt64 &&& 4294967295)) (((q4).toInt64 <<< ((32 : Int32).toInt64 &&& 63)) ||| ((q5).toInt64 &&& 4294967295)))), (5, .int (f_L_length q1 (((q2).toInt64 <<< ((32 : Int32).toInt64 &&& 63)) ||| ((q3).toInt64 &&& 4294967295)) (((q4).toInt64 <<< ((32 : Int32).toInt64 &&& 63)) ||| ((q5).toInt64 &&& 4294967295)))), (4, .int i4), (3, .ref o), (2, .ref (z 0)), (1, .ref (y 0)), (0, .ref b)]) C dL_law_3015 (by decide) rfl ?_
  refine z_aload_n C dL_law_3017 rfl 4 rfl ?_
  refine z_ws (ws' := (wM cI cJ z (s_X3_length_co q1 (((q2).toInt64 <<< ((32 : Int32).toInt64 &&& 63)) ||| ((q3).toInt64 &&& 4294967295)) (((q4).toInt64 <<< ((32 : Int32).toInt64 &&& 63)) ||| ((q5).toInt64 &&& 4294967295))) d ti (s_X3_length_sL sL q1 (((q2).toInt64 <<< ((32 : Int32).toInt64 &&& 63)) ||| ((q3).toInt64 &&& 4294967295)) (((q4).toInt64 <<< ((32 : Int32).toInt64 &&& 63)) ||| ((q5).toInt64 &&& 4294967295))) (s_X3_length_bL bL q1 (((q2).toInt64 <<< ((32 : Int32).toInt64 &&& 63)) ||| ((q3).toInt64 &&& 4294967295)) (((q4).toInt64 <<< ((32 : Int32).toInt64 &&& 63)) ||| ((q5).toInt64 &&& 4294967295))) mD mT (zw sy) (zw sm) (zw sd) (zw mi) yr mo dy (wY cI cJ y d sy sm sd mi ti (s_L_length_sL sL q1 (((q2).toInt64 <<< ((32 : Int32).toInt64 &&& 63)) ||| ((q3).toInt64 &&& 4294967295)) (((q4).toInt64 <<< ((32 : Int32).toInt64 &&& 63)) ||| ((q5).toInt64 &&& 4294967295))) (s_L_length_bL bL q1 (((q2).toInt64 <<< ((32 : Int32).toInt64 &&& 63)) ||| ((q3).toInt64 &&& 4294967295)) (((q4).toInt64 <<< ((32 : Int32).toInt64 &&& 63)) ||| ((q5).toInt64 &&& 4294967295))) mD mT [(o, .inl (cJ, 1, .inr (.inl (s_L_length_ou ou q1 (((q2).toInt64 <<< ((32 : Int32).toInt64 &&& 63)) ||| ((q3).toInt64 &&& 4294967295)) (((q4).toInt64 <<< ((32 : Int32).toInt64 &&& 63)) ||| ((q5).toInt64 &&& 4294967295))))))]))) [12, 13, 14, 15, 16, 17, 18, 19, 20, 21, 22, 0, 1, 2, 3, 4, 5, 6, 7, 8, 9, 10, 11] rfl (by decide) rfl ?_
  refine z_wi (ws' := (wM cI cJ z (s_X3_length_co q1 (((q2).toInt64 <<< ((32 : Int32).toInt64 &&& 63)) ||| ((q3).toInt64 &&& 4294967295)) (((q4).toInt64 <<< ((32 : Int32).toInt64 &&& 63)) ||| ((q5).toInt64 &&& 4294967295))) d ti (s_X3_length_sL sL q1 (((q2).toInt64 <<< ((32 : Int32).toInt64 &&& 63)) ||| ((q3).toInt64 &&& 4294967295)) (((q4).toInt64 <<< ((32 : Int32).toInt64 &&& 63)) ||| ((q5).toInt64 &&& 4294967295))) (s_X3_length_bL bL q1 (((q2).toInt64 <<< ((32 : Int32).toInt64 &&& 63)) ||| ((q3).toInt64 &&& 4294967295)) (((q4).toInt64 <<< ((32 : Int32).toInt64 &&& 63)) ||| ((q5).toInt64 &&& 4294967295))) mD mT (zw sy) (zw sm) (zw sd) (zw mi) yr mo dy (wY cI cJ y d sy sm sd mi ti (s_L_length_sL sL q1 (((q2).toInt64 <<< ((32 : Int32).toInt64 &&& 63)) ||| ((q3).toInt64 &&& 4294967295)) (((q4).toInt64 <<< ((32 : Int32).toInt64 &&& 63)) ||| ((q5).toInt64 &&& 4294967295))) (s_L_length_bL bL q1 (((q2).toInt64 <<< ((32 : Int32).toInt64 &&& 63)) ||| ((q3).toInt64 &&& 4294967295)) (((q4).toInt64 <<< ((32 : Int32).toInt64 &&& 63)) ||| ((q5).toInt64 &&& 4294967295))) mD mT [(o, .inl (cJ, 1, .inr (.inl (s_L_length_ou ou q1 (((q2).toInt64 <<< ((32 : Int32).toInt64 &&& 63)) ||| ((q3).toInt64 &&& 4294967295)) (((q4).toInt64 <<< ((32 : Int32).toInt64 &&& 63)) ||| ((q5).toInt64 &&& 4294967295))))))]))) (rest := []) (ci := 3) (q0 := 0) C (c_X3_thrown l hfl D cI cJ (wY cI cJ y d sy sm sd mi ti (s_L_length_sL sL q1 (((q2).toInt64 <<< ((32 : Int32).toInt64 &&& 63)) ||| ((q3).toInt64 &&& 4294967295)) (((q4).toInt64 <<< ((32 : Int32).toInt64 &&& 63)) ||| ((q5).toInt64 &&& 4294967295))) (s_L_length_bL bL q1 (((q2).toInt64 <<< ((32 : Int32).toInt64 &&& 63)) ||| ((q3).toInt64 &&& 4294967295)) (((q4).toInt64 <<< ((32 : Int32).toInt64 &&& 63)) ||| ((q5).toInt64 &&& 4294967295))) mD mT [(o, .inl (cJ, 1, .inr (.inl (s_L_length_ou ou q1 (((q2).toInt64 <<< ((32 : Int32).toInt64 &&& 63)) ||| ((q3).toInt64 &&& 4294967295)) (((q4).toInt64 <<< ((32 : Int32).toInt64 &&& 63)) ||| ((q5).toInt64 &&& 4294967295))))))]) z (s_X3_length_co q1 (((q2).toInt64 <<< ((32 : Int32).toInt64 &&& 63)) ||| ((q3).toInt64 &&& 4294967295)) (((q4).toInt64 <<< ((32 : Int32).toInt64 &&& 63)) ||| ((q5).toInt64 &&& 4294967295))) d ti (s_X3_length_sL sL q1 (((q2).toInt64 <<< ((32 : Int32).toInt64 &&& 63)) ||| ((q3).toInt64 &&& 4294967295)) (((q4).toInt64 <<< ((32 : Int32).toInt64 &&& 63)) ||| ((q5).toInt64 &&& 4294967295))) (s_X3_length_bL bL q1 (((q2).toInt64 <<< ((32 : Int32).toInt64 &&& 63)) ||| ((q3).toInt64 &&& 4294967295)) (((q4).toInt64 <<< ((32 : Int32).toInt64 &&& 63)) ||| ((q5).toInt64 &&& 4294967295))) mD mT (zw sy) (zw sm) (zw sd) (zw mi) yr mo dy  ) q_X3_thrown rfl rfl rfl gL_law_X3_thrown ⟨rfl, rfl⟩ rfl rfl (Nat.le_of_ble_eq_true rfl) ⟨Nat.le_of_ble_eq_true rfl, Nat.le_of_ble_eq_true rfl⟩ ⟨Nat.le_trans (by omega) hnc, Nat.le_trans (by omega) hns⟩ dL_law_3018 ?_
  refine z_ws (ws' := (wY cI cJ y d sy sm sd mi ti (s_L_length_sL sL q1 (((q2).toInt64 <<< ((32 : Int32).toInt64 &&& 63)) ||| ((q3).toInt64 &&& 4294967295)) (((q4).toInt64 <<< ((32 : Int32).toInt64 &&& 63)) ||| ((q5).toInt64 &&& 4294967295))) (s_L_length_bL bL q1 (((q2).toInt64 <<< ((32 : Int32).toInt64 &&& 63)) ||| ((q3).toInt64 &&& 4294967295)) (((q4).toInt64 <<< ((32 : Int32).toInt64 &&& 63)) ||| ((q5).toInt64 &&& 4294967295))) mD mT ((o, .inl (cJ, 1, .inr (.inl (s_L_length_ou ou q1 (((q2).toInt64 <<< ((32 : Int32).toInt64 &&& 63)) ||| ((q3).toInt64 &&& 4294967295)) (((q4).toInt64 <<< ((32 : Int32).toInt64 &&& 63)) ||| ((q5).toInt64 &&& 4294967295)))))) :: (wM cI cJ z (s_X3_length_co q1 (((q2).toInt64 <<< ((32 : Int32).toInt64 &&& 63)) ||| ((q3).toInt64 &&& 4294967295)) (((q4).toInt64 <<< ((32 : Int32).toInt64 &&& 63)) ||| ((q5).toInt64 &&& 4294967295))) d ti (s_X3_length_sL sL q1 (((q2).toInt64 <<< ((32 : Int32).toInt64 &&& 63)) ||| ((q3).toInt64 &&& 4294967295)) (((q4).toInt64 <<< ((32 : Int32).toInt64 &&& 63)) ||| ((q5).toInt64 &&& 4294967295))) (s_X3_length_bL bL q1 (((q2).toInt64 <<< ((32 : Int32).toInt64 &&& 63)) ||| ((q3).toInt64 &&& 4294967295)) (((q4).toInt64 <<< ((32 : Int32).toInt64 &&& 63)) ||| ((q5).toInt64 &&& 4294967295))) mD mT (zw sy) (zw sm) (zw sd) (zw mi) yr mo dy [])))) [11, 12, 13, 14, 15, 16, 17, 18, 19, 20, 21, 22, 0, 1, 2, 3, 4, 5, 6, 7, 8, 9, 10] rfl (by decide) rfl ?_
  refine z_iload C dL_law_3021 1 rfl ?_
  refine z_icmp_eq (tgt := 3028) C dL_law_3023 (by decide) (fun _ => ?_) (fun h => absurd (g_0) h)
  refine z_iload C dL_law_3028 1 rfl ?_
  refine z_if_ne (tgt := 3044) C dL_law_3030 (by decide) (fun h1 => ?_) (fun h1 => ?_)
  · refine z_goto (tgt := 4233) C dL_law_3044 (by decide) ?_
    refine z_sub [2, 3, 4, 5, 6] rfl ?_
    exact z_widen (by omega) (by omega) kk
  · refine z_aload_n C dL_law_3033 rfl 3 rfl ?_
    refine z_iconst (v := 0) C dL_law_3034 (by decide) ?_
    refine z_lald C 11 1 rfl rfl (zvpl 0 1 (by decide)) dL_law_3035 ?_
    refine z_eqst (st' := [.long ((s_L_length_ou ou q1 (((q2).toInt64 <<< ((32 : Int32).toInt64 &&& 63)) ||| ((q3).toInt64 &&& 4294967295)) (((q4).toInt64 <<< ((32 : Int32).toInt64 &&& 63)) ||| ((q5).toInt64 &&& 4294967295))) 0)]) rfl ?_
    refine z_lload C dL_law_3036 0 rfl ?_
    refine z_lcmp_eq (tgt := 3044) C dL_law_3038 dL_law_3039 (by decide) (fun _ => ?_) (fun h => absurd (g_1 h1) h)
    refine z_goto (tgt := 4233) C dL_law_3044 (by decide) ?_
    refine z_sub [2, 3, 4, 5, 6] rfl ?_
    exact z_widen (by omega) (by omega) kk
