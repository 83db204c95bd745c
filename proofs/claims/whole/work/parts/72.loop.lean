section ZLR
set_option maxHeartbeats 4000000 in
set_option maxRecDepth 100000 in
theorem law_step {p : Program} {l : Launch} {e : Env} {s : State} {m : MethodId} {args : Array Value} {below : List Frame} {meth : Method} {c : Code} {D : va_G} {cI cJ : ClassId} {A : Nat → Prop} {Q : State → Prop} {ret : Option FieldType} (C : ZC p l s m args meth c 9 D (zTys cI cJ) A cL_law wsL_law RL ret) (hfl : l.stackTraces = false) {b Ln : Nat} {xs : Nat → Int32} (hX : va_X b Ln xs s s.heap) (hbl : b < s.heap.size) (hbA : ¬ A b) (y z : Nat → Nat) (o : Nat) (d : Nat → Int64) (sy : Nat → Int32) (sm : Nat → Int32) (sd : Nat → Int32) (mi : Nat → Int32) (ti : Nat → Int64) (sL : Nat → Int64) (bL : Nat → Int64) (mD : Nat → Int64) (mT : Nat → Int64) (co : Int32) (yr : Int64) (mo : Int32) (dy : Int32) (ou : Nat → Int64) (i4 : Int32) (K : Int) (hi : i4.toInt = K) (hK : 0 ≤ K) (hLn : Ln ≤ 3072) (nc ns : Nat) (hnc : nc + 6 ≤ room_1.cells) (hns : ns + 36 ≤ room_1.slots) (I : iInv d sy sm sd mi ti sL bL mD mT) (kk : K + 6 ≤ Ln → ∀ (d' : Nat → Int64) (sy' : Nat → Int32) (sm' : Nat → Int32) (sd' : Nat → Int32) (mi' : Nat → Int32) (ti' : Nat → Int64) (sL' : Nat → Int64) (bL' : Nat → Int64) (mD' : Nat → Int64) (mT' : Nat → Int64) (co' : Int32) (yr' : Int64) (mo' : Int32) (dy' : Int32) (ou' : Nat → Int64), iInv d' sy' sm' sd' mi' ti' sL' bL' mD' mT' → ZL p l e s m args below meth c D cI cJ A Q b y z o (nc + 6) (ns + 36) 4233 i4 d' sy' sm' sd' mi' ti' sL' bL' mD' mT' co' yr' mo' dy' ou') (kend : (Ln : Int) < K + 6 → ZL p l e s m args below meth c D cI cJ A Q b y z o (nc) (ns) 4239 i4 d sy sm sd mi ti sL bL mD mT co yr mo dy ou) : ZL p l e s m args below meth c D cI cJ A Q b y z o (nc) (ns) 23 i4 d sy sm sd mi ti sL bL mD mT co yr mo dy ou := by
  have e6 : (6 : Int32).toInt = 6 := rfl
  have eL : (Int32.ofNat Ln).toInt = (Ln : Int) := Int32.toInt_ofNat_of_lt (by omega)
  have eM := p_sub32 eL e6 (by omega) (by omega)
  have cc := p_lt32 eM hi
  refine z_iload C dL_law_23 0 rfl ?_
  refine z_aload_n C dL_law_25 rfl 4 rfl ?_
  refine z_slen C hX hbl hbA dL_law_26 ?_
  refine z_bipush (v := 6) C dL_law_27 (by decide) ?_
  refine z_isub C dL_law_29 ?_
  refine z_icmp_gt (tgt := 4239) C dL_law_30 (by decide) (fun h => kend (by have := cc.mp h; omega)) (fun h => ?_)
  have hin : K + 6 ≤ Ln := Int.not_lt.mp (fun h9 => h (cc.mpr (by omega)))
  have kk := kk hin
  have hv0 : vp_in i4 Ln := vp_of (by rw [hi]; omega) (by rw [hi]; omega)
  have hv1 : vp_in (i4 + 1) Ln := by
    have e := p_add32 hi (show (1 : Int32).toInt = 1 from rfl) (by omega) (by omega)
    exact vp_of (by rw [e]; omega) (by rw [e]; omega)
  have hv2 : vp_in (i4 + 2) Ln := by
    have e := p_add32 hi (show (2 : Int32).toInt = 2 from rfl) (by omega) (by omega)
    exact vp_of (by rw [e]; omega) (by rw [e]; omega)
  have hv3 : vp_in (i4 + 3) Ln := by
    have e := p_add32 hi (show (3 : Int32).toInt = 3 from rfl) (by omega) (by omega)
    exact vp_of (by rw [e]; omega) (by rw [e]; omega)
  have hv4 : vp_in (i4 + 4) Ln := by
    have e := p_add32 hi (show (4 : Int32).toInt = 4 from rfl) (by omega) (by omega)
    exact vp_of (by rw [e]; omega) (by rw [e]; omega)
  have hv5 : vp_in (i4 + 5) Ln := by
    have e := p_add32 hi (show (5 : Int32).toInt = 5 from rfl) (by omega) (by omega)
    exact vp_of (by rw [e]; omega) (by rw [e]; omega)
  refine z_aload_n C dL_law_33 rfl 4 rfl ?_
  refine z_iload C dL_law_34 0 rfl ?_
  refine z_sld C hX hbl hbA hv0 dL_law_36 ?_
  refine z_bipush (v := 63) C dL_law_37 (by decide) ?_
  refine z_iand C dL_law_39 ?_
  generalize xs i4.toNatClampNeg &&& 63 = x
  refine zcases (x = 0) (fun h => ?_) (fun h0 => ?_)
  · subst h
    exact z_tableIn (off := 212) (tgt := 252) C dL_law_40 (by decide) (by decide) (by decide) (by decide) (law_d0 C hfl hX hbl hbA y z o d sy sm sd mi ti sL bL mD mT co yr mo dy ou _ _ _ _ _ i4 hv1 rfl hv2 rfl hv3 rfl hv4 rfl hv5 rfl nc ns hnc hns I kk)
  refine zcases (x = 1) (fun h => ?_) (fun h1 => ?_)
  · subst h
    exact z_tableIn (off := 303) (tgt := 343) C dL_law_40 (by decide) (by decide) (by decide) (by decide) (law_d1 C hfl hX hbl hbA y z o d sy sm sd mi ti sL bL mD mT co yr mo dy ou _ _ _ _ _ i4 hv1 rfl hv2 rfl hv3 rfl hv4 rfl hv5 rfl nc ns hnc hns I kk)
  refine zcases (x = 2) (fun h => ?_) (fun h2 => ?_)
  · subst h
    exact z_tableIn (off := 403) (tgt := 443) C dL_law_40 (by decide) (by decide) (by decide) (by decide) (law_d2 C hfl hX hbl hbA y z o d sy sm sd mi ti sL bL mD mT co yr mo dy ou _ _ _ _ _ i4 hv1 rfl hv2 rfl hv3 rfl hv4 rfl hv5 rfl nc ns hnc hns I kk)
  refine zcases (x = 3) (fun h => ?_) (fun h3 => ?_)
  · subst h
    exact z_tableIn (off := 458) (tgt := 498) C dL_law_40 (by decide) (by decide) (by decide) (by decide) (law_d3 C hfl hX hbl hbA y z o d sy sm sd mi ti sL bL mD mT co yr mo dy ou _ _ _ _ _ i4 hv1 rfl hv2 rfl hv3 rfl hv4 rfl hv5 rfl nc ns hnc hns I kk)
  refine zcases (x = 4) (fun h => ?_) (fun h4 => ?_)
  · subst h
    exact z_tableIn (off := 528) (tgt := 568) C dL_law_40 (by decide) (by decide) (by decide) (by decide) (law_d4 C hfl hX hbl hbA y z o d sy sm sd mi ti sL bL mD mT co yr mo dy ou _ _ _ _ _ i4 hv1 rfl hv2 rfl hv3 rfl hv4 rfl hv5 rfl nc ns hnc hns I kk)
  refine zcases (x = 5) (fun h => ?_) (fun h5 => ?_)
  · subst h
    exact z_tableIn (off := 621) (tgt := 661) C dL_law_40 (by decide) (by decide) (by decide) (by decide) (law_d5 C hfl hX hbl hbA y z o d sy sm sd mi ti sL bL mD mT co yr mo dy ou _ _ _ _ _ i4 hv1 rfl hv2 rfl hv3 rfl hv4 rfl hv5 rfl nc ns hnc hns I kk)
  refine zcases (x = 6) (fun h => ?_) (fun h6 => ?_)
  · subst h
    exact z_tableIn (off := 714) (tgt := 754) C dL_law_40 (by decide) (by decide) (by decide) (by decide) (law_d6 C hfl hX hbl hbA y z o d sy sm sd mi ti sL bL mD mT co yr mo dy ou _ _ _ _ _ i4 hv1 rfl hv2 rfl hv3 rfl hv4 rfl hv5 rfl nc ns hnc hns I kk)
  refine zcases (x = 7) (fun h => ?_) (fun h7 => ?_)
  · subst h
    exact z_tableIn (off := 795) (tgt := 835) C dL_law_40 (by decide) (by decide) (by decide) (by decide) (law_d7 C hfl hX hbl hbA y z o d sy sm sd mi ti sL bL mD mT co yr mo dy ou _ _ _ _ _ i4 hv1 rfl hv2 rfl hv3 rfl hv4 rfl hv5 rfl nc ns hnc hns I kk)
  refine zcases (x = 8) (fun h => ?_) (fun h8 => ?_)
  · subst h
    exact z_tableIn (off := 888) (tgt := 928) C dL_law_40 (by decide) (by decide) (by decide) (by decide) (law_d8 C hfl hX hbl hbA y z o d sy sm sd mi ti sL bL mD mT co yr mo dy ou _ _ _ _ _ i4 hv1 rfl hv2 rfl hv3 rfl hv4 rfl hv5 rfl nc ns hnc hns I kk)
  refine zcases (x = 9) (fun h => ?_) (fun h9 => ?_)
  · subst h
    exact z_tableIn (off := 979) (tgt := 1019) C dL_law_40 (by decide) (by decide) (by decide) (by decide) (law_d9 C hfl hX hbl hbA y z o d sy sm sd mi ti sL bL mD mT co yr mo dy ou _ _ _ _ _ i4 hv1 rfl hv2 rfl hv3 rfl hv4 rfl hv5 rfl nc ns hnc hns I kk)
  refine zcases (x = 10) (fun h => ?_) (fun h10 => ?_)
  · subst h
    exact z_tableIn (off := 1070) (tgt := 1110) C dL_law_40 (by decide) (by decide) (by decide) (by decide) (law_d10 C hfl hX hbl hbA y z o d sy sm sd mi ti sL bL mD mT co yr mo dy ou _ _ _ _ _ i4 hv1 rfl hv2 rfl hv3 rfl hv4 rfl hv5 rfl nc ns hnc hns I kk)
  refine zcases (x = 11) (fun h => ?_) (fun h11 => ?_)
  · subst h
    exact z_tableIn (off := 1138) (tgt := 1178) C dL_law_40 (by decide) (by decide) (by decide) (by decide) (law_d11 C hfl hX hbl hbA y z o d sy sm sd mi ti sL bL mD mT co yr mo dy ou _ _ _ _ _ i4 hv1 rfl hv2 rfl hv3 rfl hv4 rfl hv5 rfl nc ns hnc hns I kk)
  refine zcases (x = 12) (fun h => ?_) (fun h12 => ?_)
  · subst h
    exact z_tableIn (off := 1219) (tgt := 1259) C dL_law_40 (by decide) (by decide) (by decide) (by decide) (law_d12 C hfl hX hbl hbA y z o d sy sm sd mi ti sL bL mD mT co yr mo dy ou _ _ _ _ _ i4 hv1 rfl hv2 rfl hv3 rfl hv4 rfl hv5 rfl nc ns hnc hns I kk)
  refine zcases (x = 13) (fun h => ?_) (fun h13 => ?_)
  · subst h
    exact z_tableIn (off := 1310) (tgt := 1350) C dL_law_40 (by decide) (by decide) (by decide) (by decide) (law_d13 C hfl hX hbl hbA y z o d sy sm sd mi ti sL bL mD mT co yr mo dy ou _ _ _ _ _ i4 hv1 rfl hv2 rfl hv3 rfl hv4 rfl hv5 rfl nc ns hnc hns I kk)
  refine zcases (x = 14) (fun h => ?_) (fun h14 => ?_)
  · subst h
    exact z_tableIn (off := 1389) (tgt := 1429) C dL_law_40 (by decide) (by decide) (by decide) (by decide) (law_d14 C hfl hX hbl hbA y z o d sy sm sd mi ti sL bL mD mT co yr mo dy ou _ _ _ _ _ i4 hv1 rfl hv2 rfl hv3 rfl hv4 rfl hv5 rfl nc ns hnc hns I kk)
  refine zcases (x = 15) (fun h => ?_) (fun h15 => ?_)
  · subst h
    exact z_tableIn (off := 1496) (tgt := 1536) C dL_law_40 (by decide) (by decide) (by decide) (by decide) (law_d15 C hfl hX hbl hbA y z o d sy sm sd mi ti sL bL mD mT co yr mo dy ou _ _ _ _ _ i4 hv1 rfl hv2 rfl hv3 rfl hv4 rfl hv5 rfl nc ns hnc hns I kk)
  refine zcases (x = 16) (fun h => ?_) (fun h16 => ?_)
  · subst h
    exact z_tableIn (off := 1566) (tgt := 1606) C dL_law_40 (by decide) (by decide) (by decide) (by decide) (law_d16 C hfl hX hbl hbA y z o d sy sm sd mi ti sL bL mD mT co yr mo dy ou _ _ _ _ _ i4 hv1 rfl hv2 rfl hv3 rfl hv4 rfl hv5 rfl nc ns hnc hns I kk)
  refine zcases (x = 17) (fun h => ?_) (fun h17 => ?_)
  · subst h
    exact z_tableIn (off := 1673) (tgt := 1713) C dL_law_40 (by decide) (by decide) (by decide) (by decide) (law_d17 C hfl hX hbl hbA y z o d sy sm sd mi ti sL bL mD mT co yr mo dy ou _ _ _ _ _ i4 hv1 rfl hv2 rfl hv3 rfl hv4 rfl hv5 rfl nc ns hnc hns I kk)
  refine zcases (x = 18) (fun h => ?_) (fun h18 => ?_)
  · subst h
    exact z_tableIn (off := 1752) (tgt := 1792) C dL_law_40 (by decide) (by decide) (by decide) (by decide) (law_d18 C hfl hX hbl hbA y z o d sy sm sd mi ti sL bL mD mT co yr mo dy ou _ _ _ _ _ i4 hv1 rfl hv2 rfl hv3 rfl hv4 rfl hv5 rfl nc ns hnc hns I kk)
  refine zcases (x = 19) (fun h => ?_) (fun h19 => ?_)
  · subst h
    exact z_tableIn (off := 1819) (tgt := 1859) C dL_law_40 (by decide) (by decide) (by decide) (by decide) (law_d19 C hfl hX hbl hbA y z o d sy sm sd mi ti sL bL mD mT co yr mo dy ou _ _ _ _ _ i4 hv1 rfl hv2 rfl hv3 rfl hv4 rfl hv5 rfl nc ns hnc hns I kk)
  refine zcases (x = 20) (fun h => ?_) (fun h20 => ?_)
  · subst h
    exact z_tableIn (off := 1899) (tgt := 1939) C dL_law_40 (by decide) (by decide) (by decide) (by decide) (law_d20 C hfl hX hbl hbA y z o d sy sm sd mi ti sL bL mD mT co yr mo dy ou _ _ _ _ _ i4 hv1 rfl hv2 rfl hv3 rfl hv4 rfl hv5 rfl nc ns hnc hns I kk)
  refine zcases (x = 21) (fun h => ?_) (fun h21 => ?_)
  · subst h
    exact z_tableIn (off := 1993) (tgt := 2033) C dL_law_40 (by decide) (by decide) (by decide) (by decide) (law_d21 C hfl hX hbl hbA y z o d sy sm sd mi ti sL bL mD mT co yr mo dy ou _ _ _ _ _ i4 hv1 rfl hv2 rfl hv3 rfl hv4 rfl hv5 rfl nc ns hnc hns I kk)
  refine zcases (x = 22) (fun h => ?_) (fun h22 => ?_)
  · subst h
    exact z_tableIn (off := 2063) (tgt := 2103) C dL_law_40 (by decide) (by decide) (by decide) (by decide) (law_d22 C hfl hX hbl hbA y z o d sy sm sd mi ti sL bL mD mT co yr mo dy ou _ _ _ _ _ i4 hv1 rfl hv2 rfl hv3 rfl hv4 rfl hv5 rfl nc ns hnc hns I kk)
  refine zcases (x = 23) (fun h => ?_) (fun h23 => ?_)
  · subst h
    exact z_tableIn (off := 2142) (tgt := 2182) C dL_law_40 (by decide) (by decide) (by decide) (by decide) (law_d23 C hfl hX hbl hbA y z o d sy sm sd mi ti sL bL mD mT co yr mo dy ou _ _ _ _ _ i4 hv1 rfl hv2 rfl hv3 rfl hv4 rfl hv5 rfl nc ns hnc hns I kk)
  refine zcases (x = 24) (fun h => ?_) (fun h24 => ?_)
  · subst h
    exact z_tableIn (off := 2210) (tgt := 2250) C dL_law_40 (by decide) (by decide) (by decide) (by decide) (law_d24 C hfl hX hbl hbA y z o d sy sm sd mi ti sL bL mD mT co yr mo dy ou _ _ _ _ _ i4 hv1 rfl hv2 rfl hv3 rfl hv4 rfl hv5 rfl nc ns hnc hns I kk)
  refine zcases (x = 25) (fun h => ?_) (fun h25 => ?_)
  · subst h
    exact z_tableIn (off := 2313) (tgt := 2353) C dL_law_40 (by decide) (by decide) (by decide) (by decide) (law_d25 C hfl hX hbl hbA y z o d sy sm sd mi ti sL bL mD mT co yr mo dy ou _ _ _ _ _ i4 hv1 rfl hv2 rfl hv3 rfl hv4 rfl hv5 rfl nc ns hnc hns I kk)
  refine zcases (x = 26) (fun h => ?_) (fun h26 => ?_)
  · subst h
    exact z_tableIn (off := 2413) (tgt := 2453) C dL_law_40 (by decide) (by decide) (by decide) (by decide) (law_d26 C hfl hX hbl hbA y z o d sy sm sd mi ti sL bL mD mT co yr mo dy ou _ _ _ _ _ i4 hv1 rfl hv2 rfl hv3 rfl hv4 rfl hv5 rfl nc ns hnc hns I kk)
  refine zcases (x = 27) (fun h => ?_) (fun h27 => ?_)
  · subst h
    exact z_tableIn (off := 2483) (tgt := 2523) C dL_law_40 (by decide) (by decide) (by decide) (by decide) (law_d27 C hfl hX hbl hbA y z o d sy sm sd mi ti sL bL mD mT co yr mo dy ou _ _ _ _ _ i4 hv1 rfl hv2 rfl hv3 rfl hv4 rfl hv5 rfl nc ns hnc hns I kk)
  refine zcases (x = 28) (fun h => ?_) (fun h28 => ?_)
  · subst h
    exact z_tableIn (off := 2608) (tgt := 2648) C dL_law_40 (by decide) (by decide) (by decide) (by decide) (law_d28 C hfl hX hbl hbA y z o d sy sm sd mi ti sL bL mD mT co yr mo dy ou _ _ _ _ _ i4 hv1 rfl hv2 rfl hv3 rfl hv4 rfl hv5 rfl nc ns hnc hns I kk)
  refine zcases (x = 29) (fun h => ?_) (fun h29 => ?_)
  · subst h
    exact z_tableIn (off := 2689) (tgt := 2729) C dL_law_40 (by decide) (by decide) (by decide) (by decide) (law_d29 C hfl hX hbl hbA y z o d sy sm sd mi ti sL bL mD mT co yr mo dy ou _ _ _ _ _ i4 hv1 rfl hv2 rfl hv3 rfl hv4 rfl hv5 rfl nc ns hnc hns I kk)
  refine zcases (x = 30) (fun h => ?_) (fun h30 => ?_)
  · subst h
    exact z_tableIn (off := 2796) (tgt := 2836) C dL_law_40 (by decide) (by decide) (by decide) (by decide) (law_d30 C hfl hX hbl hbA y z o d sy sm sd mi ti sL bL mD mT co yr mo dy ou _ _ _ _ _ i4 hv1 rfl hv2 rfl hv3 rfl hv4 rfl hv5 rfl nc ns hnc hns I kk)
  refine zcases (x = 31) (fun h => ?_) (fun h31 => ?_)
  · subst h
    exact z_tableIn (off := 2864) (tgt := 2904) C dL_law_40 (by decide) (by decide) (by decide) (by decide) (law_d31 C hfl hX hbl hbA y z o d sy sm sd mi ti sL bL mD mT co yr mo dy ou _ _ _ _ _ i4 hv1 rfl hv2 rfl hv3 rfl hv4 rfl hv5 rfl nc ns hnc hns I kk)
  refine zcases (x = 32) (fun h => ?_) (fun h32 => ?_)
  · subst h
    exact z_tableIn (off := 3007) (tgt := 3047) C dL_law_40 (by decide) (by decide) (by decide) (by decide) (law_d32 C hfl hX hbl hbA y z o d sy sm sd mi ti sL bL mD mT co yr mo dy ou _ _ _ _ _ i4 hv1 rfl hv2 rfl hv3 rfl hv4 rfl hv5 rfl nc ns hnc hns I kk)
  refine zcases (x = 33) (fun h => ?_) (fun h33 => ?_)
  · subst h
    exact z_tableIn (off := 3076) (tgt := 3116) C dL_law_40 (by decide) (by decide) (by decide) (by decide) (law_d33 C hfl hX hbl hbA y z o d sy sm sd mi ti sL bL mD mT co yr mo dy ou _ _ _ _ _ i4 hv1 rfl hv2 rfl hv3 rfl hv4 rfl hv5 rfl nc ns hnc hns I kk)
  refine zcases (x = 34) (fun h => ?_) (fun h34 => ?_)
  · subst h
    exact z_tableIn (off := 3183) (tgt := 3223) C dL_law_40 (by decide) (by decide) (by decide) (by decide) (law_d34 C hfl hX hbl hbA y z o d sy sm sd mi ti sL bL mD mT co yr mo dy ou _ _ _ _ _ i4 hv1 rfl hv2 rfl hv3 rfl hv4 rfl hv5 rfl nc ns hnc hns I kk)
  refine zcases (x = 35) (fun h => ?_) (fun h35 => ?_)
  · subst h
    exact z_tableIn (off := 3262) (tgt := 3302) C dL_law_40 (by decide) (by decide) (by decide) (by decide) (law_d35 C hfl hX hbl hbA y z o d sy sm sd mi ti sL bL mD mT co yr mo dy ou _ _ _ _ _ i4 hv1 rfl hv2 rfl hv3 rfl hv4 rfl hv5 rfl nc ns hnc hns I kk)
  refine zcases (x = 36) (fun h => ?_) (fun h36 => ?_)
  · subst h
    exact z_tableIn (off := 3341) (tgt := 3381) C dL_law_40 (by decide) (by decide) (by decide) (by decide) (law_d36 C hfl hX hbl hbA y z o d sy sm sd mi ti sL bL mD mT co yr mo dy ou _ _ _ _ _ i4 hv1 rfl hv2 rfl hv3 rfl hv4 rfl hv5 rfl nc ns hnc hns I kk)
  refine zcases (x = 37) (fun h => ?_) (fun h37 => ?_)
  · subst h
    exact z_tableIn (off := 3409) (tgt := 3449) C dL_law_40 (by decide) (by decide) (by decide) (by decide) (law_d37 C hfl hX hbl hbA y z o d sy sm sd mi ti sL bL mD mT co yr mo dy ou _ _ _ _ _ i4 hv1 rfl hv2 rfl hv3 rfl hv4 rfl hv5 rfl nc ns hnc hns I kk)
  refine zcases (x = 38) (fun h => ?_) (fun h38 => ?_)
  · subst h
    exact z_tableIn (off := 3488) (tgt := 3528) C dL_law_40 (by decide) (by decide) (by decide) (by decide) (law_d38 C hfl hX hbl hbA y z o d sy sm sd mi ti sL bL mD mT co yr mo dy ou _ _ _ _ _ i4 hv1 rfl hv2 rfl hv3 rfl hv4 rfl hv5 rfl nc ns hnc hns I kk)
  refine zcases (x = 39) (fun h => ?_) (fun h39 => ?_)
  · subst h
    exact z_tableIn (off := 3555) (tgt := 3595) C dL_law_40 (by decide) (by decide) (by decide) (by decide) (law_d39 C hfl hX hbl hbA y z o d sy sm sd mi ti sL bL mD mT co yr mo dy ou _ _ _ _ _ i4 hv1 rfl hv2 rfl hv3 rfl hv4 rfl hv5 rfl nc ns hnc hns I kk)
  refine zcases (x = 40) (fun h => ?_) (fun h40 => ?_)
  · subst h
    exact z_tableIn (off := 3622) (tgt := 3662) C dL_law_40 (by decide) (by decide) (by decide) (by decide) (law_d40 C hfl hX hbl hbA y z o d sy sm sd mi ti sL bL mD mT co yr mo dy ou _ _ _ _ _ i4 hv1 rfl hv2 rfl hv3 rfl hv4 rfl hv5 rfl nc ns hnc hns I kk)
  refine zcases (x = 41) (fun h => ?_) (fun h41 => ?_)
  · subst h
    exact z_tableIn (off := 3747) (tgt := 3787) C dL_law_40 (by decide) (by decide) (by decide) (by decide) (law_d41 C hfl hX hbl hbA y z o d sy sm sd mi ti sL bL mD mT co yr mo dy ou _ _ _ _ _ i4 hv1 rfl hv2 rfl hv3 rfl hv4 rfl hv5 rfl nc ns hnc hns I kk)
  refine zcases (x = 42) (fun h => ?_) (fun h42 => ?_)
  · subst h
    exact z_tableIn (off := 3854) (tgt := 3894) C dL_law_40 (by decide) (by decide) (by decide) (by decide) (law_d42 C hfl hX hbl hbA y z o d sy sm sd mi ti sL bL mD mT co yr mo dy ou _ _ _ _ _ i4 hv1 rfl hv2 rfl hv3 rfl hv4 rfl hv5 rfl nc ns hnc hns I kk)
  refine zcases (x = 43) (fun h => ?_) (fun h43 => ?_)
  · subst h
    exact z_tableIn (off := 3933) (tgt := 3973) C dL_law_40 (by decide) (by decide) (by decide) (by decide) (law_d43 C hfl hX hbl hbA y z o d sy sm sd mi ti sL bL mD mT co yr mo dy ou _ _ _ _ _ i4 hv1 rfl hv2 rfl hv3 rfl hv4 rfl hv5 rfl nc ns hnc hns I kk)
  refine zcases (x = 44) (fun h => ?_) (fun h44 => ?_)
  · subst h
    exact z_tableIn (off := 4014) (tgt := 4054) C dL_law_40 (by decide) (by decide) (by decide) (by decide) (law_d44 C hfl hX hbl hbA y z o d sy sm sd mi ti sL bL mD mT co yr mo dy ou _ _ _ _ _ i4 hv1 rfl hv2 rfl hv3 rfl hv4 rfl hv5 rfl nc ns hnc hns I kk)
  refine zcases (x = 45) (fun h => ?_) (fun h45 => ?_)
  · subst h
    exact z_tableIn (off := 4082) (tgt := 4122) C dL_law_40 (by decide) (by decide) (by decide) (by decide) (law_d45 C hfl hX hbl hbA y z o d sy sm sd mi ti sL bL mD mT co yr mo dy ou _ _ _ _ _ i4 hv1 rfl hv2 rfl hv3 rfl hv4 rfl hv5 rfl nc ns hnc hns I kk)
  refine zcases (x = 46) (fun h => ?_) (fun h46 => ?_)
  · subst h
    exact z_tableIn (off := 4125) (tgt := 4165) C dL_law_40 (by decide) (by decide) (by decide) (by decide) (law_d46 C hfl hX hbl hbA y z o d sy sm sd mi ti sL bL mD mT co yr mo dy ou _ _ _ _ _ i4 hv1 rfl hv2 rfl hv3 rfl hv4 rfl hv5 rfl nc ns hnc hns I kk)
  refine zcases (x = 47) (fun h => ?_) (fun h47 => ?_)
  · subst h
    exact z_tableIn (off := 4166) (tgt := 4206) C dL_law_40 (by decide) (by decide) (by decide) (by decide) (law_d47 C hfl hX hbl hbA y z o d sy sm sd mi ti sL bL mD mT co yr mo dy ou _ _ _ _ _ i4 hv1 rfl hv2 rfl hv3 rfl hv4 rfl hv5 rfl nc ns hnc hns I kk)
  refine zcases (x = 48) (fun h => ?_) (fun h48 => ?_)
  · subst h
    exact z_tableIn (off := 4180) (tgt := 4220) C dL_law_40 (by decide) (by decide) (by decide) (by decide) (law_d48 C hfl hX hbl hbA y z o d sy sm sd mi ti sL bL mD mT co yr mo dy ou _ _ _ _ _ i4 hv1 rfl hv2 rfl hv3 rfl hv4 rfl hv5 rfl nc ns hnc hns I kk)
  exact z_tableOut (tgt := 4233) C dL_law_40 (zTn_0_48 h0 h1 h2 h3 h4 h5 h6 h7 h8 h9 h10 h11 h12 h13 h14 h15 h16 h17 h18 h19 h20 h21 h22 h23 h24 h25 h26 h27 h28 h29 h30 h31 h32 h33 h34 h35 h36 h37 h38 h39 h40 h41 h42 h43 h44 h45 h46 h47 h48) (by decide) (z_widen (by omega) (by omega) (kk d sy sm sd mi ti sL bL mD mT co yr mo dy ou I))
theorem law_loop {p : Program} {l : Launch} {e : Env} {s : State} {m : MethodId} {args : Array Value} {below : List Frame} {meth : Method} {c : Code} {D : va_G} {cI cJ : ClassId} {A : Nat → Prop} {Q : State → Prop} {ret : Option FieldType} (C : ZC p l s m args meth c 9 D (zTys cI cJ) A cL_law wsL_law RL ret) (hfl : l.stackTraces = false) {b Ln : Nat} {xs : Nat → Int32} (hX : va_X b Ln xs s s.heap) (hbl : b < s.heap.size) (hbA : ¬ A b) (y z : Nat → Nat) (o : Nat) (hLn : Ln ≤ 3072) (kend : ∀ (i4 : Int32) (d' : Nat → Int64) (sy' : Nat → Int32) (sm' : Nat → Int32) (sd' : Nat → Int32) (mi' : Nat → Int32) (ti' : Nat → Int64) (sL' : Nat → Int64) (bL' : Nat → Int64) (mD' : Nat → Int64) (mT' : Nat → Int64) (co' : Int32) (yr' : Int64) (mo' : Int32) (dy' : Int32) (ou' : Nat → Int64), ZL p l e s m args below meth c D cI cJ A Q b y z o (3109) (118977) 4239 i4 d' sy' sm' sd' mi' ti' sL' bL' mD' mT' co' yr' mo' dy' ou') : ∀ (n k : Nat) (d : Nat → Int64) (sy : Nat → Int32) (sm : Nat → Int32) (sd : Nat → Int32) (mi : Nat → Int32) (ti : Nat → Int64) (sL : Nat → Int64) (bL : Nat → Int64) (mD : Nat → Int64) (mT : Nat → Int64) (co : Int32) (yr : Int64) (mo : Int32) (dy : Int32) (ou : Nat → Int64) (i4 : Int32), Ln < 6 * k + n → 6 * k ≤ Ln → i4.toInt = 6 * (k : Int) → iInv d sy sm sd mi ti sL bL mD mT → ZL p l e s m args below meth c D cI cJ A Q b y z o (23 + 6 * k) (109 + 36 * k) 23 i4 d sy sm sd mi ti sL bL mD mT co yr mo dy ou
  | 0, k, d, sy, sm, sd, mi, ti, sL, bL, mD, mT, co, yr, mo, dy, ou, i4, h1, h2, _, _ => absurd h1 (by omega)
  | n + 1, k, d, sy, sm, sd, mi, ti, sL, bL, mD, mT, co, yr, mo, dy, ou, i4, h1, h2, hi, I => by
    have rc : room_1.cells = 3109 := rfl
    have rs : room_1.slots = 118977 := rfl
    refine law_step C hfl hX hbl hbA y z o d sy sm sd mi ti sL bL mD mT co yr mo dy ou i4 (6 * (k : Int)) hi (by omega) hLn (23 + 6 * k) (109 + 36 * k) (by omega) (by omega) I (fun hin d' sy' sm' sd' mi' ti' sL' bL' mD' mT' co' yr' mo' dy' ou' I' => ?_) (fun hlt => ?_)
    · refine z_iinc (q := 0) (v := i4 + 6) (lv' := [(4, .int (i4 + 6)), (3, .ref o), (2, .ref (z 0)), (1, .ref (y 0)), (0, .ref b)]) C dL_law_4233 rfl rfl (by decide) rfl ?_
      refine z_goto (tgt := 23) C dL_law_4236 (by decide) ?_
      have e := p_add32 hi (show (6 : Int32).toInt = 6 from rfl) (by omega) (by omega)
      exact z_widen (by omega) (by omega) (law_loop C hfl hX hbl hbA y z o hLn kend n (k + 1) d' sy' sm' sd' mi' ti' sL' bL' mD' mT' co' yr' mo' dy' ou' (i4 + 6) (by omega) (by omega) (by rw [e]; omega) I')
    · exact z_widen (by omega) (by omega) (kend i4 d sy sm sd mi ti sL bL mD mT co yr mo dy ou)
end ZLR
