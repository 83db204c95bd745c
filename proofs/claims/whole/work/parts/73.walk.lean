section ZLS
theorem init_inv : iInv (fun _ => 0) (fun _ => 0) (fun _ => 0) (fun _ => 0) (upd (upd (upd (upd (fun _ => 0) 0 23640) 1 23640) 2 23640) 3 23640) (fun _ => 0) (fun _ => 0) (fun _ => 0) (fun _ => 0) (fun _ => 0) := ⟨fun k _ => ⟨show -4371587 ≤ (0 : Int64).toInt by decide, show (0 : Int64).toInt ≤ 2932896 by decide⟩, fun k _ => ⟨show -1000000 ≤ (0 : Int32).toInt by decide, show (0 : Int32).toInt ≤ 1000000 by decide⟩, fun k _ => ⟨show -1000000 ≤ (0 : Int32).toInt by decide, show (0 : Int32).toInt ≤ 1000000 by decide⟩, fun k _ => ⟨show -1000000 ≤ (0 : Int32).toInt by decide, show (0 : Int32).toInt ≤ 1000000 by decide⟩, iI_upd (iI_upd (iI_upd (iI_upd (fun k _ => ⟨show -119988 ≤ (0 : Int32).toInt by decide, show (0 : Int32).toInt ≤ 119999 by decide⟩) (by decide) (by decide)) (by decide) (by decide)) (by decide) (by decide)) (by decide) (by decide), fun k _ => ⟨show 0 ≤ (0 : Int64).toInt by decide, show (0 : Int64).toInt ≤ 86399999999999 by decide⟩, fun k _ => ⟨⟨show -1000000000000 ≤ (0 : Int64).toInt by decide, show (0 : Int64).toInt ≤ 1000000000000 by decide⟩, ⟨show 0 ≤ (0 : Int64).toInt by decide, show (0 : Int64).toInt ≤ 999999999 by decide⟩, fun _ => show (0 : Int64).toInt = 0 from rfl⟩, fun k _ => ⟨⟨show -4371587 ≤ (0 : Int64).toInt by decide, show (0 : Int64).toInt ≤ 2932896 by decide⟩, ⟨show 0 ≤ (0 : Int64).toInt by decide, show (0 : Int64).toInt ≤ 86399999999999 by decide⟩⟩⟩
theorem zw_zero : zw (fun _ => 0) = (fun _ => 0) := rfl
theorem zw_init : zw (upd (upd (upd (upd (fun _ => 0) 0 23640) 1 23640) 2 23640) 3 23640) = vp_updL (vp_updL (vp_updL (vp_updL (fun _ => 0) 0 23640) 1 23640) 2 23640) 3 23640 := by
  rw [zw_upd, zw_upd, zw_upd, zw_upd, zw_zero]
  rfl
set_option maxHeartbeats 4000000 in
set_option maxRecDepth 100000 in
theorem law_walk9 {p : Program} {l : Launch} {e : Env} {s : State} {m : MethodId} {args : Array Value} {below : List Frame} {meth : Method} {c : Code} {D : va_G} {cI cJ : ClassId} {A : Nat → Prop} {Q : State → Prop} {ret : Option FieldType} (C : ZC p l s m args meth c 9 D (zTys cI cJ) A cL_law wsL_law RL ret) (hfl : l.stackTraces = false) {b Ln : Nat} {xs : Nat → Int32} (hX : va_X b Ln xs s s.heap) (hbl : b < s.heap.size) (hbA : ¬ A b) (hLn : Ln ≤ 3072) (kend : ∀ (y z : Nat → Nat) (o : Nat) (i4 : Int32) (d' : Nat → Int64) (sy' : Nat → Int32) (sm' : Nat → Int32) (sd' : Nat → Int32) (mi' : Nat → Int32) (ti' : Nat → Int64) (sL' : Nat → Int64) (bL' : Nat → Int64) (mD' : Nat → Int64) (mT' : Nat → Int64) (co' : Int32) (yr' : Int64) (mo' : Int32) (dy' : Int32) (ou' : Nat → Int64), ZL p l e s m args below meth c D cI cJ A Q b y z o (3109) (118977) 4239 i4 d' sy' sm' sd' mi' ti' sL' bL' mD' mT' co' yr' mo' dy' ou') : ZW p l e room_1 s m args below meth c 9 D (zTys cI cJ) A Q 0 0 [] 0 [(0, .ref b)] [] := by
  have w0 : (Cond.classLink RL 8 RX2).before args s = true := C.1.2.2.2.2 _ (List.mem_of_getElem? (i := 0) (by decide +kernel))
  have w1 : (Cond.instantiable RX2 10).before args s = true := C.1.2.2.2.2 _ (List.mem_of_getElem? (i := 1) (by decide +kernel))
  have w2 : (Cond.initialized RX2).before args s = true := C.1.2.2.2.2 _ (List.mem_of_getElem? (i := 2) (by decide +kernel))
  have w3 : (Cond.classLink RL 168 RX3).before args s = true := C.1.2.2.2.2 _ (List.mem_of_getElem? (i := 3) (by decide +kernel))
  have w4 : (Cond.instantiable RX3 14).before args s = true := C.1.2.2.2.2 _ (List.mem_of_getElem? (i := 4) (by decide +kernel))
  have w5 : (Cond.initialized RX3).before args s = true := C.1.2.2.2.2 _ (List.mem_of_getElem? (i := 5) (by decide +kernel))
  have w6 : (Cond.arrayClass .long).before args s = true := C.1.2.2.2.2 _ (List.mem_of_getElem? (i := 6) (by decide +kernel))
  have w8 : (Cond.methodLink RL 167 yX2_init).before args s = true := C.1.2.2.2.2 _ (List.mem_of_getElem? (i := 8) (by decide +kernel))
  have w9 : (Cond.instanceMethod yX2_init).before args s = true := C.1.2.2.2.2 _ (List.mem_of_getElem? (i := 9) (by decide +kernel))
  have w10 : (Cond.methodLink RL 170 yX3_init).before args s = true := C.1.2.2.2.2 _ (List.mem_of_getElem? (i := 25) (by decide +kernel))
  have w11 : (Cond.instanceMethod yX3_init).before args s = true := C.1.2.2.2.2 _ (List.mem_of_getElem? (i := 26) (by decide +kernel))
  refine z_new (CC := RX2) (T := TX2) (N := 10) (ci := 2) (fs := [.null, .null, .null, .null, .null, .null, .null, .null, .null, .null]) C inlX2 tyX2 tyX2_ok w0 w1 w2 rfl (fun j hj => by rcases (show j = 0 ∨ j = 1 ∨ j = 2 ∨ j = 3 ∨ j = 4 ∨ j = 5 ∨ j = 6 ∨ j = 7 ∨ j = 8 ∨ j = 9 by omega) with rfl | rfl | rfl | rfl | rfl | rfl | rfl | rfl | rfl | rfl <;> rfl) (Nat.le_of_ble_eq_true rfl) (Nat.le_of_ble_eq_true rfl) dL_law_0 (fun q0 => ?_)
  refine z_ws (ws' := [(q0, .inr (2, [.null, .null, .null, .null, .null, .null, .null, .null, .null, .null]))]) [0] rfl (by decide) rfl ?_
  refine z_dup C dL_law_3 rfl ?_
  refine z_callI C (av := []) (rest := [.ref q0]) (c_X2_init l hfl D cI cJ q0) q_X2_init gL_law_X2_init w2 w8 w9 rfl ⟨rfl, rfl⟩ rfl rfl (Nat.le_of_ble_eq_true rfl) ⟨(Nat.le_of_ble_eq_true rfl), (Nat.le_of_ble_eq_true rfl)⟩ ⟨(Nat.le_of_ble_eq_true rfl), (Nat.le_of_ble_eq_true rfl)⟩ dL_law_4 (fun v ws' h => ?_) (fun _ _ h => h.elim)
  obtain ⟨rfl, y, hy, rfl⟩ := h
  subst hy
  refine z_eqst (st' := [.ref (y 0)]) rfl ?_
  refine z_astore_n (lv' := [(1, .ref (y 0)), (0, .ref b)]) C dL_law_7 rfl (by decide) rfl ?_
  refine z_new (CC := RX3) (T := TX3) (N := 14) (ci := 3) (fs := [.int 0, .null, .null, .null, .null, .null, .null, .null, .null, .null, .null, .long 0, .int 0, .int 0]) C inlX3 tyX3 tyX3_ok w3 w4 w5 rfl (fun j hj => by rcases (show j = 0 ∨ j = 1 ∨ j = 2 ∨ j = 3 ∨ j = 4 ∨ j = 5 ∨ j = 6 ∨ j = 7 ∨ j = 8 ∨ j = 9 ∨ j = 10 ∨ j = 11 ∨ j = 12 ∨ j = 13 by omega) with rfl | rfl | rfl | rfl | rfl | rfl | rfl | rfl | rfl | rfl | rfl | rfl | rfl | rfl <;> rfl) (Nat.le_of_ble_eq_true rfl) (Nat.le_of_ble_eq_true rfl) dL_law_8 (fun q1 => ?_)
  refine z_ws (ws' := (q1, .inr (3, [.int 0, .null, .null, .null, .null, .null, .null, .null, .null, .null, .null, .long 0, .int 0, .int 0])) :: (wY cI cJ y (fun _ => 0) (fun _ => 0) (fun _ => 0) (fun _ => 0) (upd (upd (upd (upd (fun _ => 0) 0 23640) 1 23640) 2 23640) 3 23640) (fun _ => 0) (fun _ => 0) (fun _ => 0) (fun _ => 0) (fun _ => 0) [])) [11, 0, 1, 2, 3, 4, 5, 6, 7, 8, 9, 10] rfl (by decide) rfl ?_
  refine z_dup C dL_law_11 rfl ?_
  refine z_callI C (av := []) (rest := [.ref q1]) (c_X3_init l hfl D cI cJ q1 y (fun _ => 0) (fun _ => 0) (fun _ => 0) (fun _ => 0) (upd (upd (upd (upd (fun _ => 0) 0 23640) 1 23640) 2 23640) 3 23640) (fun _ => 0) (fun _ => 0) (fun _ => 0) (fun _ => 0) (fun _ => 0)) q_X3_init gL_law_X3_init w5 w10 w11 rfl ⟨rfl, rfl⟩ rfl rfl (Nat.le_of_ble_eq_true rfl) ⟨(Nat.le_of_ble_eq_true rfl), (Nat.le_of_ble_eq_true rfl)⟩ ⟨(Nat.le_of_ble_eq_true rfl), (Nat.le_of_ble_eq_true rfl)⟩ dL_law_12 (fun v ws' h => ?_) (fun _ _ h => h.elim)
  obtain ⟨rfl, z, hz, rfl⟩ := h
  subst hz
  refine z_eqst (st' := [.ref (z 0)]) rfl ?_
  refine z_astore_n (lv' := [(2, .ref (z 0)), (1, .ref (y 0)), (0, .ref b)]) C dL_law_15 rfl (by decide) rfl ?_
  refine z_iconst (v := 1) C dL_law_16 (by decide) ?_
  refine z_newJ C (cI := cI) (cJ := cJ) (N := 1) rfl w6 (by decide) (by decide) (Nat.le_of_ble_eq_true rfl) (Nat.le_of_ble_eq_true rfl) (Nat.le_of_ble_eq_true rfl) dL_law_17 (fun o => ?_)
  refine z_astore_n (lv' := [(3, .ref o), (2, .ref (z 0)), (1, .ref (y 0)), (0, .ref b)]) C dL_law_19 rfl (by decide) rfl ?_
  refine z_iconst (v := 0) C dL_law_20 (by decide) ?_
  refine z_istore (lv' := [(4, .int 0), (3, .ref o), (2, .ref (z 0)), (1, .ref (y 0)), (0, .ref b)]) C dL_law_21 (by decide) rfl ?_
  have K := law_loop C hfl hX hbl hbA y z o hLn (kend y z o) (Ln + 1) 0 (fun _ => 0) (fun _ => 0) (fun _ => 0) (fun _ => 0) (upd (upd (upd (upd (fun _ => 0) 0 23640) 1 23640) 2 23640) 3 23640) (fun _ => 0) (fun _ => 0) (fun _ => 0) (fun _ => 0) (fun _ => 0) 0 0 0 0 (fun _ => 0) 0 (by omega) (by omega) rfl init_inv
  unfold ZL at K
  rw [zw_init, zw_zero] at K
  refine z_ws (ws' := (wY cI cJ y (fun _ => 0) (fun _ => 0) (fun _ => 0) (fun _ => 0) (upd (upd (upd (upd (fun _ => 0) 0 23640) 1 23640) 2 23640) 3 23640) (fun _ => 0) (fun _ => 0) (fun _ => 0) (fun _ => 0) (fun _ => 0) ((o, .inl (cJ, 1, .inr (.inl (fun _ => 0)))) :: (wM cI cJ z 0 (fun _ => 0) (fun _ => 0) (fun _ => 0) (fun _ => 0) (fun _ => 0) (fun _ => 0) (fun _ => 0) (fun _ => 0) (fun _ => 0) (vp_updL (vp_updL (vp_updL (vp_updL (fun _ => 0) 0 23640) 1 23640) 2 23640) 3 23640) 0 0 0 [])))) [1, 2, 3, 4, 5, 6, 7, 8, 9, 10, 11, 22, 0, 12, 13, 14, 15, 16, 17, 18, 19, 20, 21] rfl (by decide) rfl ?_
  exact z_widen (by omega) (by omega) K
end ZLS
