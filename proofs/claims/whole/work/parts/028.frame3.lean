/-! ===== BEGIN a constructor that throws (launches without stack traces) ===== -/
section VXIA
variable {p : Program} {l : Launch} {e : Env} {R : Room} {s : State} {m : MethodId} {args : Array Value} {below : List Frame} {meth : Method} {c : Code} {T : State} {locs : List Loc} {cells slots : Nat}
theorem vx_callI (X : Stand p l e R s m args below meth c T locs cells slots) (hexec : p.tables.exec = Jvm.exec) {own : String} {index : Nat} {y : MethodName} {bytes : ByteArray} {maxL : Nat}
    (hown : s.vm.findClass own = some m.cls) (hy1 : y.name = "<init>") (hlink : (Cond.methodLink own index y).before args s = true) (hinst : (Cond.instanceMethod y).before args s = true)
    (hcode : (Cond.code y bytes maxL none).before args s = true) (hy : y.cls ≠ "java/lang/invoke/MethodHandle" ∧ y.cls ≠ "java/lang/invoke/VarHandle")
    {W9 : Nat} {Pre : Pt → Array Value → Prop} {Post : Pt → Array Value → Option Value → Pt → Prop} {PostX : Pt → Array Value → Addr → Pt → Prop} (hK : vx_Back l R p e below s args y 3 W9 Pre Post PostX)
    {g : JFrame} (hg : g.method = m) (hsize : g.locals.size = c.maxLocals) {a : Addr} {argsL rest : List Value} (hlen : ∀ sig, parseMethodDescriptor y.desc = some sig → argsL.length = sig.parameters.length)
    (hstack : g.stack = argsL.reverse ++ .ref a :: rest) (hW : 2 * g.monitorRoom + (rest.map fun v => v.category).sum ≤ W9) (hdg : decode c.code g.pc = .ok (.invokespecial index, 3))
    (hpre : ∀ vm₁, s.WarmedH vm₁ → Pre ⟨T.setVm vm₁, locs, cells, slots⟩ (Value.ref a :: argsL).toArray) :
    (∃ (v : Option Value) (vm₁ : Vm) (B : Pt), s.WarmedH vm₁ ∧ Stand p l e R s m args below meth c B.U B.locs B.cells B.slots ∧ Post ⟨T.setVm vm₁, locs, cells, slots⟩ (Value.ref a :: argsL).toArray v B ∧
      ∀ target, Steps p.tables e below (B.U.setTop { g with pc := g.pc + 3, stack := v.toList ++ rest }) target → Steps p.tables e below (T.setTop g) target) ∨
    (∃ (q : Addr) (vm₁ : Vm) (B : Pt), s.WarmedH vm₁ ∧ Stand p l e R s m args below meth c B.U B.locs B.cells B.slots ∧ PostX ⟨T.setVm vm₁, locs, cells, slots⟩ (Value.ref a :: argsL).toArray q B ∧
      Steps p.tables e below (T.setTop g) ((B.U.setTop { g with stack := rest }).pushFrame (.throwing q))) := by
  subst hg
  have hpl : e.platform.magicAccessors = ({} : Platform).magicAccessors := by rw [X.admits.platform]
  obtain ⟨mk, methM, cM, kP, vm₁, hnamed, hmethM, hcodeM, -, hlocalsM, -, hkP, -, hW₁, hstep₁⟩ := Steps.initColdArgs (e := e) X.here hexec X.warmed hpl hown hy1 hy hlink hinst hcode (f := g) rfl hlen hstack hdg
  have X₁ := X.noted hW₁
  rcases hK g.method meth c ⟨T.setVm vm₁, locs, cells, slots⟩ { g with stack := rest } (.invokespecial index) mk (Value.ref a :: argsL).toArray X₁ rfl hsize hdg hW (X₁.named hnamed) (hpre vm₁ X₁.warmed) with ⟨v, B, X', hpost, hsteps⟩ | ⟨q, B, X', hpost, hsteps⟩
  · exact Or.inl ⟨v, vm₁, B, X₁.warmed, X', hpost, fun target h => hstep₁ _ fun acts => by rw [doInvoke_state]; exact hsteps.trans h⟩
  · exact Or.inr ⟨q, vm₁, B, X₁.warmed, X', hpost, hstep₁ _ fun acts => by rw [doInvoke_state]; exact hsteps⟩
end VXIA
section VXIB
variable {p : Program} {l : Launch} {e : Env} {R : Room} {s : State} {m : MethodId} {args : Array Value} {below : List Frame} {meth : Method} {c : Code} {H : Heap} {locs : List Loc} {cells slots : Nat}
variable {y : MethodName} {bytes cc : ByteArray} {maxL nL mc ms n index : Nat} {ret : Option FieldType} {ws : List Cond} {rm : Room} {Pc : Array Value → State → Prop} {Qc : Array Value → State → Outcome → State → Prop} {XC : String → State → State → Prop} {free : Addr → Prop} {Ts : List Cond} {own C : String} {b : Addr} {As rest : List Value} {g : JFrame}
theorem vx_runI (S : CallFix p m c cc nL s args Ts own) (hM : vx_Met l y ws rm Pc Qc XC mc ms free) (cw : CallB R s args own index y bytes maxL none ws rm mc ms n ∧ y.name = "<init>" ∧ (Cond.instanceMethod y).before args s = true) (hp : PreS s H Pc (.ref b :: As))
    (hg : g.method = m) (hn : As.length = n) (hsize : g.locals.size = nL) (hstack : g.stack = As.reverse ++ .ref b :: rest) (hW : 2 * g.monitorRoom + (rest.map fun v => v.category).sum ≤ 8) (hdg : decode cc g.pc = .ok (.invokespecial index, 3)) (hf : cells + mc ≤ R.cells ∧ slots + ms ≤ R.slots) :
    vx_Run p l e R s m args below meth c H locs cells slots mc ms g rest (Qc (Value.ref b :: As).toArray) XC free := by
  have hK : vx_Back l R p e below s args y 3 8 (PreOf R mc ms Pc) (PostOf Qc mc ms free) (vx_Post XC mc ms free) := vx_callBack cw.1 hM hp.1
  obtain ⟨⟨-, -, -, -, -, -, hcode, -, hy, hlen, hl⟩, hy1, hin⟩ := cw
  obtain ⟨hx, hb, hml, ho, -⟩ := S
  have hPc := hp.2
  intro T hT X
  rcases vx_callI X hx (bytes := bytes) (maxL := maxL) ho hy1 hl hin hcode hy hK hg (hsize.trans hml.symm) (a := b) (argsL := As) (rest := rest) (fun sig h => hn.trans (hlen sig h)) hstack hW (by rw [hb]; exact hdg)
    (fun vm₁ hW₁ => ⟨hf.1, hf.2, hPc (T.setVm vm₁) hT hW₁⟩) with ⟨v, vm₁, ⟨U', l2, c2, s2⟩, hW₁, X', ⟨g', mk, t, L, e1, e2, hq, h1, hL, h2, h3⟩, st⟩ | ⟨q, vm₁, ⟨U', l2, c2, s2⟩, hW₁, X', ⟨g', mk, t, L, E, ce, e1, e2, hq, hce, hcv, hcl, h1, hL, h2, h3⟩, st⟩
  · dsimp only [Pt.U, Pt.locs, Pt.cells, Pt.slots] at X' e1 e2 h1 h2 h3 st
    subst h1; subst h2; subst h3
    exact Or.inl ⟨v, (T.setVm vm₁).calling g' mk (Value.ref b :: As).toArray, t, U', L, hT, X', hL, e1, e2, hq, st⟩
  · dsimp only [Pt.U, Pt.locs, Pt.cells, Pt.slots] at X' e1 e2 h1 h2 h3 st hcl
    subst h1; subst h2; subst h3
    exact Or.inr ⟨q, (T.setVm vm₁).calling g' mk (Value.ref b :: As).toArray, t, U', L, E, ce, hT, X', hL, e1, e2, hq, hce, hcv, vx_cls hW₁ hcl, st⟩
end VXIB
/-! ===== END ===== -/
section ZJ
/-- what the tables give of the two kinds of arrays -/
theorem zTys_of {args : Array Value} {s : State} {D : va_G} (hI : (Cond.arrayClass .int).before args s = true) (hJ : (Cond.arrayClass .long).before args s = true) (hK : ∀ (c : Nat) (q : vw_C), vwCl[c]? = some q → u_Kn s q.1 q.2.1 q.2.2 (D.1 c) (D.2 c)) : ∃ cI cJ : ClassId, va_K D vwCl (zTys cI cJ) s := by
  obtain ⟨cI, kI, compI, a1, a2, a3⟩ := Cond.arrayClass_spec hI
  obtain ⟨cJ, kJ, compJ, b1, b2, b3⟩ := Cond.arrayClass_spec hJ
  refine ⟨cI, cJ, hK, fun k q hq => ?_⟩
  match k, hq with
  | 0, hq => cases hq; exact ⟨fun n z => ⟨fun k h => (by cases h), kI, a2, compI, a3⟩, a1⟩
  | 1, hq => cases hq; exact ⟨fun n z => ⟨fun k h => (by cases h), kJ, b2, compJ, b3⟩, b1⟩
  | k + 2, hq => simp at hq
/-- the facts of a callee with a table that every call of it wants -/
def ZYH (y : MethodName) (wds : List Cond) (bytes : ByteArray) (maxL : Nat) (ret : Option FieldType) (n : Nat) (hh : List (Nat × Nat × Nat × Nat)) : Prop := (∃ ws', wds = Cond.codeWith y bytes maxL ret hh :: ws') ∧ y.cls ≠ "java/lang/invoke/MethodHandle" ∧ y.cls ≠ "java/lang/invoke/VarHandle" ∧ (parseMethodDescriptor y.desc).map (fun d => d.parameters.length) = some n
section ZK
variable {p : Program} {l : Launch} {e : Env} {R : Room} {s : State} {m : MethodId} {args : Array Value} {below : List Frame} {meth : Method} {c : Code} {nL : Nat} {D : va_G} {tys : List (ClassId × FieldType)} {A : Nat → Prop} {Q : State → Prop} {cc : ByteArray} {Ts : List Cond} {own : String} {ret : Option FieldType} {cells slots : Nat} {ws : va_W} {pc : Nat} {lv : List (Nat × Value)} {st : List Value}
theorem z_callSH (C : ZC p l s m args meth c nL D tys A cc Ts own ret) {y : MethodName} {wds : List Cond} {rm : Room} {av rest st0 : List Value} {bytes : ByteArray} {maxL n mc ms index : Nat} {ry : Option FieldType} {hh : List (Nat × Nat × Nat × Nat)} {P : Option Value → va_W → Prop} {PX : String → va_W → Prop} (hM : ZM l y wds rm av D tys ws mc ms P PX) (hY : ZYH y wds bytes maxL ry n hh) (hT : GoodIn Ts (va_wsS own index y wds)) (hrm : rm.cells = mc ∧ rm.slots = ms) (hn : av.length = n) (hst : st0 = av.reverse ++ rest) (hW : (rest.map fun v => v.category).sum ≤ 8) (hR : rm.frames + 1 ≤ R.frames ∧ 8 + (maxL + 11) + rm.locals ≤ R.locals) (hf : cells + mc ≤ R.cells ∧ slots + ms ≤ R.slots) (d : decode cc pc = .ok (.invokestatic index, 3))
    (kk : ∀ (v : Option Value) (ws' : va_W), P v ws' → ZW p l e R s m args below meth c nL D tys A Q (cells + mc) (slots + ms) ws' (pc + 3) lv (v.toList ++ rest))
    (kx : ∀ (E : String) (ws' : va_W), PX E ws' → ZT p l e R s m args below meth c nL D tys A Q (cells + mc) (slots + ms) ws' pc lv E) :
    ZW p l e R s m args below meth c nL D tys A Q cells slots ws pc lv st0 := fun H locs ls hl hP hD hS => by
  obtain ⟨⟨ws9, hw⟩, hy1, hy2, hy3⟩ := hY
  exact z_run C hl hP hD hS (vx_runSX (As := av) (rest := rest) C.1 (hM H.size) (vx_cwSW n C.1.2.2.2.2 hT hw hrm.1 hrm.2 ⟨hy1, hy2, hy3⟩ hR) ⟨zPre_blind _ _ _ _ _, fun U hU hW => ⟨rfl, zPre_of hP hD hS C.2.2.2.1 C.2.2.1 C.2.2.2.2.1 C.2.2.2.2.2.1 hU hW⟩⟩ rfl hn hl.1 hst (lv_room hW) d hf) kk kx
theorem z_siH {ws' : va_W} (C : ZC p l s m args meth c nL D tys A cc Ts own ret) {rest : List Value} {y : MethodName} {wds : List Cond} {rm : Room} {av st0 : List Value} {bytes : ByteArray} {maxL n mc ms index : Nat} {ry : Option FieldType} {hh : List (Nat × Nat × Nat × Nat)} {r : Int32} (hM : ZM l y wds rm av D tys ws mc ms (fun v w => v = some (.int r) ∧ w = ws') (fun _ _ => False)) (hY : ZYH y wds bytes maxL ry n hh) (hT : GoodIn Ts (va_wsS own index y wds)) (hrm : rm.cells = mc ∧ rm.slots = ms) (hn : av.length = n) (hst : st0 = av.reverse ++ rest) (hW : (rest.map fun v => v.category).sum ≤ 8) (hR : rm.frames + 1 ≤ R.frames ∧ 8 + (maxL + 11) + rm.locals ≤ R.locals) (hf : cells + mc ≤ R.cells ∧ slots + ms ≤ R.slots) (d : decode cc pc = .ok (.invokestatic index, 3))
    (k : ZW p l e R s m args below meth c nL D tys A Q (cells + mc) (slots + ms) ws' (pc + 3) lv (.int r :: rest)) :
    ZW p l e R s m args below meth c nL D tys A Q cells slots ws pc lv st0 := z_callSH C hM hY hT hrm hn hst hW hR hf d (fun v w h => by obtain ⟨rfl, rfl⟩ := h; exact k) (fun _ _ h => h.elim)
theorem z_callI (C : ZC p l s m args meth c nL D tys A cc Ts own ret) {y : MethodName} {wds : List Cond} {rm : Room} {a : Nat} {av rest st0 : List Value} {bytes : ByteArray} {maxL n mc ms index : Nat} {P : Option Value → va_W → Prop} {PX : String → va_W → Prop} (hM : ZM l y wds rm (.ref a :: av) D tys ws mc ms P PX) (hY : ZY y wds bytes maxL none n) (hT : GoodIn Ts wds) (hini : (Cond.initialized y.cls).before args s = true) (hl0 : (Cond.methodLink own index y).before args s = true) (hin : (Cond.instanceMethod y).before args s = true) (hy9 : y.name = "<init>") (hrm : rm.cells = mc ∧ rm.slots = ms) (hn : av.length = n) (hst : st0 = av.reverse ++ .ref a :: rest) (hW : (rest.map fun v => v.category).sum ≤ 8) (hR : rm.frames + 1 ≤ R.frames ∧ 8 + (maxL + 11) + rm.locals ≤ R.locals) (hf : cells + mc ≤ R.cells ∧ slots + ms ≤ R.slots) (d : decode cc pc = .ok (.invokespecial index, 3))
    (kk : ∀ (v : Option Value) (ws' : va_W), P v ws' → ZW p l e R s m args below meth c nL D tys A Q (cells + mc) (slots + ms) ws' (pc + 3) lv (v.toList ++ rest))
    (kx : ∀ (E : String) (ws' : va_W), PX E ws' → ZT p l e R s m args below meth c nL D tys A Q (cells + mc) (slots + ms) ws' pc lv E) :
    ZW p l e R s m args below meth c nL D tys A Q cells slots ws pc lv st0 := fun H locs ls hl hP hD hS => by
  obtain ⟨⟨ws9, hw⟩, hy1, hy2, hy3⟩ := hY
  exact z_run C hl hP hD hS (vx_runI (As := av) (rest := rest) C.1 (hM H.size) (cwI n C.1.2.2.2.2 hT hw hrm.1 hrm.2 hini hl0 hin hy9 ⟨hy1, hy2, hy3⟩ hR) ⟨zPre_blind _ _ _ _ _, fun U hU hW => ⟨rfl, zPre_of hP hD hS C.2.2.2.1 C.2.2.1 C.2.2.2.2.1 C.2.2.2.2.2.1 hU hW⟩⟩ rfl hn hl.1 hst (lv_room hW) d hf) kk kx
theorem z_objInit (C : ZC p l s m args meth c nL D tys A cc Ts own ret) {idx a : Nat} (h1 : (Cond.methodLink own idx Lib.objectInit).before args s = true) (h2 : (Cond.instanceMethod Lib.objectInit).before args s = true) (h3 : (Cond.code Lib.objectInit ⟨#[0xb1]⟩ 1 none).before args s = true) (d : decode cc pc = .ok (.invokespecial idx, 3)) (hf : 1 ≤ R.frames) (hlo : (st.map fun v => v.category).sum + 12 ≤ R.locals) (k : ZW p l e R s m args below meth c nL D tys A Q cells slots ws (pc + 3) lv st) : ZW p l e R s m args below meth c nL D tys A Q cells slots ws pc lv (.ref a :: st) := fun H locs ls hl hP hD hS => by
  refine W.objInit C.1.1 C.1.2.1 C.1.2.2.2.1 h1 h2 h3 rfl (hl.1.trans C.1.2.2.1.symm) rfl d hf ?_ (W.eq (g2 := F0 m (pc + 3) ls st) rfl (k H locs ls hl hP hD hS))
  show 2 * (F0 m pc ls (.ref a :: st)).monitorRoom + _ + 12 ≤ _
  simpa [JFrame.monitorRoom] using hlo
theorem z_newJ (C : ZC p l s m args meth c nL D tys A cc Ts own ret) {cI cJ : ClassId} (htys : tys = zTys cI cJ) {n : Int32} {N : Nat} (ha : (Cond.arrayClass .long).before args s = true) (hn : ¬ n < 0) (hN : n.toNatClampNeg = N) (hb : N * 8 ≤ 536870912) (hc : cells + 1 ≤ R.cells) (hs : slots + N ≤ R.slots) (d : decode cc pc = .ok (.newarray .long, 2))
    (k : ∀ q : Nat, ZW p l e R s m args below meth c nL D tys A Q (cells + 1) (slots + N) (ws ++ [(q, .inl (cJ, N, .inr (.inl (fun _ => 0))))]) (pc + 2) lv (.ref q :: st)) : ZW p l e R s m args below meth c nL D tys A Q cells slots ws pc lv (.int n :: st) := fun H locs ls hl hP hD hS => by
  subst htys
  refine va_newa C.1.1 C.1.2.1 (atype := .long) (ty := .long) (a0 := (N, .inr (.inl (fun _ => 0)))) ha rfl C.2.2.1 hP hD hS C.2.2.2.1 (fun cA => rfl) hn hN hb hc hs d (fun q cA H1 hK hP1 hD1 hS1 => ?_)
  have e1 := (hK.2 2 (cA, .long) rfl).2
  have e2 := (hK.2 1 (cJ, .long) rfl).2
  have e3 : cA = cJ := Option.some.inj (Eq.trans (Eq.symm e1) e2)
  subst e3
  exact k q H1 locs ls hl hP1 hD1 hS1
theorem z_newI (C : ZC p l s m args meth c nL D tys A cc Ts own ret) {cI cJ : ClassId} (htys : tys = zTys cI cJ) {n : Int32} {N : Nat} (ha : (Cond.arrayClass .int).before args s = true) (hn : ¬ n < 0) (hN : n.toNatClampNeg = N) (hb : N * 4 ≤ 536870912) (hc : cells + 1 ≤ R.cells) (hs : slots + N ≤ R.slots) (d : decode cc pc = .ok (.newarray .int, 2))
    (k : ∀ q : Nat, ZW p l e R s m args below meth c nL D tys A Q (cells + 1) (slots + N) (ws ++ [(q, .inl (cI, N, .inl (fun _ => 0)))]) (pc + 2) lv (.ref q :: st)) : ZW p l e R s m args below meth c nL D tys A Q cells slots ws pc lv (.int n :: st) := fun H locs ls hl hP hD hS => by
  subst htys
  refine va_newa C.1.1 C.1.2.1 (atype := .int) (ty := .int) (a0 := (N, .inl (fun _ => 0))) ha rfl C.2.2.1 hP hD hS C.2.2.2.1 (fun cA => rfl) hn hN hb hc hs d (fun q cA H1 hK hP1 hD1 hS1 => ?_)
  have e1 := (hK.2 2 (cA, .int) rfl).2
  have e2 := (hK.2 0 (cI, .int) rfl).2
  have e3 : cA = cI := Option.some.inj (Eq.trans (Eq.symm e1) e2)
  subst e3
  exact k q H1 locs ls hl hP1 hD1 hS1
theorem z_new (C : ZC p l s m args meth c nL D tys A cc Ts own ret) {CC : String} {T : u_T} {N ci index : Nat} (hin : ∀ w ∈ u_ws CC T N, w ∈ Ts) (ty : Nat → FieldType) (hty : ∀ k, k < N → parseFieldDescriptor (T k).2.2.1 = some (ty k)) (hcl : (Cond.classLink own index CC).before args s = true) (hinst : (Cond.instantiable CC N).before args s = true) (hini : (Cond.initialized CC).before args s = true) (hc : vwCl[ci]? = some (CC, T, N)) {fs : List Value} (hfs : ∀ j, j < N → defaultValue (ty j) = vp_V fs j) (hcells : cells + 1 ≤ R.cells) (hslots : slots + N ≤ R.slots) (d : decode cc pc = .ok (.new index, 3))
    (k : ∀ q : Nat, ZW p l e R s m args below meth c nL D tys A Q (cells + 1) (slots + N) (ws ++ [(q, .inr (ci, fs))]) (pc + 3) lv (.ref q :: st)) : ZW p l e R s m args below meth c nL D tys A Q cells slots ws pc lv st := fun H locs ls hl hP hD hS =>
  va_new C.1.1 C.1.2.1 C.1.2.2.2.2 hin ty hty C.1.2.2.2.1 hcl hinst hini C.2.2.1 hP hD hS C.2.2.2.1 hc hfs hcells hslots d (fun q H1 hP1 hD1 hS1 => k q H1 locs ls hl hP1 hD1 hS1)
theorem z_sld (C : ZC p l s m args meth c nL D tys A cc Ts own ret) {b L : Nat} {xs : Nat → Int32} (hX : va_X b L xs s s.heap) (hbl : b < s.heap.size) (hbA : ¬ A b) {i : Int32} (hin : vp_in i L) (d : decode cc pc = .ok (.iaload, 1)) (k : ZW p l e R s m args below meth c nL D tys A Q cells slots ws (pc + 1) lv (.int (xs i.toNatClampNeg) :: st)) : ZW p l e R s m args below meth c nL D tys A Q cells slots ws pc lv (.int i :: .ref b :: st) := fun H locs ls hl hP hD hS => va_sld C.1.1 C.1.2.1 hX hbl hbA hS hin d (k H locs ls hl hP hD hS)
theorem z_slen (C : ZC p l s m args meth c nL D tys A cc Ts own ret) {b L : Nat} {xs : Nat → Int32} (hX : va_X b L xs s s.heap) (hbl : b < s.heap.size) (hbA : ¬ A b) (d : decode cc pc = .ok (.arraylength, 1)) (k : ZW p l e R s m args below meth c nL D tys A Q cells slots ws (pc + 1) lv (.int (Int32.ofNat L) :: st)) : ZW p l e R s m args below meth c nL D tys A Q cells slots ws pc lv (.ref b :: st) := fun H locs ls hl hP hD hS => va_slen C.1.1 C.1.2.1 hX hbl hbA hS d (k H locs ls hl hP hD hS)
/-- caught by the table's row behind pre -/
theorem z_catch (C : ZC p l s m args meth c nL D tys A cc Ts own ret) {hh : List (Nat × Nat × Nat × Nat)} (hT : c.exceptionTable.toList = tableOf hh) {E name : String} (pre suf : List (Nat × Nat × Nat × Nat)) {a b h t : Nat} (hs : hh = pre ++ (a, b, h, t) :: suf) (hcov : covers ⟨a, b, h, t⟩ pc = true) (ht : t ≠ 0) (hlink : (Cond.classLink own t name).before args s = true) (hcast : va_Nw (.castable E name) s) (hpass : ∀ q ∈ pre, q.2.2.2 ≠ 0 ∧ ∃ nm : String, (Cond.classLink own q.2.2.2 nm).before args s = true ∧ va_Nc E nm s) (k : ∀ q : Nat, ZW p l e R s m args below meth c nL D tys A Q cells slots ws h lv [.ref q]) : ZT p l e R s m args below meth c nL D tys A Q cells slots ws pc lv E := fun H locs ls rest q ce hl hP hD hS h1 h2 h3 =>
  vx_catch C.1.2.2.2.1 (tableOf pre) ⟨a, b, h, t⟩ (tableOf suf) (by rw [hT, hs]; simp [tableOf]) (fun z hz => by
    obtain ⟨q9, hq9, rfl⟩ := List.mem_map.mp hz
    exact Or.inr (hpass q9 hq9)) hcov ht hlink (va_Nw.use rfl hcast) h1 h2 h3 (k q H locs ls hl hP hD hS)
theorem z_fdiv (C : ZC p l s m args meth c nL D tys A cc Ts own ret) {x y : UInt32} (d : decode cc pc = .ok (.fdiv, 1)) (hne : vf_n32 (FP.fdiv x y)) (k : ZW p l e R s m args below meth c nL D tys A Q cells slots ws (pc + 1) lv (.float (FP.fdiv x y) :: st)) : ZW p l e R s m args below meth c nL D tys A Q cells slots ws pc lv (.float y :: .float x :: st) := fun H locs ls hl hP hD hS => lv_fdiv C.1.1 C.1.2.1 d hne (k H locs ls hl hP hD hS)
theorem z_ddiv (C : ZC p l s m args meth c nL D tys A cc Ts own ret) {x y : UInt64} (d : decode cc pc = .ok (.ddiv, 1)) (hne : vf_n64 (FP.ddiv x y)) (k : ZW p l e R s m args below meth c nL D tys A Q cells slots ws (pc + 1) lv (.double (FP.ddiv x y) :: st)) : ZW p l e R s m args below meth c nL D tys A Q cells slots ws pc lv (.double y :: .double x :: st) := fun H locs ls hl hP hD hS => lv_ddiv C.1.1 C.1.2.1 d hne (k H locs ls hl hP hD hS)
theorem z_f2d (C : ZC p l s m args meth c nL D tys A cc Ts own ret) {x : UInt32} (d : decode cc pc = .ok (.f2d, 1)) (hne : vf_n64 (FP.f2d x)) (k : ZW p l e R s m args below meth c nL D tys A Q cells slots ws (pc + 1) lv (.double (FP.f2d x) :: st)) : ZW p l e R s m args below meth c nL D tys A Q cells slots ws pc lv (.float x :: st) := fun H locs ls hl hP hD hS => lv_f2d C.1.1 C.1.2.1 d hne (k H locs ls hl hP hD hS)
theorem z_dcmp (C : ZC p l s m args meth c nL D tys A cc Ts own ret) {x y : UInt64} {op : CmpOp} (d : decode cc pc = .ok (.dcmp op, 1)) (k : ZW p l e R s m args below meth c nL D tys A Q cells slots ws (pc + 1) lv (.int (Op.cmpValue (FP.dcmp x y) op) :: st)) : ZW p l e R s m args below meth c nL D tys A Q cells slots ws pc lv (.double y :: .double x :: st) := fun H locs ls hl hP hD hS => lv_dcmp C.1.1 C.1.2.1 d (k H locs ls hl hP hD hS)
theorem z_ldcf (C : ZC p l s m args meth c nL D tys A cc Ts own ret) {index : Nat} {v : UInt32} (hc : (Jvm.Cond.constantFloat own index v).before args s = true) (d : decode cc pc = .ok (.ldc index, 2)) (k : ZW p l e R s m args below meth c nL D tys A Q cells slots ws (pc + 2) lv (.float v :: st)) : ZW p l e R s m args below meth c nL D tys A Q cells slots ws pc lv st := fun H locs ls hl hP hD hS => lv_ldcf C.1.1 C.1.2.1 C.1.2.2.2.1 hc d (k H locs ls hl hP hD hS)
theorem z_ldc2d (C : ZC p l s m args meth c nL D tys A cc Ts own ret) {index : Nat} {v : UInt64} (hc : (Jvm.Cond.constantDouble own index v).before args s = true) (d : decode cc pc = .ok (.ldc2_w index, 3)) (k : ZW p l e R s m args below meth c nL D tys A Q cells slots ws (pc + 3) lv (.double v :: st)) : ZW p l e R s m args below meth c nL D tys A Q cells slots ws pc lv st := fun H locs ls hl hP hD hS => lv_ldc2d C.1.1 C.1.2.1 C.1.2.2.2.1 hc d (k H locs ls hl hP hD hS)
/-- the contract of a method with a table, out of its walk -/
theorem z_openH {l : Launch} (hfl : l.stackTraces = false) {y : MethodName} {wds ws' : List Cond} {rm : Room} {av : List Value} {D : va_G} {tys : List (ClassId × FieldType)} {ws : va_W} {mc ms : Nat} {P : Option Value → va_W → Prop} {PX : String → va_W → Prop} {cc : ByteArray} {maxL : Nat} {ret : Option FieldType} {lv : List (Nat × Value)} {own : String} {hh : List (Nat × Nat × Nat × Nat)}
    (ho : y.cls = own) (hy : plainName own = true) (hw : wds = Cond.codeWith y cc maxL ret hh :: ws') (hlv : lv_args 0 av = lv) (hlen : (lg_sl av).length ≤ maxL)
    (body : ∀ p e s m args below meth c A, ZC p l s m args meth c maxL D tys A cc wds own ret → c.exceptionTable.toList = tableOf hh →
      ZW p l e rm s m args below meth c maxL D tys A (zE D tys A below args s P PX mc ms) 0 0 ws 0 lv []) : ZM l y wds rm av D tys ws mc ms P PX := by
  subst ho
  intro sz
  refine vx_ofWH (cc := cc) (maxL := maxL) (ret := ret) (hh := hh) hy hw ?_
  intro p e s m args below meth c s₁ B hml hv
  obtain ⟨rfl, hsz, hP, hK, hD0, hZ, hV⟩ := hv
  have hx := B.exec
  have hb := B.bytes
  have hr := B.returns
  have hts := atoms_spec (ws := wds) B.pre
  have htab := vx_table (x := y) B (hts _ (by rw [hw]; exact List.mem_cons_self))
  have hown : s.vm.findClass y.cls = some m.cls := findClass_of_methodNamed B.named
  have hlocks := B.notSynchronized
  subst hsz
  have hD := hD0.self (sz := s.heap.size)
  have hA : ∀ q : Nat, s.heap.size ≤ q → va_A ws s.heap.size q := fun q h => Or.inr h
  have hl := lv_entry av (n := maxL) hlen
  rw [hlv] at hl
  rw [lg_entry_eq]
  exact body p e s m av.toArray below meth c (va_A ws s.heap.size) ⟨⟨hx, hb, hml, hown, hts⟩, hlocks, hK, hA, hZ, hV, hfl, hr⟩ htab s.heap [] _ hl hP hD va_S.rf
end ZK
end ZJ
