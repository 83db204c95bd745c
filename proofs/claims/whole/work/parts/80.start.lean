section ZST
theorem zM {i : Nat} {w : Cond} (h : tables_1[i]? = some w) : w ∈ lw_tbl := List.mem_append_right _ (List.mem_of_getElem? h)
theorem zSt {s : State} {args : Array Value} (hts : ∀ w ∈ lw_tbl, w.before args s = true) (hgv : (Jvm.Cond.and given_1 narrow_1).before args s = true) : zV s := by
  have hs := flat_of_before _ hgv
  obtain ⟨cC, kC, hfc, -⟩ := Cond.instantiable_spec (hts (.instantiable RX2 10) (zM (i := 15) (by decide +kernel)))
  have hr : ∀ (i : Nat) (tx : String), Cond.stringRef RX2 i tx ∈ lw_tbl → ∃ a, vk_R RX2 i tx a s := by
    intro i tx h
    obtain ⟨-, -, -, a, -, -, -, -, -, hev⟩ := Cond.stringRef_spec hfc (hts _ h)
    exact ⟨a, vk_R.of (hts _ h) hev⟩
  refine ⟨?_, ?_, ?_, ?_⟩
  · intro q hq
    simp only [zStr, List.mem_cons, List.not_mem_nil, or_false] at hq
    rcases hq with rfl | rfl | rfl | rfl | rfl | rfl | rfl | rfl | rfl | rfl | rfl | rfl | rfl | rfl
    · exact hr 103 "there is no such part of a date" (zM (i := 369) (by decide +kernel))
    · exact hr 126 "there is no such part to set" (zM (i := 393) (by decide +kernel))
    · exact hr 128 "there is no such way to adjust" (zM (i := 401) (by decide +kernel))
    · exact hr 139 "there is no such way to a weekday" (zM (i := 419) (by decide +kernel))
    · exact hr 155 "there is no such unit of dates" (zM (i := 453) (by decide +kernel))
    · exact hr 171 "there is no such part of a span" (zM (i := 493) (by decide +kernel))
    · exact hr 183 "there is no such part of a month" (zM (i := 542) (by decide +kernel))
    · exact hr 203 "there is no such part of a time" (zM (i := 585) (by decide +kernel))
    · exact hr 219 "there is no such unit to cut to" (zM (i := 608) (by decide +kernel))
    · exact hr 231 "there is no such part of a length" (zM (i := 643) (by decide +kernel))
    · exact hr 251 "there is no such unit of moments" (zM (i := 736) (by decide +kernel))
    · exact hr 291 "there is no such slot" (zM (i := 290) (by decide +kernel))
    · exact hr 294 "there is no such thing, or a number is out of range" (zM (i := 311) (by decide +kernel))
    · exact hr 298 "what would come of it is out of range" (zM (i := 336) (by decide +kernel))
  · intro q hq
    simp only [zNcs, List.mem_cons, List.not_mem_nil, or_false] at hq
    rcases hq with rfl | rfl | rfl
    · exact va_Nc.of (hs (Cond.not (Cond.castable "java/lang/IllegalArgumentException" "java/lang/IndexOutOfBoundsException")) (by decide +kernel))
    · exact va_Nc.of (hs (Cond.not (Cond.castable "java/lang/UnsupportedOperationException" "java/lang/IndexOutOfBoundsException")) (by decide +kernel))
    · exact va_Nc.of (hs (Cond.not (Cond.castable "java/lang/UnsupportedOperationException" "java/lang/IllegalArgumentException")) (by decide +kernel))
  · intro q hq
    simp only [zCs, List.mem_cons, List.not_mem_nil, or_false] at hq
    rcases hq with rfl | rfl | rfl
    · exact va_tabs rfl rfl (hts (.castable "java/lang/IndexOutOfBoundsException" "java/lang/IndexOutOfBoundsException") (zM (i := 283) (by decide +kernel)))
    · exact va_tabs rfl rfl (hts (.castable "java/lang/IllegalArgumentException" "java/lang/IllegalArgumentException") (zM (i := 304) (by decide +kernel)))
    · exact va_tabs rfl rfl (hts (.castable "java/lang/UnsupportedOperationException" "java/lang/UnsupportedOperationException") (zM (i := 329) (by decide +kernel)))
  · intro q hq
    simp only [zDs, List.mem_cons, List.not_mem_nil, or_false] at hq
    rcases hq with rfl | rfl | rfl
    · exact va_tabs rfl rfl (hts (.declares ⟨"java/lang/RuntimeException", "<init>", "(Ljava/lang/String;)V"⟩) (zM (i := 252) (by decide +kernel)))
    · exact va_tabs rfl rfl (hts (.declares ⟨"java/lang/Exception", "<init>", "(Ljava/lang/String;)V"⟩) (zM (i := 254) (by decide +kernel)))
    · exact va_tabs rfl rfl (hts (.declares ⟨"java/lang/Throwable", "<init>", "(Ljava/lang/String;)V"⟩) (zM (i := 256) (by decide +kernel)))
theorem zSz {s : State} {args : Array Value} {A : Nat → Prop} (hts : ∀ w ∈ lw_tbl, w.before args s = true) (hgv : (Jvm.Cond.and given_1 narrow_1).before args s = true) (hA : ∀ a : Nat, a < s.heap.size → ¬ A a) : zZ A s s.heap := by
  have hs := flat_of_before _ hgv
  have hi : (Cond.initialized Bundle.tN).before args s = true := hts _ (zM (i := 3) (by decide +kernel))
  exact ⟨vx_Zqof (hts _ (zM (i := 214) (by decide +kernel))) hi (hs _ (by decide +kernel)) hA, vx_Zqof (hts _ (zM (i := 216) (by decide +kernel))) hi (hs _ (by decide +kernel)) hA⟩
theorem zSk {s : State} {args : Array Value} (hts : ∀ w ∈ lw_tbl, w.before args s = true) : ∃ (D : va_G) (cI cJ : ClassId), va_K D vwCl (zTys cI cJ) s := by
  obtain ⟨c0, i0, k0⟩ := u_known (C := RJ0) (T := TJ0) (N := 2) (n := 4) hts inJ0 (hts (.instantiable RJ0 4) (zM (i := 267) (by decide +kernel)))
  obtain ⟨c1, i1, k1⟩ := u_known (C := RJx00060) (T := TJx00060) (N := 6) (n := 6) hts inJx00060 (hts (.instantiable RJx00060 6) (zM (i := 197) (by decide +kernel)))
  obtain ⟨c2, i2, k2⟩ := u_known (C := RX2) (T := TX2) (N := 10) (n := 10) hts inX2 (hts (.instantiable RX2 10) (zM (i := 15) (by decide +kernel)))
  obtain ⟨c3, i3, k3⟩ := u_known (C := RX3) (T := TX3) (N := 14) (n := 14) hts inX3 (hts (.instantiable RX3 14) (zM (i := 749) (by decide +kernel)))
  obtain ⟨cI, kI, oI, hI, gI, eI⟩ := Cond.arrayClass_spec (hts (.arrayClass .int) (zM (i := 54) (by decide +kernel)))
  obtain ⟨cJ, kJ, oJ, hJ, gJ, eJ⟩ := Cond.arrayClass_spec (hts (.arrayClass .long) (zM (i := 53) (by decide +kernel)))
  refine ⟨(fun k => if k = 0 then c0 else if k = 1 then c1 else if k = 2 then c2 else c3, fun k => if k = 0 then i0 else if k = 1 then i1 else if k = 2 then i2 else i3), cI, cJ, ?_, ?_⟩
  · intro k q hq
    match k, hq with
    | 0, hq => cases hq; exact k0
    | 1, hq => cases hq; exact k1
    | 2, hq => cases hq; exact k2
    | 3, hq => cases hq; exact k3
    | k + 4, hq => simp [vwCl] at hq
  · intro k q hq
    match k, hq with
    | 0, hq => cases hq; exact ⟨fun n z => ⟨fun k h => (by cases h), kI, gI, oI, eI⟩, hI⟩
    | 1, hq => cases hq; exact ⟨fun n z => ⟨fun k h => (by cases h), kJ, gJ, oJ, eJ⟩, hJ⟩
    | k + 2, hq => simp [zTys] at hq
end ZST
