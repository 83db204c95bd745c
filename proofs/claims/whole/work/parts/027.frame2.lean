section ZG
theorem zcases {G : Prop} (c : Prop) [Decidable c] (f : c → G) (g : ¬ c → G) : G := if h : c then f h else g h
def zEx (E : String) (k : Int32) : Prop := (k = 1 ∧ E = "java/lang/IndexOutOfBoundsException") ∨ (k = 2 ∧ E = "java/lang/IllegalArgumentException") ∨ (k = 3 ∧ E = "java/lang/UnsupportedOperationException")
theorem zEx1 : zEx "java/lang/IndexOutOfBoundsException" 1 := Or.inl ⟨rfl, rfl⟩
theorem zEx2 : zEx "java/lang/IllegalArgumentException" 2 := Or.inr (Or.inl ⟨rfl, rfl⟩)
theorem zEx3 : zEx "java/lang/UnsupportedOperationException" 3 := Or.inr (Or.inr ⟨rfl, rfl⟩)
theorem zEx_ne {E : String} {k : Int32} (h : zEx E k) : ¬ k = 0 := by
  rintro rfl
  rcases h with h | h | h <;> exact absurd h.1 (by decide)
theorem zlk_gen : ∀ (ps : List (Int × Int)) (dflt k : Int), (∀ q ∈ ps, ¬ q.1 = k) → Op.lookupswitch.offset ps dflt k = dflt
  | [], _, _, _ => rfl
  | (a, o) :: r, dflt, k, h => by
    show (if a = k then o else Op.lookupswitch.offset r dflt k) = dflt
    rw [if_neg (h (a, o) List.mem_cons_self)]
    exact zlk_gen r dflt k (fun q hq => h q (List.mem_cons_of_mem _ hq))
theorem zlk_e {x A : Int32} {a : Int} (h : ¬ x = A) (e : A.toInt = a) : ¬ a = x.toInt := fun z => h (Int32.toInt_inj.mp (z.symm.trans e.symm))
theorem zlk1 {x A0 : Int32} {a0 o0 dflt : Int} (h0 : ¬ x = A0) (e0 : A0.toInt = a0 := by decide) : Op.lookupswitch.offset (#[(a0, o0)] : Array (Int × Int)).toList dflt x.toInt = dflt := zlk_gen _ _ _ (by
  intro q hq
  simp only [List.mem_cons, List.not_mem_nil, or_false] at hq
  rcases hq with rfl
  · exact zlk_e h0 e0)
theorem zlk2 {x A0 A1 : Int32} {a0 o0 a1 o1 dflt : Int} (h0 : ¬ x = A0) (h1 : ¬ x = A1) (e0 : A0.toInt = a0 := by decide) (e1 : A1.toInt = a1 := by decide) : Op.lookupswitch.offset (#[(a0, o0), (a1, o1)] : Array (Int × Int)).toList dflt x.toInt = dflt := zlk_gen _ _ _ (by
  intro q hq
  simp only [List.mem_cons, List.not_mem_nil, or_false] at hq
  rcases hq with rfl | rfl
  · exact zlk_e h0 e0
  · exact zlk_e h1 e1)
theorem zlk3 {x A0 A1 A2 : Int32} {a0 o0 a1 o1 a2 o2 dflt : Int} (h0 : ¬ x = A0) (h1 : ¬ x = A1) (h2 : ¬ x = A2) (e0 : A0.toInt = a0 := by decide) (e1 : A1.toInt = a1 := by decide) (e2 : A2.toInt = a2 := by decide) : Op.lookupswitch.offset (#[(a0, o0), (a1, o1), (a2, o2)] : Array (Int × Int)).toList dflt x.toInt = dflt := zlk_gen _ _ _ (by
  intro q hq
  simp only [List.mem_cons, List.not_mem_nil, or_false] at hq
  rcases hq with rfl | rfl | rfl
  · exact zlk_e h0 e0
  · exact zlk_e h1 e1
  · exact zlk_e h2 e2)
theorem zlk4 {x A0 A1 A2 A3 : Int32} {a0 o0 a1 o1 a2 o2 a3 o3 dflt : Int} (h0 : ¬ x = A0) (h1 : ¬ x = A1) (h2 : ¬ x = A2) (h3 : ¬ x = A3) (e0 : A0.toInt = a0 := by decide) (e1 : A1.toInt = a1 := by decide) (e2 : A2.toInt = a2 := by decide) (e3 : A3.toInt = a3 := by decide) : Op.lookupswitch.offset (#[(a0, o0), (a1, o1), (a2, o2), (a3, o3)] : Array (Int × Int)).toList dflt x.toInt = dflt := zlk_gen _ _ _ (by
  intro q hq
  simp only [List.mem_cons, List.not_mem_nil, or_false] at hq
  rcases hq with rfl | rfl | rfl | rfl
  · exact zlk_e h0 e0
  · exact zlk_e h1 e1
  · exact zlk_e h2 e2
  · exact zlk_e h3 e3)
theorem zlk5 {x A0 A1 A2 A3 A4 : Int32} {a0 o0 a1 o1 a2 o2 a3 o3 a4 o4 dflt : Int} (h0 : ¬ x = A0) (h1 : ¬ x = A1) (h2 : ¬ x = A2) (h3 : ¬ x = A3) (h4 : ¬ x = A4) (e0 : A0.toInt = a0 := by decide) (e1 : A1.toInt = a1 := by decide) (e2 : A2.toInt = a2 := by decide) (e3 : A3.toInt = a3 := by decide) (e4 : A4.toInt = a4 := by decide) : Op.lookupswitch.offset (#[(a0, o0), (a1, o1), (a2, o2), (a3, o3), (a4, o4)] : Array (Int × Int)).toList dflt x.toInt = dflt := zlk_gen _ _ _ (by
  intro q hq
  simp only [List.mem_cons, List.not_mem_nil, or_false] at hq
  rcases hq with rfl | rfl | rfl | rfl | rfl
  · exact zlk_e h0 e0
  · exact zlk_e h1 e1
  · exact zlk_e h2 e2
  · exact zlk_e h3 e3
  · exact zlk_e h4 e4)
theorem zlk6 {x A0 A1 A2 A3 A4 A5 : Int32} {a0 o0 a1 o1 a2 o2 a3 o3 a4 o4 a5 o5 dflt : Int} (h0 : ¬ x = A0) (h1 : ¬ x = A1) (h2 : ¬ x = A2) (h3 : ¬ x = A3) (h4 : ¬ x = A4) (h5 : ¬ x = A5) (e0 : A0.toInt = a0 := by decide) (e1 : A1.toInt = a1 := by decide) (e2 : A2.toInt = a2 := by decide) (e3 : A3.toInt = a3 := by decide) (e4 : A4.toInt = a4 := by decide) (e5 : A5.toInt = a5 := by decide) : Op.lookupswitch.offset (#[(a0, o0), (a1, o1), (a2, o2), (a3, o3), (a4, o4), (a5, o5)] : Array (Int × Int)).toList dflt x.toInt = dflt := zlk_gen _ _ _ (by
  intro q hq
  simp only [List.mem_cons, List.not_mem_nil, or_false] at hq
  rcases hq with rfl | rfl | rfl | rfl | rfl | rfl
  · exact zlk_e h0 e0
  · exact zlk_e h1 e1
  · exact zlk_e h2 e2
  · exact zlk_e h3 e3
  · exact zlk_e h4 e4
  · exact zlk_e h5 e5)
theorem zlk7 {x A0 A1 A2 A3 A4 A5 A6 : Int32} {a0 o0 a1 o1 a2 o2 a3 o3 a4 o4 a5 o5 a6 o6 dflt : Int} (h0 : ¬ x = A0) (h1 : ¬ x = A1) (h2 : ¬ x = A2) (h3 : ¬ x = A3) (h4 : ¬ x = A4) (h5 : ¬ x = A5) (h6 : ¬ x = A6) (e0 : A0.toInt = a0 := by decide) (e1 : A1.toInt = a1 := by decide) (e2 : A2.toInt = a2 := by decide) (e3 : A3.toInt = a3 := by decide) (e4 : A4.toInt = a4 := by decide) (e5 : A5.toInt = a5 := by decide) (e6 : A6.toInt = a6 := by decide) : Op.lookupswitch.offset (#[(a0, o0), (a1, o1), (a2, o2), (a3, o3), (a4, o4), (a5, o5), (a6, o6)] : Array (Int × Int)).toList dflt x.toInt = dflt := zlk_gen _ _ _ (by
  intro q hq
  simp only [List.mem_cons, List.not_mem_nil, or_false] at hq
  rcases hq with rfl | rfl | rfl | rfl | rfl | rfl | rfl
  · exact zlk_e h0 e0
  · exact zlk_e h1 e1
  · exact zlk_e h2 e2
  · exact zlk_e h3 e3
  · exact zlk_e h4 e4
  · exact zlk_e h5 e5
  · exact zlk_e h6 e6)
theorem zlk8 {x A0 A1 A2 A3 A4 A5 A6 A7 : Int32} {a0 o0 a1 o1 a2 o2 a3 o3 a4 o4 a5 o5 a6 o6 a7 o7 dflt : Int} (h0 : ¬ x = A0) (h1 : ¬ x = A1) (h2 : ¬ x = A2) (h3 : ¬ x = A3) (h4 : ¬ x = A4) (h5 : ¬ x = A5) (h6 : ¬ x = A6) (h7 : ¬ x = A7) (e0 : A0.toInt = a0 := by decide) (e1 : A1.toInt = a1 := by decide) (e2 : A2.toInt = a2 := by decide) (e3 : A3.toInt = a3 := by decide) (e4 : A4.toInt = a4 := by decide) (e5 : A5.toInt = a5 := by decide) (e6 : A6.toInt = a6 := by decide) (e7 : A7.toInt = a7 := by decide) : Op.lookupswitch.offset (#[(a0, o0), (a1, o1), (a2, o2), (a3, o3), (a4, o4), (a5, o5), (a6, o6), (a7, o7)] : Array (Int × Int)).toList dflt x.toInt = dflt := zlk_gen _ _ _ (by
  intro q hq
  simp only [List.mem_cons, List.not_mem_nil, or_false] at hq
  rcases hq with rfl | rfl | rfl | rfl | rfl | rfl | rfl | rfl
  · exact zlk_e h0 e0
  · exact zlk_e h1 e1
  · exact zlk_e h2 e2
  · exact zlk_e h3 e3
  · exact zlk_e h4 e4
  · exact zlk_e h5 e5
  · exact zlk_e h6 e6
  · exact zlk_e h7 e7)
theorem zlk9 {x A0 A1 A2 A3 A4 A5 A6 A7 A8 : Int32} {a0 o0 a1 o1 a2 o2 a3 o3 a4 o4 a5 o5 a6 o6 a7 o7 a8 o8 dflt : Int} (h0 : ¬ x = A0) (h1 : ¬ x = A1) (h2 : ¬ x = A2) (h3 : ¬ x = A3) (h4 : ¬ x = A4) (h5 : ¬ x = A5) (h6 : ¬ x = A6) (h7 : ¬ x = A7) (h8 : ¬ x = A8) (e0 : A0.toInt = a0 := by decide) (e1 : A1.toInt = a1 := by decide) (e2 : A2.toInt = a2 := by decide) (e3 : A3.toInt = a3 := by decide) (e4 : A4.toInt = a4 := by decide) (e5 : A5.toInt = a5 := by decide) (e6 : A6.toInt = a6 := by decide) (e7 : A7.toInt = a7 := by decide) (e8 : A8.toInt = a8 := by decide) : Op.lookupswitch.offset (#[(a0, o0), (a1, o1), (a2, o2), (a3, o3), (a4, o4), (a5, o5), (a6, o6), (a7, o7), (a8, o8)] : Array (Int × Int)).toList dflt x.toInt = dflt := zlk_gen _ _ _ (by
  intro q hq
  simp only [List.mem_cons, List.not_mem_nil, or_false] at hq
  rcases hq with rfl | rfl | rfl | rfl | rfl | rfl | rfl | rfl | rfl
  · exact zlk_e h0 e0
  · exact zlk_e h1 e1
  · exact zlk_e h2 e2
  · exact zlk_e h3 e3
  · exact zlk_e h4 e4
  · exact zlk_e h5 e5
  · exact zlk_e h6 e6
  · exact zlk_e h7 e7
  · exact zlk_e h8 e8)
theorem zlk10 {x A0 A1 A2 A3 A4 A5 A6 A7 A8 A9 : Int32} {a0 o0 a1 o1 a2 o2 a3 o3 a4 o4 a5 o5 a6 o6 a7 o7 a8 o8 a9 o9 dflt : Int} (h0 : ¬ x = A0) (h1 : ¬ x = A1) (h2 : ¬ x = A2) (h3 : ¬ x = A3) (h4 : ¬ x = A4) (h5 : ¬ x = A5) (h6 : ¬ x = A6) (h7 : ¬ x = A7) (h8 : ¬ x = A8) (h9 : ¬ x = A9) (e0 : A0.toInt = a0 := by decide) (e1 : A1.toInt = a1 := by decide) (e2 : A2.toInt = a2 := by decide) (e3 : A3.toInt = a3 := by decide) (e4 : A4.toInt = a4 := by decide) (e5 : A5.toInt = a5 := by decide) (e6 : A6.toInt = a6 := by decide) (e7 : A7.toInt = a7 := by decide) (e8 : A8.toInt = a8 := by decide) (e9 : A9.toInt = a9 := by decide) : Op.lookupswitch.offset (#[(a0, o0), (a1, o1), (a2, o2), (a3, o3), (a4, o4), (a5, o5), (a6, o6), (a7, o7), (a8, o8), (a9, o9)] : Array (Int × Int)).toList dflt x.toInt = dflt := zlk_gen _ _ _ (by
  intro q hq
  simp only [List.mem_cons, List.not_mem_nil, or_false] at hq
  rcases hq with rfl | rfl | rfl | rfl | rfl | rfl | rfl | rfl | rfl | rfl
  · exact zlk_e h0 e0
  · exact zlk_e h1 e1
  · exact zlk_e h2 e2
  · exact zlk_e h3 e3
  · exact zlk_e h4 e4
  · exact zlk_e h5 e5
  · exact zlk_e h6 e6
  · exact zlk_e h7 e7
  · exact zlk_e h8 e8
  · exact zlk_e h9 e9)
theorem zTn_2_11 {x : Int32} (h2 : ¬ x = 2) (h3 : ¬ x = 3) (h4 : ¬ x = 4) (h5 : ¬ x = 5) (h6 : ¬ x = 6) (h7 : ¬ x = 7) (h8 : ¬ x = 8) (h9 : ¬ x = 9) (h10 : ¬ x = 10) (h11 : ¬ x = 11) : x.toInt < 2 ∨ 11 < x.toInt := by
  have g2 : ¬ x.toInt = 2 := fun z => h2 (Int32.toInt_inj.mp z)
  have g3 : ¬ x.toInt = 3 := fun z => h3 (Int32.toInt_inj.mp z)
  have g4 : ¬ x.toInt = 4 := fun z => h4 (Int32.toInt_inj.mp z)
  have g5 : ¬ x.toInt = 5 := fun z => h5 (Int32.toInt_inj.mp z)
  have g6 : ¬ x.toInt = 6 := fun z => h6 (Int32.toInt_inj.mp z)
  have g7 : ¬ x.toInt = 7 := fun z => h7 (Int32.toInt_inj.mp z)
  have g8 : ¬ x.toInt = 8 := fun z => h8 (Int32.toInt_inj.mp z)
  have g9 : ¬ x.toInt = 9 := fun z => h9 (Int32.toInt_inj.mp z)
  have g10 : ¬ x.toInt = 10 := fun z => h10 (Int32.toInt_inj.mp z)
  have g11 : ¬ x.toInt = 11 := fun z => h11 (Int32.toInt_inj.mp z)
  omega
theorem zTn_0_48 {x : Int32} (h0 : ¬ x = 0) (h1 : ¬ x = 1) (h2 : ¬ x = 2) (h3 : ¬ x = 3) (h4 : ¬ x = 4) (h5 : ¬ x = 5) (h6 : ¬ x = 6) (h7 : ¬ x = 7) (h8 : ¬ x = 8) (h9 : ¬ x = 9) (h10 : ¬ x = 10) (h11 : ¬ x = 11) (h12 : ¬ x = 12) (h13 : ¬ x = 13) (h14 : ¬ x = 14) (h15 : ¬ x = 15) (h16 : ¬ x = 16) (h17 : ¬ x = 17) (h18 : ¬ x = 18) (h19 : ¬ x = 19) (h20 : ¬ x = 20) (h21 : ¬ x = 21) (h22 : ¬ x = 22) (h23 : ¬ x = 23) (h24 : ¬ x = 24) (h25 : ¬ x = 25) (h26 : ¬ x = 26) (h27 : ¬ x = 27) (h28 : ¬ x = 28) (h29 : ¬ x = 29) (h30 : ¬ x = 30) (h31 : ¬ x = 31) (h32 : ¬ x = 32) (h33 : ¬ x = 33) (h34 : ¬ x = 34) (h35 : ¬ x = 35) (h36 : ¬ x = 36) (h37 : ¬ x = 37) (h38 : ¬ x = 38) (h39 : ¬ x = 39) (h40 : ¬ x = 40) (h41 : ¬ x = 41) (h42 : ¬ x = 42) (h43 : ¬ x = 43) (h44 : ¬ x = 44) (h45 : ¬ x = 45) (h46 : ¬ x = 46) (h47 : ¬ x = 47) (h48 : ¬ x = 48) : x.toInt < 0 ∨ 48 < x.toInt := by
  have g0 : ¬ x.toInt = 0 := fun z => h0 (Int32.toInt_inj.mp z)
  have g1 : ¬ x.toInt = 1 := fun z => h1 (Int32.toInt_inj.mp z)
  have g2 : ¬ x.toInt = 2 := fun z => h2 (Int32.toInt_inj.mp z)
  have g3 : ¬ x.toInt = 3 := fun z => h3 (Int32.toInt_inj.mp z)
  have g4 : ¬ x.toInt = 4 := fun z => h4 (Int32.toInt_inj.mp z)
  have g5 : ¬ x.toInt = 5 := fun z => h5 (Int32.toInt_inj.mp z)
  have g6 : ¬ x.toInt = 6 := fun z => h6 (Int32.toInt_inj.mp z)
  have g7 : ¬ x.toInt = 7 := fun z => h7 (Int32.toInt_inj.mp z)
  have g8 : ¬ x.toInt = 8 := fun z => h8 (Int32.toInt_inj.mp z)
  have g9 : ¬ x.toInt = 9 := fun z => h9 (Int32.toInt_inj.mp z)
  have g10 : ¬ x.toInt = 10 := fun z => h10 (Int32.toInt_inj.mp z)
  have g11 : ¬ x.toInt = 11 := fun z => h11 (Int32.toInt_inj.mp z)
  have g12 : ¬ x.toInt = 12 := fun z => h12 (Int32.toInt_inj.mp z)
  have g13 : ¬ x.toInt = 13 := fun z => h13 (Int32.toInt_inj.mp z)
  have g14 : ¬ x.toInt = 14 := fun z => h14 (Int32.toInt_inj.mp z)
  have g15 : ¬ x.toInt = 15 := fun z => h15 (Int32.toInt_inj.mp z)
  have g16 : ¬ x.toInt = 16 := fun z => h16 (Int32.toInt_inj.mp z)
  have g17 : ¬ x.toInt = 17 := fun z => h17 (Int32.toInt_inj.mp z)
  have g18 : ¬ x.toInt = 18 := fun z => h18 (Int32.toInt_inj.mp z)
  have g19 : ¬ x.toInt = 19 := fun z => h19 (Int32.toInt_inj.mp z)
  have g20 : ¬ x.toInt = 20 := fun z => h20 (Int32.toInt_inj.mp z)
  have g21 : ¬ x.toInt = 21 := fun z => h21 (Int32.toInt_inj.mp z)
  have g22 : ¬ x.toInt = 22 := fun z => h22 (Int32.toInt_inj.mp z)
  have g23 : ¬ x.toInt = 23 := fun z => h23 (Int32.toInt_inj.mp z)
  have g24 : ¬ x.toInt = 24 := fun z => h24 (Int32.toInt_inj.mp z)
  have g25 : ¬ x.toInt = 25 := fun z => h25 (Int32.toInt_inj.mp z)
  have g26 : ¬ x.toInt = 26 := fun z => h26 (Int32.toInt_inj.mp z)
  have g27 : ¬ x.toInt = 27 := fun z => h27 (Int32.toInt_inj.mp z)
  have g28 : ¬ x.toInt = 28 := fun z => h28 (Int32.toInt_inj.mp z)
  have g29 : ¬ x.toInt = 29 := fun z => h29 (Int32.toInt_inj.mp z)
  have g30 : ¬ x.toInt = 30 := fun z => h30 (Int32.toInt_inj.mp z)
  have g31 : ¬ x.toInt = 31 := fun z => h31 (Int32.toInt_inj.mp z)
  have g32 : ¬ x.toInt = 32 := fun z => h32 (Int32.toInt_inj.mp z)
  have g33 : ¬ x.toInt = 33 := fun z => h33 (Int32.toInt_inj.mp z)
  have g34 : ¬ x.toInt = 34 := fun z => h34 (Int32.toInt_inj.mp z)
  have g35 : ¬ x.toInt = 35 := fun z => h35 (Int32.toInt_inj.mp z)
  have g36 : ¬ x.toInt = 36 := fun z => h36 (Int32.toInt_inj.mp z)
  have g37 : ¬ x.toInt = 37 := fun z => h37 (Int32.toInt_inj.mp z)
  have g38 : ¬ x.toInt = 38 := fun z => h38 (Int32.toInt_inj.mp z)
  have g39 : ¬ x.toInt = 39 := fun z => h39 (Int32.toInt_inj.mp z)
  have g40 : ¬ x.toInt = 40 := fun z => h40 (Int32.toInt_inj.mp z)
  have g41 : ¬ x.toInt = 41 := fun z => h41 (Int32.toInt_inj.mp z)
  have g42 : ¬ x.toInt = 42 := fun z => h42 (Int32.toInt_inj.mp z)
  have g43 : ¬ x.toInt = 43 := fun z => h43 (Int32.toInt_inj.mp z)
  have g44 : ¬ x.toInt = 44 := fun z => h44 (Int32.toInt_inj.mp z)
  have g45 : ¬ x.toInt = 45 := fun z => h45 (Int32.toInt_inj.mp z)
  have g46 : ¬ x.toInt = 46 := fun z => h46 (Int32.toInt_inj.mp z)
  have g47 : ¬ x.toInt = 47 := fun z => h47 (Int32.toInt_inj.mp z)
  have g48 : ¬ x.toInt = 48 := fun z => h48 (Int32.toInt_inj.mp z)
  omega
theorem vp_of {a : Int32} {n : Nat} (h1 : 0 ≤ a.toInt) (h2 : a.toInt < n) : vp_in a n := vp_in_iff.mpr ⟨h1, h2⟩
theorem zvpl (a : Int32) (n : Nat) (h : 0 ≤ a.toInt ∧ a.toInt < n) : vp_in a n := vp_in_iff.mpr h
theorem zpos_ne {a : Int64} (h : 0 < a) : ¬ a = 0 := by
  rintro rfl
  exact absurd h (by decide)
theorem znle_ne {a : Int64} (h : ¬ a ≤ 0) : ¬ a = 0 := by
  rintro rfl
  exact absurd h (by decide)
theorem zb01 {r : Int32} (h : r = 0 ∨ r = 1) : r &&& 1 = r := by rcases h with rfl | rfl <;> decide
theorem zg_293 : ∀ w ∈ (vx_atS RX2 293 "java/lang/IndexOutOfBoundsException" ["java/lang/RuntimeException", "java/lang/Exception"]).filter (fun w => !goodWord w), w ∈ zBd "java/lang/IndexOutOfBoundsException" := by decide +kernel
theorem zg_105 : ∀ w ∈ (vx_atS RX2 105 "java/lang/IllegalArgumentException" ["java/lang/RuntimeException", "java/lang/Exception"]).filter (fun w => !goodWord w), w ∈ zBd "java/lang/IllegalArgumentException" := by decide +kernel
theorem zg_300 : ∀ w ∈ (vx_atS RX2 300 "java/lang/UnsupportedOperationException" ["java/lang/RuntimeException", "java/lang/Exception"]).filter (fun w => !goodWord w), w ∈ zBd "java/lang/UnsupportedOperationException" := by decide +kernel
theorem zo_293 : ∀ w ∈ Cond.classLink RX2 289 "java/lang/IndexOutOfBoundsException" :: Cond.initialized "java/lang/IndexOutOfBoundsException" :: vx_atS RX2 293 "java/lang/IndexOutOfBoundsException" ["java/lang/RuntimeException", "java/lang/Exception"], vx_ot w = true := by decide +kernel
theorem zo_105 : ∀ w ∈ Cond.classLink RX2 101 "java/lang/IllegalArgumentException" :: Cond.initialized "java/lang/IllegalArgumentException" :: vx_atS RX2 105 "java/lang/IllegalArgumentException" ["java/lang/RuntimeException", "java/lang/Exception"], vx_ot w = true := by decide +kernel
theorem zo_300 : ∀ w ∈ Cond.classLink RX2 296 "java/lang/UnsupportedOperationException" :: Cond.initialized "java/lang/UnsupportedOperationException" :: vx_atS RX2 300 "java/lang/UnsupportedOperationException" ["java/lang/RuntimeException", "java/lang/Exception"], vx_ot w = true := by decide +kernel
/-- the cells of a Yearwheel, ahead of others -/
abbrev wY (cI cJ : ClassId) (y : Nat → Nat) (d : Nat → Int64) (sy sm sd mi : Nat → Int32) (ti sL bL mD mT : Nat → Int64) (X : va_W) : va_W := (y 0, .inr (2, [.ref (y 1), .ref (y 2), .ref (y 3), .ref (y 4), .ref (y 5), .ref (y 6), .ref (y 7), .ref (y 8), .ref (y 9), .ref (y 10)])) :: (y 1, .inl (cJ, 6, .inr (.inl d))) :: (y 2, .inl (cI, 4, .inl sy)) :: (y 3, .inl (cI, 4, .inl sm)) :: (y 4, .inl (cI, 4, .inl sd)) :: (y 5, .inl (cI, 4, .inl mi)) :: (y 6, .inl (cJ, 4, .inr (.inl ti))) :: (y 7, .inl (cJ, 4, .inr (.inl sL))) :: (y 8, .inl (cJ, 4, .inr (.inl bL))) :: (y 9, .inl (cJ, 4, .inr (.inl mD))) :: (y 10, .inl (cJ, 4, .inr (.inl mT))) :: X
/-- the cells of a YearwheelModel, ahead of others -/
abbrev wM (cI cJ : ClassId) (z : Nat → Nat) (co : Int32) (d ti sL bL mD mT sy sm sd mi : Nat → Int64) (yr : Int64) (mo dy : Int32) (X : va_W) : va_W := (z 0, .inr (3, [.int co, .ref (z 1), .ref (z 2), .ref (z 3), .ref (z 4), .ref (z 5), .ref (z 6), .ref (z 7), .ref (z 8), .ref (z 9), .ref (z 10), .long yr, .int mo, .int dy])) :: (z 1, .inl (cJ, 6, .inr (.inl d))) :: (z 2, .inl (cJ, 4, .inr (.inl ti))) :: (z 3, .inl (cJ, 4, .inr (.inl sL))) :: (z 4, .inl (cJ, 4, .inr (.inl bL))) :: (z 5, .inl (cJ, 4, .inr (.inl mD))) :: (z 6, .inl (cJ, 4, .inr (.inl mT))) :: (z 7, .inl (cJ, 4, .inr (.inl sy))) :: (z 8, .inl (cJ, 4, .inr (.inl sm))) :: (z 9, .inl (cJ, 4, .inr (.inl sd))) :: (z 10, .inl (cJ, 4, .inr (.inl mi))) :: X
section ZH
variable {p : Program} {l : Launch} {e : Env} {R : Room} {s : State} {m : MethodId} {args : Array Value} {below : List Frame} {meth : Method} {c : Code} {nL : Nat} {D : va_G} {tys : List (ClassId × FieldType)} {A : Nat → Prop} {Q : State → Prop} {cc : ByteArray} {Ts : List Cond} {own : String} {ret : Option FieldType} {cells slots : Nat} {ws : va_W} {pc : Nat} {lv : List (Nat × Value)} {st : List Value}
theorem z_eqst {st' : List Value} (h : st = st') (k : ZW p l e R s m args below meth c nL D tys A Q cells slots ws pc lv st') : ZW p l e R s m args below meth c nL D tys A Q cells slots ws pc lv st := by rw [h]; exact k
theorem z_si {rest : List Value} {y : MethodName} {wds : List Cond} {rm : Room} {av st0 : List Value} {bytes : ByteArray} {maxL n mc ms index : Nat} {ry : Option FieldType} {r : Int32} (C : ZC p l s m args meth c nL D tys A cc Ts own ret) (hM : ZM l y wds rm av D tys ws mc ms (fun v w => v = some (.int r) ∧ w = ws) (fun _ _ => False)) (hY : ZY y wds bytes maxL ry n) (hT : GoodIn Ts (va_wsS own index y wds)) (hrm : rm.cells = mc ∧ rm.slots = ms) (hn : av.length = n) (hst : st0 = av.reverse ++ rest) (hW : (rest.map fun v => v.category).sum ≤ 8) (hR : rm.frames + 1 ≤ R.frames ∧ 8 + (maxL + 11) + rm.locals ≤ R.locals) (hf : cells + mc ≤ R.cells ∧ slots + ms ≤ R.slots) (d : decode cc pc = .ok (.invokestatic index, 3)) (k : ZW p l e R s m args below meth c nL D tys A Q (cells + mc) (slots + ms) ws (pc + 3) lv (.int r :: rest)) : ZW p l e R s m args below meth c nL D tys A Q cells slots ws pc lv st0 := z_callS C hM hY hT hrm hn hst hW hR hf d (fun v w h => by obtain ⟨rfl, rfl⟩ := h; exact k) (fun _ _ h => h.elim)
theorem z_wi {ws' : va_W} {rest : List Value} {a ci q0 : Nat} {qc : vw_C} {fs : List Value} {y : MethodName} {wds : List Cond} {rm : Room} {av st0 : List Value} {bytes : ByteArray} {maxL n mc ms index : Nat} {ry : Option FieldType} {r : Int32} (C : ZC p l s m args meth c nL D tys A cc Ts own ret) (hM : ZM l y wds rm (.ref a :: av) D tys ws mc ms (fun v w => v = some (.int r) ∧ w = ws') (fun _ _ => False)) (hY : ZY y wds bytes maxL ry n) (hcl : y.cls = qc.1) (hc : vwCl[ci]? = some qc) (he : ws[q0]? = some (a, .inr (ci, fs))) (hT : GoodIn Ts (wsV own index qc.1 y wds)) (hrm : rm.cells = mc ∧ rm.slots = ms) (hn : av.length = n) (hst : st0 = av.reverse ++ .ref a :: rest) (hW : (rest.map fun v => v.category).sum ≤ 8) (hR : rm.frames + 1 ≤ R.frames ∧ 8 + (maxL + 11) + rm.locals ≤ R.locals) (hf : cells + mc ≤ R.cells ∧ slots + ms ≤ R.slots) (d : decode cc pc = .ok (.invokevirtual index, 3)) (k : ZW p l e R s m args below meth c nL D tys A Q (cells + mc) (slots + ms) ws' (pc + 3) lv (.int r :: rest)) : ZW p l e R s m args below meth c nL D tys A Q cells slots ws pc lv st0 := z_callV C hM hY hcl hc he hT hrm hn hst hW hR hf d (fun v w h => by obtain ⟨rfl, rfl⟩ := h; exact k) (fun _ _ h => h.elim)
theorem z_xsi {rest : List Value} {y : MethodName} {wds : List Cond} {rm : Room} {av st0 : List Value} {bytes : ByteArray} {maxL n mc ms index : Nat} {ry : Option FieldType} {r : Int32} {kc : Int32} (C : ZC p l s m args meth c nL D tys A cc Ts own ret) (hM : ZM l y wds rm av D tys ws mc ms (fun v w => kc = 0 ∧ v = some (.int r) ∧ w = ws) (fun E w => w = ws ∧ zEx E kc)) (hY : ZY y wds bytes maxL ry n) (hT : GoodIn Ts (va_wsS own index y wds)) (hrm : rm.cells = mc ∧ rm.slots = ms) (hn : av.length = n) (hst : st0 = av.reverse ++ rest) (hW : (rest.map fun v => v.category).sum ≤ 8) (hR : rm.frames + 1 ≤ R.frames ∧ 8 + (maxL + 11) + rm.locals ≤ R.locals) (hf : cells + mc ≤ R.cells ∧ slots + ms ≤ R.slots) (d : decode cc pc = .ok (.invokestatic index, 3)) (k : kc = 0 → ZW p l e R s m args below meth c nL D tys A Q (cells + mc) (slots + ms) ws (pc + 3) lv (.int r :: rest)) (kx : ∀ E, ¬ kc = 0 → zEx E kc → ZT p l e R s m args below meth c nL D tys A Q (cells + mc) (slots + ms) ws pc lv E) : ZW p l e R s m args below meth c nL D tys A Q cells slots ws pc lv st0 := z_callS C hM hY hT hrm hn hst hW hR hf d (fun v w h => by obtain ⟨h0, rfl, rfl⟩ := h; exact k h0) (fun E w h => by obtain ⟨rfl, h0⟩ := h; exact kx E (zEx_ne h0) h0)
theorem z_xwi {ws' : va_W} {rest : List Value} {a ci q0 : Nat} {qc : vw_C} {fs : List Value} {y : MethodName} {wds : List Cond} {rm : Room} {av st0 : List Value} {bytes : ByteArray} {maxL n mc ms index : Nat} {ry : Option FieldType} {r : Int32} {kc : Int32} (C : ZC p l s m args meth c nL D tys A cc Ts own ret) (hM : ZM l y wds rm (.ref a :: av) D tys ws mc ms (fun v w => kc = 0 ∧ v = some (.int r) ∧ w = ws') (fun E w => w = ws ∧ zEx E kc)) (hY : ZY y wds bytes maxL ry n) (hcl : y.cls = qc.1) (hc : vwCl[ci]? = some qc) (he : ws[q0]? = some (a, .inr (ci, fs))) (hT : GoodIn Ts (wsV own index qc.1 y wds)) (hrm : rm.cells = mc ∧ rm.slots = ms) (hn : av.length = n) (hst : st0 = av.reverse ++ .ref a :: rest) (hW : (rest.map fun v => v.category).sum ≤ 8) (hR : rm.frames + 1 ≤ R.frames ∧ 8 + (maxL + 11) + rm.locals ≤ R.locals) (hf : cells + mc ≤ R.cells ∧ slots + ms ≤ R.slots) (d : decode cc pc = .ok (.invokevirtual index, 3)) (k : kc = 0 → ZW p l e R s m args below meth c nL D tys A Q (cells + mc) (slots + ms) ws' (pc + 3) lv (.int r :: rest)) (kx : ∀ E, ¬ kc = 0 → zEx E kc → ZT p l e R s m args below meth c nL D tys A Q (cells + mc) (slots + ms) ws pc lv E) : ZW p l e R s m args below meth c nL D tys A Q cells slots ws pc lv st0 := z_callV C hM hY hcl hc he hT hrm hn hst hW hR hf d (fun v w h => by obtain ⟨h0, rfl, rfl⟩ := h; exact k h0) (fun E w h => by obtain ⟨rfl, h0⟩ := h; exact kx E (zEx_ne h0) h0)
theorem z_sl {rest : List Value} {y : MethodName} {wds : List Cond} {rm : Room} {av st0 : List Value} {bytes : ByteArray} {maxL n mc ms index : Nat} {ry : Option FieldType} {r : Int64} (C : ZC p l s m args meth c nL D tys A cc Ts own ret) (hM : ZM l y wds rm av D tys ws mc ms (fun v w => v = some (.long r) ∧ w = ws) (fun _ _ => False)) (hY : ZY y wds bytes maxL ry n) (hT : GoodIn Ts (va_wsS own index y wds)) (hrm : rm.cells = mc ∧ rm.slots = ms) (hn : av.length = n) (hst : st0 = av.reverse ++ rest) (hW : (rest.map fun v => v.category).sum ≤ 8) (hR : rm.frames + 1 ≤ R.frames ∧ 8 + (maxL + 11) + rm.locals ≤ R.locals) (hf : cells + mc ≤ R.cells ∧ slots + ms ≤ R.slots) (d : decode cc pc = .ok (.invokestatic index, 3)) (k : ZW p l e R s m args below meth c nL D tys A Q (cells + mc) (slots + ms) ws (pc + 3) lv (.long r :: rest)) : ZW p l e R s m args below meth c nL D tys A Q cells slots ws pc lv st0 := z_callS C hM hY hT hrm hn hst hW hR hf d (fun v w h => by obtain ⟨rfl, rfl⟩ := h; exact k) (fun _ _ h => h.elim)
theorem z_wl {ws' : va_W} {rest : List Value} {a ci q0 : Nat} {qc : vw_C} {fs : List Value} {y : MethodName} {wds : List Cond} {rm : Room} {av st0 : List Value} {bytes : ByteArray} {maxL n mc ms index : Nat} {ry : Option FieldType} {r : Int64} (C : ZC p l s m args meth c nL D tys A cc Ts own ret) (hM : ZM l y wds rm (.ref a :: av) D tys ws mc ms (fun v w => v = some (.long r) ∧ w = ws') (fun _ _ => False)) (hY : ZY y wds bytes maxL ry n) (hcl : y.cls = qc.1) (hc : vwCl[ci]? = some qc) (he : ws[q0]? = some (a, .inr (ci, fs))) (hT : GoodIn Ts (wsV own index qc.1 y wds)) (hrm : rm.cells = mc ∧ rm.slots = ms) (hn : av.length = n) (hst : st0 = av.reverse ++ .ref a :: rest) (hW : (rest.map fun v => v.category).sum ≤ 8) (hR : rm.frames + 1 ≤ R.frames ∧ 8 + (maxL + 11) + rm.locals ≤ R.locals) (hf : cells + mc ≤ R.cells ∧ slots + ms ≤ R.slots) (d : decode cc pc = .ok (.invokevirtual index, 3)) (k : ZW p l e R s m args below meth c nL D tys A Q (cells + mc) (slots + ms) ws' (pc + 3) lv (.long r :: rest)) : ZW p l e R s m args below meth c nL D tys A Q cells slots ws pc lv st0 := z_callV C hM hY hcl hc he hT hrm hn hst hW hR hf d (fun v w h => by obtain ⟨rfl, rfl⟩ := h; exact k) (fun _ _ h => h.elim)
theorem z_xsl {rest : List Value} {y : MethodName} {wds : List Cond} {rm : Room} {av st0 : List Value} {bytes : ByteArray} {maxL n mc ms index : Nat} {ry : Option FieldType} {r : Int64} {kc : Int32} (C : ZC p l s m args meth c nL D tys A cc Ts own ret) (hM : ZM l y wds rm av D tys ws mc ms (fun v w => kc = 0 ∧ v = some (.long r) ∧ w = ws) (fun E w => w = ws ∧ zEx E kc)) (hY : ZY y wds bytes maxL ry n) (hT : GoodIn Ts (va_wsS own index y wds)) (hrm : rm.cells = mc ∧ rm.slots = ms) (hn : av.length = n) (hst : st0 = av.reverse ++ rest) (hW : (rest.map fun v => v.category).sum ≤ 8) (hR : rm.frames + 1 ≤ R.frames ∧ 8 + (maxL + 11) + rm.locals ≤ R.locals) (hf : cells + mc ≤ R.cells ∧ slots + ms ≤ R.slots) (d : decode cc pc = .ok (.invokestatic index, 3)) (k : kc = 0 → ZW p l e R s m args below meth c nL D tys A Q (cells + mc) (slots + ms) ws (pc + 3) lv (.long r :: rest)) (kx : ∀ E, ¬ kc = 0 → zEx E kc → ZT p l e R s m args below meth c nL D tys A Q (cells + mc) (slots + ms) ws pc lv E) : ZW p l e R s m args below meth c nL D tys A Q cells slots ws pc lv st0 := z_callS C hM hY hT hrm hn hst hW hR hf d (fun v w h => by obtain ⟨h0, rfl, rfl⟩ := h; exact k h0) (fun E w h => by obtain ⟨rfl, h0⟩ := h; exact kx E (zEx_ne h0) h0)
theorem z_xwl {ws' : va_W} {rest : List Value} {a ci q0 : Nat} {qc : vw_C} {fs : List Value} {y : MethodName} {wds : List Cond} {rm : Room} {av st0 : List Value} {bytes : ByteArray} {maxL n mc ms index : Nat} {ry : Option FieldType} {r : Int64} {kc : Int32} (C : ZC p l s m args meth c nL D tys A cc Ts own ret) (hM : ZM l y wds rm (.ref a :: av) D tys ws mc ms (fun v w => kc = 0 ∧ v = some (.long r) ∧ w = ws') (fun E w => w = ws ∧ zEx E kc)) (hY : ZY y wds bytes maxL ry n) (hcl : y.cls = qc.1) (hc : vwCl[ci]? = some qc) (he : ws[q0]? = some (a, .inr (ci, fs))) (hT : GoodIn Ts (wsV own index qc.1 y wds)) (hrm : rm.cells = mc ∧ rm.slots = ms) (hn : av.length = n) (hst : st0 = av.reverse ++ .ref a :: rest) (hW : (rest.map fun v => v.category).sum ≤ 8) (hR : rm.frames + 1 ≤ R.frames ∧ 8 + (maxL + 11) + rm.locals ≤ R.locals) (hf : cells + mc ≤ R.cells ∧ slots + ms ≤ R.slots) (d : decode cc pc = .ok (.invokevirtual index, 3)) (k : kc = 0 → ZW p l e R s m args below meth c nL D tys A Q (cells + mc) (slots + ms) ws' (pc + 3) lv (.long r :: rest)) (kx : ∀ E, ¬ kc = 0 → zEx E kc → ZT p l e R s m args below meth c nL D tys A Q (cells + mc) (slots + ms) ws pc lv E) : ZW p l e R s m args below meth c nL D tys A Q cells slots ws pc lv st0 := z_callV C hM hY hcl hc he hT hrm hn hst hW hR hf d (fun v w h => by obtain ⟨h0, rfl, rfl⟩ := h; exact k h0) (fun E w h => by obtain ⟨rfl, h0⟩ := h; exact kx E (zEx_ne h0) h0)
theorem z_sv {rest : List Value} {y : MethodName} {wds : List Cond} {rm : Room} {av st0 : List Value} {bytes : ByteArray} {maxL n mc ms index : Nat} {ry : Option FieldType} (C : ZC p l s m args meth c nL D tys A cc Ts own ret) (hM : ZM l y wds rm av D tys ws mc ms (fun v w => v = none ∧ w = ws) (fun _ _ => False)) (hY : ZY y wds bytes maxL ry n) (hT : GoodIn Ts (va_wsS own index y wds)) (hrm : rm.cells = mc ∧ rm.slots = ms) (hn : av.length = n) (hst : st0 = av.reverse ++ rest) (hW : (rest.map fun v => v.category).sum ≤ 8) (hR : rm.frames + 1 ≤ R.frames ∧ 8 + (maxL + 11) + rm.locals ≤ R.locals) (hf : cells + mc ≤ R.cells ∧ slots + ms ≤ R.slots) (d : decode cc pc = .ok (.invokestatic index, 3)) (k : ZW p l e R s m args below meth c nL D tys A Q (cells + mc) (slots + ms) ws (pc + 3) lv rest) : ZW p l e R s m args below meth c nL D tys A Q cells slots ws pc lv st0 := z_callS C hM hY hT hrm hn hst hW hR hf d (fun v w h => by obtain ⟨rfl, rfl⟩ := h; exact k) (fun _ _ h => h.elim)
theorem z_wv {ws' : va_W} {rest : List Value} {a ci q0 : Nat} {qc : vw_C} {fs : List Value} {y : MethodName} {wds : List Cond} {rm : Room} {av st0 : List Value} {bytes : ByteArray} {maxL n mc ms index : Nat} {ry : Option FieldType} (C : ZC p l s m args meth c nL D tys A cc Ts own ret) (hM : ZM l y wds rm (.ref a :: av) D tys ws mc ms (fun v w => v = none ∧ w = ws') (fun _ _ => False)) (hY : ZY y wds bytes maxL ry n) (hcl : y.cls = qc.1) (hc : vwCl[ci]? = some qc) (he : ws[q0]? = some (a, .inr (ci, fs))) (hT : GoodIn Ts (wsV own index qc.1 y wds)) (hrm : rm.cells = mc ∧ rm.slots = ms) (hn : av.length = n) (hst : st0 = av.reverse ++ .ref a :: rest) (hW : (rest.map fun v => v.category).sum ≤ 8) (hR : rm.frames + 1 ≤ R.frames ∧ 8 + (maxL + 11) + rm.locals ≤ R.locals) (hf : cells + mc ≤ R.cells ∧ slots + ms ≤ R.slots) (d : decode cc pc = .ok (.invokevirtual index, 3)) (k : ZW p l e R s m args below meth c nL D tys A Q (cells + mc) (slots + ms) ws' (pc + 3) lv rest) : ZW p l e R s m args below meth c nL D tys A Q cells slots ws pc lv st0 := z_callV C hM hY hcl hc he hT hrm hn hst hW hR hf d (fun v w h => by obtain ⟨rfl, rfl⟩ := h; exact k) (fun _ _ h => h.elim)
theorem z_xsv {rest : List Value} {y : MethodName} {wds : List Cond} {rm : Room} {av st0 : List Value} {bytes : ByteArray} {maxL n mc ms index : Nat} {ry : Option FieldType} {kc : Int32} (C : ZC p l s m args meth c nL D tys A cc Ts own ret) (hM : ZM l y wds rm av D tys ws mc ms (fun v w => kc = 0 ∧ v = none ∧ w = ws) (fun E w => w = ws ∧ zEx E kc)) (hY : ZY y wds bytes maxL ry n) (hT : GoodIn Ts (va_wsS own index y wds)) (hrm : rm.cells = mc ∧ rm.slots = ms) (hn : av.length = n) (hst : st0 = av.reverse ++ rest) (hW : (rest.map fun v => v.category).sum ≤ 8) (hR : rm.frames + 1 ≤ R.frames ∧ 8 + (maxL + 11) + rm.locals ≤ R.locals) (hf : cells + mc ≤ R.cells ∧ slots + ms ≤ R.slots) (d : decode cc pc = .ok (.invokestatic index, 3)) (k : kc = 0 → ZW p l e R s m args below meth c nL D tys A Q (cells + mc) (slots + ms) ws (pc + 3) lv rest) (kx : ∀ E, ¬ kc = 0 → zEx E kc → ZT p l e R s m args below meth c nL D tys A Q (cells + mc) (slots + ms) ws pc lv E) : ZW p l e R s m args below meth c nL D tys A Q cells slots ws pc lv st0 := z_callS C hM hY hT hrm hn hst hW hR hf d (fun v w h => by obtain ⟨h0, rfl, rfl⟩ := h; exact k h0) (fun E w h => by obtain ⟨rfl, h0⟩ := h; exact kx E (zEx_ne h0) h0)
theorem z_xwv {ws' : va_W} {rest : List Value} {a ci q0 : Nat} {qc : vw_C} {fs : List Value} {y : MethodName} {wds : List Cond} {rm : Room} {av st0 : List Value} {bytes : ByteArray} {maxL n mc ms index : Nat} {ry : Option FieldType} {kc : Int32} (C : ZC p l s m args meth c nL D tys A cc Ts own ret) (hM : ZM l y wds rm (.ref a :: av) D tys ws mc ms (fun v w => kc = 0 ∧ v = none ∧ w = ws') (fun E w => w = ws ∧ zEx E kc)) (hY : ZY y wds bytes maxL ry n) (hcl : y.cls = qc.1) (hc : vwCl[ci]? = some qc) (he : ws[q0]? = some (a, .inr (ci, fs))) (hT : GoodIn Ts (wsV own index qc.1 y wds)) (hrm : rm.cells = mc ∧ rm.slots = ms) (hn : av.length = n) (hst : st0 = av.reverse ++ .ref a :: rest) (hW : (rest.map fun v => v.category).sum ≤ 8) (hR : rm.frames + 1 ≤ R.frames ∧ 8 + (maxL + 11) + rm.locals ≤ R.locals) (hf : cells + mc ≤ R.cells ∧ slots + ms ≤ R.slots) (d : decode cc pc = .ok (.invokevirtual index, 3)) (k : kc = 0 → ZW p l e R s m args below meth c nL D tys A Q (cells + mc) (slots + ms) ws' (pc + 3) lv rest) (kx : ∀ E, ¬ kc = 0 → zEx E kc → ZT p l e R s m args below meth c nL D tys A Q (cells + mc) (slots + ms) ws pc lv E) : ZW p l e R s m args below meth c nL D tys A Q cells slots ws pc lv st0 := z_callV C hM hY hcl hc he hT hrm hn hst hW hR hf d (fun v w h => by obtain ⟨h0, rfl, rfl⟩ := h; exact k h0) (fun E w h => by obtain ⟨rfl, h0⟩ := h; exact kx E (zEx_ne h0) h0)
theorem z_sf {rest : List Value} {y : MethodName} {wds : List Cond} {rm : Room} {av st0 : List Value} {bytes : ByteArray} {maxL n mc ms index : Nat} {ry : Option FieldType} {r : UInt32} (C : ZC p l s m args meth c nL D tys A cc Ts own ret) (hM : ZM l y wds rm av D tys ws mc ms (fun v w => v = some (.float r) ∧ w = ws) (fun _ _ => False)) (hY : ZY y wds bytes maxL ry n) (hT : GoodIn Ts (va_wsS own index y wds)) (hrm : rm.cells = mc ∧ rm.slots = ms) (hn : av.length = n) (hst : st0 = av.reverse ++ rest) (hW : (rest.map fun v => v.category).sum ≤ 8) (hR : rm.frames + 1 ≤ R.frames ∧ 8 + (maxL + 11) + rm.locals ≤ R.locals) (hf : cells + mc ≤ R.cells ∧ slots + ms ≤ R.slots) (d : decode cc pc = .ok (.invokestatic index, 3)) (k : ZW p l e R s m args below meth c nL D tys A Q (cells + mc) (slots + ms) ws (pc + 3) lv (.float r :: rest)) : ZW p l e R s m args below meth c nL D tys A Q cells slots ws pc lv st0 := z_callS C hM hY hT hrm hn hst hW hR hf d (fun v w h => by obtain ⟨rfl, rfl⟩ := h; exact k) (fun _ _ h => h.elim)
theorem z_wf {ws' : va_W} {rest : List Value} {a ci q0 : Nat} {qc : vw_C} {fs : List Value} {y : MethodName} {wds : List Cond} {rm : Room} {av st0 : List Value} {bytes : ByteArray} {maxL n mc ms index : Nat} {ry : Option FieldType} {r : UInt32} (C : ZC p l s m args meth c nL D tys A cc Ts own ret) (hM : ZM l y wds rm (.ref a :: av) D tys ws mc ms (fun v w => v = some (.float r) ∧ w = ws') (fun _ _ => False)) (hY : ZY y wds bytes maxL ry n) (hcl : y.cls = qc.1) (hc : vwCl[ci]? = some qc) (he : ws[q0]? = some (a, .inr (ci, fs))) (hT : GoodIn Ts (wsV own index qc.1 y wds)) (hrm : rm.cells = mc ∧ rm.slots = ms) (hn : av.length = n) (hst : st0 = av.reverse ++ .ref a :: rest) (hW : (rest.map fun v => v.category).sum ≤ 8) (hR : rm.frames + 1 ≤ R.frames ∧ 8 + (maxL + 11) + rm.locals ≤ R.locals) (hf : cells + mc ≤ R.cells ∧ slots + ms ≤ R.slots) (d : decode cc pc = .ok (.invokevirtual index, 3)) (k : ZW p l e R s m args below meth c nL D tys A Q (cells + mc) (slots + ms) ws' (pc + 3) lv (.float r :: rest)) : ZW p l e R s m args below meth c nL D tys A Q cells slots ws pc lv st0 := z_callV C hM hY hcl hc he hT hrm hn hst hW hR hf d (fun v w h => by obtain ⟨rfl, rfl⟩ := h; exact k) (fun _ _ h => h.elim)
theorem z_xsf {rest : List Value} {y : MethodName} {wds : List Cond} {rm : Room} {av st0 : List Value} {bytes : ByteArray} {maxL n mc ms index : Nat} {ry : Option FieldType} {r : UInt32} {kc : Int32} (C : ZC p l s m args meth c nL D tys A cc Ts own ret) (hM : ZM l y wds rm av D tys ws mc ms (fun v w => kc = 0 ∧ v = some (.float r) ∧ w = ws) (fun E w => w = ws ∧ zEx E kc)) (hY : ZY y wds bytes maxL ry n) (hT : GoodIn Ts (va_wsS own index y wds)) (hrm : rm.cells = mc ∧ rm.slots = ms) (hn : av.length = n) (hst : st0 = av.reverse ++ rest) (hW : (rest.map fun v => v.category).sum ≤ 8) (hR : rm.frames + 1 ≤ R.frames ∧ 8 + (maxL + 11) + rm.locals ≤ R.locals) (hf : cells + mc ≤ R.cells ∧ slots + ms ≤ R.slots) (d : decode cc pc = .ok (.invokestatic index, 3)) (k : kc = 0 → ZW p l e R s m args below meth c nL D tys A Q (cells + mc) (slots + ms) ws (pc + 3) lv (.float r :: rest)) (kx : ∀ E, ¬ kc = 0 → zEx E kc → ZT p l e R s m args below meth c nL D tys A Q (cells + mc) (slots + ms) ws pc lv E) : ZW p l e R s m args below meth c nL D tys A Q cells slots ws pc lv st0 := z_callS C hM hY hT hrm hn hst hW hR hf d (fun v w h => by obtain ⟨h0, rfl, rfl⟩ := h; exact k h0) (fun E w h => by obtain ⟨rfl, h0⟩ := h; exact kx E (zEx_ne h0) h0)
theorem z_xwf {ws' : va_W} {rest : List Value} {a ci q0 : Nat} {qc : vw_C} {fs : List Value} {y : MethodName} {wds : List Cond} {rm : Room} {av st0 : List Value} {bytes : ByteArray} {maxL n mc ms index : Nat} {ry : Option FieldType} {r : UInt32} {kc : Int32} (C : ZC p l s m args meth c nL D tys A cc Ts own ret) (hM : ZM l y wds rm (.ref a :: av) D tys ws mc ms (fun v w => kc = 0 ∧ v = some (.float r) ∧ w = ws') (fun E w => w = ws ∧ zEx E kc)) (hY : ZY y wds bytes maxL ry n) (hcl : y.cls = qc.1) (hc : vwCl[ci]? = some qc) (he : ws[q0]? = some (a, .inr (ci, fs))) (hT : GoodIn Ts (wsV own index qc.1 y wds)) (hrm : rm.cells = mc ∧ rm.slots = ms) (hn : av.length = n) (hst : st0 = av.reverse ++ .ref a :: rest) (hW : (rest.map fun v => v.category).sum ≤ 8) (hR : rm.frames + 1 ≤ R.frames ∧ 8 + (maxL + 11) + rm.locals ≤ R.locals) (hf : cells + mc ≤ R.cells ∧ slots + ms ≤ R.slots) (d : decode cc pc = .ok (.invokevirtual index, 3)) (k : kc = 0 → ZW p l e R s m args below meth c nL D tys A Q (cells + mc) (slots + ms) ws' (pc + 3) lv (.float r :: rest)) (kx : ∀ E, ¬ kc = 0 → zEx E kc → ZT p l e R s m args below meth c nL D tys A Q (cells + mc) (slots + ms) ws pc lv E) : ZW p l e R s m args below meth c nL D tys A Q cells slots ws pc lv st0 := z_callV C hM hY hcl hc he hT hrm hn hst hW hR hf d (fun v w h => by obtain ⟨h0, rfl, rfl⟩ := h; exact k h0) (fun E w h => by obtain ⟨rfl, h0⟩ := h; exact kx E (zEx_ne h0) h0)
theorem z_sd {rest : List Value} {y : MethodName} {wds : List Cond} {rm : Room} {av st0 : List Value} {bytes : ByteArray} {maxL n mc ms index : Nat} {ry : Option FieldType} {r : UInt64} (C : ZC p l s m args meth c nL D tys A cc Ts own ret) (hM : ZM l y wds rm av D tys ws mc ms (fun v w => v = some (.double r) ∧ w = ws) (fun _ _ => False)) (hY : ZY y wds bytes maxL ry n) (hT : GoodIn Ts (va_wsS own index y wds)) (hrm : rm.cells = mc ∧ rm.slots = ms) (hn : av.length = n) (hst : st0 = av.reverse ++ rest) (hW : (rest.map fun v => v.category).sum ≤ 8) (hR : rm.frames + 1 ≤ R.frames ∧ 8 + (maxL + 11) + rm.locals ≤ R.locals) (hf : cells + mc ≤ R.cells ∧ slots + ms ≤ R.slots) (d : decode cc pc = .ok (.invokestatic index, 3)) (k : ZW p l e R s m args below meth c nL D tys A Q (cells + mc) (slots + ms) ws (pc + 3) lv (.double r :: rest)) : ZW p l e R s m args below meth c nL D tys A Q cells slots ws pc lv st0 := z_callS C hM hY hT hrm hn hst hW hR hf d (fun v w h => by obtain ⟨rfl, rfl⟩ := h; exact k) (fun _ _ h => h.elim)
theorem z_wd {ws' : va_W} {rest : List Value} {a ci q0 : Nat} {qc : vw_C} {fs : List Value} {y : MethodName} {wds : List Cond} {rm : Room} {av st0 : List Value} {bytes : ByteArray} {maxL n mc ms index : Nat} {ry : Option FieldType} {r : UInt64} (C : ZC p l s m args meth c nL D tys A cc Ts own ret) (hM : ZM l y wds rm (.ref a :: av) D tys ws mc ms (fun v w => v = some (.double r) ∧ w = ws') (fun _ _ => False)) (hY : ZY y wds bytes maxL ry n) (hcl : y.cls = qc.1) (hc : vwCl[ci]? = some qc) (he : ws[q0]? = some (a, .inr (ci, fs))) (hT : GoodIn Ts (wsV own index qc.1 y wds)) (hrm : rm.cells = mc ∧ rm.slots = ms) (hn : av.length = n) (hst : st0 = av.reverse ++ .ref a :: rest) (hW : (rest.map fun v => v.category).sum ≤ 8) (hR : rm.frames + 1 ≤ R.frames ∧ 8 + (maxL + 11) + rm.locals ≤ R.locals) (hf : cells + mc ≤ R.cells ∧ slots + ms ≤ R.slots) (d : decode cc pc = .ok (.invokevirtual index, 3)) (k : ZW p l e R s m args below meth c nL D tys A Q (cells + mc) (slots + ms) ws' (pc + 3) lv (.double r :: rest)) : ZW p l e R s m args below meth c nL D tys A Q cells slots ws pc lv st0 := z_callV C hM hY hcl hc he hT hrm hn hst hW hR hf d (fun v w h => by obtain ⟨rfl, rfl⟩ := h; exact k) (fun _ _ h => h.elim)
theorem z_xsd {rest : List Value} {y : MethodName} {wds : List Cond} {rm : Room} {av st0 : List Value} {bytes : ByteArray} {maxL n mc ms index : Nat} {ry : Option FieldType} {r : UInt64} {kc : Int32} (C : ZC p l s m args meth c nL D tys A cc Ts own ret) (hM : ZM l y wds rm av D tys ws mc ms (fun v w => kc = 0 ∧ v = some (.double r) ∧ w = ws) (fun E w => w = ws ∧ zEx E kc)) (hY : ZY y wds bytes maxL ry n) (hT : GoodIn Ts (va_wsS own index y wds)) (hrm : rm.cells = mc ∧ rm.slots = ms) (hn : av.length = n) (hst : st0 = av.reverse ++ rest) (hW : (rest.map fun v => v.category).sum ≤ 8) (hR : rm.frames + 1 ≤ R.frames ∧ 8 + (maxL + 11) + rm.locals ≤ R.locals) (hf : cells + mc ≤ R.cells ∧ slots + ms ≤ R.slots) (d : decode cc pc = .ok (.invokestatic index, 3)) (k : kc = 0 → ZW p l e R s m args below meth c nL D tys A Q (cells + mc) (slots + ms) ws (pc + 3) lv (.double r :: rest)) (kx : ∀ E, ¬ kc = 0 → zEx E kc → ZT p l e R s m args below meth c nL D tys A Q (cells + mc) (slots + ms) ws pc lv E) : ZW p l e R s m args below meth c nL D tys A Q cells slots ws pc lv st0 := z_callS C hM hY hT hrm hn hst hW hR hf d (fun v w h => by obtain ⟨h0, rfl, rfl⟩ := h; exact k h0) (fun E w h => by obtain ⟨rfl, h0⟩ := h; exact kx E (zEx_ne h0) h0)
theorem z_xwd {ws' : va_W} {rest : List Value} {a ci q0 : Nat} {qc : vw_C} {fs : List Value} {y : MethodName} {wds : List Cond} {rm : Room} {av st0 : List Value} {bytes : ByteArray} {maxL n mc ms index : Nat} {ry : Option FieldType} {r : UInt64} {kc : Int32} (C : ZC p l s m args meth c nL D tys A cc Ts own ret) (hM : ZM l y wds rm (.ref a :: av) D tys ws mc ms (fun v w => kc = 0 ∧ v = some (.double r) ∧ w = ws') (fun E w => w = ws ∧ zEx E kc)) (hY : ZY y wds bytes maxL ry n) (hcl : y.cls = qc.1) (hc : vwCl[ci]? = some qc) (he : ws[q0]? = some (a, .inr (ci, fs))) (hT : GoodIn Ts (wsV own index qc.1 y wds)) (hrm : rm.cells = mc ∧ rm.slots = ms) (hn : av.length = n) (hst : st0 = av.reverse ++ .ref a :: rest) (hW : (rest.map fun v => v.category).sum ≤ 8) (hR : rm.frames + 1 ≤ R.frames ∧ 8 + (maxL + 11) + rm.locals ≤ R.locals) (hf : cells + mc ≤ R.cells ∧ slots + ms ≤ R.slots) (d : decode cc pc = .ok (.invokevirtual index, 3)) (k : kc = 0 → ZW p l e R s m args below meth c nL D tys A Q (cells + mc) (slots + ms) ws' (pc + 3) lv (.double r :: rest)) (kx : ∀ E, ¬ kc = 0 → zEx E kc → ZT p l e R s m args below meth c nL D tys A Q (cells + mc) (slots + ms) ws pc lv E) : ZW p l e R s m args below meth c nL D tys A Q cells slots ws pc lv st0 := z_callV C hM hY hcl hc he hT hrm hn hst hW hR hf d (fun v w h => by obtain ⟨h0, rfl, rfl⟩ := h; exact k h0) (fun E w h => by obtain ⟨rfl, h0⟩ := h; exact kx E (zEx_ne h0) h0)
end ZH
end ZG
