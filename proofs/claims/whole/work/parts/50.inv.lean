section ZPG
def iD (d : Nat → Int64) : Prop := ∀ k, k < 6 → -4371587 ≤ (d k).toInt ∧ (d k).toInt ≤ 2932896
def iS (s : Nat → Int32) : Prop := ∀ k, k < 4 → -1000000 ≤ (s k).toInt ∧ (s k).toInt ≤ 1000000
def iI (s : Nat → Int32) : Prop := ∀ k, k < 4 → -119988 ≤ (s k).toInt ∧ (s k).toInt ≤ 119999
def iT (t : Nat → Int64) : Prop := ∀ k, k < 4 → 0 ≤ (t k).toInt ∧ (t k).toInt ≤ 86399999999999
def iG (s b : Nat → Int64) : Prop := ∀ k, k < 4 → (-1000000000000 ≤ (s k).toInt ∧ (s k).toInt ≤ 1000000000000) ∧ (0 ≤ (b k).toInt ∧ (b k).toInt ≤ 999999999) ∧ ((s k).toInt = 1000000000000 → (b k).toInt = 0)
def iN (m t : Nat → Int64) : Prop := ∀ k, k < 4 → (-4371587 ≤ (m k).toInt ∧ (m k).toInt ≤ 2932896) ∧ (0 ≤ (t k).toInt ∧ (t k).toInt ≤ 86399999999999)
def iInv (d : Nat → Int64) (sy sm sd mi : Nat → Int32) (ti sL bL mD mT : Nat → Int64) : Prop := iD d ∧ iS sy ∧ iS sm ∧ iS sd ∧ iI mi ∧ iT ti ∧ iG sL bL ∧ iN mD mT
theorem vp_nat {p : Int32} {n : Nat} (h : vp_in p n) : p.toNatClampNeg < n := by
  have g := vp_in_iff.mp h
  have e : p.toNatClampNeg = p.toInt.toNat := rfl
  omega
theorem iD_at {d : Nat → Int64} (h : iD d) {p : Int32} (hp : vp_in p 6) : -4371587 ≤ (d p.toNatClampNeg).toInt ∧ (d p.toNatClampNeg).toInt ≤ 2932896 := h _ (vp_nat hp)
theorem iS_at {d : Nat → Int32} (h : iS d) {p : Int32} (hp : vp_in p 4) : -1000000 ≤ (d p.toNatClampNeg).toInt ∧ (d p.toNatClampNeg).toInt ≤ 1000000 := h _ (vp_nat hp)
theorem iI_at {d : Nat → Int32} (h : iI d) {p : Int32} (hp : vp_in p 4) : -119988 ≤ (d p.toNatClampNeg).toInt ∧ (d p.toNatClampNeg).toInt ≤ 119999 := h _ (vp_nat hp)
theorem iT_at {d : Nat → Int64} (h : iT d) {p : Int32} (hp : vp_in p 4) : 0 ≤ (d p.toNatClampNeg).toInt ∧ (d p.toNatClampNeg).toInt ≤ 86399999999999 := h _ (vp_nat hp)
theorem iG_at {s b : Nat → Int64} (h : iG s b) {p : Int32} (hp : vp_in p 4) : (-1000000000000 ≤ (s p.toNatClampNeg).toInt ∧ (s p.toNatClampNeg).toInt ≤ 1000000000000) ∧ (0 ≤ (b p.toNatClampNeg).toInt ∧ (b p.toNatClampNeg).toInt ≤ 999999999) ∧ ((s p.toNatClampNeg).toInt = 1000000000000 → (b p.toNatClampNeg).toInt = 0) := h _ (vp_nat hp)
theorem iN_at {s b : Nat → Int64} (h : iN s b) {p : Int32} (hp : vp_in p 4) : (-4371587 ≤ (s p.toNatClampNeg).toInt ∧ (s p.toNatClampNeg).toInt ≤ 2932896) ∧ (0 ≤ (b p.toNatClampNeg).toInt ∧ (b p.toNatClampNeg).toInt ≤ 86399999999999) := h _ (vp_nat hp)
theorem updL_c (f : Nat → Int64) (k : Nat) (x : Int64) (j : Nat) : (j = k ∧ vp_updL f k x j = x) ∨ (¬ j = k ∧ vp_updL f k x j = f j) := by
  unfold vp_updL
  by_cases h : j = k
  · exact Or.inl ⟨h, if_pos h⟩
  · exact Or.inr ⟨h, if_neg h⟩
theorem upd_c (f : Nat → Int32) (k : Nat) (x : Int32) (j : Nat) : (j = k ∧ upd f k x j = x) ∨ (¬ j = k ∧ upd f k x j = f j) := by
  unfold upd
  by_cases h : j = k
  · exact Or.inl ⟨h, if_pos h⟩
  · exact Or.inr ⟨h, if_neg h⟩
theorem updL_at (f : Nat → Int64) (k : Nat) (x : Int64) : vp_updL f k x k = x := if_pos rfl
theorem upd_at (f : Nat → Int32) (k : Nat) (x : Int32) : upd f k x k = x := if_pos rfl
theorem zw_upd (f : Nat → Int32) (k : Nat) (x : Int32) : zw (upd f k x) = vp_updL (zw f) k x.toInt64 := by
  funext j
  show (upd f k x j).toInt64 = vp_updL (zw f) k x.toInt64 j
  rcases upd_c f k x j with ⟨h, e⟩ | ⟨h, e⟩
  · rw [e]; exact (if_pos h).symm
  · rw [e]; exact (if_neg h).symm
theorem iD_upd {d : Nat → Int64} (h : iD d) {k : Nat} {x : Int64} (h1 : -4371587 ≤ x.toInt) (h2 : x.toInt ≤ 2932896) : iD (vp_updL d k x) := by
  intro j hj
  rcases updL_c d k x j with ⟨_, e⟩ | ⟨_, e⟩ <;> rw [e]
  · exact ⟨h1, h2⟩
  · exact h j hj
theorem iS_upd {d : Nat → Int32} (h : iS d) {k : Nat} {x : Int32} (h1 : -1000000 ≤ x.toInt) (h2 : x.toInt ≤ 1000000) : iS (upd d k x) := by
  intro j hj
  rcases upd_c d k x j with ⟨_, e⟩ | ⟨_, e⟩ <;> rw [e]
  · exact ⟨h1, h2⟩
  · exact h j hj
theorem iI_upd {d : Nat → Int32} (h : iI d) {k : Nat} {x : Int32} (h1 : -119988 ≤ x.toInt) (h2 : x.toInt ≤ 119999) : iI (upd d k x) := by
  intro j hj
  rcases upd_c d k x j with ⟨_, e⟩ | ⟨_, e⟩ <;> rw [e]
  · exact ⟨h1, h2⟩
  · exact h j hj
theorem iT_upd {d : Nat → Int64} (h : iT d) {k : Nat} {x : Int64} (h1 : 0 ≤ x.toInt) (h2 : x.toInt ≤ 86399999999999) : iT (vp_updL d k x) := by
  intro j hj
  rcases updL_c d k x j with ⟨_, e⟩ | ⟨_, e⟩ <;> rw [e]
  · exact ⟨h1, h2⟩
  · exact h j hj
theorem iG_upd {s b : Nat → Int64} (h : iG s b) {k : Nat} {x y : Int64} (h1 : -1000000000000 ≤ x.toInt) (h2 : x.toInt ≤ 1000000000000) (h3 : 0 ≤ y.toInt) (h4 : y.toInt ≤ 999999999) (h5 : x.toInt = 1000000000000 → y.toInt = 0) : iG (vp_updL s k x) (vp_updL b k y) := by
  intro j hj
  rcases updL_c s k x j with ⟨g, e⟩ | ⟨g, e⟩ <;> rcases updL_c b k y j with ⟨g2, e2⟩ | ⟨g2, e2⟩ <;> rw [e, e2]
  · exact ⟨⟨h1, h2⟩, ⟨h3, h4⟩, h5⟩
  · exact absurd g g2
  · exact absurd g2 g
  · exact h j hj
theorem iN_upd {s b : Nat → Int64} (h : iN s b) {k : Nat} {x y : Int64} (h1 : -4371587 ≤ x.toInt) (h2 : x.toInt ≤ 2932896) (h3 : 0 ≤ y.toInt) (h4 : y.toInt ≤ 86399999999999) : iN (vp_updL s k x) (vp_updL b k y) := by
  intro j hj
  rcases updL_c s k x j with ⟨g, e⟩ | ⟨g, e⟩ <;> rcases updL_c b k y j with ⟨g2, e2⟩ | ⟨g2, e2⟩ <;> rw [e, e2]
  · exact ⟨⟨h1, h2⟩, ⟨h3, h4⟩⟩
  · exact absurd g g2
  · exact absurd g2 g
  · exact h j hj
end ZPG
