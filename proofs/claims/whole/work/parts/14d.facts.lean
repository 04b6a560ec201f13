/-! Part 14d: more facts -/
theorem tlX6_nextInTurn (q : wSt) (n : Nat) (y1 y2 : Int32) (h1 : y1.toInt = -1 ∨ (0 ≤ y1.toInt ∧ y1.toInt < (q 40 0).toInt)) (h2 : 0 ≤ y2.toInt) : (lX6_nextInTurn_1 q n y1 y2).toInt = -1 ∨ (0 ≤ (lX6_nextInTurn_1 q n y1 y2).toInt ∧ (lX6_nextInTurn_1 q n y1 y2).toInt < (q 40 0).toInt) := by
  induction n generalizing y1 y2 with
  | zero => left; rfl
  | succ n ih =>
    rw [lX6_nextInTurn_1_s]
    split
    · exact h1
    · rename_i h3
      have h4 := i_nle h3
      have h5 := i_rng (q 40 0)
      have h6 : (y2 + 1).toInt = y2.toInt + 1 := i_inc (by omega)
      refine ih _ _ ?_ (by omega)
      unfold fX6_nextInTurn_j2
      (repeat' split) <;> omega
theorem tX6_nextInTurn (q : wSt) : (fX6_nextInTurn q).toInt = -1 ∨ (0 ≤ (fX6_nextInTurn q).toInt ∧ (fX6_nextInTurn q).toInt < (q 40 0).toInt) := by
  unfold fX6_nextInTurn
  exact tlX6_nextInTurn q _ _ _ (Or.inl rfl) (by decide)
theorem tX4_volumesOf (q : wSt) (x : Int32) (h : iI q) : 0 ≤ (fX4_volumesOf q x).toInt ∧ (fX4_volumesOf q x).toInt ≤ 4 := by
  unfold fX4_volumesOf
  split
  · decide
  · rename_i h1
    have h2 := tX4_has q x (i_ne h1)
    have h3 := iI_b h
    exact iI_0 h _ (i_clamp (vp_in_iff.mpr (by omega)))
theorem t_bought (m v : Int32) (hm : 1 ≤ m.toInt ∧ m.toInt ≤ 20) (hv : 0 ≤ v.toInt ∧ v.toInt ≤ 4) : (m * v).toInt = m.toInt * v.toInt ∧ 0 ≤ (m * v).toInt ∧ (m * v).toInt ≤ 80 := by
  have h1 : 0 ≤ m.toInt * v.toInt := Int.mul_nonneg (by omega) hv.1
  have h2 : m.toInt * v.toInt ≤ 20 * 4 := Int.mul_le_mul hm.2 hv.2 hv.1 (by omega)
  have h3 : (m * v).toInt = m.toInt * v.toInt := i_mul (by omega)
  omega
theorem tX1_add36' (q : wSt) (t v c : Int32) : fX1_add q t v c 36 0 = q 36 0 + 1 := by
  unfold fX1_add
  rw [frX1_shelve _ _ 36 (by decide)]
  simp [rset]
theorem tX1_add36 (q : wSt) (t v c : Int32) (h : (q 36 0).toInt < 200) : (fX1_add q t v c 36 0).toInt = (q 36 0).toInt + 1 := by
  rw [tX1_add36']
  exact i_inc (by omega)
theorem iI_X1_add (q : wSt) (t v c : Int32) (h : iI q) (h2 : (q 36 0).toInt < 200) : iI (fX1_add q t v c) := by
  have h3 := tX1_add36 q t v c h2
  obtain ⟨hb, h0, h16, h22, h23⟩ := h
  refine ⟨?_, ?_, ?_, ?_, ?_⟩
  · rw [h3, frX1_add q t v c 34 (by decide), frX1_add q t v c 35 (by decide), frX1_add q t v c 39 (by decide), frX1_add q t v c 40 (by decide)]
    omega
  · rw [frX1_add q t v c 0 (by decide)]; exact h0
  · rw [frX1_add q t v c 16 (by decide)]; exact h16
  · rw [frX1_add q t v c 22 (by decide)]; exact h22
  · rw [frX1_add q t v c 23 (by decide)]; exact h23
def iC (q : wSt) : Prop := (∀ i : Nat, i < 200 → 0 ≤ (q 6 i).toInt ∧ (q 6 i).toInt ≤ 5) ∧ (∀ i : Nat, i < 200 → ((q 6 i).toInt = 1 ∨ (q 6 i).toInt = 2 ∨ (q 6 i).toInt = 3) → 0 ≤ (q 10 i).toInt ∧ (q 10 i).toInt < 20) ∧ (∀ i : Nat, i < 200 → (q 11 i).toInt = -1 ∨ (0 ≤ (q 11 i).toInt ∧ (q 11 i).toInt < 100))
theorem iC_s {q : wSt} (h : iC q) (x : Int32) (h0 : 0 ≤ x.toInt) (h1 : x.toInt < 200) : 0 ≤ (q 6 x.toNatClampNeg).toInt ∧ (q 6 x.toNatClampNeg).toInt ≤ 5 := h.1 _ (i_clamp (vp_in_iff.mpr ⟨h0, h1⟩))
theorem iC_r {q : wSt} (h : iC q) (x : Int32) (h0 : 0 ≤ x.toInt) (h1 : x.toInt < 200) : ((q 6 x.toNatClampNeg).toInt = 1 ∨ (q 6 x.toNatClampNeg).toInt = 2 ∨ (q 6 x.toNatClampNeg).toInt = 3) → 0 ≤ (q 10 x.toNatClampNeg).toInt ∧ (q 10 x.toNatClampNeg).toInt < 20 := h.2.1 _ (i_clamp (vp_in_iff.mpr ⟨h0, h1⟩))
theorem iC_w {q : wSt} (h : iC q) (x : Int32) (h0 : 0 ≤ x.toInt) (h1 : x.toInt < 200) : (q 11 x.toNatClampNeg).toInt = -1 ∨ (0 ≤ (q 11 x.toNatClampNeg).toInt ∧ (q 11 x.toNatClampNeg).toInt < 100) := h.2.2 _ (i_clamp (vp_in_iff.mpr ⟨h0, h1⟩))
theorem tX7_isTitle (q : wSt) (x : Int32) (h : 0 ≤ (q 34 0).toInt) : ¬ (fX7_isTitle q x).toInt = 0 → 0 ≤ x.toInt ∧ x.toInt < (q 34 0).toInt := by
  unfold fX7_isTitle
  intro h1
  have h2 := tX7_in _ _ _ _ h1
  have h3 : (q 34 0 - 1).toInt = (q 34 0).toInt - 1 := i_sub (by have := i_rng (q 34 0); have h4 : (1 : Int32).toInt = 1 := rfl; omega)
  have h5 : (0 : Int32).toInt = 0 := rfl
  omega
theorem tX7_isReader (q : wSt) (x : Int32) (h : 0 ≤ (q 39 0).toInt) : ¬ (fX7_isReader q x).toInt = 0 → 0 ≤ x.toInt ∧ x.toInt < (q 39 0).toInt := by
  unfold fX7_isReader
  intro h1
  have h2 := tX7_in _ _ _ _ h1
  have h3 : (q 39 0 - 1).toInt = (q 39 0).toInt - 1 := i_sub (by have := i_rng (q 39 0); have h4 : (1 : Int32).toInt = 1 := rfl; omega)
  have h5 : (0 : Int32).toInt = 0 := rfl
  omega
theorem tX7_isCopy (q : wSt) (x : Int32) (h : 0 ≤ (q 36 0).toInt) : ¬ (fX7_isCopy q x).toInt = 0 → 0 ≤ x.toInt ∧ x.toInt < (q 36 0).toInt := by
  unfold fX7_isCopy
  intro h1
  have h2 := tX7_in _ _ _ _ h1
  have h3 : (q 36 0 - 1).toInt = (q 36 0).toInt - 1 := i_sub (by have := i_rng (q 36 0); have h4 : (1 : Int32).toInt = 1 := rfl; omega)
  have h5 : (0 : Int32).toInt = 0 := rfl
  omega
theorem tX7_isWish (q : wSt) (x : Int32) (h : 0 ≤ (q 40 0).toInt) : ¬ (fX7_isWish q x).toInt = 0 → 0 ≤ x.toInt ∧ x.toInt < (q 40 0).toInt := by
  unfold fX7_isWish
  intro h1
  have h2 := tX7_in _ _ _ _ h1
  have h3 : (q 40 0 - 1).toInt = (q 40 0).toInt - 1 := i_sub (by have := i_rng (q 40 0); have h4 : (1 : Int32).toInt = 1 := rfl; omega)
  have h5 : (0 : Int32).toInt = 0 := rfl
  omega
theorem tlX7_bargainOf (q : wSt) (x : Int32) (n : Nat) (y2 y3 : Int32) (h1 : y2.toInt = -1 ∨ (0 ≤ y2.toInt ∧ y2.toInt < (q 35 0).toInt)) (h2 : 0 ≤ y3.toInt) : (lX7_bargainOf_1 q x n y2 y3).toInt = -1 ∨ (0 ≤ (lX7_bargainOf_1 q x n y2 y3).toInt ∧ (lX7_bargainOf_1 q x n y2 y3).toInt < (q 35 0).toInt) := by
  induction n generalizing y2 y3 with
  | zero => left; rfl
  | succ n ih =>
    rw [lX7_bargainOf_1_s]
    split
    · exact h1
    · rename_i h3
      have h4 := i_nle h3
      have h5 := i_rng (q 35 0)
      have h6 : (y3 + 1).toInt = y3.toInt + 1 := i_inc (by omega)
      refine ih _ _ ?_ (by omega)
      unfold fX7_bargainOf_j2
      (repeat' split) <;> omega
theorem tX7_bargainOf (q : wSt) (x : Int32) : (fX7_bargainOf q x).toInt = -1 ∨ (0 ≤ (fX7_bargainOf q x).toInt ∧ (fX7_bargainOf q x).toInt < (q 35 0).toInt) := by
  unfold fX7_bargainOf
  exact tlX7_bargainOf q x _ _ _ (Or.inl rfl) (by decide)
theorem tlX7_weeksOf (q : wSt) (x1 x2 : Int32) (n : Nat) (y3 y4 : Int32) (hn : (21 - y4.toInt).toNat < n) (h1 : 0 ≤ y3.toInt ∧ y3.toInt ≤ 20) (h2 : 1 ≤ y4.toInt) : 0 ≤ (lX7_weeksOf_1 q x1 x2 n y3 y4).toInt ∧ (lX7_weeksOf_1 q x1 x2 n y3 y4).toInt ≤ 20 := by
  induction n generalizing y3 y4 with
  | zero => exact absurd hn (Nat.not_lt_zero _)
  | succ n ih =>
    rw [lX7_weeksOf_1_s]
    split
    · exact h1
    · rename_i h3
      have h4 := i_nlt h3
      have t20 : (20 : Int32).toInt = 20 := rfl
      have h6 : (y4 + 1).toInt = y4.toInt + 1 := i_inc (by omega)
      refine ih _ _ (by omega) ?_ (by omega)
      unfold fX7_weeksOf_j2
      (repeat' split) <;> omega
theorem tX7_weeksOf (q : wSt) (x1 x2 : Int32) : 0 ≤ (fX7_weeksOf q x1 x2).toInt ∧ (fX7_weeksOf q x1 x2).toInt ≤ 20 := by
  unfold fX7_weeksOf
  exact tlX7_weeksOf q x1 x2 _ _ _ (by decide) (by decide) (by decide)
