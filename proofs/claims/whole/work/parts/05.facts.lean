/-! Part 05: what the tests say, for the places of the rows -/
theorem p_fst {α β : Type} {x : α × β} {a : α} {b : β} (h : x = (a, b)) : a = x.1 := by rw [h]
theorem p_snd {α β : Type} {x : α × β} {a : α} {b : β} (h : x = (a, b)) : b = x.2 := by rw [h]
theorem p_2 {α β : Type} {x : α × β} {a : α} {b : β} (h : x = (a, b)) : x.1 = a ∧ x.2 = b := by rw [h]; exact ⟨rfl, rfl⟩
theorem p_3 {α β γ : Type} {x : α × β × γ} {a : α} {b : β} {c : γ} (h : x = (a, b, c)) : x.1 = a ∧ x.2.1 = b ∧ x.2.2 = c := by rw [h]; exact ⟨rfl, rfl, rfl⟩
theorem p_4 {α β γ δ : Type} {x : α × β × γ × δ} {a : α} {b : β} {c : γ} {d : δ} (h : x = (a, b, c, d)) : x.1 = a ∧ x.2.1 = b ∧ x.2.2.1 = c ∧ x.2.2.2 = d := by rw [h]; exact ⟨rfl, rfl, rfl, rfl⟩
theorem tX4_has (q : wSt) (x : Int32) : ¬ (fX4_has q x).toInt = 0 → 0 ≤ x.toInt ∧ x.toInt < (q 34 0).toInt := by
  unfold fX4_has
  split
  · intro h; exact absurd rfl h
  · split
    · intro h; exact absurd rfl h
    · rename_i h1 h2; intro _; exact ⟨i_nlt h1, i_nle h2⟩
theorem tX1_has (q : wSt) (x : Int32) : ¬ (fX1_has q x).toInt = 0 → 0 ≤ x.toInt ∧ x.toInt < (q 36 0).toInt := by
  unfold fX1_has
  split
  · intro h; exact absurd rfl h
  · split
    · intro h; exact absurd rfl h
    · rename_i h1 h2; intro _; exact ⟨i_nlt h1, i_nle h2⟩
theorem tX3_has (q : wSt) (x : Int32) : ¬ (fX3_has q x).toInt = 0 → 0 ≤ x.toInt ∧ x.toInt < (q 39 0).toInt := by
  unfold fX3_has
  split
  · intro h; exact absurd rfl h
  · split
    · intro h; exact absurd rfl h
    · rename_i h1 h2; intro _; exact ⟨i_nlt h1, i_nle h2⟩
theorem tX5_has (q : wSt) (x : Int32) : ¬ (fX5_has q x).toInt = 0 → 0 ≤ x.toInt ∧ x.toInt < (q 40 0).toInt := by
  unfold fX5_has
  split
  · intro h; exact absurd rfl h
  · split
    · intro h; exact absurd rfl h
    · rename_i h1 h2; intro _; exact ⟨i_nlt h1, i_nle h2⟩
theorem tX6_within (q : wSt) (x y z : Int32) : ¬ (fX6_within q x y z).toInt = 0 → y.toInt ≤ x.toInt ∧ x.toInt ≤ z.toInt := by
  unfold fX6_within
  split
  · intro h; exact absurd rfl h
  · split
    · intro h; exact absurd rfl h
    · rename_i h1 h2; intro _; exact ⟨i_nlt h1, i_nlt h2⟩
theorem tX7_in (q : wSt) (x y z : Int32) : ¬ (fX7_in q x y z).toInt = 0 → y.toInt ≤ x.toInt ∧ x.toInt ≤ z.toInt := by
  unfold fX7_in
  split
  · intro h; exact absurd rfl h
  · split
    · intro h; exact absurd rfl h
    · rename_i h1 h2; intro _; exact ⟨i_nlt h1, i_nlt h2⟩
theorem tX1_isAt (q : wSt) (x y : Int32) : ¬ (fX1_isAt q x y).toInt = 0 → 0 ≤ x.toInt ∧ x.toInt < (q 36 0).toInt ∧ (q 6 x.toNatClampNeg).toInt = y.toInt := by
  unfold fX1_isAt
  split
  · intro h; exact absurd rfl h
  · split
    · rename_i h1 h2; intro _
      have := tX1_has q x (i_ne h1)
      exact ⟨this.1, this.2, i_eq h2⟩
    · intro h; exact absurd rfl h
theorem tX5_isOpen (q : wSt) (x : Int32) : ¬ (fX5_isOpen q x).toInt = 0 → 0 ≤ x.toInt ∧ x.toInt < (q 40 0).toInt := by
  unfold fX5_isOpen
  split
  · intro h; exact absurd rfl h
  · split
    · rename_i h1 h2; intro _
      exact tX5_has q x (i_ne h1)
    · intro h; exact absurd rfl h
theorem tX5_waits (q : wSt) (x : Int32) : ¬ (fX5_waits q x).toInt = 0 → 0 ≤ x.toInt ∧ x.toInt < (q 40 0).toInt := by
  unfold fX5_waits
  split
  · intro h; exact absurd rfl h
  · split
    · rename_i h1 h2; intro _
      exact tX5_isOpen q x (i_ne h1)
    · intro h; exact absurd rfl h
theorem tX3_rankOf (q : wSt) (x : Int32) (h : iI q) : 0 ≤ (fX3_rankOf q x).toInt ∧ (fX3_rankOf q x).toInt ≤ 2 := by
  unfold fX3_rankOf
  split
  · decide
  · rename_i h1
    have h2 := tX3_has q x (i_ne h1)
    have h3 := iI_b h
    exact iI_16 h _ (i_clamp (vp_in_iff.mpr (by omega)))
theorem tlX1_leastOnShelf (q : wSt) (x1 x2 : Int32) (n : Nat) (y : Int32) (hy : 0 ≤ y.toInt) : (lX1_leastOnShelf_1 q x1 x2 n y).toInt = -1 ∨ (0 ≤ (lX1_leastOnShelf_1 q x1 x2 n y).toInt ∧ (lX1_leastOnShelf_1 q x1 x2 n y).toInt < (q 36 0).toInt) := by
  induction n generalizing y with
  | zero => left; rfl
  | succ n ih =>
    rw [lX1_leastOnShelf_1_s]
    split
    · left; rfl
    · rename_i h1
      have h2 := i_nle h1
      have h3 := i_rng (q 36 0)
      have h4 : (y + 1).toInt = y.toInt + 1 := i_inc (by omega)
      have h5 := ih (y + 1) (by omega)
      (repeat' split) <;> first | exact h5 | (right; omega)
theorem tX1_leastOnShelf (q : wSt) (x1 x2 : Int32) : (fX1_leastOnShelf q x1 x2).toInt = -1 ∨ (0 ≤ (fX1_leastOnShelf q x1 x2).toInt ∧ (fX1_leastOnShelf q x1 x2).toInt < (q 36 0).toInt) := by
  unfold fX1_leastOnShelf
  exact tlX1_leastOnShelf q x1 x2 _ 0 (by decide)
