/-! Part 62: calls that touch no copy -/
theorem vX_fr {x x' : wSt} (h : ∀ k : Nat, ¬ (k = 1 ∨ k = 2 ∨ k = 3 ∨ k = 4 ∨ k = 5 ∨ k = 9 ∨ k = 17 ∨ k = 18 ∨ k = 19 ∨ k = 27 ∨ k = 31 ∨ k = 32 ∨ k = 33) → x' k = x k) (hx : vX x) : vX x' := by
  have h0 := h 0 (by omega)
  have h6 := h 6 (by omega)
  have h7 := h 7 (by omega)
  have h8 := h 8 (by omega)
  have h10 := h 10 (by omega)
  have h11 := h 11 (by omega)
  have h12 := h 12 (by omega)
  have h13 := h 13 (by omega)
  have h14 := h 14 (by omega)
  have h15 := h 15 (by omega)
  have h16 := h 16 (by omega)
  have h20 := h 20 (by omega)
  have h21 := h 21 (by omega)
  have h22 := h 22 (by omega)
  have h23 := h 23 (by omega)
  have h24 := h 24 (by omega)
  have h25 := h 25 (by omega)
  have h26 := h 26 (by omega)
  have h28 := h 28 (by omega)
  have h29 := h 29 (by omega)
  have h30 := h 30 (by omega)
  have h34 := h 34 (by omega)
  have h35 := h 35 (by omega)
  have h36 := h 36 (by omega)
  have h37 := h 37 (by omega)
  have h38 := h 38 (by omega)
  have h39 := h 39 (by omega)
  have h40 := h 40 (by omega)
  unfold vX iI dOk vV vC vJ vW vZ vT vR vNow kSh kIn kBx kBa kLo at hx ⊢
  simp only [h0, h6, h7, h8, h10, h11, h12, h13, h14, h15, h16, h20, h21, h22, h23, h24, h25, h26, h28, h29, h30, h34, h35, h36, h37, h38, h39, h40]
  exact hx
theorem Rel_fr {x y x' y' : wSt} (h : ∀ k : Nat, ¬ (k = 1 ∨ k = 2 ∨ k = 3 ∨ k = 4 ∨ k = 5 ∨ k = 9 ∨ k = 17 ∨ k = 18 ∨ k = 19 ∨ k = 27 ∨ k = 31 ∨ k = 32 ∨ k = 33) → x' k = x k) (hs : rSame x' y') (h13 : y' 13 = y 13) (hr : Rel x y) : Rel x' y' := by
  obtain ⟨-, hb, hx⟩ := hr
  refine ⟨hs, ?_, vX_fr h hx⟩
  rw [h 36 (by omega), h 6 (by omega), h 13 (by omega), h13]
  exact hb
theorem rS_set {x y : wSt} {k : Nat} {f : Nat → Int32} (hs : rSame x y) : rSame (rset x k f) (rset y k f) := by
  intro j hj
  by_cases e : j = k
  · subst e; rw [rset_eq, rset_eq]
  · rw [rset_ne e, rset_ne e]; exact hs j hj
theorem Rel_set {x y : wSt} {k : Nat} {f : Nat → Int32} (hk : k = 1 ∨ k = 2 ∨ k = 3 ∨ k = 4 ∨ k = 5 ∨ k = 9 ∨ k = 17 ∨ k = 18 ∨ k = 19 ∨ k = 27 ∨ k = 31 ∨ k = 32 ∨ k = 33) (hr : Rel x y) : Rel (rset x k f) (rset y k f) :=
  Rel_fr (x := x) (y := y) (fun j hj => rset_ne (fun e => hj (by omega))) (rS_set hr.1) (rset_ne (by omega)) hr
theorem sim_renew : Sim_renew Rel := by
  intro x y hr r l
  obtain ⟨hs, hb, hx⟩ := id hr
  unfold fX6_renew fX7_renew
  rw [isReader_eq hs hx.1, in_eq x y, hs 18 (by omega)]
  split
  · exact ⟨rfl, hr⟩
  · split
    · exact ⟨rfl, hr⟩
    · exact ⟨rfl, Rel_set (by omega) hr⟩
theorem sim_pay : Sim_pay Rel := by
  intro x y hr r n
  obtain ⟨hs, hb, hx⟩ := id hr
  unfold fX6_pay fX7_pay
  rw [isReader_eq hs hx.1, in_eq x y, hs 19 (by omega), hs 33 (by omega)]
  split
  · exact ⟨rfl, hr⟩
  · split
    · exact ⟨rfl, hr⟩
    · exact ⟨rfl, Rel_set (by omega) (Rel_set (by omega) hr)⟩
theorem sim_copy : Sim_copy Rel := by
  intro x y hr c w
  obtain ⟨hs, hb, hx⟩ := id hr
  unfold fX6_copy fX7_copy
  rw [isCopy_eq hs hx.1, hs 6 (by omega), hs 7 (by omega), hs 8 (by omega), hs 9 (by omega), hs 10 (by omega), hs 12 (by omega), hs 14 (by omega)]
  split
  · rfl
  · rename_i h1
    have h2 := tX1_has x c (i_ne h1)
    have h3 := i_cl h2.1
    have h4 := hb c.toNatClampNeg (by omega)
    have h5 := hx.2.2.2.1 c.toNatClampNeg (by omega)
    have e13 : (if x 6 c.toNatClampNeg = 2 then y 13 c.toNatClampNeg else if x 6 c.toNatClampNeg = 3 then y 13 c.toNatClampNeg else 0) = x 13 c.toNatClampNeg := by
      split
      · rename_i g; exact h4 (Or.inl (i_eq g))
      · split
        · rename_i g; exact h4 (Or.inr (i_eq g))
        · rename_i g1 g2
          refine (Int32.toInt_inj.mp ?_).symm
          exact h5.2.2.2.2.2.2.2.2 (fun z => z.elim (fun z => g1 (Int32.toInt_inj.mp z)) (fun z => g2 (Int32.toInt_inj.mp z)))
    simp only [e13]
