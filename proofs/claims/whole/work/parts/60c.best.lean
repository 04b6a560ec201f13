/-- sets to buy: the first one that brings no more than it costs -/
def dN (q : wSt) (v c : Int32) (N : Nat) : Prop := N ≤ 50 ∧ (∀ j : Nat, j < N → c.toInt < dM q v (nI j) 20) ∧ (N < 50 → dM q v (nI N) 20 ≤ c.toInt)
theorem i_nI {x : Int32} {k : Nat} (hk : k < 2 ^ 31) (h : x.toInt = (k : Int)) : x = nI k := Int32.toInt_inj.mp (by rw [h, nI_toInt hk])
theorem lsets {q : wSt} {v c : Int32} (h : dOk q) (hv : 0 ≤ v.toInt ∧ v.toInt ≤ 1000) (n : Nat) (y : Int32) (k : Nat) (hk : k ≤ 50) (hy : y.toInt = (k : Int)) (hb : ∀ j : Nat, j < k → c.toInt < dM q v (nI j) 20) (hn : 50 - k < n) : ∃ N : Nat, (lX2_setsToBuy_1 q v c n y).toInt = (N : Int) ∧ dN q v c N := by
  induction n generalizing y k with
  | zero => exact absurd hn (Nat.not_lt_zero _)
  | succ n ih =>
    have t50 : (50 : Int32).toInt = 50 := rfl
    have hyk : y = nI k := i_nI (by omega) hy
    rw [lX2_setsToBuy_1_s]
    split
    · rename_i c1
      have := i_le c1
      exact ⟨k, hy, hk, hb, fun z => by omega⟩
    · rename_i c1
      have c2 := i_nle c1
      have m1 := tmostOf (i := y) h hv
      split
      · rename_i c3
        have := i_le c3
        exact ⟨k, hy, hk, hb, fun _ => by rw [← hyk]; omega⟩
      · rename_i c3
        have c4 := i_nle c3
        refine ih _ (k + 1) (by omega) (by rw [i_inc (by omega)]; omega) (fun j hj => ?_) (by omega)
        by_cases e : j = k
        · rw [e, ← hyk]; omega
        · exact hb j (by omega)
theorem tsets {q : wSt} {v c : Int32} (h : dOk q) (hv : 0 ≤ v.toInt ∧ v.toInt ≤ 1000) : ∃ N : Nat, (fX2_setsToBuy q v c).toInt = (N : Int) ∧ dN q v c N := by
  unfold fX2_setsToBuy
  exact lsets h hv _ _ 0 (by omega) rfl (fun j hj => absurd hj (Nat.not_lt_zero _)) (by decide)
/-- the sum over the first k sets -/
def dS (q : wSt) (v c : Int32) : Nat → Int
  | 0 => 0
  | k + 1 => dS q v c k + (dM q v (nI k) 20 - c.toInt)
theorem dS_b {q : wSt} {v c : Int32} (h : dOk q) (hv : 0 ≤ v.toInt ∧ v.toInt ≤ 1000) (hc : 0 ≤ c.toInt ∧ c.toInt ≤ 1000) (k : Nat) : -1000 * (k : Int) ≤ dS q v c k ∧ dS q v c k ≤ 21000 * (k : Int) := by
  induction k with
  | zero => simp [dS]
  | succ k ih =>
    have := dM_b (i := nI k) h hv (show 20 < 21 by omega)
    rw [dS]; omega
theorem lbest {q : wSt} {v c : Int32} (h : dOk q) (hv : 0 ≤ v.toInt ∧ v.toInt ≤ 1000) (hc : 0 ≤ c.toInt ∧ c.toInt ≤ 1000) {N : Nat} (hN : dN q v c N) (n : Nat) (y3 y4 y5 y6 : Int32) (k : Nat) (hk : k ≤ 50) (h6 : y6.toInt = (k : Int)) (h5 : y5.toInt = dS q v c k) (h3 : (k ≤ N ∧ y3.toInt = (k : Int) ∧ y4.toInt = dS q v c k) ∨ (N ≤ k ∧ y3.toInt = (N : Int) ∧ dS q v c k ≤ y4.toInt)) (hn : 50 - k < n) : (lX7_best_1 q v c n y3 y4 y5 y6).toInt = (N : Int) := by
  induction n generalizing y3 y4 y5 y6 k with
  | zero => exact absurd hn (Nat.not_lt_zero _)
  | succ n ih =>
    have t50 : (50 : Int32).toInt = 50 := rfl
    have hN50 := hN.1
    rw [lX7_best_1_s]
    split
    · rename_i c1
      have := i_le c1
      rcases h3 with h3 | h3 <;> omega
    · rename_i c1
      have c2 := i_nle c1
      have hyk : y6 = nI k := i_nI (by omega) h6
      have m0 := tmost (i := y6) h hv
      have m1 := tmostOf (i := y6) h hv
      rw [hyk] at m1
      have m2 := dM_b (i := nI k) h hv (show 20 < 21 by omega)
      have b1 := dS_b h hv hc k
      have b2 := dS_b h hv hc (k + 1)
      have s1 : dS q v c (k + 1) = dS q v c k + (dM q v (nI k) 20 - c.toInt) := rfl
      have d1 : (fX2_mostOf q v y6 - c).toInt = dM q v (nI k) 20 - c.toInt := by rw [hyk, i_sub (by omega)]; omega
      have e5 : (y5 + (fX2_mostOf q v y6 - c)).toInt = dS q v c (k + 1) := by rw [i_add (by omega)]; omega
      have e6 : (y6 + 1).toInt = ((k + 1 : Nat) : Int) := by rw [i_inc (by omega)]; omega
      unfold fX7_best_j2
      rw [m0]
      split
      · rename_i c3
        have c4 := i_lt c3
        refine ih _ _ _ _ (k + 1) (by omega) e6 e5 ?_ (by omega)
        rcases h3 with ⟨g1, g2, g3⟩ | ⟨g1, g2, g3⟩
        · by_cases e : k = N
          · exfalso
            have := hN.2.2 (by omega)
            rw [← e] at this
            omega
          · left; exact ⟨by omega, e6, e5⟩
        · exfalso
          have g4 : dM q v (nI k) 20 ≤ c.toInt := by
            have g5 := hN.2.2 (by omega)
            have g6 := dM_mono (q := q) hv.1 (nI_le g1 (show k < 2 ^ 31 by omega)) 20
            omega
          omega
      · rename_i c3
        have c4 := i_nlt c3
        refine ih _ _ _ _ (k + 1) (by omega) e6 e5 ?_ (by omega)
        dsimp only
        rcases h3 with ⟨g1, g2, g3⟩ | ⟨g1, g2, g3⟩
        · by_cases e : k = N
          · right; exact ⟨by omega, by omega, by omega⟩
          · exfalso
            have := hN.2.1 k (by omega)
            omega
        · right; exact ⟨by omega, g2, by omega⟩
theorem tbest {q : wSt} {v c : Int32} (h : dOk q) (hv : 0 ≤ v.toInt ∧ v.toInt ≤ 1000) (hc : 0 ≤ c.toInt ∧ c.toInt ≤ 1000) : lX7_best_1 q v c (((50 : Int32).toInt - (0 : Int32).toInt).toNat + 1) 0 0 0 0 = fX2_setsToBuy q v c := by
  obtain ⟨N, h1, h2⟩ := tsets (c := c) h hv
  refine Int32.toInt_inj.mp ?_
  rw [h1]
  exact lbest h hv hc h2 _ _ _ _ _ 0 (by omega) rfl rfl (Or.inl ⟨by omega, rfl, rfl⟩) (by decide)
theorem lgain {q : wSt} {v c : Int32} (h : dOk q) (hv : 0 ≤ v.toInt ∧ v.toInt ≤ 1000) (hb : fX7_best q v c = fX2_setsToBuy q v c) (n : Nat) (a b : Int32) : lX7_gain_1 q v c n a b = lX6_gain_1 q v c n a b := by
  induction n generalizing a b with
  | zero => rfl
  | succ n ih =>
    rw [lX7_gain_1_s, lX6_gain_1_s, hb, tmost h hv, ih]
theorem canPlan_eq (x y : wSt) (v c : Int32) : fX7_isAny y v c = fX6_canPlan x v c := rfl
theorem canPlan_b {x : wSt} {v c : Int32} (h : ¬ fX6_canPlan x v c = 0) : (0 ≤ v.toInt ∧ v.toInt ≤ 1000) ∧ 0 ≤ c.toInt ∧ c.toInt ≤ 1000 := by
  unfold fX6_canPlan at h
  split at h
  · exact absurd rfl h
  · split at h
    · exact absurd rfl h
    · rename_i h1 h2
      exact ⟨tX6_within _ _ _ _ (i_ne h1), tX6_within _ _ _ _ (i_ne h2)⟩
theorem best_eq {q : wSt} (h : dOk q) (v c : Int32) : fX7_best q v c = fX6_best q v c := by
  unfold fX7_best fX6_best
  rw [canPlan_eq q q]
  split
  · rfl
  · rename_i h1
    have h2 := canPlan_b h1
    exact tbest h h2.1 h2.2
theorem gain_eq {q : wSt} (h : dOk q) (v c : Int32) : fX7_gain q v c = fX6_gain q v c := by
  have hb := best_eq h v c
  unfold fX7_gain fX6_gain
  rw [canPlan_eq q q]
  split
  · rfl
  · rename_i h1
    have h2 := canPlan_b h1
    have hb2 : fX7_best q v c = fX2_setsToBuy q v c := by rw [hb]; unfold fX6_best; rw [if_neg h1]
    rw [hb2]
    exact lgain h h2.1 hb2 _ _ _
theorem kept_eq {q : wSt} (h : dOk q) (v c i : Int32) : fX7_kept q v c i = fX6_kept q v c i := by
  have hb := best_eq h v c
  unfold fX7_kept fX6_kept
  rw [canPlan_eq q q]
  split
  · rfl
  · rename_i h1
    have h2 := canPlan_b h1
    have hb2 : fX7_best q v c = fX2_setsToBuy q v c := by rw [hb]; unfold fX6_best; rw [if_neg h1]
    rw [hb2, tweeks h h2.1]
    rfl
