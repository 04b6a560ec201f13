/-! Part 66: told, wished -/
theorem holds_c {x y : wSt} (h6 : y 6 = x 6) (h10 : y 10 = x 10) (h36 : y 36 = x 36) (r w : Int32) (n : Nat) (a b : Int32) : lX7_holds_1 y r w n a b = lX7_holds_1 x r w n a b := by
  induction n generalizing a b with
  | zero => rfl
  | succ n ih => rw [lX7_holds_1_s, lX7_holds_1_s]; unfold fX7_holds_j2; rw [h6, h10, h36, ih]
theorem holds_cc {x y : wSt} (hs : rSame x y) (r w : Int32) : fX7_holds y r w = fX7_holds x r w := by
  unfold fX7_holds; rw [hs 36 (by omega), holds_c (hs 6 (by omega)) (hs 10 (by omega)) (hs 36 (by omega))]
theorem cN_sum {P P1 P2 : Nat → Bool} {n : Nat} (h : ∀ i, i < n → (if P i = true then 1 else 0) = (if P1 i = true then 1 else 0) + (if P2 i = true then 1 else 0)) : cN P n = cN P1 n + cN P2 n := by
  induction n with
  | zero => rfl
  | succ n ih =>
    have h1 := ih (fun i hi => h i (by omega))
    have h2 := h n (by omega)
    rw [cN, cN, cN]
    omega
theorem d_eqI (a b : Int32) : decide (a = b) = decide (a.toInt = b.toInt) := by
  by_cases e : a = b
  · rw [decide_eq_true e, decide_eq_true (i_eq e)]
  · rw [decide_eq_false e, decide_eq_false (i_ne e)]
theorem holds_in {x : wSt} (hx : vX x) {r : Int32} (h0 : 0 ≤ r.toInt) (h1 : r.toInt < 20) : fX7_holds x r 1 = x 20 r.toNatClampNeg := by
  have e0 := i_cl h0
  refine Int32.toInt_inj.mp ?_
  rw [tholds hx.1, (hx.2.2.2.2.2.2.2.2.1 r.toNatClampNeg (by omega)).1]
  refine congrArg (fun z : Nat => (z : Int)) (cN_congr (fun i _ => ?_))
  unfold kHo kIn
  rw [d_eqI, d_eqI, e0, Bool.and_comm]
  rfl
theorem holds_bx {x : wSt} (hx : vX x) {r : Int32} (h0 : 0 ≤ r.toInt) (h1 : r.toInt < 20) : fX7_holds x r 2 + fX7_holds x r 3 = x 21 r.toNatClampNeg := by
  have e0 := i_cl h0
  have a2 := tholds hx.1 r 2
  have a3 := tholds hx.1 r 3
  have c2 := cN_le (P := kHo x r 2) (x 36 0).toNatClampNeg
  have c3 := cN_le (P := kHo x r 3) (x 36 0).toNatClampNeg
  have hB := iI_b hx.1
  have e1 := i_cl (show 0 ≤ (x 36 0).toInt by omega)
  refine Int32.toInt_inj.mp ?_
  rw [i_add (by omega), a2, a3, (hx.2.2.2.2.2.2.2.2.1 r.toNatClampNeg (by omega)).2]
  rw [cN_sum (P := kBx x r.toNatClampNeg) (P1 := kHo x r 2) (P2 := kHo x r 3)]
  · omega
  · intro i _
    unfold kHo kBx
    rw [d_eqI, d_eqI, d_eqI, e0]
    have t2 : (2 : Int32).toInt = 2 := rfl
    have t3 : (3 : Int32).toInt = 3 := rfl
    rw [t2, t3]
    by_cases g1 : (x 10 i).toInt = r.toInt
    · by_cases g2 : (x 6 i).toInt = 2
      · simp [g1, g2]
      · by_cases g3 : (x 6 i).toInt = 3
        · simp [g1, g3]
        · simp [g1, g2, g3]
    · simp [g1]
theorem sim_told : Sim_told Rel := by
  intro x y hr r w
  obtain ⟨hs, hb, hx⟩ := id hr
  have hB := iI_b hx.1
  unfold fX6_told fX7_told fX5_openOf
  rw [isReader_eq hs hx.1, holds_cc hs, holds_cc hs, holds_cc hs, hs 16 (by omega), hs 18 (by omega), hs 19 (by omega), told_c (hs 22 (by omega)) (hs 24 (by omega)) (hs 40 (by omega)), hs 40 (by omega)]
  split
  · rfl
  · rename_i c
    have h2 := tX3_has x r (i_ne c)
    rw [holds_in hx h2.1 (by omega), holds_bx hx h2.1 (by omega)]
theorem lcopyN {q : wSt} (w : Int32) (n : Nat) (b : Int32) (k : Nat) (hb : b.toInt = (k : Int)) (hw : ∀ c : Nat, (c : Int) < (q 36 0).toInt → ¬ q 11 c = w) : lX7_copyOf_1 q w n b = -1 := by
  induction n generalizing b k with
  | zero => rfl
  | succ n ih =>
    rw [lX7_copyOf_1_s]
    split
    · rfl
    · rename_i c
      have c1 := i_nle c
      have := i_rng (q 36 0)
      rw [i_nat hb, if_neg (hw k (by omega))]
      exact ih _ (k + 1) (by rw [i_inc (by omega)]; omega)
theorem lcopyH {q : wSt} (w : Int32) (h : Nat) (hh : (h : Int) < (q 36 0).toInt) (hw : q 11 h = w) (hu : ∀ c : Nat, (c : Int) < (q 36 0).toInt → q 11 c = w → c = h) (n : Nat) (b : Int32) (k : Nat) (hb : b.toInt = (k : Int)) (hk : k ≤ h) (hn : h - k < n) : (lX7_copyOf_1 q w n b).toInt = (h : Int) := by
  induction n generalizing b k with
  | zero => exact absurd hn (Nat.not_lt_zero _)
  | succ n ih =>
    rw [lX7_copyOf_1_s]
    split
    · rename_i c
      have c1 := i_le c
      omega
    · rename_i c
      have c1 := i_nle c
      have := i_rng (q 36 0)
      rw [i_nat hb]
      by_cases e : k = h
      · subst e; rw [if_pos hw, hb]
      · rw [if_neg (fun z => e (hu k (by omega) z))]
        exact ih _ (k + 1) (by rw [i_inc (by omega)]; omega) (by omega) (by omega)
