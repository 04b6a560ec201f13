/-! Part 65: counts by loops -/
def kHo (x : wSt) (r w : Int32) : Nat → Bool := fun c => decide (x 10 c = r) && decide (x 6 c = w)
theorem i_zero (a : Int32) : a + 0 = a := Int32.toInt_inj.mp (by have t0 : (0 : Int32).toInt = 0 := rfl; have := i_rng a; rw [i_add (by omega)]; omega)
theorem lholds {q : wSt} (hq : (q 36 0).toInt ≤ 200) (r w : Int32) (n : Nat) (a b : Int32) (k : Nat) (hb : b.toInt = (k : Int)) (ha : a.toInt = (cN (kHo q r w) k : Int)) (hk : (k : Int) ≤ (q 36 0).toInt) (hn : ((q 36 0).toInt - (k : Int)).toNat < n) : (lX7_holds_1 q r w n a b).toInt = (cN (kHo q r w) (q 36 0).toNatClampNeg : Int) := by
  induction n generalizing a b k with
  | zero => exact absurd hn (Nat.not_lt_zero _)
  | succ n ih =>
    rw [lX7_holds_1_s]
    have e0 := i_cl (show 0 ≤ (q 36 0).toInt by omega)
    split
    · rename_i c
      have c1 := i_le c
      rw [ha, show k = (q 36 0).toNatClampNeg by omega]
    · rename_i c
      have c1 := i_nle c
      have e1 := cN_le (P := kHo q r w) k
      have e2 : (b + 1).toInt = ((k + 1 : Nat) : Int) := by rw [i_inc (by omega)]; omega
      have e3 : (fX7_holds_j2 q r w a b).toInt = (cN (kHo q r w) (k + 1) : Int) - (cN (kHo q r w) k : Int) := by
        rw [cN]
        unfold fX7_holds_j2
        rw [i_nat hb]
        by_cases g1 : q 10 k = r
        · by_cases g2 : q 6 k = w
          · rw [if_pos g1, if_pos g2, if_pos (by simp [kHo, g1, g2])]
            show (1 : Int) = _; omega
          · rw [if_pos g1, if_neg g2, if_neg (by simp [kHo, g2])]
            show (0 : Int) = _; omega
        · rw [if_neg g1, if_neg (by simp [kHo, g1])]
          show (0 : Int) = _; omega
      have e4 := cN_le (P := kHo q r w) (k + 1)
      exact ih _ _ (k + 1) e2 (by rw [i_add (by omega)]; omega) (by omega) (by omega)
theorem tholds {q : wSt} (h : iI q) (r w : Int32) : (fX7_holds q r w).toInt = (cN (kHo q r w) (q 36 0).toNatClampNeg : Int) := by
  have hB := iI_b h
  unfold fX7_holds
  exact lholds (by omega) r w _ _ _ 0 rfl rfl (by omega) (by have t0 : (0 : Int32).toInt = 0 := rfl; omega)
theorem lcount {q : wSt} (hq : (q 36 0).toInt ≤ 200) (z : Int32) (n : Nat) (a b : Int32) (k : Nat) (hb : b.toInt = (k : Int)) (ha : a.toInt = (cN (kLo q) k : Int)) (hk : (k : Int) ≤ (q 36 0).toInt) (hn : ((q 36 0).toInt - (k : Int)).toNat < n) : (lX7_count_1 q z n a b).toInt = (cN (kLo q) (q 36 0).toNatClampNeg : Int) := by
  induction n generalizing a b k with
  | zero => exact absurd hn (Nat.not_lt_zero _)
  | succ n ih =>
    rw [lX7_count_1_s]
    have e0 := i_cl (show 0 ≤ (q 36 0).toInt by omega)
    split
    · rename_i c
      have c1 := i_le c
      rw [ha, show k = (q 36 0).toNatClampNeg by omega]
    · rename_i c
      have c1 := i_nle c
      have e1 := cN_le (P := kLo q) k
      have e2 : (b + 1).toInt = ((k + 1 : Nat) : Int) := by rw [i_inc (by omega)]; omega
      have e3 : (fX7_count_j2 q z a b).toInt = (cN (kLo q) (k + 1) : Int) - (cN (kLo q) k : Int) := by
        rw [cN]
        unfold fX7_count_j2
        rw [i_nat hb]
        by_cases g1 : q 6 k = 5
        · rw [if_pos g1, if_pos (by simp only [kLo, g1]; decide)]
          show (1 : Int) = _; omega
        · rw [if_neg g1, if_neg (by simp only [kLo, decide_eq_true_eq]; exact fun z => g1 (Int32.toInt_inj.mp z))]
          show (0 : Int) = _; omega
      have e4 := cN_le (P := kLo q) (k + 1)
      exact ih _ _ (k + 1) e2 (by rw [i_add (by omega)]; omega) (by omega) (by omega)
theorem count_c {x y : wSt} (h6 : y 6 = x 6) (h36 : y 36 = x 36) (z : Int32) (n : Nat) (a b : Int32) : lX7_count_1 y z n a b = lX7_count_1 x z n a b := by
  induction n generalizing a b with
  | zero => rfl
  | succ n ih => rw [lX7_count_1_s, lX7_count_1_s]; unfold fX7_count_j2; rw [h6, h36, ih]
theorem sim_count : Sim_count Rel := by
  intro x y hr w
  obtain ⟨hs, hb, hx⟩ := id hr
  have hB := iI_b hx.1
  unfold fX6_count fX7_count
  rw [hs 30 (by omega), hs 34 (by omega), hs 36 (by omega), hs 39 (by omega), hs 40 (by omega), hs 31 (by omega), hs 32 (by omega), hs 33 (by omega), count_c (hs 6 (by omega)) (hs 36 (by omega))]
  have e : lX7_count_1 x w (((x 36 0).toInt - (0 : Int32).toInt).toNat + 1) 0 0 = x 38 0 := by
    refine Int32.toInt_inj.mp ?_
    rw [lcount (by omega) w _ _ _ 0 rfl rfl (by omega) (by have t0 : (0 : Int32).toInt = 0 := rfl; omega)]
    exact hx.2.2.2.2.2.2.2.1.2.2.symm
  rw [e]
theorem told_c {x y : wSt} (h22 : y 22 = x 22) (h24 : y 24 = x 24) (h40 : y 40 = x 40) (r z : Int32) (n : Nat) (a b : Int32) : lX7_told_1 y r z n a b = lX5_openOf_1 x r n a b := by
  induction n generalizing a b with
  | zero => rfl
  | succ n ih =>
    rw [lX7_told_1_s, lX5_openOf_1_s]; unfold fX7_told_j2 fX5_openOf_j2; rw [h22, h24, h40, ih]
    by_cases g1 : x 22 b.toNatClampNeg = r
    · by_cases g2 : x 24 b.toNatClampNeg = 0
      · rw [if_pos g1, if_pos g2, if_pos g2, if_pos g1]
      · rw [if_pos g1, if_neg g2, if_neg g2, i_zero]
    · rw [if_neg g1, i_zero]
      by_cases g2 : x 24 b.toNatClampNeg = 0
      · rw [if_pos g2, if_neg g1]
      · rw [if_neg g2]
