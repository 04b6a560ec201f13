/-! Part 60: demands: what a set brings, told as whole numbers -/
def dOk (q : wSt) : Prop := ∀ w : Nat, w < 21 → (0 ≤ (q 28 w).toInt ∧ (q 28 w).toInt ≤ 50) ∧ 0 ≤ (q 29 w).toInt ∧ (q 29 w).toInt ≤ 1000
def dL (q : wSt) (v i : Int32) : Nat → Int
  | 0 => 0
  | k + 1 => dL q v i k + (if q 28 k ≤ i then 0 else v.toInt)
def dB (q : wSt) (v i : Int32) (k : Nat) : Int := dL q v i k + (q 29 k).toInt
def dM (q : wSt) (v i : Int32) : Nat → Int
  | 0 => dB q v i 0
  | k + 1 => if dM q v i k < dB q v i (k + 1) then dB q v i (k + 1) else dM q v i k
theorem dL_b {q : wSt} {v i : Int32} (hv : 0 ≤ v.toInt ∧ v.toInt ≤ 1000) (k : Nat) : 0 ≤ dL q v i k ∧ dL q v i k ≤ 1000 * (k : Int) := by
  induction k with
  | zero => simp [dL]
  | succ k ih => rw [dL]; split <;> omega
theorem dB_b {q : wSt} {v i : Int32} (h : dOk q) (hv : 0 ≤ v.toInt ∧ v.toInt ≤ 1000) {k : Nat} (hk : k < 21) : 0 ≤ dB q v i k ∧ dB q v i k ≤ 1000 * (k : Int) + 1000 := by
  have h1 := dL_b (q := q) (i := i) hv k
  have h2 := h k hk
  unfold dB
  omega
theorem dM_b {q : wSt} {v i : Int32} (h : dOk q) (hv : 0 ≤ v.toInt ∧ v.toInt ≤ 1000) {k : Nat} (hk : k < 21) : 0 ≤ dM q v i k ∧ dM q v i k ≤ 1000 * (k : Int) + 1000 := by
  induction k with
  | zero => exact dB_b h hv hk
  | succ k ih =>
    have h1 := ih (by omega)
    have h2 := dB_b (i := i) h hv hk
    rw [dM]
    split <;> omega
theorem dM_ge {q : wSt} {v i : Int32} {k j : Nat} (hj : j ≤ k) : dB q v i j ≤ dM q v i k := by
  induction k with
  | zero => rw [show j = 0 by omega]; exact Int.le_refl _
  | succ k ih =>
    rw [dM]
    by_cases e : j = k + 1
    · subst e; split <;> omega
    · have := ih (by omega)
      split <;> omega
theorem dM_at (q : wSt) (v i : Int32) (k : Nat) : ∃ j, j ≤ k ∧ dB q v i j = dM q v i k := by
  induction k with
  | zero => exact ⟨0, Nat.le_refl _, rfl⟩
  | succ k ih =>
    rw [dM]
    split
    · exact ⟨k + 1, Nat.le_refl _, rfl⟩
    · obtain ⟨j, h1, h2⟩ := ih
      exact ⟨j, by omega, h2⟩
/-- a set of a greater number brings no more -/
theorem dL_mono {q : wSt} {v i i' : Int32} (hv : 0 ≤ v.toInt) (hi : i ≤ i') (k : Nat) : dL q v i' k ≤ dL q v i k := by
  induction k with
  | zero => exact Int.le_refl _
  | succ k ih =>
    rw [dL, dL]
    by_cases h : q 28 k ≤ i
    · have h2 : q 28 k ≤ i' := Int32.le_iff_toInt_le.mpr (Int.le_trans (i_le h) (i_le hi))
      rw [if_pos h, if_pos h2]; omega
    · rw [if_neg h]
      split <;> omega
theorem dM_mono {q : wSt} {v i i' : Int32} (hv : 0 ≤ v.toInt) (hi : i ≤ i') (k : Nat) : dM q v i' k ≤ dM q v i k := by
  obtain ⟨j, h1, h2⟩ := dM_at q v i' k
  have h3 := dM_ge (q := q) (v := v) (i := i) h1
  have h4 := dL_mono (q := q) hv hi j
  unfold dB at h2 h3
  omega
theorem i_nat {x : Int32} {k : Nat} (h : x.toInt = (k : Int)) : x.toNatClampNeg = k := by
  have := i_cl (x := x) (by omega)
  omega
theorem lmostOf {q : wSt} {v i : Int32} (h : dOk q) (hv : 0 ≤ v.toInt ∧ v.toInt ≤ 1000) (n : Nat) (y3 y4 y5 : Int32) (k : Nat) (hk : k ≤ 20) (h5 : y5.toInt = (k : Int) + 1) (h3 : y3.toInt = dM q v i k) (h4 : y4.toInt = dL q v i k) (hn : 20 - k < n) : (lX2_mostOf_1 q v i n y3 y4 y5).toInt = dM q v i 20 := by
  induction n generalizing y3 y4 y5 k with
  | zero => exact absurd hn (Nat.not_lt_zero _)
  | succ n ih =>
    have t20 : (20 : Int32).toInt = 20 := rfl
    have t1 : (1 : Int32).toInt = 1 := rfl
    rw [lX2_mostOf_1_s]
    split
    · rename_i c
      have c1 := i_lt c
      rw [h3, show k = 20 by omega]
    · rename_i c
      have c1 := i_nlt c
      have a1 : (y5 - 1).toInt = (k : Int) := by rw [i_sub (by omega)]; omega
      have a2 : (y5 - 1).toNatClampNeg = k := i_nat a1
      have a3 : y5.toNatClampNeg = k + 1 := i_nat (by omega)
      have b1 := dL_b (q := q) (i := i) hv k
      have b2 := dL_b (q := q) (i := i) hv (k + 1)
      have b3 := dB_b (i := i) h hv (show k + 1 < 21 by omega)
      have b4 := (h (k + 1) (by omega)).2
      have g1 : (fX2_gainIn q (y5 - 1) v i).toInt = dL q v i (k + 1) - dL q v i k := by
        rw [dL]; unfold fX2_gainIn; rw [a2]
        split
        · show (0 : Int) = _; omega
        · omega
      have e1 : (y4 + fX2_gainIn q (y5 - 1) v i).toInt = dL q v i (k + 1) := by rw [i_add (by omega)]; omega
      have e2 : (y4 + fX2_gainIn q (y5 - 1) v i + q 29 y5.toNatClampNeg).toInt = dB q v i (k + 1) := by
        unfold dB
        rw [a3, i_add (by unfold dB at b3; omega), e1]
      have e3 : (y5 + 1).toInt = ((k + 1 : Nat) : Int) + 1 := by rw [i_inc (by omega)]; omega
      refine ih _ _ _ (k + 1) (by omega) e3 ?_ e1 (by omega)
      rw [dM]
      split
      · rename_i c2
        have := i_lt c2
        rw [e2, if_pos (by omega)]
      · rename_i c2
        have := i_nlt c2
        rw [h3, if_neg (by omega)]
theorem tmostOf {q : wSt} {v i : Int32} (h : dOk q) (hv : 0 ≤ v.toInt ∧ v.toInt ≤ 1000) : (fX2_mostOf q v i).toInt = dM q v i 20 := by
  unfold fX2_mostOf
  exact lmostOf h hv _ _ _ _ 0 (by omega) rfl (by unfold dM dB dL; exact (Int.zero_add _).symm) rfl (by decide)
theorem lbrings {q : wSt} {v i : Int32} (h : dOk q) (hv : 0 ≤ v.toInt ∧ v.toInt ≤ 1000) (K : Nat) (hK : K ≤ 20) (x3 : Int32) (hx : x3.toInt = (K : Int)) (n : Nat) (y4 y5 : Int32) (k : Nat) (hk : k ≤ K) (h5 : y5.toInt = (k : Int)) (h4 : y4.toInt = (q 29 K).toInt + dL q v i k) (hn : K - k < n) : (lX7_brings_1 q v i x3 n y4 y5).toInt = dB q v i K := by
  induction n generalizing y4 y5 k with
  | zero => exact absurd hn (Nat.not_lt_zero _)
  | succ n ih =>
    rw [lX7_brings_1_s]
    split
    · rename_i c
      have c1 := i_le c
      rw [h4, show k = K by omega]; unfold dB; omega
    · rename_i c
      have c1 := i_nle c
      have a3 : y5.toNatClampNeg = k := i_nat h5
      have b1 := dL_b (q := q) (i := i) hv k
      have b2 := dL_b (q := q) (i := i) hv (k + 1)
      have b4 := (h K (by omega)).2
      have g1 : (fX7_brings_j2 q v i x3 y4 y5).toInt = dL q v i (k + 1) - dL q v i k := by
        rw [dL]; unfold fX7_brings_j2; rw [a3]
        split
        · show (0 : Int) = _; omega
        · omega
      have e1 : (y4 + fX7_brings_j2 q v i x3 y4 y5).toInt = (q 29 K).toInt + dL q v i (k + 1) := by rw [i_add (by omega)]; omega
      have e3 : (y5 + 1).toInt = ((k + 1 : Nat) : Int) := by rw [i_inc (by omega)]; omega
      exact ih _ _ (k + 1) (by omega) e3 e1 (by omega)
theorem tbrings {q : wSt} {v i : Int32} (h : dOk q) (hv : 0 ≤ v.toInt ∧ v.toInt ≤ 1000) {K : Nat} (hK : K ≤ 20) {x3 : Int32} (hx : x3.toInt = (K : Int)) : (fX7_brings q v i x3).toInt = dB q v i K := by
  unfold fX7_brings
  refine lbrings h hv K hK x3 hx _ _ _ 0 (by omega) rfl ?_ ?_
  · rw [i_nat hx, dL]; omega
  · have t0 : (0 : Int32).toInt = 0 := rfl
    rw [hx, t0]; omega
