/-- the first week that brings the most -/
def dW (q : wSt) (v i : Int32) (b : Nat) : Prop := b ≤ 20 ∧ dB q v i b = dM q v i 20 ∧ ∀ j, j < b → dB q v i j < dM q v i 20
theorem dW_uniq {q : wSt} {v i : Int32} {b b' : Nat} (h : dW q v i b) (h' : dW q v i b') : b = b' := by
  rcases Nat.lt_trichotomy b b' with e | e | e
  · have := h'.2.2 b e; have := h.2.1; omega
  · exact e
  · have := h.2.2 b' e; have := h'.2.1; omega
theorem lweeksX {q : wSt} {v i : Int32} (h : dOk q) (hv : 0 ≤ v.toInt ∧ v.toInt ≤ 1000) (n : Nat) (y4 y5 : Int32) (k : Nat) (hk : k ≤ 20) (h5 : y5.toInt = (k : Int)) (h4 : y4.toInt = dL q v i k) (hb : ∀ j, j < k → dB q v i j < dM q v i 20) (hn : 20 - k < n) : ∃ b : Nat, (lX2_weeksOf_1 q v i n y4 y5).toInt = (b : Int) ∧ dW q v i b := by
  induction n generalizing y4 y5 k with
  | zero => exact absurd hn (Nat.not_lt_zero _)
  | succ n ih =>
    have t20 : (20 : Int32).toInt = 20 := rfl
    rw [lX2_weeksOf_1_s]
    split
    · rename_i c
      have c1 := i_le c
      have hk20 : k = 20 := by omega
      subst hk20
      refine ⟨20, rfl, Nat.le_refl _, ?_, hb⟩
      obtain ⟨j, h1, h2⟩ := dM_at q v i 20
      by_cases e : j = 20
      · rw [← e]; rw [e] at h2; rw [e]; exact h2
      · have := hb j (by omega); omega
    · rename_i c
      have c1 := i_nle c
      have a3 : y5.toNatClampNeg = k := i_nat h5
      have b1 := dL_b (q := q) (i := i) hv k
      have b2 := dL_b (q := q) (i := i) hv (k + 1)
      have b3 := dB_b (i := i) h hv (show k < 21 by omega)
      have e2 : (y4 + q 29 y5.toNatClampNeg).toInt = dB q v i k := by
        have b4 := (h k (by omega)).2
        rw [a3, i_add (by omega), h4]; rfl
      have e5 := tmostOf (i := i) h hv
      split
      · rename_i c2
        have := i_eq c2
        exact ⟨k, h5, hk, by omega, hb⟩
      · rename_i c2
        have c3 := i_ne c2
        have g1 : (fX2_gainIn q y5 v i).toInt = dL q v i (k + 1) - dL q v i k := by
          rw [dL]; unfold fX2_gainIn; rw [a3]
          split
          · show (0 : Int) = _; omega
          · omega
        have e1 : (y4 + fX2_gainIn q y5 v i).toInt = dL q v i (k + 1) := by rw [i_add (by omega)]; omega
        have e3 : (y5 + 1).toInt = ((k + 1 : Nat) : Int) := by rw [i_inc (by omega)]; omega
        refine ih _ _ (k + 1) (by omega) e3 e1 (fun j hj => ?_) (by omega)
        by_cases e : j = k
        · subst e
          have := dM_ge (q := q) (v := v) (i := i) (show j ≤ 20 by omega)
          omega
        · exact hb j (by omega)
theorem tweeksX {q : wSt} {v i : Int32} (h : dOk q) (hv : 0 ≤ v.toInt ∧ v.toInt ≤ 1000) : ∃ b : Nat, (fX2_weeksOf q v i).toInt = (b : Int) ∧ dW q v i b := by
  unfold fX2_weeksOf
  exact lweeksX h hv _ _ _ 0 (by omega) rfl rfl (fun j hj => absurd hj (Nat.not_lt_zero _)) (by decide)
theorem lweeksY {q : wSt} {v i : Int32} (h : dOk q) (hv : 0 ≤ v.toInt ∧ v.toInt ≤ 1000) (n : Nat) (y3 y4 : Int32) (k b : Nat) (hk : k ≤ 20) (h4 : y4.toInt = (k : Int) + 1) (h3 : y3.toInt = (b : Int)) (hbk : b ≤ k) (h1 : dB q v i b = dM q v i k) (hb : ∀ j, j < b → dB q v i j < dM q v i k) (hn : 20 - k < n) : ∃ b : Nat, (lX7_weeksOf_1 q v i n y3 y4).toInt = (b : Int) ∧ dW q v i b := by
  induction n generalizing y3 y4 k b with
  | zero => exact absurd hn (Nat.not_lt_zero _)
  | succ n ih =>
    have t20 : (20 : Int32).toInt = 20 := rfl
    rw [lX7_weeksOf_1_s]
    split
    · rename_i c
      have c1 := i_lt c
      have hk20 : k = 20 := by omega
      subst hk20
      exact ⟨b, h3, hbk, h1, hb⟩
    · rename_i c
      have c1 := i_nlt c
      have e3 : (y4 + 1).toInt = ((k + 1 : Nat) : Int) + 1 := by rw [i_inc (by omega)]; omega
      have g1 := tbrings (i := i) h hv (show b ≤ 20 by omega) h3
      have g2 := tbrings (i := i) h hv (show k + 1 ≤ 20 by omega) (show y4.toInt = ((k + 1 : Nat) : Int) by omega)
      unfold fX7_weeksOf_j2
      split
      · rename_i c2
        have c3 := i_le c2
        have e : dM q v i (k + 1) = dM q v i k := by rw [dM, if_neg (by omega)]
        exact ih _ _ (k + 1) b (by omega) e3 h3 (by omega) (by omega) (fun j hj => by rw [e]; exact hb j hj) (by omega)
      · rename_i c2
        have c3 := i_nle c2
        have e : dM q v i (k + 1) = dB q v i (k + 1) := by rw [dM, if_pos (by omega)]
        refine ih _ _ (k + 1) (k + 1) (by omega) e3 (by omega) (by omega) e.symm (fun j hj => ?_) (by omega)
        have := dM_ge (q := q) (v := v) (i := i) (show j ≤ k by omega)
        omega
theorem tweeksY {q : wSt} {v i : Int32} (h : dOk q) (hv : 0 ≤ v.toInt ∧ v.toInt ≤ 1000) : ∃ b : Nat, (fX7_weeksOf q v i).toInt = (b : Int) ∧ dW q v i b := by
  unfold fX7_weeksOf
  exact lweeksY h hv _ _ _ 0 0 (by omega) rfl rfl (by omega) rfl (fun j hj => absurd hj (Nat.not_lt_zero _)) (by decide)
theorem tweeks {q : wSt} {v i : Int32} (h : dOk q) (hv : 0 ≤ v.toInt ∧ v.toInt ≤ 1000) : fX2_weeksOf q v i = fX7_weeksOf q v i := by
  obtain ⟨b, h1, h2⟩ := tweeksX (i := i) h hv
  obtain ⟨b', h3, h4⟩ := tweeksY (i := i) h hv
  refine Int32.toInt_inj.mp ?_
  rw [h1, h3, dW_uniq h2 h4]
theorem tmost {q : wSt} {v i : Int32} (h : dOk q) (hv : 0 ≤ v.toInt ∧ v.toInt ≤ 1000) : fX7_brings q v i (fX7_weeksOf q v i) = fX2_mostOf q v i := by
  obtain ⟨b, h1, h2⟩ := tweeksY (i := i) h hv
  refine Int32.toInt_inj.mp ?_
  rw [tbrings h hv h2.1 h1, tmostOf h hv, h2.2.1]
