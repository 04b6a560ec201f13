/-! Part 20e: the reference's shelf and turns -/
theorem cN_le {P : Nat → Bool} (n : Nat) : cN P n ≤ n := by
  induction n with
  | zero => exact Nat.le_refl _
  | succ n ih => rw [cN]; split <;> omega
theorem cN_congr {P P' : Nat → Bool} {n : Nat} (h : ∀ i, i < n → P' i = P i) : cN P' n = cN P n := by
  induction n with
  | zero => rfl
  | succ n ih => rw [cN, cN, ih (fun i hi => h i (by omega)), h n (by omega)]
/-- one place changes -/
theorem cN_one {P P' : Nat → Bool} {n c : Nat} (hc : c < n) (h : ∀ i, i < n → i ≠ c → P' i = P i) : cN P' n + (if P c = true then 1 else 0) = cN P n + (if P' c = true then 1 else 0) := by
  induction n with
  | zero => exact absurd hc (Nat.not_lt_zero _)
  | succ n ih =>
    rw [cN, cN]
    by_cases e : c = n
    · subst e
      rw [cN_congr (fun i hi => h i (by omega) (by omega))]
      omega
    · rw [h n (by omega) (fun z => e z.symm)]
      have := ih (by omega) (fun i hi hn => h i (by omega) hn)
      omega
theorem i_cl {x : Int32} (h : 0 ≤ x.toInt) : (x.toNatClampNeg : Int) = x.toInt := by
  rw [Int32.toNatClampNeg]; exact Int.toNat_of_nonneg h
theorem i_clI {x y : Int32} (hx : 0 ≤ x.toInt) (hy : 0 ≤ y.toInt) (h : x.toNatClampNeg = y.toNatClampNeg) : x = y := by
  refine Int32.toInt_inj.mp ?_
  have h1 := i_cl hx
  have h2 := i_cl hy
  omega
theorem tlX7_shelved (q : wSt) (x1 x2 : Int32) (n : Nat) (y : Int32) (hy : 0 ≤ y.toInt) : (lX7_shelved_1 q x1 x2 n y) = -1 ∨ (0 ≤ (lX7_shelved_1 q x1 x2 n y).toInt ∧ (lX7_shelved_1 q x1 x2 n y).toInt < (q 36 0).toInt ∧ q 6 (lX7_shelved_1 q x1 x2 n y).toNatClampNeg = 0 ∧ q 7 (lX7_shelved_1 q x1 x2 n y).toNatClampNeg = x1 ∧ q 8 (lX7_shelved_1 q x1 x2 n y).toNatClampNeg = x2) := by
  induction n generalizing y with
  | zero => left; rfl
  | succ n ih =>
    rw [lX7_shelved_1_s]
    split
    · left; rfl
    · rename_i h1
      have h2 := i_nle h1
      have h3 := i_rng (q 36 0)
      have h4 : (y + 1).toInt = y.toInt + 1 := i_inc (by omega)
      have h5 := ih (y + 1) (by omega)
      split
      · split
        · split
          · rename_i a b c; right; exact ⟨hy, h2, c, a, b⟩
          · exact h5
        · exact h5
      · exact h5
theorem tX7_shelved (q : wSt) (x1 x2 : Int32) : (fX7_shelved q x1 x2) = -1 ∨ (0 ≤ (fX7_shelved q x1 x2).toInt ∧ (fX7_shelved q x1 x2).toInt < (q 36 0).toInt ∧ q 6 (fX7_shelved q x1 x2).toNatClampNeg = 0 ∧ q 7 (fX7_shelved q x1 x2).toNatClampNeg = x1 ∧ q 8 (fX7_shelved q x1 x2).toNatClampNeg = x2) := by
  unfold fX7_shelved
  exact tlX7_shelved q x1 x2 _ 0 (by decide)
theorem tX7_canHave (q : wSt) (w : Int32) (h : ¬ (fX7_canHave q w).toInt = 0) : ¬ fX7_shelved q (q 23 w.toNatClampNeg) (q 25 w.toNatClampNeg) = -1 := by
  intro h1
  apply h
  unfold fX7_canHave
  rw [if_pos h1]
  (repeat' split) <;> rfl
/-- where a wish can have: its copy -/
theorem tX7_can (q : wSt) (w : Int32) (h : ¬ (fX7_canHave q w).toInt = 0) : 0 ≤ (fX7_shelved q (q 23 w.toNatClampNeg) (q 25 w.toNatClampNeg)).toInt ∧ (fX7_shelved q (q 23 w.toNatClampNeg) (q 25 w.toNatClampNeg)).toInt < (q 36 0).toInt := by
  rcases tX7_shelved q (q 23 w.toNatClampNeg) (q 25 w.toNatClampNeg) with h1 | h1
  · exact absurd h1 (tX7_canHave q w h)
  · exact ⟨h1.1, h1.2.1⟩
theorem tlX7_turns_2 (q : wSt) (z : Int32) (p : wSt) (n : Nat) (y1 y2 : Int32) (h1 : y1.toInt = -1 ∨ (0 ≤ y1.toInt ∧ y1.toInt < (p 40 0).toInt ∧ ¬ (fX7_canHave p y1).toInt = 0)) (h2 : 0 ≤ y2.toInt) : (lX7_turns_2 q z p n y1 y2).toInt = -1 ∨ (0 ≤ (lX7_turns_2 q z p n y1 y2).toInt ∧ (lX7_turns_2 q z p n y1 y2).toInt < (p 40 0).toInt ∧ ¬ (fX7_canHave p (lX7_turns_2 q z p n y1 y2)).toInt = 0) := by
  induction n generalizing y1 y2 with
  | zero => left; rfl
  | succ n ih =>
    rw [lX7_turns_2_s]
    split
    · exact h1
    · rename_i h3
      have h4 := i_nle h3
      have h5 := i_rng (p 40 0)
      have h6 : (y2 + 1).toInt = y2.toInt + 1 := i_inc (by omega)
      refine ih _ _ ?_ (by omega)
      unfold fX7_turns_j3
      split
      · exact h1
      · rename_i h7
        have h8 := i_ne h7
        (repeat' split) <;> first | exact h1 | exact Or.inr ⟨h2, h4, h8⟩
theorem tX7_turns_2 (q : wSt) (z : Int32) (p : wSt) (n : Nat) : (lX7_turns_2 q z p n (-1) 0).toInt = -1 ∨ (0 ≤ (lX7_turns_2 q z p n (-1) 0).toInt ∧ (lX7_turns_2 q z p n (-1) 0).toInt < (p 40 0).toInt ∧ ¬ (fX7_canHave p (lX7_turns_2 q z p n (-1) 0)).toInt = 0) := tlX7_turns_2 q z p n _ _ (Or.inl rfl) (by decide)
theorem tX7_gets6 (q : wSt) (w : Int32) : fX7_gets q w 6 = upd (q 6) (fX7_shelved q (q 23 w.toNatClampNeg) (q 25 w.toNatClampNeg)).toNatClampNeg (fX7_gets_j1 q w) := by
  unfold fX7_gets
  rw [rset_ne (by decide), rset_eq]
theorem tX7_gets_j1 (q : wSt) (w : Int32) : ¬ fX7_gets_j1 q w = 0 := by
  unfold fX7_gets_j1
  split <;> decide
theorem tX7_gets_sh (q : wSt) (w : Int32) (h : ¬ (fX7_canHave q w).toInt = 0) (hb : 0 ≤ (q 36 0).toInt) : shN (fX7_gets q w) + 1 = shN q := by
  rcases tX7_shelved q (q 23 w.toNatClampNeg) (q 25 w.toNatClampNeg) with h1 | ⟨h1, h2, h3, -, -⟩
  · exact absurd h1 (tX7_canHave q w h)
  · unfold shN
    rw [frX7_gets q w 36 (by decide), tX7_gets6]
    have h4 := i_cl h1
    have h5 := i_cl hb
    have h6 := cN_one (P := fun c => decide (q 6 c = 0)) (P' := fun c => decide (upd (q 6) (fX7_shelved q (q 23 w.toNatClampNeg) (q 25 w.toNatClampNeg)).toNatClampNeg (fX7_gets_j1 q w) c = 0)) (n := (q 36 0).toNatClampNeg) (c := (fX7_shelved q (q 23 w.toNatClampNeg) (q 25 w.toNatClampNeg)).toNatClampNeg) (by omega) (fun i _ hi => by simp [upd, hi])
    have h7 : (decide (upd (q 6) (fX7_shelved q (q 23 w.toNatClampNeg) (q 25 w.toNatClampNeg)).toNatClampNeg (fX7_gets_j1 q w) (fX7_shelved q (q 23 w.toNatClampNeg) (q 25 w.toNatClampNeg)).toNatClampNeg = 0)) = false := by
      simp [upd, tX7_gets_j1]
    rw [h7, decide_eq_true h3] at h6
    simpa using h6
theorem bX7_in (q : wSt) (x y z : Int32) : (fX7_in q x y z).toInt = 0 ∨ (fX7_in q x y z).toInt = 1 := by
  unfold fX7_in
  (repeat' split) <;> decide
def fl (x : Int32) : Nat := if x.toInt = -1 then 0 else 1
theorem fl_sp (x : Int32) : (x.toInt = -1 ∧ fl x = 0) ∨ (¬ x.toInt = -1 ∧ fl x = 1) := by
  unfold fl
  split
  · exact Or.inl ⟨by assumption, rfl⟩
  · exact Or.inr ⟨by assumption, rfl⟩
theorem pr_2 {α β : Type} {x : α × β} {a : α} {b : β} (h : x = (a, b)) : x.1 = a ∧ x.2 = b := by rw [h]; exact ⟨rfl, rfl⟩
theorem pr_3 {α β γ : Type} {x : α × β × γ} {a : α} {b : β} {c : γ} (h : x = (a, b, c)) : x.1 = a ∧ x.2.1 = b ∧ x.2.2 = c := by rw [h]; exact ⟨rfl, rfl, rfl⟩
theorem pr_4 {α β γ δ : Type} {x : α × β × γ × δ} {a : α} {b : β} {c : γ} {d : δ} (h : x = (a, b, c, d)) : x.1 = a ∧ x.2.1 = b ∧ x.2.2.1 = c ∧ x.2.2.2 = d := by rw [h]; exact ⟨rfl, rfl, rfl, rfl⟩
