/-! Part 61: the relation of the two pictures -/
def rSame (x y : wSt) : Prop := ∀ k : Nat, ¬ (k = 13 ∨ k = 15 ∨ k = 20 ∨ k = 21 ∨ k = 26 ∨ k = 37 ∨ k = 38) → y k = x k
def vV (x : wSt) : Prop := ∀ t : Nat, (t : Int) < (x 34 0).toInt → 1 ≤ (x 0 t).toInt
/-- a copy -/
def vC (x : wSt) : Prop := ∀ c : Nat, (c : Int) < (x 36 0).toInt →
  (0 ≤ (x 6 c).toInt ∧ (x 6 c).toInt ≤ 5) ∧ (0 ≤ (x 7 c).toInt ∧ (x 7 c).toInt < (x 34 0).toInt) ∧ (0 ≤ (x 8 c).toInt ∧ (x 8 c).toInt ≤ 3) ∧
  (((x 6 c).toInt = 1 ∨ (x 6 c).toInt = 2 ∨ (x 6 c).toInt = 3) → 0 ≤ (x 10 c).toInt ∧ (x 10 c).toInt < (x 39 0).toInt) ∧
  (((x 6 c).toInt = 0 ∨ (x 6 c).toInt = 4 ∨ (x 6 c).toInt = 5) → (x 10 c).toInt = -1) ∧
  (((x 6 c).toInt = 1 ∨ (x 6 c).toInt = 2) → 0 ≤ (x 11 c).toInt ∧ (x 11 c).toInt < (x 40 0).toInt) ∧
  (¬ ((x 6 c).toInt = 1 ∨ (x 6 c).toInt = 2) → (x 11 c).toInt = -1) ∧
  (¬ (x 6 c).toInt = 1 → (x 12 c).toInt = -1) ∧
  (¬ ((x 6 c).toInt = 2 ∨ (x 6 c).toInt = 3) → (x 13 c).toInt = 0)
def vJ (x : wSt) : Prop := ∀ c d : Nat, (c : Int) < (x 36 0).toInt → (d : Int) < (x 36 0).toInt → ¬ (x 11 c).toInt = -1 → x 11 c = x 11 d → c = d
/-- a wish; what it holds -/
def vW (x : wSt) : Prop := ∀ w : Nat, (w : Int) < (x 40 0).toInt →
  (0 ≤ (x 22 w).toInt ∧ (x 22 w).toInt < (x 39 0).toInt) ∧ (0 ≤ (x 23 w).toInt ∧ (x 23 w).toInt < (x 34 0).toInt) ∧
  ((x 24 w).toInt = 0 → 0 ≤ (x 25 w).toInt ∧ (x 25 w).toInt < (x 0 (x 23 w).toNatClampNeg).toInt) ∧
  (((x 26 w).toInt = -1 ∧ ∀ c : Nat, (c : Int) < (x 36 0).toInt → ¬ (x 11 c).toInt = (w : Int)) ∨ ((0 ≤ (x 26 w).toInt ∧ (x 26 w).toInt < (x 36 0).toInt) ∧ (x 11 (x 26 w).toNatClampNeg).toInt = (w : Int)))
def vZ (x : wSt) : Prop := (∀ c : Nat, (x 36 0).toInt ≤ (c : Int) → x 14 c = 0 ∧ x 6 c = 0 ∧ x 11 c = 0) ∧ (∀ w : Nat, (x 40 0).toInt ≤ (w : Int) → x 24 w = 0 ∧ x 25 w = 0)
/-- the counts -/
def kSh (x : wSt) (t v : Int) : Nat → Bool := fun c => decide ((x 6 c).toInt = 0) && decide ((x 7 c).toInt = t) && decide ((x 8 c).toInt = v)
def kIn (x : wSt) (r : Int) : Nat → Bool := fun c => decide ((x 6 c).toInt = 1) && decide ((x 10 c).toInt = r)
def kBx (x : wSt) (r : Int) : Nat → Bool := fun c => (decide ((x 6 c).toInt = 2) || decide ((x 6 c).toInt = 3)) && decide ((x 10 c).toInt = r)
def kBa (x : wSt) : Nat → Bool := fun c => decide ((x 6 c).toInt = 2) || decide ((x 6 c).toInt = 3)
def kLo (x : wSt) : Nat → Bool := fun c => decide ((x 6 c).toInt = 5)
def vT (x : wSt) : Prop := (∀ t v : Nat, t < 12 → v < 4 → (x 15 (t * 4 + v)).toInt = (cN (kSh x t v) (x 36 0).toNatClampNeg : Int)) ∧ (x 37 0).toInt = (cN (kBa x) (x 36 0).toNatClampNeg : Int) ∧ (x 38 0).toInt = (cN (kLo x) (x 36 0).toNatClampNeg : Int)
def vR (x : wSt) : Prop := ∀ r : Nat, r < 20 → (x 20 r).toInt = (cN (kIn x r) (x 36 0).toNatClampNeg : Int) ∧ (x 21 r).toInt = (cN (kBx x r) (x 36 0).toNatClampNeg : Int)
def vNow (x : wSt) : Prop := 0 ≤ (x 30 0).toInt ∧ (x 30 0).toInt ≤ 5000
def vX (x : wSt) : Prop := iI x ∧ dOk x ∧ vV x ∧ vC x ∧ vJ x ∧ vW x ∧ vZ x ∧ vT x ∧ vR x ∧ vNow x
def Rel (x y : wSt) : Prop := rSame x y ∧ (∀ c : Nat, (c : Int) < (x 36 0).toInt → ((x 6 c).toInt = 2 ∨ (x 6 c).toInt = 3) → y 13 c = x 13 c) ∧ vX x
theorem cN_zero {P : Nat → Bool} {n : Nat} (h : ∀ i, i < n → P i = false) : cN P n = 0 := by
  induction n with
  | zero => rfl
  | succ n ih => rw [cN, ih (fun i hi => h i (by omega)), h n (by omega)]; rfl
theorem Rel_0 : Rel (fun _ _ => 0) (fun _ _ => 0) := by
  have t0 : (0 : Int32).toInt = 0 := rfl
  refine ⟨fun _ _ => rfl, fun _ _ _ => rfl, ?_, ?_, ?_, ?_, ?_, ?_, ?_, ?_, ?_, ?_⟩
  · exact ⟨by decide, fun _ _ => (show 0 ≤ (0 : Int32).toInt ∧ (0 : Int32).toInt ≤ 4 by decide), fun _ _ => (show 0 ≤ (0 : Int32).toInt ∧ (0 : Int32).toInt ≤ 2 by decide), fun _ _ => (show 0 ≤ (0 : Int32).toInt ∧ (0 : Int32).toInt ≤ 19 by decide), fun _ _ => (show 0 ≤ (0 : Int32).toInt ∧ (0 : Int32).toInt ≤ 11 by decide)⟩
  · exact fun _ _ => (show (0 ≤ (0 : Int32).toInt ∧ (0 : Int32).toInt ≤ 50) ∧ 0 ≤ (0 : Int32).toInt ∧ (0 : Int32).toInt ≤ 1000 by decide)
  · intro t ht; exfalso; simp only [t0] at ht; omega
  · intro t ht; exfalso; simp only [t0] at ht; omega
  · intro t _ ht; exfalso; simp only [t0] at ht; omega
  · intro t ht; exfalso; simp only [t0] at ht; omega
  · exact ⟨fun _ _ => ⟨rfl, rfl, rfl⟩, fun _ _ => ⟨rfl, rfl⟩⟩
  · exact ⟨fun _ _ _ _ => rfl, rfl, rfl⟩
  · exact fun _ _ => ⟨rfl, rfl⟩
  · exact (show 0 ≤ (0 : Int32).toInt ∧ (0 : Int32).toInt ≤ 5000 by decide)
theorem Rel_inv : Sim_inv Rel := by
  intro x y h
  obtain ⟨hs, -, hI, -, hV, hC, -, hW, hZ, -⟩ := h
  refine ⟨hI, ?_, ?_⟩
  · exact iI_fr (fun k hk => hs k (by omega)) hI
  · have hB := iI_b hI
    have t0 : (0 : Int32).toInt = 0 := rfl
    have e6 := hs 6 (by omega)
    have e10 := hs 10 (by omega)
    have e11 := hs 11 (by omega)
    refine ⟨fun i hi => ?_, fun i hi => ?_, fun i hi => ?_⟩
    · rw [e6]
      by_cases hc : (i : Int) < (x 36 0).toInt
      · exact (hC i hc).1
      · rw [(hZ.1 i (by omega)).2.1]; decide
    · rw [e6, e10]
      by_cases hc : (i : Int) < (x 36 0).toInt
      · have := (hC i hc).2.2.2.1
        omega
      · rw [(hZ.1 i (by omega)).2.1]; intro h; omega
    · rw [e11]
      by_cases hc : (i : Int) < (x 36 0).toInt
      · have h1 := (hC i hc).2.2.2.2.2.1
        have h2 := (hC i hc).2.2.2.2.2.2.1
        omega
      · rw [(hZ.1 i (by omega)).2.2]; right; decide
theorem has_eq {n t : Int32} (hn : 0 ≤ n.toInt) : (n - 1 < t) ↔ (n ≤ t) := by
  have t1 : (1 : Int32).toInt = 1 := rfl
  have h1 : (n - 1).toInt = n.toInt - 1 := i_sub (by have := i_rng n; omega)
  rw [Int32.lt_iff_toInt_lt, Int32.le_iff_toInt_le, h1]
  omega
theorem in_eq (x y : wSt) (a b c : Int32) : fX7_in y a b c = fX6_within x a b c := rfl
theorem isTitle_eq {x y : wSt} (hs : rSame x y) (hI : iI x) (t : Int32) : fX7_isTitle y t = fX4_has x t := by
  unfold fX7_isTitle fX7_in fX4_has
  rw [hs 34 (by omega)]
  have hB := iI_b hI
  simp only [has_eq (show 0 ≤ (x 34 0).toInt by omega)]
theorem isReader_eq {x y : wSt} (hs : rSame x y) (hI : iI x) (t : Int32) : fX7_isReader y t = fX3_has x t := by
  unfold fX7_isReader fX7_in fX3_has
  rw [hs 39 (by omega)]
  have hB := iI_b hI
  simp only [has_eq (show 0 ≤ (x 39 0).toInt by omega)]
theorem isCopy_eq {x y : wSt} (hs : rSame x y) (hI : iI x) (t : Int32) : fX7_isCopy y t = fX1_has x t := by
  unfold fX7_isCopy fX7_in fX1_has
  rw [hs 36 (by omega)]
  have hB := iI_b hI
  simp only [has_eq (show 0 ≤ (x 36 0).toInt by omega)]
theorem isWish_eq {x y : wSt} (hs : rSame x y) (hI : iI x) (t : Int32) : fX7_isWish y t = fX5_has x t := by
  unfold fX7_isWish fX7_in fX5_has
  rw [hs 40 (by omega)]
  have hB := iI_b hI
  simp only [has_eq (show 0 ≤ (x 40 0).toInt by omega)]
theorem mostOf_c {x y : wSt} (h28 : y 28 = x 28) (h29 : y 29 = x 29) (v i : Int32) (n : Nat) (a b c : Int32) : lX2_mostOf_1 y v i n a b c = lX2_mostOf_1 x v i n a b c := by
  induction n generalizing a b c with
  | zero => rfl
  | succ n ih => rw [lX2_mostOf_1_s, lX2_mostOf_1_s]; unfold fX2_gainIn; rw [h28, h29, ih]
theorem brings_c {x y : wSt} (h28 : y 28 = x 28) (v i k : Int32) (n : Nat) (a b : Int32) : lX7_brings_1 y v i k n a b = lX7_brings_1 x v i k n a b := by
  induction n generalizing a b with
  | zero => rfl
  | succ n ih => rw [lX7_brings_1_s, lX7_brings_1_s]; unfold fX7_brings_j2; rw [h28, ih]
theorem brings_cc {x y : wSt} (h28 : y 28 = x 28) (h29 : y 29 = x 29) (v i k : Int32) : fX7_brings y v i k = fX7_brings x v i k := by
  unfold fX7_brings; rw [h29, brings_c h28]
theorem weeks_c {x y : wSt} (h28 : y 28 = x 28) (h29 : y 29 = x 29) (v i : Int32) (n : Nat) (a b : Int32) : lX7_weeksOf_1 y v i n a b = lX7_weeksOf_1 x v i n a b := by
  induction n generalizing a b with
  | zero => rfl
  | succ n ih => rw [lX7_weeksOf_1_s, lX7_weeksOf_1_s]; unfold fX7_weeksOf_j2; rw [brings_cc h28 h29, brings_cc h28 h29, ih]
theorem weeks_cc {x y : wSt} (h28 : y 28 = x 28) (h29 : y 29 = x 29) (v i : Int32) : fX7_weeksOf y v i = fX7_weeksOf x v i := by
  unfold fX7_weeksOf; rw [weeks_c h28 h29]
theorem best_c {x y : wSt} (h28 : y 28 = x 28) (h29 : y 29 = x 29) (v i : Int32) (n : Nat) (a b c d : Int32) : lX7_best_1 y v i n a b c d = lX7_best_1 x v i n a b c d := by
  induction n generalizing a b c d with
  | zero => rfl
  | succ n ih => rw [lX7_best_1_s, lX7_best_1_s]; unfold fX7_best_j2; rw [weeks_cc h28 h29, brings_cc h28 h29, ih]
theorem best_cc {x y : wSt} (h28 : y 28 = x 28) (h29 : y 29 = x 29) (v c : Int32) : fX7_best y v c = fX7_best x v c := by
  unfold fX7_best; rw [best_c h28 h29, canPlan_eq x y, canPlan_eq x x]
theorem gain_c {x y : wSt} (h28 : y 28 = x 28) (h29 : y 29 = x 29) (v i : Int32) (n : Nat) (a b : Int32) : lX7_gain_1 y v i n a b = lX7_gain_1 x v i n a b := by
  induction n generalizing a b with
  | zero => rfl
  | succ n ih => rw [lX7_gain_1_s, lX7_gain_1_s, best_cc h28 h29, weeks_cc h28 h29, brings_cc h28 h29, ih]
theorem sim_best : Sim_best Rel := by
  intro x y h v c
  obtain ⟨hs, -, -, hd, -⟩ := h
  rw [best_cc (hs 28 (by omega)) (hs 29 (by omega)), best_eq hd]
theorem sim_gain : Sim_gain Rel := by
  intro x y h v c
  obtain ⟨hs, -, -, hd, -⟩ := h
  rw [← gain_eq hd]
  unfold fX7_gain
  rw [best_cc (hs 28 (by omega)) (hs 29 (by omega)), gain_c (hs 28 (by omega)) (hs 29 (by omega)), canPlan_eq x y, canPlan_eq x x]
theorem sim_kept : Sim_kept Rel := by
  intro x y h v c i
  obtain ⟨hs, -, -, hd, -⟩ := h
  rw [← kept_eq hd]
  unfold fX7_kept
  rw [best_cc (hs 28 (by omega)) (hs 29 (by omega)), weeks_cc (hs 28 (by omega)) (hs 29 (by omega)), canPlan_eq x y, canPlan_eq x x, in_eq x y, in_eq x x]
