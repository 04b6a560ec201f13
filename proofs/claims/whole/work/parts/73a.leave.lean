/-! Part 73: a copy leaves -/
theorem leave_core {x y X B : wSt} (hr : Rel x y) {c p : Int32} (h0 : 0 ≤ c.toInt) (h1 : c.toInt < (x 36 0).toInt) (hp : p.toInt = 0 ∨ p.toInt = 4 ∨ p.toInt = 5)
    (hX : ∀ k : Nat, ¬ (k = 13 ∨ k = 19 ∨ k = 20 ∨ k = 21 ∨ k = 24 ∨ k = 25 ∨ k = 26 ∨ k = 27) → X k = x k)
    (hX13 : ∀ j : Nat, j ≠ c.toNatClampNeg → X 13 j = x 13 j)
    (hB : ∀ k : Nat, ¬ (k = 6 ∨ k = 10 ∨ k = 11 ∨ k = 12 ∨ k = 13 ∨ k = 15 ∨ k = 20 ∨ k = 21 ∨ k = 26 ∨ k = 37 ∨ k = 38) → B k = X k)
    (b6 : B 6 = upd (x 6) c.toNatClampNeg p) (b10 : B 10 = upd (x 10) c.toNatClampNeg (-1)) (b11 : B 11 = upd (x 11) c.toNatClampNeg (-1)) (b12 : B 12 = upd (x 12) c.toNatClampNeg (-1))
    (b13 : ∀ j : Nat, j ≠ c.toNatClampNeg → B 13 j = y 13 j)
    (h20 : ∀ r : Nat, r < 20 → vStep ((x 6 c.toNatClampNeg).toInt = 1 ∧ (x 10 c.toNatClampNeg).toInt = (r : Int)) False (X 20 r).toInt (x 20 r).toInt)
    (h21 : ∀ r : Nat, r < 20 → vStep (((x 6 c.toNatClampNeg).toInt = 2 ∨ (x 6 c.toNatClampNeg).toInt = 3) ∧ (x 10 c.toNatClampNeg).toInt = (r : Int)) False (X 21 r).toInt (x 21 r).toInt)
    (hL : ∀ w : Nat, (w : Int) < (x 40 0).toInt → ((X 26 w = x 26 w ∧ ¬ (x 11 c.toNatClampNeg).toInt = (w : Int)) ∨ ((X 26 w).toInt = -1 ∧ (x 11 c.toNatClampNeg).toInt = (w : Int))))
    (hW : ∀ w : Nat, (w : Int) < (x 40 0).toInt → (X 24 w).toInt = 0 → 0 ≤ (X 25 w).toInt ∧ (X 25 w).toInt < (x 0 (x 23 w).toNatClampNeg).toInt)
    (hZ : ∀ w : Nat, (x 40 0).toInt ≤ (w : Int) → X 24 w = x 24 w ∧ X 25 w = x 25 w) : Rel (fX1_leaveFor X c p) B := by
  obtain ⟨hs, hb, hx⟩ := hr
  have hB' := iI_b hx.1
  have t0 : (0 : Int32).toInt = 0 := rfl
  have tm : (-1 : Int32).toInt = -1 := rfl
  have d2 := i_cl h0
  obtain ⟨k1, k2, k3, -⟩ := hx.2.2.2.1 c.toNatClampNeg (by omega)
  have f6 := leave6 X c p
  have f10 := leave10 X c p
  have f11 := leave11 X c p
  have f12 := leave12 X c p
  have f13 := leave13 X c p
  rw [hX 6 (by omega)] at f6
  rw [hX 10 (by omega)] at f10
  rw [hX 11 (by omega)] at f11
  rw [hX 12 (by omega)] at f12
  have fr : ∀ k : Nat, ¬ (k = 6 ∨ k = 10 ∨ k = 11 ∨ k = 12 ∨ k = 13 ∨ k = 15 ∨ k = 37 ∨ k = 38) → fX1_leaveFor X c p k = X k := fun k hk => frX1_leaveFor _ _ _ k (by omega)
  have s6 : fX1_leaveFor X c p 6 c.toNatClampNeg = p := by rw [f6, u_eq]
  have s10 : fX1_leaveFor X c p 10 c.toNatClampNeg = -1 := by rw [f10, u_eq]
  have s11 : fX1_leaveFor X c p 11 c.toNatClampNeg = -1 := by rw [f11, u_eq]
  have s12 : fX1_leaveFor X c p 12 c.toNatClampNeg = -1 := by rw [f12, u_eq]
  have s13 : fX1_leaveFor X c p 13 c.toNatClampNeg = 0 := by rw [f13, u_eq]
  refine ⟨fun k hk => ?_, fun d hd hst => ?_, ?_⟩
  · by_cases e6 : k = 6
    · rw [e6, f6, b6]
    · by_cases e10 : k = 10
      · rw [e10, f10, b10]
      · by_cases e11 : k = 11
        · rw [e11, f11, b11]
        · by_cases e12 : k = 12
          · rw [e12, f12, b12]
          · rw [fr k (by omega), hB k (by omega)]
  · rw [fr 36 (by omega), hX 36 (by omega)] at hd
    by_cases e : d = c.toNatClampNeg
    · rw [e, s6] at hst; omega
    · rw [f6, u_ne e] at hst
      rw [f13, u_ne e, hX13 d e, b13 d e]
      exact hb d hd hst
  · refine vX_one hx (c := c.toNatClampNeg) (by omega) (fun k hk => (fr k (by omega)).trans (hX k (by omega))) (fun k hk j hj => ?_) ?_ (vT_leave (iI_fr (fun k hk => hX k (by omega)) hx.1) (vT_fr (fun k hk => hX k (by omega)) hx.2.2.2.2.2.2.2.1) h0 (by rw [hX 36 (by omega)]; exact h1) (by rw [hX 7 (by omega)]; omega) (by rw [hX 8 (by omega)]; omega)) (fun r hr => ?_) (fun r hr => ?_) (fun w hw => ?_) (fun w hw z => ?_) (fun w hw => ?_)
    · by_cases e6 : k = 6
      · rw [e6, f6, u_ne hj]
      · by_cases e10 : k = 10
        · rw [e10, f10, u_ne hj]
        · by_cases e11 : k = 11
          · rw [e11, f11, u_ne hj]
          · by_cases e12 : k = 12
            · rw [e12, f12, u_ne hj]
            · by_cases e13 : k = 13
              · rw [e13, f13, u_ne hj]; exact hX13 j hj
              · rw [fr k (by omega), hX k (by omega)]
    · unfold vC1
      rw [s6, s10, s11, s12, s13, fr 7 (by omega), fr 8 (by omega), fr 34 (by omega), fr 39 (by omega), fr 40 (by omega), hX 7 (by omega), hX 8 (by omega), hX 34 (by omega), hX 39 (by omega), hX 40 (by omega)]
      omega
    · rw [s6, s10, fr 20 (by omega)]
      exact vStep_iff Iff.rfl ⟨fun z => by omega, fun z => z.elim⟩ (h20 r hr)
    · rw [s6, s10, fr 21 (by omega)]
      exact vStep_iff Iff.rfl ⟨fun z => by omega, fun z => z.elim⟩ (h21 r hr)
    · rw [s11, fr 26 (by omega)]
      rcases hL w hw with ⟨q1, q2⟩ | ⟨q1, q2⟩
      · exact Or.inl ⟨q1, ⟨fun z => by omega, fun z => absurd z q2⟩⟩
      · exact Or.inr (Or.inl ⟨q1, q2, by omega⟩)
    · rw [fr 24 (by omega)] at z
      rw [fr 25 (by omega)]
      exact hW w hw z
    · rw [fr 24 (by omega), fr 25 (by omega)]
      exact hZ w hw
theorem hX3 {x : wSt} {r : Int32} (h0 : 0 ≤ r.toInt) (h1 : r.toInt < (x 39 0).toInt) : ¬ fX3_has x r = 0 := by
  unfold fX3_has
  rw [if_neg (show ¬ r < 0 from fun z => by have := i_lt z; have t0 : (0 : Int32).toInt = 0 := rfl; omega), if_neg (show ¬ x 39 0 ≤ r from fun z => by have := i_le z; omega)]
  decide
theorem hX3n {x : wSt} {r : Int32} (h0 : r.toInt = -1) : fX3_has x r = 0 := by
  unfold fX3_has
  rw [if_pos (show r < 0 from Int32.lt_iff_toInt_lt.mpr (by have t0 : (0 : Int32).toInt = 0 := rfl; omega))]
theorem hX5 {x : wSt} {r : Int32} (h0 : 0 ≤ r.toInt) (h1 : r.toInt < (x 40 0).toInt) : ¬ fX5_has x r = 0 := by
  unfold fX5_has
  rw [if_neg (show ¬ r < 0 from fun z => by have := i_lt z; have t0 : (0 : Int32).toInt = 0 := rfl; omega), if_neg (show ¬ x 40 0 ≤ r from fun z => by have := i_le z; omega)]
  decide
theorem hX5n {x : wSt} {r : Int32} (h0 : r.toInt = -1) : fX5_has x r = 0 := by
  unfold fX5_has
  rw [if_pos (show r < 0 from Int32.lt_iff_toInt_lt.mpr (by have t0 : (0 : Int32).toInt = 0 := rfl; omega))]
theorem hX4 {x : wSt} {r : Int32} (h0 : 0 ≤ r.toInt) (h1 : r.toInt < (x 34 0).toInt) : ¬ fX4_has x r = 0 := by
  unfold fX4_has
  rw [if_neg (show ¬ r < 0 from fun z => by have := i_lt z; have t0 : (0 : Int32).toInt = 0 := rfl; omega), if_neg (show ¬ x 34 0 ≤ r from fun z => by have := i_le z; omega)]
  decide
theorem hX1 {x : wSt} {r : Int32} (h0 : 0 ≤ r.toInt) (h1 : r.toInt < (x 36 0).toInt) : ¬ fX1_has x r = 0 := by
  unfold fX1_has
  rw [if_neg (show ¬ r < 0 from fun z => by have := i_lt z; have t0 : (0 : Int32).toInt = 0 := rfl; omega), if_neg (show ¬ x 36 0 ≤ r from fun z => by have := i_le z; omega)]
  decide
theorem late_m (D L : Int32) : (if 0 < D then D else 0) * L = (if D ≤ 0 then 0 else D * L) := by
  by_cases h : D ≤ 0
  · rw [if_pos h, if_neg (show ¬ 0 < D from fun z => by have := i_lt z; have := i_le h; omega), Int32.zero_mul]
  · rw [if_neg h, if_pos (show 0 < D from Int32.lt_iff_toInt_lt.mpr (i_nle h))]
theorem late_eq {x y : wSt} (hs : rSame x y) (hI : iI x) {c : Int32} (h0 : 0 ≤ (x 10 c.toNatClampNeg).toInt) (h1 : (x 10 c.toNatClampNeg).toInt < (x 39 0).toInt) : fX3_lateCost x (x 10 c.toNatClampNeg) (x 30 0 - x 12 c.toNatClampNeg) = fX7_late y c := by
  have hB := iI_b hI
  have e0 := i_cl h0
  have hk := hI.2.2.1 (x 10 c.toNatClampNeg).toNatClampNeg (by omega)
  unfold fX3_lateCost fX3_rankOf fX7_late
  rw [if_neg (hX3 h0 h1), hs 30 (by omega), hs 12 (by omega), hs 16 (by omega), hs 10 (by omega), late_m]
  have hk3 : x 16 (x 10 c.toNatClampNeg).toNatClampNeg = 0 ∨ x 16 (x 10 c.toNatClampNeg).toNatClampNeg = 1 ∨ x 16 (x 10 c.toNatClampNeg).toNatClampNeg = 2 := by
    have t0 : (0 : Int32).toInt = 0 := rfl
    have t1 : (1 : Int32).toInt = 1 := rfl
    have t2 : (2 : Int32).toInt = 2 := rfl
    have hk4 : (x 16 (x 10 c.toNatClampNeg).toNatClampNeg).toInt = 0 ∨ (x 16 (x 10 c.toNatClampNeg).toNatClampNeg).toInt = 1 ∨ (x 16 (x 10 c.toNatClampNeg).toNatClampNeg).toInt = 2 := by omega
    rcases hk4 with z | z | z
    · exact Or.inl (Int32.toInt_inj.mp z)
    · exact Or.inr (Or.inl (Int32.toInt_inj.mp z))
    · exact Or.inr (Or.inr (Int32.toInt_inj.mp z))
  rcases hk3 with z | z | z
  · rw [z, show tTerm (0 : Int32).toNatClampNeg = fX7_term y 0 from rfl, show tLate (0 : Int32).toNatClampNeg = (3 : Int32) - 0 from rfl]
  · rw [z, show tTerm (1 : Int32).toNatClampNeg = fX7_term y 1 from rfl, show tLate (1 : Int32).toNatClampNeg = (3 : Int32) - 1 from rfl]
  · rw [z, show tTerm (2 : Int32).toNatClampNeg = fX7_term y 2 from rfl, show tLate (2 : Int32).toNatClampNeg = (3 : Int32) - 2 from rfl]
/-- counted as had -/
def hd24 (x : wSt) (w : Int32) : Nat → Int32 := if x 24 w.toNatClampNeg = 0 then (if x 25 w.toNatClampNeg + 1 < x 0 (x 23 w.toNatClampNeg).toNatClampNeg then x 24 else upd (x 24) w.toNatClampNeg 1) else x 24
theorem cah26 {x : wSt} {w : Int32} (h : ¬ fX5_has x w = 0) : fX6_countAsHad x w 26 = upd (x 26) w.toNatClampNeg (-1) := by
  unfold fX6_countAsHad fX5_countAsHad
  rw [if_neg h]
  (repeat' split) <;> simp [rset]
theorem cah25 {x : wSt} {w : Int32} (h : ¬ fX5_has x w = 0) : fX6_countAsHad x w 25 = upd (x 25) w.toNatClampNeg (x 25 w.toNatClampNeg + 1) := by
  unfold fX6_countAsHad fX5_countAsHad
  rw [if_neg h]
  (repeat' split) <;> simp [rset]
theorem cah27 {x : wSt} {w : Int32} (h : ¬ fX5_has x w = 0) : fX6_countAsHad x w 27 = upd (x 27) w.toNatClampNeg (x 30 0) := by
  unfold fX6_countAsHad fX5_countAsHad
  rw [if_neg h]
  (repeat' split) <;> simp [rset]
theorem cah24 {x : wSt} {w : Int32} (h : ¬ fX5_has x w = 0) (h4 : ¬ fX4_has x (x 23 w.toNatClampNeg) = 0) : fX6_countAsHad x w 24 = hd24 x w := by
  unfold fX6_countAsHad fX5_countAsHad fX4_volumesOf hd24
  rw [if_neg h, if_neg h4, u_eq]
  by_cases g1 : x 24 w.toNatClampNeg = 0
  · by_cases g2 : x 25 w.toNatClampNeg + 1 < x 0 (x 23 w.toNatClampNeg).toNatClampNeg
    · rw [if_pos g1, if_pos g2, if_pos g1, if_pos g2, rset_ne (by decide), rset_ne (by decide), rset_ne (by decide)]
    · rw [if_pos g1, if_neg g2, if_pos g1, if_neg g2, rset_eq]
  · rw [if_neg g1, if_neg g1, rset_ne (by decide), rset_ne (by decide), rset_ne (by decide)]
theorem had11 (y : wSt) (c : Int32) : fX7_had y c 11 = upd (y 11) c.toNatClampNeg (-1) := by
  unfold fX7_had
  (repeat' split) <;> simp [rset]
theorem had25 {y : wSt} {c : Int32} (h : ¬ y 11 c.toNatClampNeg = -1) : fX7_had y c 25 = upd (y 25) (y 11 c.toNatClampNeg).toNatClampNeg (y 25 (y 11 c.toNatClampNeg).toNatClampNeg + 1) := by
  unfold fX7_had
  rw [if_neg h]
  (repeat' split) <;> simp [rset]
theorem had27 {y : wSt} {c : Int32} (h : ¬ y 11 c.toNatClampNeg = -1) : fX7_had y c 27 = upd (y 27) (y 11 c.toNatClampNeg).toNatClampNeg (y 30 0) := by
  unfold fX7_had
  rw [if_neg h]
  (repeat' split) <;> simp [rset]
theorem had24 {y : wSt} {c : Int32} (h : ¬ y 11 c.toNatClampNeg = -1) (hv : (y 24 (y 11 c.toNatClampNeg).toNatClampNeg).toInt = 0 → 0 ≤ (y 25 (y 11 c.toNatClampNeg).toNatClampNeg).toInt ∧ (y 25 (y 11 c.toNatClampNeg).toNatClampNeg).toInt < (y 0 (y 23 (y 11 c.toNatClampNeg).toNatClampNeg).toNatClampNeg).toInt) : fX7_had y c 24 = hd24 y (y 11 c.toNatClampNeg) := by
  unfold fX7_had hd24
  rw [if_neg h, u_eq]
  by_cases g1 : y 24 (y 11 c.toNatClampNeg).toNatClampNeg = 0
  · have g2 := hv (i_eq g1)
    have g3 := i_rng (y 0 (y 23 (y 11 c.toNatClampNeg).toNatClampNeg).toNatClampNeg)
    have g4 : (y 25 (y 11 c.toNatClampNeg).toNatClampNeg + 1).toInt = (y 25 (y 11 c.toNatClampNeg).toNatClampNeg).toInt + 1 := i_inc (by omega)
    by_cases g5 : y 25 (y 11 c.toNatClampNeg).toNatClampNeg + 1 = y 0 (y 23 (y 11 c.toNatClampNeg).toNatClampNeg).toNatClampNeg
    · rw [if_pos g1, if_pos g5, if_pos g1, if_neg (show ¬ y 25 (y 11 c.toNatClampNeg).toNatClampNeg + 1 < y 0 (y 23 (y 11 c.toNatClampNeg).toNatClampNeg).toNatClampNeg from fun z => by have := i_lt z; have := i_eq g5; omega), rset_eq]
    · rw [if_pos g1, if_neg g5, if_pos g1, if_pos (show y 25 (y 11 c.toNatClampNeg).toNatClampNeg + 1 < y 0 (y 23 (y 11 c.toNatClampNeg).toNatClampNeg).toNatClampNeg from Int32.lt_iff_toInt_lt.mpr (by have := i_ne g5; omega)), rset_ne (by decide), rset_ne (by decide), rset_ne (by decide)]
  · rw [if_neg g1, if_neg g1, rset_ne (by decide), rset_ne (by decide), rset_ne (by decide)]
theorem hd24_c {x y : wSt} (h0 : y 0 = x 0) (h23 : y 23 = x 23) (h24 : y 24 = x 24) (h25 : y 25 = x 25) (w : Int32) : hd24 y w = hd24 x w := by
  unfold hd24
  rw [h0, h23, h24, h25]
/-- what both sides do where a copy is counted as had -/
def hadF (x y X Y : wSt) (c : Int32) (f : Nat → Int32) : Prop :=
  (∀ k : Nat, ¬ (k = 19 ∨ k = 24 ∨ k = 25 ∨ k = 26 ∨ k = 27) → X k = x k) ∧ X 19 = f ∧
  (∀ k : Nat, ¬ (k = 11 ∨ k = 13 ∨ k = 15 ∨ k = 20 ∨ k = 21 ∨ k = 26 ∨ k = 37 ∨ k = 38) → Y k = X k) ∧
  Y 11 = upd (x 11) c.toNatClampNeg (-1) ∧ Y 13 = y 13 ∧
  (∀ w : Nat, (w : Int) < (x 40 0).toInt → ((X 26 w = x 26 w ∧ ¬ (x 11 c.toNatClampNeg).toInt = (w : Int)) ∨ ((X 26 w).toInt = -1 ∧ (x 11 c.toNatClampNeg).toInt = (w : Int)))) ∧
  (∀ w : Nat, (w : Int) < (x 40 0).toInt → (X 24 w).toInt = 0 → 0 ≤ (X 25 w).toInt ∧ (X 25 w).toInt < (x 0 (x 23 w).toNatClampNeg).toInt) ∧
  (∀ w : Nat, (x 40 0).toInt ≤ (w : Int) → X 24 w = x 24 w ∧ X 25 w = x 25 w)
theorem had_both {x y : wSt} (hr : Rel x y) {c : Int32} (h0 : 0 ≤ c.toInt) (h1 : c.toInt < (x 36 0).toInt) (f : Nat → Int32) : hadF x y (fX6_countAsHad (rset x 19 f) (x 11 c.toNatClampNeg)) (fX7_had (rset y 19 f) c) c f := by
  obtain ⟨hs, hb, hx⟩ := hr
  have hB := iI_b hx.1
  have t0 : (0 : Int32).toInt = 0 := rfl
  have tm : (-1 : Int32).toInt = -1 := rfl
  have t1 : (1 : Int32).toInt = 1 := rfl
  have d2 := i_cl h0
  obtain ⟨k1, k2, k3, k4, k5, k6, k7, k8, k9⟩ := hx.2.2.2.1 c.toNatClampNeg (by omega)
  have ax : ∀ k : Nat, k ≠ 19 → rset x 19 f k = x k := fun k hk => rset_ne hk
  have ay : ∀ k : Nat, k ≠ 19 → rset y 19 f k = y k := fun k hk => rset_ne hk
  have y11 : y 11 = x 11 := hs 11 (by omega)
  have fx : ∀ k : Nat, ¬ (k = 19 ∨ k = 24 ∨ k = 25 ∨ k = 26 ∨ k = 27) → fX6_countAsHad (rset x 19 f) (x 11 c.toNatClampNeg) k = x k := fun k hk => (frX6_countAsHad _ _ k (by omega)).trans (ax k (by omega))
  have x19 : fX6_countAsHad (rset x 19 f) (x 11 c.toNatClampNeg) 19 = f := (frX6_countAsHad _ _ 19 (by decide)).trans rset_eq
  have fy : ∀ k : Nat, ¬ (k = 11 ∨ k = 19 ∨ k = 24 ∨ k = 25 ∨ k = 27) → fX7_had (rset y 19 f) c k = y k := fun k hk => (frX7_had _ _ k (by omega)).trans (ay k (by omega))
  have y19 : fX7_had (rset y 19 f) c 19 = f := (frX7_had _ _ 19 (by decide)).trans rset_eq
  have h11 := had11 (rset y 19 f) c
  rw [ay 11 (by omega), y11] at h11
  by_cases g : (x 11 c.toNatClampNeg).toInt = -1
  · have e1 : fX6_countAsHad (rset x 19 f) (x 11 c.toNatClampNeg) = rset x 19 f := by
      unfold fX6_countAsHad
      rw [if_pos (hX5n g)]
    have e2 : fX7_had (rset y 19 f) c = rset (rset y 19 f) 11 (upd (rset y 19 f 11) c.toNatClampNeg (-1)) := by
      unfold fX7_had
      rw [if_pos (show rset y 19 f 11 c.toNatClampNeg = -1 from by rw [ay 11 (by omega), y11]; exact Int32.toInt_inj.mp g)]
    refine ⟨fx, x19, fun k hk => ?_, h11, fy 13 (by omega), fun w hw => ?_, fun w hw => ?_, fun w hw => ?_⟩
    · by_cases e19 : k = 19
      · rw [e19, x19, y19]
      · rw [e1, e2, rset_ne (by omega), ay k e19, ax k e19]
        exact hs k (by omega)
    · rw [e1, ax 26 (by omega)]; exact Or.inl ⟨rfl, by omega⟩
    · rw [e1, ax 24 (by omega), ax 25 (by omega)]; exact (hx.2.2.2.2.2.1 w hw).2.2.1
    · rw [e1, ax 24 (by omega), ax 25 (by omega)]; exact ⟨rfl, rfl⟩
  · have gw : 0 ≤ (x 11 c.toNatClampNeg).toInt ∧ (x 11 c.toNatClampNeg).toInt < (x 40 0).toInt := by
      by_cases z : (x 6 c.toNatClampNeg).toInt = 1 ∨ (x 6 c.toNatClampNeg).toInt = 2
      · exact k6 z
      · exact absurd (k7 z) g
    have ew := i_cl gw.1
    obtain ⟨v1, v2, v3, v4⟩ := hx.2.2.2.2.2.1 (x 11 c.toNatClampNeg).toNatClampNeg (by omega)
    have m5 : ¬ fX5_has (rset x 19 f) (x 11 c.toNatClampNeg) = 0 := hX5 gw.1 (by rw [ax 40 (by omega)]; exact gw.2)
    have m4 : ¬ fX4_has (rset x 19 f) (rset x 19 f 23 (x 11 c.toNatClampNeg).toNatClampNeg) = 0 := hX4 (by rw [ax 23 (by omega)]; exact v2.1) (by rw [ax 23 (by omega), ax 34 (by omega)]; exact v2.2)
    have c26 := cah26 m5
    have c25 := cah25 m5
    have c27 := cah27 m5
    have c24 := cah24 m5 m4
    rw [ax 26 (by omega)] at c26
    rw [ax 25 (by omega)] at c25
    rw [ax 27 (by omega), ax 30 (by omega)] at c27
    rw [hd24_c (ax 0 (by omega)) (ax 23 (by omega)) (ax 24 (by omega)) (ax 25 (by omega))] at c24
    have yw : rset y 19 f 11 c.toNatClampNeg = x 11 c.toNatClampNeg := by rw [ay 11 (by omega), y11]
    have nw : ¬ rset y 19 f 11 c.toNatClampNeg = -1 := by rw [yw]; exact fun z => g (i_eq z)
    have q25 := had25 nw
    have q27 := had27 nw
    have q24 := had24 nw (by rw [yw, ay 24 (by omega), ay 25 (by omega), ay 0 (by omega), ay 23 (by omega), hs 24 (by omega), hs 25 (by omega), hs 0 (by omega), hs 23 (by omega)]; exact v3)
    rw [yw, ay 25 (by omega), hs 25 (by omega)] at q25
    rw [yw, ay 27 (by omega), hs 27 (by omega), ay 30 (by omega), hs 30 (by omega)] at q27
    rw [yw, hd24_c ((ay 0 (by omega)).trans (hs 0 (by omega))) ((ay 23 (by omega)).trans (hs 23 (by omega))) ((ay 24 (by omega)).trans (hs 24 (by omega))) ((ay 25 (by omega)).trans (hs 25 (by omega)))] at q24
    refine ⟨fx, x19, fun k hk => ?_, h11, fy 13 (by omega), fun w hw => ?_, fun w hw => ?_, fun w hw => ?_⟩
    · by_cases e19 : k = 19
      · rw [e19, x19, y19]
      · by_cases e24 : k = 24
        · rw [e24, c24, q24]
        · by_cases e25 : k = 25
          · rw [e25, c25, q25]
          · by_cases e27 : k = 27
            · rw [e27, c27, q27]
            · rw [fx k (by omega), fy k (by omega)]
              exact hs k (by omega)
    · rw [c26]
      by_cases e : w = (x 11 c.toNatClampNeg).toNatClampNeg
      · rw [e, u_eq]; exact Or.inr ⟨rfl, by omega⟩
      · rw [u_ne e]; exact Or.inl ⟨rfl, by omega⟩
    · rw [c24, c25]
      have old := (hx.2.2.2.2.2.1 w hw).2.2.1
      by_cases e : w = (x 11 c.toNatClampNeg).toNatClampNeg
      · rw [e, u_eq]
        rw [e] at old
        unfold hd24
        intro z
        by_cases g1 : x 24 (x 11 c.toNatClampNeg).toNatClampNeg = 0
        · have o2 := old (i_eq g1)
          have g3 := i_rng (x 0 (x 23 (x 11 c.toNatClampNeg).toNatClampNeg).toNatClampNeg)
          have g4 : (x 25 (x 11 c.toNatClampNeg).toNatClampNeg + 1).toInt = (x 25 (x 11 c.toNatClampNeg).toNatClampNeg).toInt + 1 := i_inc (by omega)
          rw [if_pos g1] at z
          by_cases g2 : x 25 (x 11 c.toNatClampNeg).toNatClampNeg + 1 < x 0 (x 23 (x 11 c.toNatClampNeg).toNatClampNeg).toNatClampNeg
          · have := i_lt g2
            omega
          · rw [if_neg g2, u_eq] at z
            exact absurd z (by decide)
        · rw [if_neg g1] at z
          exact absurd z (i_ne g1)
      · rw [u_ne e]
        have e24 : hd24 x (x 11 c.toNatClampNeg) w = x 24 w := by
          unfold hd24
          (repeat' split) <;> simp [u_ne e]
        rw [e24]
        exact old
    · have e : w ≠ (x 11 c.toNatClampNeg).toNatClampNeg := by omega
      have e24 : hd24 x (x 11 c.toNatClampNeg) w = x 24 w := by
        unfold hd24
        (repeat' split) <;> simp [u_ne e]
      rw [c24, c25, e24, u_ne e]
      exact ⟨rfl, rfl⟩
