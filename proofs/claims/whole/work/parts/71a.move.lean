/-! Part 71: moveTo keeps the counts by place -/
theorem move6 (x : wSt) (c p : Int32) : fX1_moveTo x c p 6 = upd (x 6) c.toNatClampNeg p := by
  unfold fX1_moveTo
  rw [frX1_tally _ _ _ 6 (by decide), rset_eq, frX1_tally _ _ _ 6 (by decide)]
theorem move_b {b : Bool} : (if b = true then (1 : Nat) else 0) ≤ 1 := by split <;> omega
theorem vT_move {x : wSt} (hI : iI x) (hT : vT x) {c p : Int32} (h0 : 0 ≤ c.toInt) (h1 : c.toInt < (x 36 0).toInt) (ha : 0 ≤ (x 7 c.toNatClampNeg).toInt ∧ (x 7 c.toNatClampNeg).toInt ≤ 11) (hb : 0 ≤ (x 8 c.toNatClampNeg).toInt ∧ (x 8 c.toNatClampNeg).toInt ≤ 3) : vT (fX1_moveTo x c p) := by
  have hB := iI_b hI
  have e0 := i_cl h0
  have eN := i_cl (show 0 ≤ (x 36 0).toInt by omega)
  have ea := i_cl ha.1
  have eb := i_cl hb.1
  have m6 := move6 x c p
  have m7 : fX1_moveTo x c p 7 = x 7 := frX1_moveTo x c p 7 (by decide)
  have m8 : fX1_moveTo x c p 8 = x 8 := frX1_moveTo x c p 8 (by decide)
  have m36 : fX1_moveTo x c p 36 = x 36 := frX1_moveTo x c p 36 (by decide)
  have t0 : (0 : Int32).toInt = 0 := rfl
  have t1 : (1 : Int32).toInt = 1 := rfl
  have tm : (-1 : Int32).toInt = -1 := rfl
  have a6 : fX1_tally x c (-1) 6 = x 6 := frX1_tally x c (-1) 6 (by decide)
  have a7 : fX1_tally x c (-1) 7 = x 7 := frX1_tally x c (-1) 7 (by decide)
  have a8 : fX1_tally x c (-1) 8 = x 8 := frX1_tally x c (-1) 8 (by decide)
  have hcn : c.toNatClampNeg < (x 36 0).toNatClampNeg := by omega
  refine ⟨fun t v ht hv => ?_, ?_, ?_⟩
  · rw [m36]
    have hone := cN_one (P := kSh x t v) (P' := kSh (fX1_moveTo x c p) t v) hcn (fun i _ hi => by unfold kSh; rw [m6, m7, m8, u_ne hi])
    have hold := hT.1 t v ht hv
    have hle := cN_le (P := kSh x t v) (x 36 0).toNatClampNeg
    have hle' := cN_le (P := kSh (fX1_moveTo x c p) t v) (x 36 0).toNatClampNeg
    have q1 : fX1_moveTo x c p 15 = (if p = 0 then upd (fX1_tally x c (-1) 15) ((x 7 c.toNatClampNeg).toNatClampNeg * 4 + (x 8 c.toNatClampNeg).toNatClampNeg) (fX1_tally x c (-1) 15 ((x 7 c.toNatClampNeg).toNatClampNeg * 4 + (x 8 c.toNatClampNeg).toNatClampNeg) + 1) else fX1_tally x c (-1) 15) := by
      unfold fX1_moveTo
      have b7 : rset (fX1_tally x c (-1)) 6 (upd (fX1_tally x c (-1) 6) c.toNatClampNeg p) 7 = x 7 := (rset_ne (by decide)).trans a7
      have b8 : rset (fX1_tally x c (-1)) 6 (upd (fX1_tally x c (-1) 6) c.toNatClampNeg p) 8 = x 8 := (rset_ne (by decide)).trans a8
      have b15 : rset (fX1_tally x c (-1)) 6 (upd (fX1_tally x c (-1) 6) c.toNatClampNeg p) 15 = fX1_tally x c (-1) 15 := rset_ne (by decide)
      have b6 : rset (fX1_tally x c (-1)) 6 (upd (fX1_tally x c (-1) 6) c.toNatClampNeg p) 6 = upd (fX1_tally x c (-1) 6) c.toNatClampNeg p := rset_eq
      rw [tally15 (by rw [b7]; exact ha) (by rw [b8]; exact hb), b6, u_eq, b7, b8, b15]
    rw [tally15 ha hb] at q1
    have kc : kSh x t v c.toNatClampNeg = (decide ((x 6 c.toNatClampNeg).toInt = 0) && decide ((x 7 c.toNatClampNeg).toInt = (t : Int)) && decide ((x 8 c.toNatClampNeg).toInt = (v : Int))) := rfl
    have kc' : kSh (fX1_moveTo x c p) t v c.toNatClampNeg = (decide (p.toInt = 0) && decide ((x 7 c.toNatClampNeg).toInt = (t : Int)) && decide ((x 8 c.toNatClampNeg).toInt = (v : Int))) := by unfold kSh; rw [m6, m7, m8, u_eq]
    rw [kc, kc'] at hone
    have d1 : decide ((x 6 c.toNatClampNeg).toInt = 0) = decide (x 6 c.toNatClampNeg = 0) := (d_eqI _ 0).symm
    have d2 : decide (p.toInt = 0) = decide (p = 0) := (d_eqI _ 0).symm
    rw [d1, d2] at hone
    by_cases hS : t * 4 + v = (x 7 c.toNatClampNeg).toNatClampNeg * 4 + (x 8 c.toNatClampNeg).toNatClampNeg
    · have ht' : (x 7 c.toNatClampNeg).toInt = (t : Int) := by omega
      have hv' : (x 8 c.toNatClampNeg).toInt = (v : Int) := by omega
      rw [decide_eq_true ht', decide_eq_true hv'] at hone
      rw [q1, hS]
      rw [hS] at hold
      by_cases g1 : x 6 c.toNatClampNeg = 0
      · by_cases g2 : p = 0
        · rw [if_pos g2, if_pos g1, u_eq, u_eq]
          rw [decide_eq_true g1, decide_eq_true g2] at hone
          simp only [Bool.and_true, Bool.true_and, Bool.false_and, Bool.and_false, if_true, Bool.false_eq_true, if_false] at hone
          rw [i_add (by rw [i_add (by omega)]; omega), i_add (by omega)]; omega
        · rw [if_neg g2, if_pos g1, u_eq]
          rw [decide_eq_true g1, decide_eq_false g2] at hone
          simp only [Bool.and_true, Bool.true_and, Bool.false_and, Bool.and_false, if_true, Bool.false_eq_true, if_false] at hone
          rw [i_add (by omega)]; omega
      · by_cases g2 : p = 0
        · rw [if_pos g2, if_neg g1, u_eq]
          rw [decide_eq_false g1, decide_eq_true g2] at hone
          simp only [Bool.and_true, Bool.true_and, Bool.false_and, Bool.and_false, if_true, Bool.false_eq_true, if_false] at hone
          rw [i_add (by omega)]; omega
        · rw [if_neg g2, if_neg g1]
          rw [decide_eq_false g1, decide_eq_false g2] at hone
          simp only [Bool.and_true, Bool.true_and, Bool.false_and, Bool.and_false, if_true, Bool.false_eq_true, if_false] at hone
          omega
    · have hne : ¬ ((x 7 c.toNatClampNeg).toInt = (t : Int) ∧ (x 8 c.toNatClampNeg).toInt = (v : Int)) := by omega
      have hz : ∀ b : Bool, (b && decide ((x 7 c.toNatClampNeg).toInt = (t : Int)) && decide ((x 8 c.toNatClampNeg).toInt = (v : Int))) = false := by
        intro b
        by_cases g : (x 7 c.toNatClampNeg).toInt = (t : Int)
        · rw [decide_eq_false (fun z => hne ⟨g, z⟩), Bool.and_false]
        · rw [decide_eq_false g, Bool.and_false, Bool.false_and]
      rw [hz, hz] at hone
      have q2 : fX1_moveTo x c p 15 (t * 4 + v) = x 15 (t * 4 + v) := by
        rw [q1]
        (repeat' split) <;> simp [u_ne hS]
      rw [q2, hold]
      omega
  · rw [m36]
    have hone := cN_one (P := kBa x) (P' := kBa (fX1_moveTo x c p)) hcn (fun i _ hi => by unfold kBa; rw [m6, u_ne hi])
    have hold := hT.2.1
    have hle := cN_le (P := kBa x) (x 36 0).toNatClampNeg
    have hle' := cN_le (P := kBa (fX1_moveTo x c p)) (x 36 0).toNatClampNeg
    have t2 : (2 : Int32).toInt = 2 := rfl
    have t3 : (3 : Int32).toInt = 3 := rfl
    have z2 : ∀ a : Int32, a = 2 → a.toInt = 2 := fun a h => i_eq h
    have z3 : ∀ a : Int32, a = 3 → a.toInt = 3 := fun a h => i_eq h
    have y2 : ∀ a : Int32, ¬ a = 2 → ¬ a.toInt = 2 := fun a h => i_ne h
    have y3 : ∀ a : Int32, ¬ a = 3 → ¬ a.toInt = 3 := fun a h => i_ne h
    have b37 : rset (fX1_tally x c (-1)) 6 (upd (fX1_tally x c (-1) 6) c.toNatClampNeg p) 37 = fX1_tally x c (-1) 37 := rset_ne (by decide)
    have b6 : rset (fX1_tally x c (-1)) 6 (upd (fX1_tally x c (-1) 6) c.toNatClampNeg p) 6 = upd (fX1_tally x c (-1) 6) c.toNatClampNeg p := rset_eq
    have q1 : fX1_moveTo x c p 37 0 = (if p = 2 ∨ p = 3 then fX1_tally x c (-1) 37 0 + 1 else fX1_tally x c (-1) 37 0) := by
      unfold fX1_moveTo
      rw [tally37, b6, u_eq, b37]
    rw [tally37] at q1
    have kc : kBa x c.toNatClampNeg = decide (x 6 c.toNatClampNeg = 2 ∨ x 6 c.toNatClampNeg = 3) := by
      unfold kBa
      by_cases g2 : x 6 c.toNatClampNeg = 2
      · rw [decide_eq_true (z2 _ g2), Bool.true_or, decide_eq_true (Or.inl g2)]
      · by_cases g3 : x 6 c.toNatClampNeg = 3
        · rw [decide_eq_true (z3 _ g3), Bool.or_true, decide_eq_true (Or.inr g3)]
        · rw [decide_eq_false (y2 _ g2), decide_eq_false (y3 _ g3), decide_eq_false (fun z => z.elim g2 g3)]; rfl
    have kc' : kBa (fX1_moveTo x c p) c.toNatClampNeg = decide (p = 2 ∨ p = 3) := by
      unfold kBa
      rw [m6, u_eq]
      by_cases g2 : p = 2
      · rw [decide_eq_true (z2 _ g2), Bool.true_or, decide_eq_true (Or.inl g2)]
      · by_cases g3 : p = 3
        · rw [decide_eq_true (z3 _ g3), Bool.or_true, decide_eq_true (Or.inr g3)]
        · rw [decide_eq_false (y2 _ g2), decide_eq_false (y3 _ g3), decide_eq_false (fun z => z.elim g2 g3)]; rfl
    rw [kc, kc'] at hone
    rw [q1]
    by_cases g1 : x 6 c.toNatClampNeg = 2 ∨ x 6 c.toNatClampNeg = 3
    · by_cases g2 : p = 2 ∨ p = 3
      · rw [decide_eq_true g1, decide_eq_true g2] at hone
        rw [if_pos g2, if_pos g1, i_add (by rw [i_add (by omega)]; omega), i_add (by omega)]; omega
      · rw [decide_eq_true g1, decide_eq_false g2] at hone
        simp only [if_true, Bool.false_eq_true, if_false] at hone
        rw [if_neg g2, if_pos g1, i_add (by omega)]; omega
    · by_cases g2 : p = 2 ∨ p = 3
      · rw [decide_eq_false g1, decide_eq_true g2] at hone
        simp only [if_true, Bool.false_eq_true, if_false] at hone
        rw [if_pos g2, if_neg g1, i_add (by omega)]; omega
      · rw [decide_eq_false g1, decide_eq_false g2] at hone
        rw [if_neg g2, if_neg g1]; omega
  · rw [m36]
    have hone := cN_one (P := kLo x) (P' := kLo (fX1_moveTo x c p)) hcn (fun i _ hi => by unfold kLo; rw [m6, u_ne hi])
    have hold := hT.2.2
    have hle := cN_le (P := kLo x) (x 36 0).toNatClampNeg
    have hle' := cN_le (P := kLo (fX1_moveTo x c p)) (x 36 0).toNatClampNeg
    have b38 : rset (fX1_tally x c (-1)) 6 (upd (fX1_tally x c (-1) 6) c.toNatClampNeg p) 38 = fX1_tally x c (-1) 38 := rset_ne (by decide)
    have b6 : rset (fX1_tally x c (-1)) 6 (upd (fX1_tally x c (-1) 6) c.toNatClampNeg p) 6 = upd (fX1_tally x c (-1) 6) c.toNatClampNeg p := rset_eq
    have q1 : fX1_moveTo x c p 38 0 = (if p = 5 then fX1_tally x c (-1) 38 0 + 1 else fX1_tally x c (-1) 38 0) := by
      unfold fX1_moveTo
      rw [tally38, b6, u_eq, b38]
    rw [tally38] at q1
    have kc : kLo x c.toNatClampNeg = decide (x 6 c.toNatClampNeg = 5) := (d_eqI _ 5).symm
    have kc' : kLo (fX1_moveTo x c p) c.toNatClampNeg = decide (p = 5) := by
      unfold kLo
      rw [m6, u_eq]
      exact (d_eqI _ 5).symm
    rw [kc, kc'] at hone
    rw [q1]
    by_cases g1 : x 6 c.toNatClampNeg = 5
    · by_cases g2 : p = 5
      · rw [decide_eq_true g1, decide_eq_true g2] at hone
        rw [if_pos g2, if_pos g1, i_add (by rw [i_add (by omega)]; omega), i_add (by omega)]; omega
      · rw [decide_eq_true g1, decide_eq_false g2] at hone
        simp only [if_true, Bool.false_eq_true, if_false] at hone
        rw [if_neg g2, if_pos g1, i_add (by omega)]; omega
    · by_cases g2 : p = 5
      · rw [decide_eq_false g1, decide_eq_true g2] at hone
        simp only [if_true, Bool.false_eq_true, if_false] at hone
        rw [if_pos g2, if_neg g1, i_add (by omega)]; omega
      · rw [decide_eq_false g1, decide_eq_false g2] at hone
        rw [if_neg g2, if_neg g1]; omega
