/-! Part 70: the counts by place: tally -/
theorem slotN {q : wSt} {a b : Int32} (ha : 0 ≤ a.toInt ∧ a.toInt ≤ 11) (hb : 0 ≤ b.toInt ∧ b.toInt ≤ 3) : (fX1_slot q a b).toInt = a.toInt * 4 + b.toInt := by
  have t4 : (4 : Int32).toInt = 4 := rfl
  have h1 : (a * 4).toInt = a.toInt * 4 := by rw [i_mul (by rw [t4]; omega), t4]
  unfold fX1_slot
  rw [i_add (by omega), h1]
theorem tally_j1 {q : wSt} {c ch : Int32} (ha : 0 ≤ (q 7 c.toNatClampNeg).toInt ∧ (q 7 c.toNatClampNeg).toInt ≤ 11) (hb : 0 ≤ (q 8 c.toNatClampNeg).toInt ∧ (q 8 c.toNatClampNeg).toInt ≤ 3) : fX1_tally_j1 q c ch = (if q 6 c.toNatClampNeg = 0 then rset q 15 (upd (q 15) ((q 7 c.toNatClampNeg).toNatClampNeg * 4 + (q 8 c.toNatClampNeg).toNatClampNeg) (q 15 ((q 7 c.toNatClampNeg).toNatClampNeg * 4 + (q 8 c.toNatClampNeg).toNatClampNeg) + ch)) else q) := by
  have h1 := slotN (q := q) ha hb
  have e1 := i_cl ha.1
  have e2 := i_cl hb.1
  have t0 : (0 : Int32).toInt = 0 := rfl
  have t48 : (48 : Int32).toInt = 48 := rfl
  have h2 : (fX1_slot q (q 7 c.toNatClampNeg) (q 8 c.toNatClampNeg)).toNatClampNeg = (q 7 c.toNatClampNeg).toNatClampNeg * 4 + (q 8 c.toNatClampNeg).toNatClampNeg := i_nat (by omega)
  unfold fX1_tally_j1
  rw [h2, if_neg (show ¬ fX1_slot q (q 7 c.toNatClampNeg) (q 8 c.toNatClampNeg) < 0 from fun z => by have := i_lt z; omega), if_neg (show ¬ 48 ≤ fX1_slot q (q 7 c.toNatClampNeg) (q 8 c.toNatClampNeg) from fun z => by have := i_le z; omega)]
theorem tally15 {q : wSt} {c ch : Int32} (ha : 0 ≤ (q 7 c.toNatClampNeg).toInt ∧ (q 7 c.toNatClampNeg).toInt ≤ 11) (hb : 0 ≤ (q 8 c.toNatClampNeg).toInt ∧ (q 8 c.toNatClampNeg).toInt ≤ 3) : fX1_tally q c ch 15 = (if q 6 c.toNatClampNeg = 0 then upd (q 15) ((q 7 c.toNatClampNeg).toNatClampNeg * 4 + (q 8 c.toNatClampNeg).toNatClampNeg) (q 15 ((q 7 c.toNatClampNeg).toNatClampNeg * 4 + (q 8 c.toNatClampNeg).toNatClampNeg) + ch) else q 15) := by
  have h1 : fX1_tally q c ch 15 = fX1_tally_j1 q c ch 15 := by
    unfold fX1_tally fX1_tally_j2
    (repeat' split) <;> simp [rset]
  rw [h1, tally_j1 ha hb]
  split
  · exact rset_eq
  · rfl
theorem tally_j1_6 (q : wSt) (c ch : Int32) : fX1_tally_j1 q c ch 6 = q 6 := frX1_tally_j1 q c ch 6 (by decide)
theorem tally37 (q : wSt) (c ch : Int32) : fX1_tally q c ch 37 0 = (if q 6 c.toNatClampNeg = 2 ∨ q 6 c.toNatClampNeg = 3 then q 37 0 + ch else q 37 0) := by
  have h0 : fX1_tally_j1 q c ch 37 = q 37 := by
    unfold fX1_tally_j1
    (repeat' split) <;> simp [rset]
  have h1 : fX1_tally q c ch 37 = fX1_tally_j2 q c ch 37 := by
    unfold fX1_tally
    split <;> simp [rset]
  rw [h1]
  unfold fX1_tally_j2 fX1_inBox
  rw [tally_j1_6, h0]
  by_cases g2 : q 6 c.toNatClampNeg = 2
  · rw [if_pos g2, if_neg (show ¬ (1 : Int32) = 0 by decide), rset_eq, if_pos (Or.inl g2)]
  · by_cases g3 : q 6 c.toNatClampNeg = 3
    · rw [if_neg g2, if_pos g3, if_neg (show ¬ (1 : Int32) = 0 by decide), rset_eq, if_pos (Or.inr g3)]
    · rw [if_neg g2, if_neg g3, if_pos rfl, h0, if_neg (fun z => z.elim g2 g3)]
theorem tally38 (q : wSt) (c ch : Int32) : fX1_tally q c ch 38 0 = (if q 6 c.toNatClampNeg = 5 then q 38 0 + ch else q 38 0) := by
  have h6 : fX1_tally_j2 q c ch 6 = q 6 := frX1_tally_j2 q c ch 6 (by decide)
  have h38 : fX1_tally_j2 q c ch 38 = q 38 := by
    unfold fX1_tally_j2 fX1_tally_j1
    (repeat' split) <;> simp [rset]
  unfold fX1_tally
  rw [h6, h38]
  split
  · exact congrFun rset_eq 0
  · rw [h38]
