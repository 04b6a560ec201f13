/-! Part 68: sets -/
theorem linHouse {x y : wSt} (hs : rSame x y) (hx : vX x) (t z v : Int32) (n : Nat) (a b : Int32) (hb : 0 ≤ b.toInt) : lX7_sets_2 y t z v n a b = lX1_inHouse_1 x t v n a b := by
  induction n generalizing a b with
  | zero => rfl
  | succ n ih =>
    rw [lX7_sets_2_s, lX1_inHouse_1_s, hs 36 (by omega)]
    split
    · rfl
    · rename_i c
      have c1 := i_nle c
      have c2 := i_rng (x 36 0)
      have e0 := i_cl hb
      have h := (hx.2.2.2.1 b.toNatClampNeg (by omega)).1
      have t4 : (4 : Int32).toInt = 4 := rfl
      have t5 : (5 : Int32).toInt = 5 := rfl
      rw [ih _ _ (by rw [i_inc (by omega)]; omega)]
      unfold fX7_sets_j3 fX1_inHouse_j2
      rw [hs 6 (by omega), hs 7 (by omega), hs 8 (by omega)]
      by_cases g1 : x 7 b.toNatClampNeg = t
      · by_cases g2 : x 8 b.toNatClampNeg = v
        · by_cases g3 : 4 ≤ x 6 b.toNatClampNeg
          · have g4 := i_le g3
            rw [if_pos g1, if_pos g2, if_pos g3, i_zero, if_pos g1, if_pos g2]
            by_cases g5 : x 6 b.toNatClampNeg = 4
            · rw [if_pos g5]
            · have g6 := i_ne g5
              rw [if_neg g5, if_pos (Int32.toInt_inj.mp (by omega))]
          · have g4 := i_nle g3
            rw [if_pos g1, if_pos g2, if_neg g3, if_pos g1, if_pos g2, if_neg (fun z => by have := i_eq z; omega), if_neg (fun z => by have := i_eq z; omega)]
        · rw [if_pos g1, if_neg g2, i_zero, if_pos g1, if_neg g2]
      · rw [if_neg g1, i_zero, if_neg g1]
theorem lsets6 {x y : wSt} (hs : rSame x y) (hx : vX x) (t : Int32) (ht : fX4_volumesOf x t = x 0 t.toNatClampNeg) (n : Nat) (a b : Int32) : lX7_sets_1 y t n a b = lX6_sets_1 x t n a b := by
  induction n generalizing a b with
  | zero => rfl
  | succ n ih =>
    rw [lX7_sets_1_s, lX6_sets_1_s, hs 0 (by omega), ht, ih]
    unfold fX7_sets_j4 fX1_inHouse
    rw [linHouse hs hx t a b _ _ _ (by decide), hs 36 (by omega)]
    by_cases g : a ≤ lX1_inHouse_1 x t b (((x 36 0).toInt - (0 : Int32).toInt).toNat + 1) 0 0
    · have g2 : ¬ lX1_inHouse_1 x t b (((x 36 0).toInt - (0 : Int32).toInt).toNat + 1) 0 0 < a := fun z => by have := i_lt z; have := i_le g; omega
      rw [if_pos g, if_neg g2]
    · rw [if_neg g, if_pos (Int32.lt_iff_toInt_lt.mpr (i_nle g))]
theorem sim_sets : Sim_sets Rel := by
  intro x y hr t
  obtain ⟨hs, hb, hx⟩ := id hr
  unfold fX6_sets fX7_sets
  rw [isTitle_eq hs hx.1, hs 0 (by omega)]
  by_cases c : fX4_has x t = 0
  · rw [if_pos c, if_pos c]
  · have ht : fX4_volumesOf x t = x 0 t.toNatClampNeg := by unfold fX4_volumesOf; rw [if_neg c]
    rw [if_neg c, if_neg c, lsets6 hs hx t ht, ht]
