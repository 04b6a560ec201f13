/-! Part 67: wished -/
theorem copyOf_c {x y : wSt} (h11 : y 11 = x 11) (h36 : y 36 = x 36) (w : Int32) (n : Nat) (b : Int32) : lX7_copyOf_1 y w n b = lX7_copyOf_1 x w n b := by
  induction n generalizing b with
  | zero => rfl
  | succ n ih => rw [lX7_copyOf_1_s, lX7_copyOf_1_s, h11, h36, ih]
theorem copyOf_eq {x y : wSt} (hs : rSame x y) (hx : vX x) {w : Int32} (h0 : 0 ≤ w.toInt) (h1 : w.toInt < (x 40 0).toInt) : fX7_copyOf y w = x 26 w.toNatClampNeg := by
  have hB := iI_b hx.1
  have e0 := i_cl h0
  have t0 : (0 : Int32).toInt = 0 := rfl
  unfold fX7_copyOf
  rw [copyOf_c (hs 11 (by omega)) (hs 36 (by omega)), hs 36 (by omega)]
  obtain ⟨-, -, -, hh⟩ := hx.2.2.2.2.2.1 w.toNatClampNeg (by omega)
  rcases hh with ⟨g1, g2⟩ | ⟨⟨g1, g2⟩, g3⟩
  · rw [lcopyN w _ _ 0 rfl (fun c hc z => g2 c hc (by rw [i_eq z]; omega))]
    exact Int32.toInt_inj.mp g1.symm
  · have e1 := i_cl g1
    refine Int32.toInt_inj.mp ?_
    have ew : x 11 (x 26 w.toNatClampNeg).toNatClampNeg = w := Int32.toInt_inj.mp (by omega)
    rw [lcopyH w (x 26 w.toNatClampNeg).toNatClampNeg (by omega) ew (fun c hc z => hx.2.2.2.2.1 c _ hc (by omega) (by rw [i_eq z]; omega) (z.trans ew.symm)) _ _ 0 rfl (by omega) (by omega)]
    omega
theorem waits_eq {x y : wSt} (hs : rSame x y) (hx : vX x) {w : Int32} (h0 : 0 ≤ w.toInt) (h1 : w.toInt < (x 40 0).toInt) : fX7_waits y w = fX5_waits x w := by
  have hh : ¬ fX5_has x w = 0 := by
    unfold fX5_has
    rw [if_neg (fun z => by have := i_lt z; have t0 : (0 : Int32).toInt = 0 := rfl; omega), if_neg (fun z => by have := i_le z; omega)]
    decide
  unfold fX7_waits fX5_waits fX5_isOpen
  rw [copyOf_eq hs hx h0 h1, hs 24 (by omega), if_neg hh]
  by_cases g : x 24 w.toNatClampNeg = 0
  · rw [if_pos g, if_pos g, if_neg (show ¬ (1 : Int32) = 0 by decide)]
  · rw [if_neg g, if_neg g, if_pos rfl]
theorem sim_wished : Sim_wished Rel := by
  intro x y hr w k
  obtain ⟨hs, hb, hx⟩ := id hr
  unfold fX6_wished fX7_wished
  rw [isWish_eq hs hx.1, hs 24 (by omega), hs 25 (by omega), hs 27 (by omega)]
  split
  · rfl
  · rename_i c
    have h2 := tX5_has x w (i_ne c)
    rw [copyOf_eq hs hx h2.1 h2.2, waits_eq hs hx h2.1 h2.2]
theorem lwaiting {x y : wSt} (hs : rSame x y) (hx : vX x) (t v : Int32) (n : Nat) (a b : Int32) (hb : 0 ≤ b.toInt) : lX7_waiting_1 y t v n a b = lX5_waitingFor_1 x t v n a b := by
  induction n generalizing a b with
  | zero => rfl
  | succ n ih =>
    rw [lX7_waiting_1_s, lX5_waitingFor_1_s, hs 40 (by omega)]
    split
    · rfl
    · rename_i c
      have c1 := i_nle c
      have c2 := i_rng (x 40 0)
      rw [ih _ _ (by rw [i_inc (by omega)]; omega)]
      unfold fX7_waiting_j2 fX5_waitingFor_j2
      rw [hs 23 (by omega), hs 25 (by omega), waits_eq hs hx hb c1]
      by_cases g1 : x 23 b.toNatClampNeg = t
      · by_cases g2 : x 25 b.toNatClampNeg = v
        · by_cases g3 : fX5_waits x b = 0
          · rw [if_pos g1, if_pos g2, if_pos g3, if_pos g3, i_zero]
          · rw [if_pos g1, if_pos g2, if_neg g3, if_neg g3, if_pos g1, if_pos g2]
        · rw [if_pos g1, if_neg g2, i_zero, if_pos g1, if_neg g2]
          split <;> rfl
      · rw [if_neg g1, i_zero, if_neg g1]
        split <;> rfl
theorem sim_waiting : Sim_waiting Rel := by
  intro x y hr t v
  obtain ⟨hs, hb, hx⟩ := id hr
  have hB := iI_b hx.1
  have t0 : (0 : Int32).toInt = 0 := rfl
  unfold fX6_waiting fX7_waiting fX4_hasVolume fX4_volumesOf fX5_waitingFor
  rw [isTitle_eq hs hx.1, lwaiting hs hx t v _ _ _ (by decide), hs 0 (by omega), hs 40 (by omega)]
  by_cases c : fX4_has x t = 0
  · rw [if_pos c, if_pos c]
    by_cases g : v < 0
    · rw [if_pos g, if_pos rfl]
    · rw [if_neg g, if_pos (show (0 : Int32) ≤ v from Int32.le_iff_toInt_le.mpr (i_nlt g)), if_pos rfl]
  · rw [if_neg c, if_neg c]
    have h2 := tX4_has x t (i_ne c)
    have h3 := i_cl h2.1
    have h4 := hx.1.2.1 t.toNatClampNeg (by omega)
    unfold fX7_in
    simp only [has_eq h4.1]
