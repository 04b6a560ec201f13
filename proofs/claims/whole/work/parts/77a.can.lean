/-! Part 77: who can have -/
theorem lleast {p q : wSt} (h6 : q 6 = p 6) (h7 : q 7 = p 7) (h8 : q 8 = p 8) (h36 : q 36 = p 36) (t v : Int32) (n : Nat) (b : Int32) : lX7_shelved_1 q t v n b = lX1_leastOnShelf_1 p t v n b := by
  induction n generalizing b with
  | zero => rfl
  | succ n ih =>
    rw [lX7_shelved_1_s, lX1_leastOnShelf_1_s, h6, h7, h8, h36, ih]
    by_cases c : p 36 0 ≤ b
    · rw [if_pos c, if_pos c]
    · rw [if_neg c, if_neg c]
      by_cases g1 : p 6 b.toNatClampNeg = 0
      · by_cases g2 : p 7 b.toNatClampNeg = t
        · by_cases g3 : p 8 b.toNatClampNeg = v
          · rw [if_pos g2, if_pos g3, if_pos g1, if_pos g1, if_pos g2, if_pos g3]
          · rw [if_pos g2, if_neg g3, if_pos g1, if_pos g2, if_neg g3]
        · rw [if_neg g2, if_pos g1, if_neg g2]
      · simp only [if_neg g1, ite_self]
theorem least_eq {p q : wSt} (h6 : q 6 = p 6) (h7 : q 7 = p 7) (h8 : q 8 = p 8) (h36 : q 36 = p 36) (t v : Int32) : fX7_shelved q t v = fX1_leastOnShelf p t v := by
  unfold fX7_shelved fX1_leastOnShelf
  rw [lleast h6 h7 h8 h36, h36]
theorem lleast_none (t v : Int32) (p : wSt) (n : Nat) (b : Int32) (h0 : 0 ≤ b.toInt) (hn : ((p 36 0).toInt - b.toInt).toNat < n) (h : lX1_leastOnShelf_1 p t v n b = -1) : ∀ c : Nat, b.toInt ≤ (c : Int) → (c : Int) < (p 36 0).toInt → ¬ (p 6 c = 0 ∧ p 7 c = t ∧ p 8 c = v) := by
  induction n generalizing b with
  | zero => exact absurd hn (Nat.not_lt_zero _)
  | succ n ih =>
    have tm : (-1 : Int32).toInt = -1 := rfl
    rw [lX1_leastOnShelf_1_s] at h
    by_cases c1 : p 36 0 ≤ b
    · intro c h1 h2
      have := i_le c1
      omega
    · have c2 := i_nle c1
      have c3 := i_rng (p 36 0)
      have e1 : (b + 1).toInt = b.toInt + 1 := i_inc (by omega)
      have d2 := i_cl h0
      rw [if_neg c1] at h
      intro c hc hc2 hz
      by_cases e : c = b.toNatClampNeg
      · rw [e] at hz
        rw [if_pos hz.1, if_pos hz.2.1, if_pos hz.2.2] at h
        have := i_eq h
        omega
      · have hh : lX1_leastOnShelf_1 p t v n (b + 1) = -1 := by
          by_cases a1 : p 6 b.toNatClampNeg = 0
          · rw [if_pos a1] at h
            by_cases a2 : p 7 b.toNatClampNeg = t
            · rw [if_pos a2] at h
              by_cases a3 : p 8 b.toNatClampNeg = v
              · rw [if_pos a3] at h
                have := i_eq h
                omega
              · rw [if_neg a3] at h; exact h
            · rw [if_neg a2] at h; exact h
          · rw [if_neg a1] at h; exact h
        exact ih (b + 1) (by omega) (by omega) hh c (by omega) hc2 hz
theorem kSh_i (x : wSt) (t v : Int) (c : Nat) : kSh x t v c = true ↔ ((x 6 c).toInt = 0 ∧ (x 7 c).toInt = t ∧ (x 8 c).toInt = v) := by
  unfold kSh
  rw [Bool.and_eq_true, Bool.and_eq_true, decide_eq_true_eq, decide_eq_true_eq, decide_eq_true_eq, and_assoc]
theorem shelf_eq {p : wSt} (hx : vX p) {t v : Int32} (ht : 0 ≤ t.toInt ∧ t.toInt ≤ 11) (hv : 0 ≤ v.toInt ∧ v.toInt ≤ 3) : fX1_onShelf p t v ≤ 0 ↔ fX1_leastOnShelf p t v = -1 := by
  have hB := iI_b hx.1
  have t0 : (0 : Int32).toInt = 0 := rfl
  have t48 : (48 : Int32).toInt = 48 := rfl
  have tm : (-1 : Int32).toInt = -1 := rfl
  have h1 := slotN (q := p) ht hv
  have e1 := i_cl ht.1
  have e2 := i_cl hv.1
  have eN := i_cl (show 0 ≤ (p 36 0).toInt by omega)
  have h2 : (fX1_slot p t v).toNatClampNeg = t.toNatClampNeg * 4 + v.toNatClampNeg := i_nat (by omega)
  have h3 := hx.2.2.2.2.2.2.2.1.1 t.toNatClampNeg v.toNatClampNeg (by omega) (by omega)
  have h4 : fX1_onShelf p t v = p 15 (t.toNatClampNeg * 4 + v.toNatClampNeg) := by
    unfold fX1_onShelf
    rw [h2, if_neg (show ¬ fX1_slot p t v < 0 from fun z => by have := i_lt z; omega), if_neg (show ¬ 48 ≤ fX1_slot p t v from fun z => by have := i_le z; omega)]
  rw [h4]
  constructor
  · intro h5
    have h6 := i_le h5
    have h7 := cN_nil (P := kSh p t.toNatClampNeg v.toNatClampNeg) (n := (p 36 0).toNatClampNeg) (by omega)
    have h8 := tX7_shelved p t v
    rw [least_eq (q := p) (p := p) rfl rfl rfl rfl] at h8
    rcases h8 with h8 | ⟨g1, g2, g3, g4, g5⟩
    · exact h8
    · exfalso
      have g6 := i_cl g1
      have g7 := h7 (fX1_leastOnShelf p t v).toNatClampNeg (by omega)
      rw [(kSh_i p _ _ _).mpr ⟨i_eq g3, by rw [i_eq g4]; omega, by rw [i_eq g5]; omega⟩] at g7
      exact absurd g7 (by decide)
  · intro h5
    unfold fX1_leastOnShelf at h5
    have h6 := lleast_none t v p _ 0 (by decide) (by omega) h5
    have h7 : cN (kSh p t.toNatClampNeg v.toNatClampNeg) (p 36 0).toNatClampNeg = 0 := cN_zero (fun i hi => by
      by_cases g : kSh p t.toNatClampNeg v.toNatClampNeg i = true
      · have g1 := (kSh_i p _ _ _).mp g
        exact absurd ⟨Int32.toInt_inj.mp g1.1, Int32.toInt_inj.mp (by omega), Int32.toInt_inj.mp (by omega)⟩ (h6 i (by omega) (by omega))
      · exact Bool.eq_false_iff.mpr g)
    refine Int32.le_iff_toInt_le.mpr ?_
    rw [h3, h7]
    decide
theorem waits_sp {p : wSt} {w : Int32} (h : ¬ fX5_waits p w = 0) : p 24 w.toNatClampNeg = 0 ∧ p 26 w.toNatClampNeg = -1 := by
  unfold fX5_waits fX5_isOpen at h
  by_cases g1 : p 24 w.toNatClampNeg = 0
  · by_cases g2 : p 26 w.toNatClampNeg = -1
    · exact ⟨g1, g2⟩
    · exfalso
      apply h
      rw [if_neg g2]
      split <;> rfl
  · exfalso
    apply h
    rw [if_neg g1]
    by_cases g3 : fX5_has p w = 0
    · rw [if_pos g3, if_pos rfl]
    · rw [if_neg g3, if_pos rfl]
theorem rank3 {p : wSt} (hI : iI p) {r : Nat} (h : r < 20) : p 16 r = 0 ∨ p 16 r = 1 ∨ p 16 r = 2 := by
  have hk := hI.2.2.1 r h
  have hk4 : (p 16 r).toInt = 0 ∨ (p 16 r).toInt = 1 ∨ (p 16 r).toInt = 2 := by omega
  rcases hk4 with z | z | z
  · exact Or.inl (Int32.toInt_inj.mp z)
  · exact Or.inr (Or.inl (Int32.toInt_inj.mp z))
  · exact Or.inr (Or.inr (Int32.toInt_inj.mp z))
theorem most_eq {p q : wSt} (hs : rSame p q) (hI : iI p) {r : Int32} (h : r.toNatClampNeg < 20) : fX7_most q r = tMost (p 16 r.toNatClampNeg).toNatClampNeg := by
  unfold fX7_most
  rw [hs 16 (by omega)]
  rcases rank3 hI h with z | z | z
  · rw [z]; rfl
  · rw [z]; rfl
  · rw [z]; rfl
theorem can_eq {p q : wSt} (hr : Rel p q) {w : Int32} (h0 : 0 ≤ w.toInt) (h1 : w.toInt < (p 40 0).toInt) : fX7_canHave q w = fX6_canGet p w := by
  obtain ⟨hs, hb, hx⟩ := id hr
  have hB := iI_b hx.1
  have e0 := i_cl h0
  have t0 : (0 : Int32).toInt = 0 := rfl
  unfold fX7_canHave fX6_canGet
  rw [waits_eq hs hx h0 h1, hs 22 (by omega), hs 18 (by omega), hs 30 (by omega), hs 23 (by omega), hs 25 (by omega), least_eq (hs 6 (by omega)) (hs 7 (by omega)) (hs 8 (by omega)) (hs 36 (by omega))]
  by_cases c1 : fX5_waits p w = 0
  · rw [if_pos c1, if_pos c1]
  · rw [if_neg c1, if_neg c1]
    obtain ⟨w1, w2⟩ := waits_sp c1
    obtain ⟨v1, v2, v3, v4⟩ := hx.2.2.2.2.2.1 w.toNatClampNeg (by omega)
    have v5 := v3 (i_eq w1)
    have er := i_cl v1.1
    have et := i_cl v2.1
    have v6 := hx.1.2.1 (p 23 w.toNatClampNeg).toNatClampNeg (by omega)
    have sh := shelf_eq hx (t := p 23 w.toNatClampNeg) (v := p 25 w.toNatClampNeg) (by omega) (by omega)
    rw [holds_cc hs, holds_cc hs, holds_cc hs, Int32.add_assoc, holds_bx hx v1.1 (by omega), holds_in hx v1.1 (by omega), most_eq hs hx.1 (by omega)]
    unfold fX3_mayTake
    rw [if_neg (hX3 v1.1 v1.2)]
    by_cases a1 : p 18 (p 22 w.toNatClampNeg).toNatClampNeg < p 30 0
    · rw [if_pos a1, if_pos a1, if_pos rfl]
    · rw [if_neg a1, if_neg a1]
      by_cases a2 : tMost (p 16 (p 22 w.toNatClampNeg).toNatClampNeg).toNatClampNeg ≤ p 20 (p 22 w.toNatClampNeg).toNatClampNeg + p 21 (p 22 w.toNatClampNeg).toNatClampNeg
      · rw [if_pos a2, if_pos rfl]
        split <;> rfl
      · rw [if_neg a2, if_neg (show ¬ (1 : Int32) = 0 by decide)]
        by_cases a3 : fX1_leastOnShelf p (p 23 w.toNatClampNeg) (p 25 w.toNatClampNeg) = -1
        · rw [if_pos a3, if_pos (sh.mpr a3)]
        · rw [if_neg a3, if_neg (fun z => a3 (sh.mp z))]
theorem can_sp {p : wSt} {w : Int32} (h : ¬ fX6_canGet p w = 0) : ¬ fX5_waits p w = 0 ∧ ¬ fX1_onShelf p (p 23 w.toNatClampNeg) (p 25 w.toNatClampNeg) ≤ 0 := by
  unfold fX6_canGet at h
  by_cases c1 : fX5_waits p w = 0
  · rw [if_pos c1] at h; exact absurd rfl h
  · rw [if_neg c1] at h
    by_cases c2 : fX3_mayTake p (p 22 w.toNatClampNeg) (p 30 0) = 0
    · rw [if_pos c2] at h; exact absurd rfl h
    · rw [if_neg c2] at h
      by_cases c3 : fX1_onShelf p (p 23 w.toNatClampNeg) (p 25 w.toNatClampNeg) ≤ 0
      · rw [if_pos c3] at h; exact absurd rfl h
      · exact ⟨c1, c3⟩
/-- who is next -/
theorem next_step {p q : wSt} (hr : Rel p q) (y : wSt) (z : Int32) {a b : Int32} (ha : a.toInt = -1 ∨ (0 ≤ a.toInt ∧ a.toInt < (p 40 0).toInt)) (hb0 : 0 ≤ b.toInt) (hb1 : b.toInt < (p 40 0).toInt) : fX7_turns_j3 y z q a b = fX6_nextInTurn_j2 p a b := by
  obtain ⟨hs, -, hx⟩ := id hr
  have tm : (-1 : Int32).toInt = -1 := rfl
  unfold fX7_turns_j3 fX6_nextInTurn_j2
  rw [can_eq hr hb0 hb1]
  by_cases c1 : fX6_canGet p b = 0
  · rw [if_pos c1, if_pos c1]
  · rw [if_neg c1, if_neg c1]
    by_cases c2 : a = -1
    · rw [if_pos c2, if_pos c2]
    · rw [if_neg c2, if_neg c2]
      have c3 := i_ne c2
      have ea := i_cl (show 0 ≤ a.toInt by omega)
      have eb := i_cl hb0
      have va := (hx.2.2.2.2.2.1 a.toNatClampNeg (by omega)).1
      have vb := (hx.2.2.2.2.2.1 b.toNatClampNeg (by omega)).1
      unfold fX6_goesAhead fX3_rankOf
      rw [if_neg (hX3 va.1 va.2), if_neg (hX3 vb.1 vb.2), hs 16 (by omega), hs 22 (by omega), hs 27 (by omega)]
      by_cases g1 : p 16 (p 22 b.toNatClampNeg).toNatClampNeg = p 16 (p 22 a.toNatClampNeg).toNatClampNeg
      · rw [if_neg (show ¬ p 16 (p 22 a.toNatClampNeg).toNatClampNeg < p 16 (p 22 b.toNatClampNeg).toNatClampNeg from fun z => by have := i_lt z; have := i_eq g1; omega), if_pos g1, if_pos g1]
        by_cases g2 : p 27 a.toNatClampNeg ≤ p 27 b.toNatClampNeg
        · rw [if_pos g2, if_pos g2, if_pos rfl]
        · rw [if_neg g2, if_neg g2, if_neg (show ¬ (1 : Int32) = 0 by decide)]
      · rw [if_neg g1, if_neg g1]
        have g3 := i_ne g1
        by_cases g2 : p 16 (p 22 b.toNatClampNeg).toNatClampNeg ≤ p 16 (p 22 a.toNatClampNeg).toNatClampNeg
        · rw [if_pos g2, if_pos rfl, if_neg (show ¬ p 16 (p 22 a.toNatClampNeg).toNatClampNeg < p 16 (p 22 b.toNatClampNeg).toNatClampNeg from fun z => by have := i_lt z; have := i_le g2; omega)]
        · rw [if_neg g2, if_neg (show ¬ (1 : Int32) = 0 by decide), if_pos (show p 16 (p 22 a.toNatClampNeg).toNatClampNeg < p 16 (p 22 b.toNatClampNeg).toNatClampNeg from Int32.lt_iff_toInt_lt.mpr (i_nle g2))]
theorem next_j2 {p : wSt} {a b : Int32} (ha : a.toInt = -1 ∨ (0 ≤ a.toInt ∧ a.toInt < (p 40 0).toInt)) (hb0 : 0 ≤ b.toInt) (hb1 : b.toInt < (p 40 0).toInt) : (fX6_nextInTurn_j2 p a b).toInt = -1 ∨ (0 ≤ (fX6_nextInTurn_j2 p a b).toInt ∧ (fX6_nextInTurn_j2 p a b).toInt < (p 40 0).toInt) := by
  unfold fX6_nextInTurn_j2
  (repeat' split) <;> first | exact ha | exact Or.inr ⟨hb0, hb1⟩
theorem lnext {p q : wSt} (hr : Rel p q) (y : wSt) (z : Int32) (n : Nat) (a b : Int32) (ha : a.toInt = -1 ∨ (0 ≤ a.toInt ∧ a.toInt < (p 40 0).toInt)) (hb0 : 0 ≤ b.toInt) : lX7_turns_2 y z q n a b = lX6_nextInTurn_1 p n a b := by
  induction n generalizing a b with
  | zero => rfl
  | succ n ih =>
    rw [lX7_turns_2_s, lX6_nextInTurn_1_s, hr.1 40 (by omega)]
    by_cases c : p 40 0 ≤ b
    · rw [if_pos c, if_pos c]
    · have c1 := i_nle c
      have c2 := i_rng (p 40 0)
      rw [if_neg c, if_neg c, next_step hr y z ha hb0 c1]
      exact ih _ _ (next_j2 ha hb0 c1) (by rw [i_inc (by omega)]; omega)
theorem next_eq {p q : wSt} (hr : Rel p q) (y : wSt) (z : Int32) : lX7_turns_2 y z q (((q 40 0).toInt - (0 : Int32).toInt).toNat + 1) (-1) 0 = fX6_nextInTurn p := by
  unfold fX6_nextInTurn
  rw [lnext hr y z _ _ _ (Or.inl rfl) (by decide), hr.1 40 (by omega)]
theorem next_sp {p q : wSt} (hr : Rel p q) : (fX6_nextInTurn p).toInt = -1 ∨ (0 ≤ (fX6_nextInTurn p).toInt ∧ (fX6_nextInTurn p).toInt < (p 40 0).toInt ∧ ¬ fX6_canGet p (fX6_nextInTurn p) = 0) := by
  have h := tX7_turns_2 q 0 q (((q 40 0).toInt - (0 : Int32).toInt).toNat + 1)
  rw [next_eq hr] at h
  rcases h with h | ⟨h1, h2, h3⟩
  · exact Or.inl h
  · rw [hr.1 40 (by omega)] at h2
    rw [can_eq hr h1 h2] at h3
    exact Or.inr ⟨h1, h2, fun z => h3 (i_eq z)⟩
theorem lnext_none {p : wSt} (n : Nat) (a b : Int32) (hb : 0 ≤ b.toInt) (hn : ((p 40 0).toInt - b.toInt).toNat < n) (h : lX6_nextInTurn_1 p n a b = -1) : a = -1 ∧ ∀ w : Int32, b.toInt ≤ w.toInt → w.toInt < (p 40 0).toInt → fX6_canGet p w = 0 := by
  induction n generalizing a b with
  | zero => exact absurd hn (Nat.not_lt_zero _)
  | succ n ih =>
    have tm : (-1 : Int32).toInt = -1 := rfl
    rw [lX6_nextInTurn_1_s] at h
    by_cases c : p 40 0 ≤ b
    · rw [if_pos c] at h
      have c1 := i_le c
      exact ⟨h, fun w h1 h2 => by omega⟩
    · rw [if_neg c] at h
      have c1 := i_nle c
      have c2 := i_rng (p 40 0)
      have e1 : (b + 1).toInt = b.toInt + 1 := i_inc (by omega)
      obtain ⟨i1, i2⟩ := ih _ _ (by omega) (by omega) h
      have bn : ¬ b = -1 := fun z => by have := i_eq z; omega
      have key : a = -1 ∧ fX6_canGet p b = 0 := by
        unfold fX6_nextInTurn_j2 at i1
        by_cases g1 : fX6_canGet p b = 0
        · rw [if_pos g1] at i1; exact ⟨i1, g1⟩
        · rw [if_neg g1] at i1
          by_cases g2 : a = -1
          · rw [if_pos g2] at i1; exact absurd i1 bn
          · rw [if_neg g2] at i1
            by_cases g3 : fX6_goesAhead p b a = 0
            · rw [if_pos g3] at i1; exact absurd i1 g2
            · rw [if_neg g3] at i1; exact absurd i1 bn
      refine ⟨key.1, fun w h1 h2 => ?_⟩
      by_cases e : w = b
      · rw [e]; exact key.2
      · exact i2 w (by have := i_ne e; omega) h2
theorem next_none {p : wSt} (h : fX6_nextInTurn p = -1) : ∀ w : Int32, 0 ≤ w.toInt → w.toInt < (p 40 0).toInt → fX6_canGet p w = 0 := by
  unfold fX6_nextInTurn at h
  have t0 : (0 : Int32).toInt = 0 := rfl
  exact fun w h1 h2 => (lnext_none _ _ 0 (by decide) (by omega) h).2 w (by omega) h2
