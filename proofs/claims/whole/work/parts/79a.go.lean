/-! Part 79: go -/
theorem nob_bx {p p' : wSt} (hx : vX p) (hx' : vX p') (fr : ∀ k : Nat, ¬ (k = 6 ∨ k = 10 ∨ k = 11 ∨ k = 12 ∨ k = 13 ∨ k = 15 ∨ k = 20 ∨ k = 21 ∨ k = 37 ∨ k = 38) → p' k = p k) (hb : bxS p p') (hn : nob p) : nob p' := by
  intro w w0 w1
  rw [fr 40 (by omega)] at w1
  have hB := iI_b hx.1
  have ew := i_cl w0
  have v1 := (hx.2.2.2.2.2.1 w.toNatClampNeg (by omega)).1
  have er := i_cl v1.1
  have r1 := row_rng hx (r := (p 22 w.toNatClampNeg).toNatClampNeg) (by omega)
  have r2 := row_rng hx' (r := (p 22 w.toNatClampNeg).toNatClampNeg) (by omega)
  have es : p' 20 (p 22 w.toNatClampNeg).toNatClampNeg + p' 21 (p 22 w.toNatClampNeg).toNatClampNeg = p 20 (p 22 w.toNatClampNeg).toNatClampNeg + p 21 (p 22 w.toNatClampNeg).toNatClampNeg := Int32.toInt_inj.mp (by
    have h := hb.2 (p 22 w.toNatClampNeg).toNatClampNeg (by omega)
    rw [i_add (by omega), i_add (by omega)]
    exact h)
  have e1 : fX5_waits p' w = fX5_waits p w := by
    unfold fX5_waits fX5_isOpen fX5_has
    rw [fr 40 (by omega), fr 24 (by omega), fr 26 (by omega)]
  have e2 : ∀ t v : Int32, fX1_onShelf p' t v = fX1_onShelf p t v := by
    intro t v
    unfold fX1_onShelf fX1_slot
    rw [hb.1]
  have e3 : ∀ r : Int32, fX3_has p' r = fX3_has p r := by
    intro r
    unfold fX3_has
    rw [fr 39 (by omega)]
  rw [← hn w w0 w1]
  unfold fX6_canGet fX3_mayTake
  rw [fr 22 (by omega), fr 23 (by omega), fr 25 (by omega), fr 18 (by omega), fr 30 (by omega), fr 16 (by omega), e1, e2, e3, es]
theorem nob_now {p P : wSt} (hn : nob p) (fr : ∀ k : Nat, k ≠ 30 → P k = p k) (h30 : (P 30 0).toInt = (p 30 0).toInt + 1) : nob P := by
  intro w w0 w1
  rw [fr 40 (by omega)] at w1
  have h := hn w w0 w1
  have e1 : fX5_waits P w = fX5_waits p w := by
    unfold fX5_waits fX5_isOpen fX5_has
    rw [fr 40 (by omega), fr 24 (by omega), fr 26 (by omega)]
  have e2 : ∀ t v : Int32, fX1_onShelf P t v = fX1_onShelf p t v := by
    intro t v
    unfold fX1_onShelf fX1_slot
    rw [fr 15 (by omega)]
  have e3 : ∀ r : Int32, fX3_has P r = fX3_has p r := by
    intro r
    unfold fX3_has
    rw [fr 39 (by omega)]
  unfold fX6_canGet fX3_mayTake at h ⊢
  rw [fr 22 (by omega), fr 23 (by omega), fr 25 (by omega), fr 18 (by omega), fr 16 (by omega), fr 20 (by omega), fr 21 (by omega), e1, e2, e3]
  by_cases c1 : fX5_waits p w = 0
  · rw [if_pos c1]
  · rw [if_neg c1] at h ⊢
    by_cases c2 : fX3_has p (p 22 w.toNatClampNeg) = 0
    · rw [if_pos c2, if_pos rfl]
    · rw [if_neg c2] at h ⊢
      by_cases c4 : p 18 (p 22 w.toNatClampNeg).toNatClampNeg < P 30 0
      · rw [if_pos c4, if_pos rfl]
      · have c5 := i_nlt c4
        rw [if_neg (show ¬ p 18 (p 22 w.toNatClampNeg).toNatClampNeg < p 30 0 from fun z => by have := i_lt z; omega)] at h
        rw [if_neg c4]
        exact h
theorem Rel_now {p q : wSt} (hr : Rel p q) (h : (p 30 0).toInt < 5000) : Rel (rset p 30 (fun _ => p 30 0 + 1)) (rset q 30 (fun _ => q 30 0 + 1)) := by
  obtain ⟨hs, hb, hx⟩ := hr
  rw [hs 30 (by omega)]
  have fr : ∀ k : Nat, ¬ (k = 30) → rset p 30 (fun _ => p 30 0 + 1) k = p k := fun k hk => rset_ne hk
  have r30 : rset p 30 (fun _ => p 30 0 + 1) 30 = fun _ => p 30 0 + 1 := rset_eq
  refine ⟨rS_set hs, ?_, ?_⟩
  · rw [fr 36 (by omega), fr 6 (by omega), fr 13 (by omega), rset_ne (show (13 : Nat) ≠ 30 by decide)]
    exact hb
  · obtain ⟨g1, g2, g3, g4, g5, g6, g7, g8, g9, g10⟩ := hx
    refine ⟨iI_fr (fun k hk => fr k (by omega)) g1, dOk_fr (fun k hk => fr k (by omega)) g2, vV_fr (fun k hk => fr k (by omega)) g3, vC_fr (fun k hk => fr k (by omega)) g4, vJ_fr (fun k hk => fr k (by omega)) g5, vW_fr (fun k hk => fr k (by omega)) g6, vZ_fr (fun k hk => fr k (by omega)) g7, vT_fr (fun k hk => fr k (by omega)) g8, vR_fr (fun k hk => fr k (by omega)) g9, ?_⟩
    have g11 := g10.1
    have e1 : (p 30 0 + 1).toInt = (p 30 0).toInt + 1 := i_inc (by omega)
    unfold vNow
    rw [r30]
    dsimp only
    omega
theorem day_eq {p q : wSt} (hr : Rel2 p q) (x : wSt) (n d : Int32) (hd : d = 0 ∨ nob p) (h30 : (p 30 0).toInt < 5000) : Rel2 (rset (fX6_go_j2 x n d p) 30 (fun _ => fX6_go_j2 x n d p 30 0 + 1)) (rset (fX7_turns (fX7_boxes q)) 30 (fun _ => fX7_turns (fX7_boxes q) 30 0 + 1)) ∧ nob (rset (fX6_go_j2 x n d p) 30 (fun _ => fX6_go_j2 x n d p 30 0 + 1)) ∧ (rset (fX6_go_j2 x n d p) 30 (fun _ => fX6_go_j2 x n d p 30 0 + 1) 30 0).toInt = (p 30 0).toInt + 1 := by
  have H1 := boxes_eq hr.1
  have b2 : Rel2 (fX6_moveBoxes p).2 (fX7_boxes q) := ⟨H1.1, vB_fr (frX6_moveBoxes p 17 (by decide)) hr.2⟩
  have H2 := turns_eq b2
  have key : fX6_go_j2 x n d p = fX6_takeTurns (fX6_moveBoxes p).2 := by
    unfold fX6_go_j2
    by_cases c : d = 0
    · rw [if_pos c]
    · rw [if_neg c]
      by_cases c2 : (fX6_moveBoxes p).1 = 0
      · rw [if_pos c2]
        exact (turns_id b2 (nob_bx hr.1.2.2 b2.1.2.2 (fun k hk => frX6_moveBoxes p k (by omega)) (H1.2 c2) (hd.resolve_left c))).symm
      · rw [if_neg c2]
  rw [key]
  have e30 : fX6_takeTurns (fX6_moveBoxes p).2 30 = p 30 := (frX6_takeTurns _ 30 (by decide)).trans (frX6_moveBoxes p 30 (by decide))
  generalize fX6_takeTurns (fX6_moveBoxes p).2 = A at H2 e30 ⊢
  generalize fX7_turns (fX7_boxes q) = B at H2 ⊢
  have h40 : (A 30 0).toInt < 5000 := by rw [e30]; exact h30
  have g0 := H2.1.1.2.2.2.2.2.2.2.2.2.2.2.1
  have s30 : (rset A 30 (fun _ => A 30 0 + 1) 30 0).toInt = (A 30 0).toInt + 1 := by
    rw [rset_eq]
    exact i_inc (by omega)
  refine ⟨⟨Rel_now H2.1.1 h40, vB_fr (rset_ne (by decide)) H2.1.2⟩, nob_now H2.2 (fun k hk => rset_ne hk) s30, ?_⟩
  rw [s30, e30]
theorem ending_sp (x : wSt) (n : Int32) (h0 : 0 ≤ (x 30 0).toInt) (h1 : (x 30 0).toInt ≤ 5000) : ((if 5000 - x 30 0 < n then 5000 - x 30 0 else n).toInt = 5000 - (x 30 0).toInt ∧ 5000 - (x 30 0).toInt < n.toInt) ∨ ((if 5000 - x 30 0 < n then 5000 - x 30 0 else n).toInt = n.toInt ∧ n.toInt ≤ 5000 - (x 30 0).toInt) := by
  have t5 : (5000 : Int32).toInt = 5000 := rfl
  have e : (5000 - x 30 0).toInt = 5000 - (x 30 0).toInt := by rw [i_sub (by omega), t5]
  by_cases c : 5000 - x 30 0 < n
  · have := i_lt c
    rw [if_pos c]; exact Or.inl ⟨e, by omega⟩
  · have := i_nlt c
    rw [if_neg c]; exact Or.inr ⟨rfl, by omega⟩
theorem lgo (x y : wSt) (n : Int32) (hn : n.toInt ≤ 100) (h0 : 0 ≤ (x 30 0).toInt) (h1 : (x 30 0).toInt ≤ 5000) (n1 n2 : Nat) (d : Int32) (p q : wSt) (hr : Rel2 p q) (hd : d = 0 ∨ nob p) (hd0 : 0 ≤ d.toInt) (h30 : (p 30 0).toInt = (x 30 0).toInt + d.toInt) (f1 : ((if 5000 - x 30 0 < n then 5000 - x 30 0 else n).toInt - d.toInt).toNat < n1) (f2 : (n.toInt - d.toInt).toNat < n2) : Rel2 (lX6_go_1 x n n1 d p) (lX7_go_1 y n n2 d q) := by
  have t5 : (5000 : Int32).toInt = 5000 := rfl
  have E := ending_sp x n h0 h1
  induction n1 generalizing n2 d p q with
  | zero => exact absurd f1 (Nat.not_lt_zero _)
  | succ n1 ih =>
    obtain ⟨m, rfl⟩ : ∃ m, n2 = m + 1 := ⟨n2 - 1, by omega⟩
    rw [lX6_go_1_s, lX7_go_1_s, hr.1.1 30 (by omega)]
    by_cases c : (if 5000 - x 30 0 < n then 5000 - x 30 0 else n) ≤ d
    · have c1 := i_le c
      rw [if_pos c]
      by_cases c2 : n ≤ d
      · rw [if_pos c2]; exact hr
      · have c3 := i_nle c2
        rw [if_neg c2, if_pos (show 5000 ≤ p 30 0 from Int32.le_iff_toInt_le.mpr (by omega))]
        exact hr
    · have c1 := i_nle c
      rw [if_neg c, if_neg (show ¬ n ≤ d from fun z => by have := i_le z; omega), if_neg (show ¬ 5000 ≤ p 30 0 from fun z => by have := i_le z; omega)]
      have D := day_eq hr x n d hd (by omega)
      have e1 : (d + 1).toInt = d.toInt + 1 := i_inc (by omega)
      exact ih m (d + 1) _ _ D.1 (Or.inr D.2.1) (by omega) (by rw [D.2.2]; omega) (by omega) (by omega)
theorem sim_go : Sim_go Rel2 := by
  intro x y hr n
  have t0 : (0 : Int32).toInt = 0 := rfl
  have t100 : (100 : Int32).toInt = 100 := rfl
  have g := hr.1.2.2.2.2.2.2.2.2.2.2.2
  unfold fX6_go fX7_go
  rw [in_eq x y]
  by_cases c : fX6_within x n 0 100 = 0
  · rw [if_pos c, if_pos c]; exact ⟨rfl, hr⟩
  · rw [if_neg c, if_neg c]
    have d := tX6_within _ _ _ _ (i_ne c)
    have H := lgo x y n (by omega) g.1 g.2 (((if 5000 - x 30 0 < n then 5000 - x 30 0 else n).toInt - (0 : Int32).toInt).toNat + 1) ((n.toInt - (0 : Int32).toInt).toNat + 1) 0 x y hr (Or.inl rfl) (by decide) (by omega) (by omega) (by omega)
    refine ⟨?_, H⟩
    dsimp only
    rw [H.1.1 30 (by omega)]
