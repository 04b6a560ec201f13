/-! Part 74: lose and back -/
theorem vStep_F {A : Prop} {n' n : Int} (h1 : ¬ A → n' = n) (h2 : A → n' = n - 1) : vStep A False n' n := ⟨fun _ z => z.elim, fun a _ => h1 a, fun a _ => h2 a, fun _ z => z.elim⟩
theorem row_rng {x : wSt} (hx : vX x) {r : Nat} (h : r < 20) : (0 ≤ (x 20 r).toInt ∧ (x 20 r).toInt ≤ 200) ∧ (0 ≤ (x 21 r).toInt ∧ (x 21 r).toInt ≤ 200) := by
  have hB := iI_b hx.1
  have e := i_cl (show 0 ≤ (x 36 0).toInt by omega)
  obtain ⟨h1, h2⟩ := hx.2.2.2.2.2.2.2.2.1 r h
  have c1 := cN_le (P := kIn x r) (x 36 0).toNatClampNeg
  have c2 := cN_le (P := kBx x r) (x 36 0).toNatClampNeg
  omega
theorem i_dec {a : Int32} (h : 0 ≤ a.toInt) : (a - 1).toInt = a.toInt - 1 := by
  have t1 : (1 : Int32).toInt = 1 := rfl
  have := i_rng a
  rw [i_sub (by omega), t1]
theorem isAt_c {x X : wSt} (h6 : X 6 = x 6) (h36 : X 36 = x 36) (c p : Int32) : fX1_isAt X c p = fX1_isAt x c p := by
  unfold fX1_isAt fX1_has
  rw [h6, h36]
/-- the late cost of both sides -/
theorem cost_eq {x y : wSt} (hs : rSame x y) (hI : iI x) {c : Int32} (c1 : ¬ fX1_has x c = 0) (h0 : 0 ≤ (x 10 c.toNatClampNeg).toInt) (h1 : (x 10 c.toNatClampNeg).toInt < (x 39 0).toInt) : fX6_lateCost x c (x 10 c.toNatClampNeg) = fX7_lose_j1 y c := by
  unfold fX6_lateCost fX7_lose_j1 fX1_isAt
  rw [if_neg c1, hs 6 (by omega), late_eq hs hI h0 h1]
  by_cases g : x 6 c.toNatClampNeg = 1
  · rw [if_pos g, if_pos g, if_neg (show ¬ (1 : Int32) = 0 by decide)]
  · rw [if_neg g, if_neg g, if_pos rfl]
theorem sim_lose : Sim_lose Rel := by
  intro x y hr c
  obtain ⟨hs, hb, hx⟩ := id hr
  have hB := iI_b hx.1
  have t0 : (0 : Int32).toInt = 0 := rfl
  have t1 : (1 : Int32).toInt = 1 := rfl
  have t4 : (4 : Int32).toInt = 4 := rfl
  have t5 : (5 : Int32).toInt = 5 := rfl
  have tm : (-1 : Int32).toInt = -1 := rfl
  unfold fX6_lose fX7_lose
  rw [isCopy_eq hs hx.1, hs 6 (by omega)]
  by_cases c1 : fX1_has x c = 0
  · rw [if_pos c1, if_pos c1]; exact ⟨rfl, hr⟩
  · rw [if_neg c1, if_neg c1]
    have ia : ∀ p : Int32, fX1_isAt x c p = (if x 6 c.toNatClampNeg = p then 1 else 0) := fun p => by unfold fX1_isAt; rw [if_neg c1]
    rw [ia, ia]
    have d1 := tX1_has x c (i_ne c1)
    have d2 := i_cl d1.1
    obtain ⟨k1, k2, k3, k4, k5, k6, k7, k8, k9⟩ := hx.2.2.2.1 c.toNatClampNeg (by omega)
    by_cases c4 : x 6 c.toNatClampNeg = 4
    · have := i_eq c4
      rw [if_pos c4, if_neg (show ¬ (1 : Int32) = 0 by decide), if_neg (show ¬ x 6 c.toNatClampNeg < 4 from fun z => by have := i_lt z; omega)]
      exact ⟨rfl, hr⟩
    · rw [if_neg c4, if_pos rfl]
      by_cases c5 : x 6 c.toNatClampNeg = 5
      · have := i_eq c5
        rw [if_pos c5, if_neg (show ¬ (1 : Int32) = 0 by decide), if_neg (show ¬ x 6 c.toNatClampNeg < 4 from fun z => by have := i_lt z; omega)]
        exact ⟨rfl, hr⟩
      · have n4 := i_ne c4
        have n5 := i_ne c5
        rw [if_neg c5, if_pos rfl, if_pos (show x 6 c.toNatClampNeg < 4 from Int32.lt_iff_toInt_lt.mpr (by omega))]
        by_cases c0 : x 6 c.toNatClampNeg = 0
        · have s0 := i_eq c0
          have r10 := k5 (by omega)
          have z11 : x 11 c.toNatClampNeg = -1 := Int32.toInt_inj.mp (by have := k7 (by omega); omega)
          have e1 : fX6_lose_j1 x c = (0, x) := by unfold fX6_lose_j1; rw [if_pos (hX3n r10)]
          have e2 : fX7_lose_j2 y c = (0, y) := by unfold fX7_lose_j2; rw [hs 6 (by omega), if_pos c0]
          rw [e1, e2]
          refine ⟨rfl, ?_⟩
          dsimp only
          refine leave_core hr d1.1 d1.2 (by omega) (fun k _ => rfl) (fun j _ => rfl) (fun k hk => ?_) ?_ ?_ ?_ ?_ (fun j hj => ?_) (fun r _ => vStep_F (fun _ => rfl) (fun z => by omega)) (fun r _ => vStep_F (fun _ => rfl) (fun z => by omega)) (fun w _ => Or.inl ⟨rfl, by omega⟩) (fun w hw => (hx.2.2.2.2.2.1 w hw).2.2.1) (fun w _ => ⟨rfl, rfl⟩)
          · rw [rset_ne (by omega), rset_ne (by omega), rset_ne (by omega), rset_ne (by omega)]; exact hs k (by omega)
          · rw [rset_ne (by decide), rset_ne (by decide), rset_ne (by decide), rset_eq, hs 6 (by omega)]
          · rw [rset_ne (by decide), rset_ne (by decide), rset_eq, hs 10 (by omega)]
          · rw [rset_ne (by decide), rset_ne (by decide), rset_ne (by decide), rset_ne (by decide), u_id z11]; exact hs 11 (by omega)
          · rw [rset_ne (by decide), rset_eq, hs 12 (by omega)]
          · rw [rset_eq, u_ne hj]
        · have n0 := i_ne c0
          obtain ⟨r0, r1⟩ := k4 (by omega)
          have er := i_cl r0
          have e1 : fX6_lose_j1 x c = ((x 9 c.toNatClampNeg + fX7_lose_j1 y c), (fX6_takeFrom (fX6_countAsHad (rset x 19 (upd (x 19) (x 10 c.toNatClampNeg).toNatClampNeg (x 19 (x 10 c.toNatClampNeg).toNatClampNeg + (x 9 c.toNatClampNeg + fX7_lose_j1 y c)))) (x 11 c.toNatClampNeg)) (x 10 c.toNatClampNeg) c)) := by
            unfold fX6_lose_j1
            rw [if_neg (hX3 r0 r1), cost_eq hs hx.1 c1 r0 r1]
          have e2 : fX7_lose_j2 y c = ((x 9 c.toNatClampNeg + fX7_lose_j1 y c), (fX7_had (rset y 19 (upd (x 19) (x 10 c.toNatClampNeg).toNatClampNeg (x 19 (x 10 c.toNatClampNeg).toNatClampNeg + (x 9 c.toNatClampNeg + fX7_lose_j1 y c)))) c)) := by
            unfold fX7_lose_j2
            rw [hs 6 (by omega), if_neg c0, hs 9 (by omega), hs 10 (by omega), hs 19 (by omega)]
          rw [e1, e2]
          refine ⟨rfl, ?_⟩
          dsimp only
          have H := had_both hr d1.1 d1.2 (upd (x 19) (x 10 c.toNatClampNeg).toNatClampNeg (x 19 (x 10 c.toNatClampNeg).toNatClampNeg + (x 9 c.toNatClampNeg + fX7_lose_j1 y c)))
          generalize upd (x 19) (x 10 c.toNatClampNeg).toNatClampNeg (x 19 (x 10 c.toNatClampNeg).toNatClampNeg + (x 9 c.toNatClampNeg + fX7_lose_j1 y c)) = f at H ⊢
          generalize fX6_countAsHad (rset x 19 f) (x 11 c.toNatClampNeg) = X2 at H ⊢
          generalize fX7_had (rset y 19 f) c = Y2 at H ⊢
          obtain ⟨fx, x19, fy, y11, y13, hl, hw, hz⟩ := H
          have rr := row_rng hx (r := (x 10 c.toNatClampNeg).toNatClampNeg) (by omega)
          unfold fX6_takeFrom
          rw [isAt_c (fx 6 (by omega)) (fx 36 (by omega)), ia, fx 20 (by omega), fx 21 (by omega)]
          have bb : ∀ X : wSt, (∀ k : Nat, ¬ (k = 20 ∨ k = 21) → X k = X2 k) → (∀ r : Nat, r < 20 → vStep ((x 6 c.toNatClampNeg).toInt = 1 ∧ (x 10 c.toNatClampNeg).toInt = (r : Int)) False (X 20 r).toInt (x 20 r).toInt) → (∀ r : Nat, r < 20 → vStep (((x 6 c.toNatClampNeg).toInt = 2 ∨ (x 6 c.toNatClampNeg).toInt = 3) ∧ (x 10 c.toNatClampNeg).toInt = (r : Int)) False (X 21 r).toInt (x 21 r).toInt) → Rel (fX1_leaveFor X c 5) (rset (rset (rset (rset Y2 6 (upd (Y2 6) c.toNatClampNeg 5)) 10 (upd (Y2 10) c.toNatClampNeg (-1))) 12 (upd (Y2 12) c.toNatClampNeg (-1))) 13 (upd (Y2 13) c.toNatClampNeg 0)) := by
            intro X hX h20 h21
            refine leave_core hr d1.1 d1.2 (by omega) (fun k hk => (hX k (by omega)).trans (fx k (by omega))) (fun j _ => by rw [hX 13 (by omega), fx 13 (by omega)]) (fun k hk => ?_) ?_ ?_ ?_ ?_ (fun j hj => ?_) h20 h21 (fun w h => by rw [hX 26 (by omega)]; exact hl w h) (fun w h => by rw [hX 24 (by omega), hX 25 (by omega)]; exact hw w h) (fun w h => by rw [hX 24 (by omega), hX 25 (by omega)]; exact hz w h)
            · rw [rset_ne (by omega), rset_ne (by omega), rset_ne (by omega), rset_ne (by omega), hX k (by omega)]; exact fy k (by omega)
            · rw [rset_ne (by decide), rset_ne (by decide), rset_ne (by decide), rset_eq, fy 6 (by omega), fx 6 (by omega)]
            · rw [rset_ne (by decide), rset_ne (by decide), rset_eq, fy 10 (by omega), fx 10 (by omega)]
            · rw [rset_ne (by decide), rset_ne (by decide), rset_ne (by decide), rset_ne (by decide)]; exact y11
            · rw [rset_ne (by decide), rset_eq, fy 12 (by omega), fx 12 (by omega)]
            · rw [rset_eq, u_ne hj, y13]
          by_cases s1 : x 6 c.toNatClampNeg = 1
          · have s1' := i_eq s1
            rw [if_pos s1, if_neg (show ¬ (1 : Int32) = 0 by decide)]
            refine bb _ (fun k hk => rset_ne (by omega)) (fun r h => ?_) (fun r h => ?_)
            · rw [rset_eq]
              by_cases e : r = (x 10 c.toNatClampNeg).toNatClampNeg
              · rw [e, u_eq]; exact vStep_F (fun z => by omega) (fun z => i_dec rr.1.1)
              · rw [u_ne e]; exact vStep_F (fun z => rfl) (fun z => by omega)
            · rw [rset_ne (by decide), fx 21 (by omega)]; exact vStep_F (fun z => rfl) (fun z => by omega)
          · have s1' := i_ne s1
            rw [if_neg s1, if_pos rfl]
            refine bb _ (fun k hk => rset_ne (by omega)) (fun r h => ?_) (fun r h => ?_)
            · rw [rset_ne (by decide), fx 20 (by omega)]; exact vStep_F (fun z => rfl) (fun z => by omega)
            · rw [rset_eq]
              by_cases e : r = (x 10 c.toNatClampNeg).toNatClampNeg
              · rw [e, u_eq]; exact vStep_F (fun z => by omega) (fun z => i_dec rr.2.1)
              · rw [u_ne e]; exact vStep_F (fun z => rfl) (fun z => by omega)
/-- the box days are no less than 0 -/
def vB (x : wSt) : Prop := ∀ j : Nat, 0 ≤ (x 17 j).toInt
def Rel2 (x y : wSt) : Prop := Rel x y ∧ vB x
theorem vB_fr {x x' : wSt} (h : x' 17 = x 17) (hx : vB x) : vB x' := by
  unfold vB
  rw [h]
  exact hx
theorem move_core {x y A B : wSt} (hr : Rel x y) {c : Nat} (h1 : (c : Int) < (x 36 0).toInt)
    (hA : ∀ k : Nat, ¬ (k = 6 ∨ k = 10 ∨ k = 11 ∨ k = 12 ∨ k = 13 ∨ k = 14 ∨ k = 15 ∨ k = 19 ∨ k = 20 ∨ k = 21 ∨ k = 24 ∨ k = 25 ∨ k = 26 ∨ k = 27 ∨ k = 37 ∨ k = 38) → A k = x k)
    (hAB : rSame A B)
    (ho : ∀ k : Nat, (k = 6 ∨ k = 10 ∨ k = 11 ∨ k = 12 ∨ k = 13 ∨ k = 14) → ∀ j : Nat, j ≠ c → A k j = x k j)
    (b13 : ∀ j : Nat, j ≠ c → B 13 j = y 13 j) (bc : ((A 6 c).toInt = 2 ∨ (A 6 c).toInt = 3) → B 13 c = A 13 c)
    (hC : vC1 A c) (hT : vT A)
    (h20 : ∀ r : Nat, r < 20 → vStep ((x 6 c).toInt = 1 ∧ (x 10 c).toInt = (r : Int)) ((A 6 c).toInt = 1 ∧ (A 10 c).toInt = (r : Int)) (A 20 r).toInt (x 20 r).toInt)
    (h21 : ∀ r : Nat, r < 20 → vStep (((x 6 c).toInt = 2 ∨ (x 6 c).toInt = 3) ∧ (x 10 c).toInt = (r : Int)) (((A 6 c).toInt = 2 ∨ (A 6 c).toInt = 3) ∧ (A 10 c).toInt = (r : Int)) (A 21 r).toInt (x 21 r).toInt)
    (hL : ∀ w : Nat, (w : Int) < (x 40 0).toInt → ((A 26 w = x 26 w ∧ ((A 11 c).toInt = (w : Int) ↔ (x 11 c).toInt = (w : Int))) ∨ ((A 26 w).toInt = -1 ∧ (x 11 c).toInt = (w : Int) ∧ ¬ (A 11 c).toInt = (w : Int)) ∨ ((A 26 w).toInt = (c : Int) ∧ (x 26 w).toInt = -1 ∧ (A 11 c).toInt = (w : Int))))
    (hW : ∀ w : Nat, (w : Int) < (x 40 0).toInt → (A 24 w).toInt = 0 → 0 ≤ (A 25 w).toInt ∧ (A 25 w).toInt < (x 0 (x 23 w).toNatClampNeg).toInt)
    (hZ : ∀ w : Nat, (x 40 0).toInt ≤ (w : Int) → A 24 w = x 24 w ∧ A 25 w = x 25 w) : Rel A B := by
  obtain ⟨hs, hb, hx⟩ := hr
  refine ⟨hAB, fun d hd hst => ?_, vX_one hx h1 (fun k hk => hA k (by omega)) ho hC hT h20 h21 hL hW hZ⟩
  rw [hA 36 (by omega)] at hd
  by_cases e : d = c
  · rw [e] at hst ⊢; exact bc hst
  · rw [ho 6 (by omega) d e] at hst
    rw [b13 d e, ho 13 (by omega) d e]
    exact hb d hd hst
/-- the rows of sendBack -/
theorem sb6 (x : wSt) (c d : Int32) : fX1_sendBack x c d 6 = upd (x 6) c.toNatClampNeg 3 := by
  unfold fX1_sendBack
  rw [rset_ne (by decide), rset_ne (by decide), rset_ne (by decide), move6]
theorem sb11 (x : wSt) (c d : Int32) : fX1_sendBack x c d 11 = upd (x 11) c.toNatClampNeg (-1) := by
  unfold fX1_sendBack
  rw [rset_ne (by decide), rset_ne (by decide), rset_eq, frX1_moveTo _ _ _ 11 (by decide)]
theorem sb12 (x : wSt) (c d : Int32) : fX1_sendBack x c d 12 = upd (x 12) c.toNatClampNeg (-1) := by
  unfold fX1_sendBack
  rw [rset_ne (by decide), rset_eq, frX1_moveTo _ _ _ 12 (by decide)]
theorem sb13 (x : wSt) (c d : Int32) : fX1_sendBack x c d 13 = upd (x 13) c.toNatClampNeg d := by
  unfold fX1_sendBack
  rw [rset_eq, frX1_moveTo _ _ _ 13 (by decide)]
theorem vT_sb {x : wSt} (hI : iI x) (hT : vT x) {c d : Int32} (h0 : 0 ≤ c.toInt) (h1 : c.toInt < (x 36 0).toInt) (ha : 0 ≤ (x 7 c.toNatClampNeg).toInt ∧ (x 7 c.toNatClampNeg).toInt ≤ 11) (hb : 0 ≤ (x 8 c.toNatClampNeg).toInt ∧ (x 8 c.toNatClampNeg).toInt ≤ 3) : vT (fX1_sendBack x c d) := by
  unfold fX1_sendBack
  exact vT_fr (fun k hk => (rset_ne (by omega)).trans ((rset_ne (by omega)).trans (rset_ne (by omega)))) (vT_move (p := 3) hI hT h0 h1 ha hb)
theorem sim_back : Sim_back Rel2 := by
  intro x y hr2 c
  obtain ⟨hr, hv⟩ := id hr2
  obtain ⟨hs, hb, hx⟩ := id hr
  have hB := iI_b hx.1
  have t0 : (0 : Int32).toInt = 0 := rfl
  have t1 : (1 : Int32).toInt = 1 := rfl
  have t3 : (3 : Int32).toInt = 3 := rfl
  have tm : (-1 : Int32).toInt = -1 := rfl
  unfold fX6_back fX7_back
  rw [isCopy_eq hs hx.1, hs 6 (by omega)]
  by_cases c1 : fX1_has x c = 0
  · rw [if_pos c1, if_pos (show fX1_isAt x c 1 = 0 from by unfold fX1_isAt; rw [if_pos c1])]; exact ⟨rfl, hr2⟩
  · rw [if_neg c1]
    have ia : fX1_isAt x c 1 = (if x 6 c.toNatClampNeg = 1 then 1 else 0) := by unfold fX1_isAt; rw [if_neg c1]
    rw [ia]
    by_cases c2 : x 6 c.toNatClampNeg = 1
    · have s1 := i_eq c2
      have d1 := tX1_has x c (i_ne c1)
      have d2 := i_cl d1.1
      obtain ⟨k1, k2, k3, k4, k5, k6, k7, k8, k9⟩ := hx.2.2.2.1 c.toNatClampNeg (by omega)
      obtain ⟨r0, r1⟩ := k4 (by omega)
      have er := i_cl r0
      rw [if_pos c2, if_pos c2, if_neg (show ¬ (1 : Int32) = 0 by decide), if_neg (hX3 r0 r1)]
      have ec : fX6_lateCost x c (x 10 c.toNatClampNeg) = fX7_late y c := by
        rw [cost_eq hs hx.1 c1 r0 r1]
        unfold fX7_lose_j1
        rw [hs 6 (by omega), if_pos c2]
      unfold fX6_back_j1 fX7_back_j2 fX7_back_j1
      rw [hs 10 (by omega), hs 19 (by omega), ec]
      refine ⟨rfl, ?_⟩
      dsimp only
      have H := had_both hr d1.1 d1.2 (upd (x 19) (x 10 c.toNatClampNeg).toNatClampNeg (x 19 (x 10 c.toNatClampNeg).toNatClampNeg + fX7_late y c))
      generalize upd (x 19) (x 10 c.toNatClampNeg).toNatClampNeg (x 19 (x 10 c.toNatClampNeg).toNatClampNeg + fX7_late y c) = f at H ⊢
      generalize fX6_countAsHad (rset x 19 f) (x 11 c.toNatClampNeg) = X2 at H ⊢
      generalize fX7_had (rset y 19 f) c = Y2 at H ⊢
      obtain ⟨fx, x19, fy, y11, y13, hl, hw, hz⟩ := H
      have rr := row_rng hx (r := (x 10 c.toNatClampNeg).toNatClampNeg) (by omega)
      rw [fy 17 (by omega), fy 6 (by omega), fy 10 (by omega), fy 12 (by omega), y13, fx 17 (by omega), fx 20 (by omega), fx 6 (by omega), fx 10 (by omega), fx 12 (by omega)]
      have g0 := hv (x 10 c.toNatClampNeg).toNatClampNeg
      have e3 : ∀ k : Nat, k ≠ 20 → rset X2 20 (upd (x 20) (x 10 c.toNatClampNeg).toNatClampNeg (x 20 (x 10 c.toNatClampNeg).toNatClampNeg - 1)) k = X2 k := fun k hk => rset_ne hk
      have e20 : rset X2 20 (upd (x 20) (x 10 c.toNatClampNeg).toNatClampNeg (x 20 (x 10 c.toNatClampNeg).toNatClampNeg - 1)) 20 = upd (x 20) (x 10 c.toNatClampNeg).toNatClampNeg (x 20 (x 10 c.toNatClampNeg).toNatClampNeg - 1) := rset_eq
      generalize rset X2 20 (upd (x 20) (x 10 c.toNatClampNeg).toNatClampNeg (x 20 (x 10 c.toNatClampNeg).toNatClampNeg - 1)) = X3 at e3 e20 ⊢
      by_cases g : x 17 (x 10 c.toNatClampNeg).toNatClampNeg = 0
      · rw [if_pos g, if_pos g, if_pos (show x 17 (x 10 c.toNatClampNeg).toNatClampNeg ≤ 0 from Int32.le_iff_toInt_le.mpr (by have := i_eq g; omega)), show fX1_shelve X3 c = fX1_leaveFor X3 c 0 from rfl]
        refine ⟨?_, vB_fr ((frX1_leaveFor _ _ _ 17 (by decide)).trans ((e3 17 (by decide)).trans (fx 17 (by omega)))) hv⟩
        refine leave_core hr d1.1 d1.2 (by omega) (fun k hk => (e3 k (by omega)).trans (fx k (by omega))) (fun j _ => by rw [e3 13 (by omega), fx 13 (by omega)]) (fun k hk => ?_) ?_ ?_ ?_ ?_ (fun j hj => ?_) (fun r h => ?_) (fun r h => ?_) (fun w h => by rw [e3 26 (by omega)]; exact hl w h) (fun w h => by rw [e3 24 (by omega), e3 25 (by omega)]; exact hw w h) (fun w h => by rw [e3 24 (by omega), e3 25 (by omega)]; exact hz w h)
        · rw [rset_ne (by omega), rset_ne (by omega), rset_ne (by omega), rset_ne (by omega), e3 k (by omega)]; exact fy k (by omega)
        · rw [rset_ne (by decide), rset_eq]
        · rw [rset_eq]
        · rw [rset_ne (by decide), rset_ne (by decide), rset_ne (by decide), rset_ne (by decide)]; exact y11
        · rw [rset_ne (by decide), rset_ne (by decide), rset_ne (by decide), rset_eq]
        · rw [rset_ne (by decide), rset_ne (by decide), rset_eq, u_ne hj]
        · rw [e20]
          by_cases e : r = (x 10 c.toNatClampNeg).toNatClampNeg
          · rw [e, u_eq]; exact vStep_F (fun z => by omega) (fun z => i_dec rr.1.1)
          · rw [u_ne e]; exact vStep_F (fun z => rfl) (fun z => by omega)
        · rw [e3 21 (by omega), fx 21 (by omega)]; exact vStep_F (fun z => rfl) (fun z => by omega)
      · have g1 := i_ne g
        rw [if_neg g, if_neg g, if_neg (show ¬ x 17 (x 10 c.toNatClampNeg).toNatClampNeg ≤ 0 from fun z => by have := i_le z; omega)]
        have f6 := sb6 X3 c (x 17 (x 10 c.toNatClampNeg).toNatClampNeg)
        have f11 := sb11 X3 c (x 17 (x 10 c.toNatClampNeg).toNatClampNeg)
        have f12 := sb12 X3 c (x 17 (x 10 c.toNatClampNeg).toNatClampNeg)
        have f13 := sb13 X3 c (x 17 (x 10 c.toNatClampNeg).toNatClampNeg)
        have fs : ∀ k : Nat, ¬ (k = 6 ∨ k = 11 ∨ k = 12 ∨ k = 13 ∨ k = 15 ∨ k = 37 ∨ k = 38) → fX1_sendBack X3 c (x 17 (x 10 c.toNatClampNeg).toNatClampNeg) k = X3 k := fun k hk => frX1_sendBack _ _ _ k (by omega)
        have fT : vT (fX1_sendBack X3 c (x 17 (x 10 c.toNatClampNeg).toNatClampNeg)) := vT_sb (iI_fr (fun k hk => (e3 k (by omega)).trans (fx k (by omega))) hx.1) (vT_fr (fun k hk => (e3 k (by omega)).trans (fx k (by omega))) hx.2.2.2.2.2.2.2.1) d1.1 (by rw [e3 36 (by omega), fx 36 (by omega)]; exact d1.2) (by rw [e3 7 (by omega), fx 7 (by omega)]; omega) (by rw [e3 8 (by omega), fx 8 (by omega)]; omega)
        rw [fs 21 (by omega), e3 21 (by omega), fx 21 (by omega)]
        rw [e3 6 (by omega), fx 6 (by omega)] at f6
        rw [e3 11 (by omega), fx 11 (by omega)] at f11
        rw [e3 12 (by omega), fx 12 (by omega)] at f12
        rw [e3 13 (by omega), fx 13 (by omega)] at f13
        generalize fX1_sendBack X3 c (x 17 (x 10 c.toNatClampNeg).toNatClampNeg) = Z at f6 f11 f12 f13 fs fT ⊢
        have a21 : rset Z 21 (upd (x 21) (x 10 c.toNatClampNeg).toNatClampNeg (x 21 (x 10 c.toNatClampNeg).toNatClampNeg + 1)) 21 = upd (x 21) (x 10 c.toNatClampNeg).toNatClampNeg (x 21 (x 10 c.toNatClampNeg).toNatClampNeg + 1) := rset_eq
        have aZ : ∀ k : Nat, k ≠ 21 → rset Z 21 (upd (x 21) (x 10 c.toNatClampNeg).toNatClampNeg (x 21 (x 10 c.toNatClampNeg).toNatClampNeg + 1)) k = Z k := fun k hk => rset_ne hk
        generalize rset Z 21 (upd (x 21) (x 10 c.toNatClampNeg).toNatClampNeg (x 21 (x 10 c.toNatClampNeg).toNatClampNeg + 1)) = A at a21 aZ ⊢
        have aX : ∀ k : Nat, ¬ (k = 6 ∨ k = 11 ∨ k = 12 ∨ k = 13 ∨ k = 15 ∨ k = 20 ∨ k = 21 ∨ k = 37 ∨ k = 38) → A k = X2 k := fun k hk => (aZ k (by omega)).trans ((fs k (by omega)).trans (e3 k (by omega)))
        have aT : vT A := vT_fr (fun k hk => aZ k (by omega)) fT
        have a6 : A 6 = upd (x 6) c.toNatClampNeg 3 := (aZ 6 (by omega)).trans f6
        have a11 : A 11 = upd (x 11) c.toNatClampNeg (-1) := (aZ 11 (by omega)).trans f11
        have a12 : A 12 = upd (x 12) c.toNatClampNeg (-1) := (aZ 12 (by omega)).trans f12
        have a13 : A 13 = upd (x 13) c.toNatClampNeg (x 17 (x 10 c.toNatClampNeg).toNatClampNeg) := (aZ 13 (by omega)).trans f13
        have a20 : A 20 = upd (x 20) (x 10 c.toNatClampNeg).toNatClampNeg (x 20 (x 10 c.toNatClampNeg).toNatClampNeg - 1) := (aZ 20 (by omega)).trans ((fs 20 (by omega)).trans e20)
        have a10 : A 10 = x 10 := (aX 10 (by omega)).trans (fx 10 (by omega))
        have s6 : A 6 c.toNatClampNeg = 3 := by rw [a6, u_eq]
        have s11 : A 11 c.toNatClampNeg = -1 := by rw [a11, u_eq]
        have s12 : A 12 c.toNatClampNeg = -1 := by rw [a12, u_eq]
        refine ⟨?_, vB_fr ((aX 17 (by omega)).trans (fx 17 (by omega))) hv⟩
        refine move_core hr (c := c.toNatClampNeg) (by omega) (fun k hk => (aX k (by omega)).trans (fx k (by omega))) (fun k hk => ?_) (fun k hk j hj => ?_) (fun j hj => ?_) (fun _ => ?_) ?_ aT (fun r h => ?_) (fun r h => ?_) (fun w h => ?_) (fun w h => by rw [aX 24 (by omega), aX 25 (by omega)]; exact hw w h) (fun w h => by rw [aX 24 (by omega), aX 25 (by omega)]; exact hz w h)
        · by_cases k6 : k = 6
          · rw [k6, rset_eq, a6]
          · by_cases k11 : k = 11
            · rw [k11, rset_ne (by decide), rset_ne (by decide), rset_ne (by decide), a11]; exact y11
            · by_cases k12 : k = 12
              · rw [k12, rset_ne (by decide), rset_ne (by decide), rset_eq, a12]
              · rw [rset_ne (by omega), rset_ne (by omega), rset_ne (by omega), aX k (by omega)]; exact fy k (by omega)
        · by_cases k6 : k = 6
          · rw [k6, a6, u_ne hj]
          · by_cases k11 : k = 11
            · rw [k11, a11, u_ne hj]
            · by_cases k12 : k = 12
              · rw [k12, a12, u_ne hj]
              · by_cases k13 : k = 13
                · rw [k13, a13, u_ne hj]
                · rw [aX k (by omega), fx k (by omega)]
        · rw [rset_ne (by decide), rset_eq, u_ne hj]
        · rw [rset_ne (by decide), rset_eq, u_eq, a13, u_eq]
        · unfold vC1
          rw [s6, s11, s12, a10, aX 7 (by omega), aX 8 (by omega), aX 34 (by omega), aX 39 (by omega), aX 40 (by omega), fx 7 (by omega), fx 8 (by omega), fx 34 (by omega), fx 39 (by omega), fx 40 (by omega)]
          omega
        · unfold vStep
          rw [s6, a10, a20]
          by_cases e : r = (x 10 c.toNatClampNeg).toNatClampNeg
          · rw [e, u_eq, i_dec rr.1.1]; omega
          · rw [u_ne e]; omega
        · unfold vStep
          rw [s6, a10, a21]
          by_cases e : r = (x 10 c.toNatClampNeg).toNatClampNeg
          · rw [e, u_eq, i_inc (by omega)]; omega
          · rw [u_ne e]; omega
        · rw [s11, aX 26 (by omega)]
          rcases hl w h with ⟨q1, q2⟩ | ⟨q1, q2⟩
          · exact Or.inl ⟨q1, ⟨fun z => by omega, fun z => absurd z q2⟩⟩
          · exact Or.inr (Or.inl ⟨q1, q2, by omega⟩)
    · rw [if_neg c2, if_neg c2, if_pos rfl]; exact ⟨rfl, hr2⟩
