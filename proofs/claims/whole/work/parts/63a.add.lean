/-! Part 63: frames of the relation, piece by piece; calls that add -/
theorem dOk_fr {x x' : wSt} (h : ∀ k : Nat, (k = 28 ∨ k = 29) → x' k = x k) (hx : dOk x) : dOk x' := by
  have h28 := h 28 (by omega)
  have h29 := h 29 (by omega)
  unfold dOk at hx ⊢
  simp only [h28, h29]
  exact hx
theorem vV_fr {x x' : wSt} (h : ∀ k : Nat, (k = 0 ∨ k = 34) → x' k = x k) (hx : vV x) : vV x' := by
  have h0 := h 0 (by omega)
  have h34 := h 34 (by omega)
  unfold vV at hx ⊢
  simp only [h0, h34]
  exact hx
theorem vC_fr {x x' : wSt} (h : ∀ k : Nat, (k = 6 ∨ k = 7 ∨ k = 8 ∨ k = 10 ∨ k = 11 ∨ k = 12 ∨ k = 13 ∨ k = 34 ∨ k = 36 ∨ k = 39 ∨ k = 40) → x' k = x k) (hx : vC x) : vC x' := by
  have h6 := h 6 (by omega)
  have h7 := h 7 (by omega)
  have h8 := h 8 (by omega)
  have h10 := h 10 (by omega)
  have h11 := h 11 (by omega)
  have h12 := h 12 (by omega)
  have h13 := h 13 (by omega)
  have h34 := h 34 (by omega)
  have h36 := h 36 (by omega)
  have h39 := h 39 (by omega)
  have h40 := h 40 (by omega)
  unfold vC at hx ⊢
  simp only [h6, h7, h8, h10, h11, h12, h13, h34, h36, h39, h40]
  exact hx
theorem vJ_fr {x x' : wSt} (h : ∀ k : Nat, (k = 11 ∨ k = 36) → x' k = x k) (hx : vJ x) : vJ x' := by
  have h11 := h 11 (by omega)
  have h36 := h 36 (by omega)
  unfold vJ at hx ⊢
  simp only [h11, h36]
  exact hx
theorem vW_fr {x x' : wSt} (h : ∀ k : Nat, (k = 0 ∨ k = 11 ∨ k = 22 ∨ k = 23 ∨ k = 24 ∨ k = 25 ∨ k = 26 ∨ k = 34 ∨ k = 36 ∨ k = 39 ∨ k = 40) → x' k = x k) (hx : vW x) : vW x' := by
  have h0 := h 0 (by omega)
  have h11 := h 11 (by omega)
  have h22 := h 22 (by omega)
  have h23 := h 23 (by omega)
  have h24 := h 24 (by omega)
  have h25 := h 25 (by omega)
  have h26 := h 26 (by omega)
  have h34 := h 34 (by omega)
  have h36 := h 36 (by omega)
  have h39 := h 39 (by omega)
  have h40 := h 40 (by omega)
  unfold vW at hx ⊢
  simp only [h0, h11, h22, h23, h24, h25, h26, h34, h36, h39, h40]
  exact hx
theorem vZ_fr {x x' : wSt} (h : ∀ k : Nat, (k = 6 ∨ k = 11 ∨ k = 14 ∨ k = 24 ∨ k = 25 ∨ k = 36 ∨ k = 40) → x' k = x k) (hx : vZ x) : vZ x' := by
  have h6 := h 6 (by omega)
  have h11 := h 11 (by omega)
  have h14 := h 14 (by omega)
  have h24 := h 24 (by omega)
  have h25 := h 25 (by omega)
  have h36 := h 36 (by omega)
  have h40 := h 40 (by omega)
  unfold vZ at hx ⊢
  simp only [h6, h11, h14, h24, h25, h36, h40]
  exact hx
theorem vT_fr {x x' : wSt} (h : ∀ k : Nat, (k = 6 ∨ k = 7 ∨ k = 8 ∨ k = 15 ∨ k = 36 ∨ k = 37 ∨ k = 38) → x' k = x k) (hx : vT x) : vT x' := by
  have h6 := h 6 (by omega)
  have h7 := h 7 (by omega)
  have h8 := h 8 (by omega)
  have h15 := h 15 (by omega)
  have h36 := h 36 (by omega)
  have h37 := h 37 (by omega)
  have h38 := h 38 (by omega)
  unfold vT kSh kBa kLo at hx ⊢
  simp only [h6, h7, h8, h15, h36, h37, h38]
  exact hx
theorem vR_fr {x x' : wSt} (h : ∀ k : Nat, (k = 6 ∨ k = 10 ∨ k = 20 ∨ k = 21 ∨ k = 36) → x' k = x k) (hx : vR x) : vR x' := by
  have h6 := h 6 (by omega)
  have h10 := h 10 (by omega)
  have h20 := h 20 (by omega)
  have h21 := h 21 (by omega)
  have h36 := h 36 (by omega)
  unfold vR kIn kBx at hx ⊢
  simp only [h6, h10, h20, h21, h36]
  exact hx
theorem vNow_fr {x x' : wSt} (h : ∀ k : Nat, (k = 30) → x' k = x k) (hx : vNow x) : vNow x' := by
  have h30 := h 30 (by omega)
  unfold vNow at hx ⊢
  simp only [h30]
  exact hx
theorem u_eq {f : Nat → Int32} {k : Nat} {v : Int32} : upd f k v k = v := if_pos rfl
theorem u_ne {f : Nat → Int32} {k j : Nat} {v : Int32} (h : j ≠ k) : upd f k v j = f j := if_neg h
theorem sim_demand : Sim_demand Rel := by
  intro x y hr w n s
  obtain ⟨hs, hb, hx⟩ := id hr
  unfold fX6_demand fX7_demand
  rw [in_eq x y, in_eq x y, in_eq x y, show fX7_demand_j1 y w n s = fX6_demand_j1 x w n s from rfl, hs 28 (by omega), hs 29 (by omega)]
  split
  · exact ⟨rfl, hr⟩
  · rename_i c1
    split
    · exact ⟨rfl, hr⟩
    · rename_i c2
      split
      · exact ⟨rfl, hr⟩
      · rename_i c3
        have b1 := tX6_within _ _ _ _ (i_ne c1)
        have b2 := tX6_within _ _ _ _ (i_ne c2)
        have b3 := tX6_within _ _ _ _ (i_ne c3)
        have t0 : (0 : Int32).toInt = 0 := rfl
        have t20 : (20 : Int32).toInt = 20 := rfl
        have t50 : (50 : Int32).toInt = 50 := rfl
        have t1000 : (1000 : Int32).toInt = 1000 := rfl
        have b4 : n.toInt ≤ 50 := by
          unfold fX6_demand_j1 at b2
          split at b2 <;> omega
        refine ⟨rfl, rS_set (rS_set hs), ?_, ?_⟩
        · dsimp only
          rw [rset_ne (by decide), rset_ne (by decide), rset_ne (by decide), rset_ne (by decide), rset_ne (show (13 : Nat) ≠ 29 by decide), rset_ne (show (13 : Nat) ≠ 28 by decide), rset_ne (show (13 : Nat) ≠ 29 by decide), rset_ne (show (13 : Nat) ≠ 28 by decide)]
          exact hb
        · obtain ⟨g1, g2, g3, g4, g5, g6, g7, g8, g9, g10⟩ := hx
          have fr : ∀ k : Nat, ¬ (k = 28 ∨ k = 29) → rset (rset x 28 (upd (x 28) w.toNatClampNeg n)) 29 (upd (x 29) w.toNatClampNeg s) k = x k := fun k hk => (rset_ne (by omega)).trans (rset_ne (by omega))
          refine ⟨iI_fr (fun k hk => fr k (by omega)) g1, ?_, vV_fr (fun k hk => fr k (by omega)) g3, vC_fr (fun k hk => fr k (by omega)) g4, vJ_fr (fun k hk => fr k (by omega)) g5, vW_fr (fun k hk => fr k (by omega)) g6, vZ_fr (fun k hk => fr k (by omega)) g7, vT_fr (fun k hk => fr k (by omega)) g8, vR_fr (fun k hk => fr k (by omega)) g9, vNow_fr (fun k hk => fr k (by omega)) g10⟩
          intro j hj
          dsimp only
          rw [rset_ne (show (28 : Nat) ≠ 29 by decide), rset_eq, rset_eq]
          by_cases e : j = w.toNatClampNeg
          · rw [e, u_eq, u_eq]; omega
          · rw [u_ne e, u_ne e]; exact g2 j hj
theorem sim_unwish : Sim_unwish Rel := by
  intro x y hr w
  obtain ⟨hs, hb, hx⟩ := id hr
  unfold fX6_unwish fX7_unwish fX5_isOpen
  rw [isWish_eq hs hx.1, hs 24 (by omega)]
  by_cases c1 : fX5_has x w = 0
  · rw [if_pos c1, if_pos c1]; exact ⟨rfl, hr⟩
  · rw [if_neg c1, if_neg c1]
    by_cases c2 : x 24 w.toNatClampNeg = 0
    · rw [if_pos c2, if_pos c2, if_neg (by decide)]
      have b1 := tX5_has x w (i_ne c1)
      have b2 := i_cl b1.1
      refine ⟨rfl, rS_set hs, ?_, ?_⟩
      · dsimp only
        rw [rset_ne (show (36 : Nat) ≠ 24 by decide), rset_ne (show (6 : Nat) ≠ 24 by decide), rset_ne (show (13 : Nat) ≠ 24 by decide), rset_ne (show (13 : Nat) ≠ 24 by decide)]
        exact hb
      · obtain ⟨g1, g2, g3, g4, g5, g6, g7, g8, g9, g10⟩ := hx
        have fr : ∀ k : Nat, ¬ (k = 24) → rset x 24 (upd (x 24) w.toNatClampNeg 2) k = x k := fun k hk => rset_ne hk
        refine ⟨iI_fr (fun k hk => fr k (by omega)) g1, dOk_fr (fun k hk => fr k (by omega)) g2, vV_fr (fun k hk => fr k (by omega)) g3, vC_fr (fun k hk => fr k (by omega)) g4, vJ_fr (fun k hk => fr k (by omega)) g5, ?_, ?_, vT_fr (fun k hk => fr k (by omega)) g8, vR_fr (fun k hk => fr k (by omega)) g9, vNow_fr (fun k hk => fr k (by omega)) g10⟩
        · intro j hj
          dsimp only at hj ⊢
          rw [fr 40 (by omega)] at hj
          have h := g6 j hj
          rw [fr 22 (by omega), fr 39 (by omega), fr 23 (by omega), fr 34 (by omega), fr 25 (by omega), fr 0 (by omega), fr 26 (by omega), fr 36 (by omega), fr 11 (by omega), rset_eq]
          refine ⟨h.1, h.2.1, ?_, h.2.2.2⟩
          by_cases e : j = w.toNatClampNeg
          · rw [e, u_eq]; intro z; exact absurd z (by decide)
          · rw [u_ne e]; exact h.2.2.1
        · refine ⟨fun c hc => ?_, fun v hv => ?_⟩
          · dsimp only at hc ⊢
            rw [fr 36 (by omega)] at hc
            rw [fr 14 (by omega), fr 6 (by omega), fr 11 (by omega)]
            exact g7.1 c hc
          · dsimp only at hv ⊢
            rw [fr 40 (by omega)] at hv
            rw [fr 25 (by omega), rset_eq, u_ne (by omega)]
            exact g7.2 v hv
    · rw [if_neg c2, if_neg c2, if_pos rfl]; exact ⟨rfl, hr⟩
