/-! Part 64: bargain, title -/
theorem sim_bargain : Sim_bargain Rel := by
  intro x y hr t d n p b
  obtain ⟨hs, hb, hx⟩ := id hr
  have hB := iI_b hx.1
  have t40 : (40 : Int32).toInt = 40 := rfl
  unfold fX6_bargain fX7_bargain fX0_add
  rw [isTitle_eq hs hx.1, in_eq x y, in_eq x y, in_eq x y, in_eq x y, hs 1 (by omega), hs 2 (by omega), hs 3 (by omega), hs 4 (by omega), hs 5 (by omega), hs 35 (by omega)]
  split
  · exact ⟨rfl, hr⟩
  · split
    · exact ⟨rfl, hr⟩
    · split
      · exact ⟨rfl, hr⟩
      · split
        · exact ⟨rfl, hr⟩
        · split
          · exact ⟨rfl, hr⟩
          · by_cases c : x 35 0 < 40
            · have c1 := i_lt c
              have c2 : ¬ x 35 0 = 40 := fun z => by have := i_eq z; omega
              rw [if_pos c, if_neg c2]
              have e1 : (x 35 0 + 1).toInt = (x 35 0).toInt + 1 := i_inc (by omega)
              refine ⟨rfl, rS_set (rS_set (rS_set (rS_set (rS_set (rS_set hs))))), ?_, ?_⟩
              · dsimp only
                have f1 : ∀ (z : wSt) (k : Nat), ¬ (k = 1 ∨ k = 2 ∨ k = 3 ∨ k = 4 ∨ k = 5 ∨ k = 35) → (rset (rset (rset (rset (rset (rset z 1 (upd (x 1) (x 35 0).toNatClampNeg t)) 2 (upd (x 2) (x 35 0).toNatClampNeg d)) 3 (upd (x 3) (x 35 0).toNatClampNeg n)) 4 (upd (x 4) (x 35 0).toNatClampNeg p)) 5 (upd (x 5) (x 35 0).toNatClampNeg b)) 35 (fun _ => x 35 0 + 1)) k = z k := fun z k hk => (rset_ne (by omega)).trans ((rset_ne (by omega)).trans ((rset_ne (by omega)).trans ((rset_ne (by omega)).trans ((rset_ne (by omega)).trans (rset_ne (by omega))))))
                rw [f1 x 36 (by omega), f1 x 6 (by omega), f1 x 13 (by omega), f1 y 13 (by omega)]
                exact hb
              · obtain ⟨g1, g2, g3, g4, g5, g6, g7, g8, g9, g10⟩ := hx
                have fr : ∀ k : Nat, ¬ (k = 1 ∨ k = 2 ∨ k = 3 ∨ k = 4 ∨ k = 5 ∨ k = 35) → (rset (rset (rset (rset (rset (rset x 1 (upd (x 1) (x 35 0).toNatClampNeg t)) 2 (upd (x 2) (x 35 0).toNatClampNeg d)) 3 (upd (x 3) (x 35 0).toNatClampNeg n)) 4 (upd (x 4) (x 35 0).toNatClampNeg p)) 5 (upd (x 5) (x 35 0).toNatClampNeg b)) 35 (fun _ => x 35 0 + 1)) k = x k := fun k hk => (rset_ne (by omega)).trans ((rset_ne (by omega)).trans ((rset_ne (by omega)).trans ((rset_ne (by omega)).trans ((rset_ne (by omega)).trans (rset_ne (by omega))))))
                refine ⟨?_, dOk_fr (fun k hk => fr k (by omega)) g2, vV_fr (fun k hk => fr k (by omega)) g3, vC_fr (fun k hk => fr k (by omega)) g4, vJ_fr (fun k hk => fr k (by omega)) g5, vW_fr (fun k hk => fr k (by omega)) g6, vZ_fr (fun k hk => fr k (by omega)) g7, vT_fr (fun k hk => fr k (by omega)) g8, vR_fr (fun k hk => fr k (by omega)) g9, vNow_fr (fun k hk => fr k (by omega)) g10⟩
                obtain ⟨-, i0, i16, i22, i23⟩ := g1
                refine ⟨?_, ?_, ?_, ?_, ?_⟩
                · dsimp only
                  rw [fr 34 (by omega), fr 36 (by omega), fr 39 (by omega), fr 40 (by omega), rset_eq]
                  omega
                · dsimp only; rw [fr 0 (by omega)]; exact i0
                · dsimp only; rw [fr 16 (by omega)]; exact i16
                · dsimp only; rw [fr 22 (by omega)]; exact i22
                · dsimp only; rw [fr 23 (by omega)]; exact i23
            · have c1 := i_nlt c
              have c2 : x 35 0 = 40 := Int32.toInt_inj.mp (by omega)
              rw [if_neg c, if_pos c2]
              exact ⟨rfl, hr⟩
theorem sim_title : Sim_title Rel := by
  intro x y hr v
  obtain ⟨hs, hb, hx⟩ := id hr
  have hB := iI_b hx.1
  have t12 : (12 : Int32).toInt = 12 := rfl
  have t1 : (1 : Int32).toInt = 1 := rfl
  have t4 : (4 : Int32).toInt = 4 := rfl
  unfold fX6_title fX7_title fX4_add
  rw [in_eq x y, hs 0 (by omega), hs 34 (by omega)]
  split
  · exact ⟨rfl, hr⟩
  · rename_i c0
    have b0 := tX6_within _ _ _ _ (i_ne c0)
    by_cases c : x 34 0 < 12
    · have c1 := i_lt c
      have c2 : ¬ x 34 0 = 12 := fun z => by have := i_eq z; omega
      rw [if_pos c, if_neg c2]
      have e1 : (x 34 0 + 1).toInt = (x 34 0).toInt + 1 := i_inc (by omega)
      have e2 := i_cl (show 0 ≤ (x 34 0).toInt by omega)
      have fz : ∀ (z : wSt) (k : Nat), ¬ (k = 0 ∨ k = 34) → (rset (rset z 0 (upd (x 0) (x 34 0).toNatClampNeg v)) 34 (fun _ => x 34 0 + 1)) k = z k := fun z k hk => (rset_ne (by omega)).trans (rset_ne (by omega))
      have fr := fz x
      have r0 : (rset (rset x 0 (upd (x 0) (x 34 0).toNatClampNeg v)) 34 (fun _ => x 34 0 + 1)) 0 = upd (x 0) (x 34 0).toNatClampNeg v := (rset_ne (by decide)).trans rset_eq
      have r34 : (rset (rset x 0 (upd (x 0) (x 34 0).toNatClampNeg v)) 34 (fun _ => x 34 0 + 1)) 34 = (fun _ => x 34 0 + 1) := rset_eq
      refine ⟨rfl, rS_set (rS_set hs), ?_, ?_⟩
      · dsimp only
        rw [fr 36 (by omega), fr 6 (by omega), fr 13 (by omega), fz y 13 (by omega)]
        exact hb
      · dsimp only
        obtain ⟨g1, g2, g3, g4, g5, g6, g7, g8, g9, g10⟩ := hx
        refine ⟨?_, dOk_fr (fun k hk => fr k (by omega)) g2, ?_, ?_, vJ_fr (fun k hk => fr k (by omega)) g5, ?_, vZ_fr (fun k hk => fr k (by omega)) g7, vT_fr (fun k hk => fr k (by omega)) g8, vR_fr (fun k hk => fr k (by omega)) g9, vNow_fr (fun k hk => fr k (by omega)) g10⟩
        · obtain ⟨-, i0, i16, i22, i23⟩ := g1
          refine ⟨?_, ?_, ?_, ?_, ?_⟩
          · rw [r34, fr 35 (by omega), fr 36 (by omega), fr 39 (by omega), fr 40 (by omega)]
            dsimp only
            omega
          · rw [r0]
            intro i hi
            by_cases e : i = (x 34 0).toNatClampNeg
            · rw [e, u_eq]; omega
            · rw [u_ne e]; exact i0 i hi
          · rw [fr 16 (by omega)]; exact i16
          · rw [fr 22 (by omega)]; exact i22
          · rw [fr 23 (by omega)]; exact i23
        · intro t ht
          rw [r34] at ht
          rw [r0]
          dsimp only at ht
          by_cases e : t = (x 34 0).toNatClampNeg
          · rw [e, u_eq]; omega
          · rw [u_ne e]; exact g3 t (by omega)
        · intro c hc
          rw [fr 36 (by omega)] at hc
          have h := g4 c hc
          rw [fr 6 (by omega), fr 7 (by omega), fr 8 (by omega), fr 10 (by omega), fr 11 (by omega), fr 12 (by omega), fr 13 (by omega), fr 39 (by omega), fr 40 (by omega), r34]
          refine ⟨h.1, ⟨h.2.1.1, ?_⟩, h.2.2⟩
          dsimp only
          have := h.2.1.2
          omega
        · intro w hw
          rw [fr 40 (by omega)] at hw
          have h := g6 w hw
          rw [fr 22 (by omega), fr 39 (by omega), fr 23 (by omega), fr 24 (by omega), fr 25 (by omega), fr 26 (by omega), fr 36 (by omega), fr 11 (by omega), r34, r0]
          have h2 := h.2.1
          have h3 := i_cl h2.1
          refine ⟨h.1, ⟨h2.1, ?_⟩, ?_, h.2.2.2⟩
          · dsimp only; omega
          · rw [u_ne (by omega)]; exact h.2.2.1
    · have c1 := i_nlt c
      have c2 : x 34 0 = 12 := Int32.toInt_inj.mp (by omega)
      rw [if_neg c, if_pos c2]
      exact ⟨rfl, hr⟩
theorem cN_none {P : Nat → Bool} {n : Nat} (h : ∀ i, i < n → P i = false) : cN P n = 0 := cN_zero h
theorem sim_reader : Sim_reader Rel := by
  intro x y hr k d l
  obtain ⟨hs, hb, hx⟩ := id hr
  have hB := iI_b hx.1
  have t20 : (20 : Int32).toInt = 20 := rfl
  have t0 : (0 : Int32).toInt = 0 := rfl
  have t2 : (2 : Int32).toInt = 2 := rfl
  unfold fX6_reader fX7_reader fX3_add
  rw [in_eq x y, in_eq x y, in_eq x y, hs 16 (by omega), hs 17 (by omega), hs 18 (by omega), hs 39 (by omega)]
  split
  · exact ⟨rfl, hr⟩
  · rename_i c0
    have b0 := tX6_within _ _ _ _ (i_ne c0)
    split
    · exact ⟨rfl, hr⟩
    · split
      · exact ⟨rfl, hr⟩
      · by_cases c : x 39 0 < 20
        · have c1 := i_lt c
          have c2 : ¬ x 39 0 = 20 := fun z => by have := i_eq z; omega
          rw [if_pos c, if_neg c2]
          have e1 : (x 39 0 + 1).toInt = (x 39 0).toInt + 1 := i_inc (by omega)
          have e2 := i_cl (show 0 ≤ (x 39 0).toInt by omega)
          have fz : ∀ (z : wSt) (j : Nat), ¬ (j = 16 ∨ j = 17 ∨ j = 18 ∨ j = 39) → (rset (rset (rset (rset z 16 (upd (x 16) (x 39 0).toNatClampNeg k)) 17 (upd (x 17) (x 39 0).toNatClampNeg d)) 18 (upd (x 18) (x 39 0).toNatClampNeg l)) 39 (fun _ => x 39 0 + 1)) j = z j := fun z j hj => (rset_ne (by omega)).trans ((rset_ne (by omega)).trans ((rset_ne (by omega)).trans (rset_ne (by omega))))
          have fr := fz x
          have r16 : (rset (rset (rset (rset x 16 (upd (x 16) (x 39 0).toNatClampNeg k)) 17 (upd (x 17) (x 39 0).toNatClampNeg d)) 18 (upd (x 18) (x 39 0).toNatClampNeg l)) 39 (fun _ => x 39 0 + 1)) 16 = upd (x 16) (x 39 0).toNatClampNeg k := (rset_ne (by decide)).trans ((rset_ne (by decide)).trans ((rset_ne (by decide)).trans rset_eq))
          have r39 : (rset (rset (rset (rset x 16 (upd (x 16) (x 39 0).toNatClampNeg k)) 17 (upd (x 17) (x 39 0).toNatClampNeg d)) 18 (upd (x 18) (x 39 0).toNatClampNeg l)) 39 (fun _ => x 39 0 + 1)) 39 = (fun _ => x 39 0 + 1) := rset_eq
          refine ⟨rfl, rS_set (rS_set (rS_set (rS_set hs))), ?_, ?_⟩
          · dsimp only
            rw [fr 36 (by omega), fr 6 (by omega), fr 13 (by omega), fz y 13 (by omega)]
            exact hb
          · dsimp only
            obtain ⟨g1, g2, g3, g4, g5, g6, g7, g8, g9, g10⟩ := hx
            refine ⟨?_, dOk_fr (fun j hj => fr j (by omega)) g2, vV_fr (fun j hj => fr j (by omega)) g3, ?_, vJ_fr (fun j hj => fr j (by omega)) g5, ?_, vZ_fr (fun j hj => fr j (by omega)) g7, vT_fr (fun j hj => fr j (by omega)) g8, vR_fr (fun j hj => fr j (by omega)) g9, vNow_fr (fun j hj => fr j (by omega)) g10⟩
            · obtain ⟨-, i0, i16, i22, i23⟩ := g1
              refine ⟨?_, ?_, ?_, ?_, ?_⟩
              · rw [r39, fr 34 (by omega), fr 35 (by omega), fr 36 (by omega), fr 40 (by omega)]
                dsimp only
                omega
              · rw [fr 0 (by omega)]; exact i0
              · rw [r16]
                intro i hi
                by_cases e : i = (x 39 0).toNatClampNeg
                · rw [e, u_eq]; omega
                · rw [u_ne e]; exact i16 i hi
              · rw [fr 22 (by omega)]; exact i22
              · rw [fr 23 (by omega)]; exact i23
            · intro c hc
              rw [fr 36 (by omega)] at hc
              have h := g4 c hc
              rw [fr 6 (by omega), fr 7 (by omega), fr 8 (by omega), fr 10 (by omega), fr 11 (by omega), fr 12 (by omega), fr 13 (by omega), fr 34 (by omega), fr 40 (by omega), r39]
              refine ⟨h.1, h.2.1, h.2.2.1, fun z => ?_, h.2.2.2.2⟩
              have := h.2.2.2.1 z
              dsimp only
              omega
            · intro w hw
              rw [fr 40 (by omega)] at hw
              have h := g6 w hw
              rw [fr 22 (by omega), fr 23 (by omega), fr 24 (by omega), fr 25 (by omega), fr 26 (by omega), fr 36 (by omega), fr 11 (by omega), fr 34 (by omega), fr 0 (by omega), r39]
              refine ⟨⟨h.1.1, ?_⟩, h.2⟩
              have := h.1.2
              dsimp only
              omega
        · have c1 := i_nlt c
          have c2 : x 39 0 = 20 := Int32.toInt_inj.mp (by omega)
          rw [if_neg c, if_pos c2]
          exact ⟨rfl, hr⟩
