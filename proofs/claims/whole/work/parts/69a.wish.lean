/-! Part 69: wish -/
theorem u_id {f : Nat → Int32} {k : Nat} {v : Int32} (h : f k = v) : upd f k v = f := by
  funext j
  by_cases e : j = k
  · rw [e, u_eq, h]
  · exact u_ne e
theorem lwish {x y : wSt} (hs : rSame x y) (r t : Int32) (n : Nat) (b : Int32) : lX7_wish_1 y r t n b = (if lX5_hasOpen_1 x r t n b = 0 then ((x 40 0 + 1 - 1), (rset (rset (rset (rset y 22 (upd (x 22) (x 40 0).toNatClampNeg r)) 23 (upd (x 23) (x 40 0).toNatClampNeg t)) 27 (upd (x 27) (x 40 0).toNatClampNeg (x 30 0))) 40 (fun _ => x 40 0 + 1))) else ((-1), y)) := by
  induction n generalizing b with
  | zero => rfl
  | succ n ih =>
    rw [lX7_wish_1_s, lX5_hasOpen_1_s, hs 22 (by omega), hs 23 (by omega), hs 24 (by omega), hs 27 (by omega), hs 30 (by omega), hs 40 (by omega), ih]
    by_cases c : x 40 0 ≤ b
    · rw [if_pos c, if_pos c, if_pos rfl]
    · rw [if_neg c, if_neg c]
      by_cases g1 : x 22 b.toNatClampNeg = r
      · by_cases g2 : x 23 b.toNatClampNeg = t
        · by_cases g3 : x 24 b.toNatClampNeg = 0
          · rw [if_pos g1, if_pos g2, if_pos g3, if_pos g3, if_pos g1, if_pos g2, if_neg (show ¬ (1 : Int32) = 0 by decide)]
          · rw [if_pos g1, if_pos g2, if_neg g3, if_neg g3]
        · rw [if_pos g1, if_neg g2]
          by_cases g3 : x 24 b.toNatClampNeg = 0
          · rw [if_pos g3, if_pos g1, if_neg g2]
          · rw [if_neg g3]
      · rw [if_neg g1]
        by_cases g3 : x 24 b.toNatClampNeg = 0
        · rw [if_pos g3, if_neg g1]
        · rw [if_neg g3]
theorem sim_wish : Sim_wish Rel := by
  intro x y hr r t
  obtain ⟨hs, hb, hx⟩ := id hr
  have hB := iI_b hx.1
  have t100 : (100 : Int32).toInt = 100 := rfl
  have t1 : (1 : Int32).toInt = 1 := rfl
  have t0 : (0 : Int32).toInt = 0 := rfl
  unfold fX6_wish fX7_wish fX5_hasOpen fX5_add
  rw [isReader_eq hs hx.1, isTitle_eq hs hx.1, lwish hs, hs 40 (by omega)]
  by_cases c1 : fX3_has x r = 0
  · rw [if_pos c1, if_pos c1]; exact ⟨rfl, hr⟩
  · rw [if_neg c1, if_neg c1]
    by_cases c2 : fX4_has x t = 0
    · rw [if_pos c2, if_pos c2]; exact ⟨rfl, hr⟩
    · rw [if_neg c2, if_neg c2]
      by_cases c3 : x 40 0 < 100
      · have d3 := i_lt c3
        rw [if_pos c3, if_neg (show ¬ x 40 0 = 100 from fun z => by have := i_eq z; omega)]
        by_cases c4 : lX5_hasOpen_1 x r t (((x 40 0).toInt - (0 : Int32).toInt).toNat + 1) 0 = 0
        · rw [if_pos c4, if_pos c4]
          have d1 := tX3_has x r (i_ne c1)
          have d2 := tX4_has x t (i_ne c2)
          have e1 : (x 40 0 + 1).toInt = (x 40 0).toInt + 1 := i_inc (by omega)
          have e2 := i_cl (show 0 ≤ (x 40 0).toInt by omega)
          have e3 : x 40 0 = x 40 0 + 1 - 1 := Int32.toInt_inj.mp (by rw [i_sub (by omega)]; omega)
          obtain ⟨g1, g2, g3, g4, g5, g6, g7, g8, g9, g10⟩ := hx
          have z24 := (g7.2 (x 40 0).toNatClampNeg (by omega)).1
          have z25 := (g7.2 (x 40 0).toNatClampNeg (by omega)).2
          have fr : ∀ k : Nat, ¬ (k = 22 ∨ k = 23 ∨ k = 24 ∨ k = 25 ∨ k = 26 ∨ k = 27 ∨ k = 40) → (rset (rset (rset (rset (rset (rset (rset x 40 (fun _ => x 40 0 + 1)) 22 (upd (x 22) (x 40 0).toNatClampNeg r)) 23 (upd (x 23) (x 40 0).toNatClampNeg t)) 24 (upd (x 24) (x 40 0).toNatClampNeg 0)) 25 (upd (x 25) (x 40 0).toNatClampNeg 0)) 26 (upd (x 26) (x 40 0).toNatClampNeg (-1))) 27 (upd (x 27) (x 40 0).toNatClampNeg (x 30 0))) k = x k := fun k hk => (rset_ne (by omega)).trans ((rset_ne (by omega)).trans ((rset_ne (by omega)).trans ((rset_ne (by omega)).trans ((rset_ne (by omega)).trans ((rset_ne (by omega)).trans (rset_ne (by omega)))))))
          have fy : ∀ k : Nat, ¬ (k = 22 ∨ k = 23 ∨ k = 27 ∨ k = 40) → (rset (rset (rset (rset y 22 (upd (x 22) (x 40 0).toNatClampNeg r)) 23 (upd (x 23) (x 40 0).toNatClampNeg t)) 27 (upd (x 27) (x 40 0).toNatClampNeg (x 30 0))) 40 (fun _ => x 40 0 + 1)) k = y k := fun k hk => (rset_ne (by omega)).trans ((rset_ne (by omega)).trans ((rset_ne (by omega)).trans (rset_ne (by omega))))
          have r27 : (rset (rset (rset (rset (rset (rset (rset x 40 (fun _ => x 40 0 + 1)) 22 (upd (x 22) (x 40 0).toNatClampNeg r)) 23 (upd (x 23) (x 40 0).toNatClampNeg t)) 24 (upd (x 24) (x 40 0).toNatClampNeg 0)) 25 (upd (x 25) (x 40 0).toNatClampNeg 0)) 26 (upd (x 26) (x 40 0).toNatClampNeg (-1))) 27 (upd (x 27) (x 40 0).toNatClampNeg (x 30 0))) 27 = upd (x 27) (x 40 0).toNatClampNeg (x 30 0) := rset_eq
          have r26 : (rset (rset (rset (rset (rset (rset (rset x 40 (fun _ => x 40 0 + 1)) 22 (upd (x 22) (x 40 0).toNatClampNeg r)) 23 (upd (x 23) (x 40 0).toNatClampNeg t)) 24 (upd (x 24) (x 40 0).toNatClampNeg 0)) 25 (upd (x 25) (x 40 0).toNatClampNeg 0)) 26 (upd (x 26) (x 40 0).toNatClampNeg (-1))) 27 (upd (x 27) (x 40 0).toNatClampNeg (x 30 0))) 26 = upd (x 26) (x 40 0).toNatClampNeg (-1) := (rset_ne (by decide)).trans (rset_eq)
          have r25 : (rset (rset (rset (rset (rset (rset (rset x 40 (fun _ => x 40 0 + 1)) 22 (upd (x 22) (x 40 0).toNatClampNeg r)) 23 (upd (x 23) (x 40 0).toNatClampNeg t)) 24 (upd (x 24) (x 40 0).toNatClampNeg 0)) 25 (upd (x 25) (x 40 0).toNatClampNeg 0)) 26 (upd (x 26) (x 40 0).toNatClampNeg (-1))) 27 (upd (x 27) (x 40 0).toNatClampNeg (x 30 0))) 25 = x 25 := ((rset_ne (by decide)).trans ((rset_ne (by decide)).trans (rset_eq)) : (rset (rset (rset (rset (rset (rset (rset x 40 (fun _ => x 40 0 + 1)) 22 (upd (x 22) (x 40 0).toNatClampNeg r)) 23 (upd (x 23) (x 40 0).toNatClampNeg t)) 24 (upd (x 24) (x 40 0).toNatClampNeg 0)) 25 (upd (x 25) (x 40 0).toNatClampNeg 0)) 26 (upd (x 26) (x 40 0).toNatClampNeg (-1))) 27 (upd (x 27) (x 40 0).toNatClampNeg (x 30 0))) 25 = upd (x 25) (x 40 0).toNatClampNeg 0).trans (u_id z25)
          have r24 : (rset (rset (rset (rset (rset (rset (rset x 40 (fun _ => x 40 0 + 1)) 22 (upd (x 22) (x 40 0).toNatClampNeg r)) 23 (upd (x 23) (x 40 0).toNatClampNeg t)) 24 (upd (x 24) (x 40 0).toNatClampNeg 0)) 25 (upd (x 25) (x 40 0).toNatClampNeg 0)) 26 (upd (x 26) (x 40 0).toNatClampNeg (-1))) 27 (upd (x 27) (x 40 0).toNatClampNeg (x 30 0))) 24 = x 24 := ((rset_ne (by decide)).trans ((rset_ne (by decide)).trans ((rset_ne (by decide)).trans (rset_eq))) : (rset (rset (rset (rset (rset (rset (rset x 40 (fun _ => x 40 0 + 1)) 22 (upd (x 22) (x 40 0).toNatClampNeg r)) 23 (upd (x 23) (x 40 0).toNatClampNeg t)) 24 (upd (x 24) (x 40 0).toNatClampNeg 0)) 25 (upd (x 25) (x 40 0).toNatClampNeg 0)) 26 (upd (x 26) (x 40 0).toNatClampNeg (-1))) 27 (upd (x 27) (x 40 0).toNatClampNeg (x 30 0))) 24 = upd (x 24) (x 40 0).toNatClampNeg 0).trans (u_id z24)
          have r23 : (rset (rset (rset (rset (rset (rset (rset x 40 (fun _ => x 40 0 + 1)) 22 (upd (x 22) (x 40 0).toNatClampNeg r)) 23 (upd (x 23) (x 40 0).toNatClampNeg t)) 24 (upd (x 24) (x 40 0).toNatClampNeg 0)) 25 (upd (x 25) (x 40 0).toNatClampNeg 0)) 26 (upd (x 26) (x 40 0).toNatClampNeg (-1))) 27 (upd (x 27) (x 40 0).toNatClampNeg (x 30 0))) 23 = upd (x 23) (x 40 0).toNatClampNeg t := (rset_ne (by decide)).trans ((rset_ne (by decide)).trans ((rset_ne (by decide)).trans ((rset_ne (by decide)).trans (rset_eq))))
          have r22 : (rset (rset (rset (rset (rset (rset (rset x 40 (fun _ => x 40 0 + 1)) 22 (upd (x 22) (x 40 0).toNatClampNeg r)) 23 (upd (x 23) (x 40 0).toNatClampNeg t)) 24 (upd (x 24) (x 40 0).toNatClampNeg 0)) 25 (upd (x 25) (x 40 0).toNatClampNeg 0)) 26 (upd (x 26) (x 40 0).toNatClampNeg (-1))) 27 (upd (x 27) (x 40 0).toNatClampNeg (x 30 0))) 22 = upd (x 22) (x 40 0).toNatClampNeg r := (rset_ne (by decide)).trans ((rset_ne (by decide)).trans ((rset_ne (by decide)).trans ((rset_ne (by decide)).trans ((rset_ne (by decide)).trans (rset_eq)))))
          have r40 : (rset (rset (rset (rset (rset (rset (rset x 40 (fun _ => x 40 0 + 1)) 22 (upd (x 22) (x 40 0).toNatClampNeg r)) 23 (upd (x 23) (x 40 0).toNatClampNeg t)) 24 (upd (x 24) (x 40 0).toNatClampNeg 0)) 25 (upd (x 25) (x 40 0).toNatClampNeg 0)) 26 (upd (x 26) (x 40 0).toNatClampNeg (-1))) 27 (upd (x 27) (x 40 0).toNatClampNeg (x 30 0))) 40 = (fun _ => x 40 0 + 1) := (rset_ne (by decide)).trans ((rset_ne (by decide)).trans ((rset_ne (by decide)).trans ((rset_ne (by decide)).trans ((rset_ne (by decide)).trans ((rset_ne (by decide)).trans (rset_eq))))))
          have y40 : (rset (rset (rset (rset y 22 (upd (x 22) (x 40 0).toNatClampNeg r)) 23 (upd (x 23) (x 40 0).toNatClampNeg t)) 27 (upd (x 27) (x 40 0).toNatClampNeg (x 30 0))) 40 (fun _ => x 40 0 + 1)) 40 = (fun _ => x 40 0 + 1) := rset_eq
          have y27 : (rset (rset (rset (rset y 22 (upd (x 22) (x 40 0).toNatClampNeg r)) 23 (upd (x 23) (x 40 0).toNatClampNeg t)) 27 (upd (x 27) (x 40 0).toNatClampNeg (x 30 0))) 40 (fun _ => x 40 0 + 1)) 27 = upd (x 27) (x 40 0).toNatClampNeg (x 30 0) := (rset_ne (by decide)).trans (rset_eq)
          have y23 : (rset (rset (rset (rset y 22 (upd (x 22) (x 40 0).toNatClampNeg r)) 23 (upd (x 23) (x 40 0).toNatClampNeg t)) 27 (upd (x 27) (x 40 0).toNatClampNeg (x 30 0))) 40 (fun _ => x 40 0 + 1)) 23 = upd (x 23) (x 40 0).toNatClampNeg t := (rset_ne (by decide)).trans ((rset_ne (by decide)).trans (rset_eq))
          have y22 : (rset (rset (rset (rset y 22 (upd (x 22) (x 40 0).toNatClampNeg r)) 23 (upd (x 23) (x 40 0).toNatClampNeg t)) 27 (upd (x 27) (x 40 0).toNatClampNeg (x 30 0))) 40 (fun _ => x 40 0 + 1)) 22 = upd (x 22) (x 40 0).toNatClampNeg r := (rset_ne (by decide)).trans ((rset_ne (by decide)).trans ((rset_ne (by decide)).trans (rset_eq)))
          refine ⟨e3, fun k hk => ?_, ?_, ?_⟩
          · dsimp only
            by_cases h1 : k = 40
            · rw [h1, y40, r40]
            · by_cases h2 : k = 27
              · rw [h2, y27, r27]
              · by_cases h3 : k = 23
                · rw [h3, y23, r23]
                · by_cases h4 : k = 22
                  · rw [h4, y22, r22]
                  · rw [fy k (by omega)]
                    by_cases h5 : k = 24
                    · rw [h5, r24]; exact hs 24 (by omega)
                    · by_cases h6 : k = 25
                      · rw [h6, r25]; exact hs 25 (by omega)
                      · rw [fr k (by omega)]; exact hs k hk
          · dsimp only
            rw [fr 36 (by omega), fr 6 (by omega), fr 13 (by omega), fy 13 (by omega)]
            exact hb
          · dsimp only
            refine ⟨?_, dOk_fr (fun k hk => fr k (by omega)) g2, vV_fr (fun k hk => fr k (by omega)) g3, ?_, vJ_fr (fun k hk => fr k (by omega)) g5, ?_, ?_, vT_fr (fun k hk => fr k (by omega)) g8, vR_fr (fun k hk => fr k (by omega)) g9, vNow_fr (fun k hk => fr k (by omega)) g10⟩
            · obtain ⟨-, i0, i16, i22, i23⟩ := g1
              refine ⟨?_, ?_, ?_, ?_, ?_⟩
              · rw [r40, fr 34 (by omega), fr 35 (by omega), fr 36 (by omega), fr 39 (by omega)]
                dsimp only
                omega
              · rw [fr 0 (by omega)]; exact i0
              · rw [fr 16 (by omega)]; exact i16
              · rw [r22]
                intro i hi
                by_cases e : i = (x 40 0).toNatClampNeg
                · rw [e, u_eq]; omega
                · rw [u_ne e]; exact i22 i hi
              · rw [r23]
                intro i hi
                by_cases e : i = (x 40 0).toNatClampNeg
                · rw [e, u_eq]; omega
                · rw [u_ne e]; exact i23 i hi
            · intro c hc
              rw [fr 36 (by omega)] at hc
              have h := g4 c hc
              rw [fr 6 (by omega), fr 7 (by omega), fr 8 (by omega), fr 10 (by omega), fr 11 (by omega), fr 12 (by omega), fr 13 (by omega), fr 34 (by omega), fr 39 (by omega), r40]
              refine ⟨h.1, h.2.1, h.2.2.1, h.2.2.2.1, h.2.2.2.2.1, fun z => ?_, h.2.2.2.2.2.2⟩
              have := h.2.2.2.2.2.1 z
              dsimp only
              omega
            · intro w hw
              rw [r40] at hw
              dsimp only at hw
              rw [r22, r23, r24, r25, r26, fr 39 (by omega), fr 34 (by omega), fr 0 (by omega), fr 36 (by omega), fr 11 (by omega)]
              by_cases e : w = (x 40 0).toNatClampNeg
              · have hv := g3 t.toNatClampNeg (by have := i_cl d2.1; omega)
                rw [e, u_eq, u_eq, u_eq, z24, z25]
                refine ⟨d1, d2, fun _ => by omega, Or.inl ⟨rfl, fun c hc => ?_⟩⟩
                have h := g4 c hc
                have h5 := h.2.2.2.2.2.1
                have h6 := h.2.2.2.2.2.2.1
                omega
              · rw [u_ne e, u_ne e, u_ne e]
                exact g6 w (by omega)
            · refine ⟨fun c hc => ?_, fun v hv => ?_⟩
              · rw [fr 36 (by omega)] at hc
                rw [fr 14 (by omega), fr 6 (by omega), fr 11 (by omega)]
                exact g7.1 c hc
              · rw [r40] at hv
                dsimp only at hv
                rw [r24, r25]
                exact g7.2 v (by omega)
        · rw [if_neg c4, if_neg c4]; exact ⟨rfl, hr⟩
      · have d3 := i_nlt c3
        rw [if_neg c3, if_pos (show x 40 0 = 100 from Int32.toInt_inj.mp (by omega))]
        exact ⟨rfl, hr⟩
