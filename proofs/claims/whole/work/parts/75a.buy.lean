/-! Part 75: buy -/
theorem u_u {f : Nat → Int32} {k : Nat} {a b : Int32} : upd (upd f k a) k b = upd f k b := by
  funext j
  by_cases e : j = k
  · rw [e, u_eq, u_eq]
  · rw [u_ne e, u_ne e, u_ne e]
theorem i_quot {a m v : Int32} (h0 : 0 ≤ a.toInt) (hm : 1 ≤ m.toInt) (h : a.toInt < v.toInt * m.toInt) : 0 ≤ (a / m).toInt ∧ (a / m).toInt < v.toInt := by
  have tm : (-1 : Int32).toInt = -1 := rfl
  rw [Int32.toInt_div_of_ne_right a m (fun z => by have := i_eq z; omega), Int.tdiv_eq_ediv_of_nonneg h0]
  exact ⟨Int.ediv_nonneg h0 (by omega), Int.ediv_lt_of_lt_mul (by omega) h⟩
theorem cN_add {P P' : Nat → Bool} {n : Nat} (h : ∀ i, i < n → P' i = P i) (hn : P' n = false) : cN P' (n + 1) = cN P n := by
  rw [cN, cN_congr h, hn, if_neg (by decide), Nat.add_zero]
/-- a new copy at the end -/
theorem vX_add {x x' : wSt} (hx : vX x) (hc : (x 36 0).toInt < 200)
    (h36 : (x' 36 0).toInt = (x 36 0).toInt + 1)
    (hf : ∀ k : Nat, (k = 0 ∨ k = 14 ∨ k = 16 ∨ k = 20 ∨ k = 21 ∨ k = 22 ∨ k = 23 ∨ k = 24 ∨ k = 25 ∨ k = 26 ∨ k = 28 ∨ k = 29 ∨ k = 30 ∨ k = 34 ∨ k = 35 ∨ k = 39 ∨ k = 40) → x' k = x k)
    (ho : ∀ k : Nat, (k = 6 ∨ k = 7 ∨ k = 8 ∨ k = 10 ∨ k = 11 ∨ k = 12 ∨ k = 13) → ∀ j : Nat, j ≠ (x 36 0).toNatClampNeg → x' k j = x k j)
    (s6 : x' 6 (x 36 0).toNatClampNeg = 0) (s11 : x' 11 (x 36 0).toNatClampNeg = -1) (hC : vC1 x' (x 36 0).toNatClampNeg) (hT : vT x') : vX x' := by
  obtain ⟨g1, g2, g3, g4, g5, g6, g7, g8, g9, g10⟩ := hx
  have hB := iI_b g1
  have t0 : (0 : Int32).toInt = 0 := rfl
  have tm : (-1 : Int32).toInt = -1 := rfl
  have eN := i_cl (show 0 ≤ (x 36 0).toInt by omega)
  have eN' := i_cl (show 0 ≤ (x' 36 0).toInt by omega)
  have eS : (x' 36 0).toNatClampNeg = (x 36 0).toNatClampNeg + 1 := by omega
  refine ⟨?_, dOk_fr (fun k hk => hf k (by omega)) g2, vV_fr (fun k hk => hf k (by omega)) g3, ?_, ?_, ?_, ?_, hT, ?_, vNow_fr (fun k hk => hf k (by omega)) g10⟩
  · obtain ⟨-, i0, i16, i22, i23⟩ := g1
    refine ⟨?_, ?_, ?_, ?_, ?_⟩
    · rw [hf 34 (by omega), hf 35 (by omega), hf 39 (by omega), hf 40 (by omega)]; omega
    · rw [hf 0 (by omega)]; exact i0
    · rw [hf 16 (by omega)]; exact i16
    · rw [hf 22 (by omega)]; exact i22
    · rw [hf 23 (by omega)]; exact i23
  · intro d hd
    by_cases e : d = (x 36 0).toNatClampNeg
    · rw [e]; exact hC
    · have h := g4 d (by omega)
      rw [ho 6 (by omega) d e, ho 7 (by omega) d e, ho 8 (by omega) d e, ho 10 (by omega) d e, ho 11 (by omega) d e, ho 12 (by omega) d e, ho 13 (by omega) d e, hf 34 (by omega), hf 39 (by omega), hf 40 (by omega)]
      exact h
  · intro d d' hd hd' hn he
    by_cases e : d = (x 36 0).toNatClampNeg
    · rw [e, s11] at hn; exact absurd rfl hn
    · by_cases e' : d' = (x 36 0).toNatClampNeg
      · rw [e', s11] at he
        exact absurd (i_eq he) hn
      · rw [ho 11 (by omega) d e] at hn he
        rw [ho 11 (by omega) d' e'] at he
        exact g5 d d' (by omega) (by omega) hn he
  · intro w hw
    rw [hf 40 (by omega)] at hw
    have h := g6 w hw
    rw [hf 22 (by omega), hf 39 (by omega), hf 23 (by omega), hf 34 (by omega), hf 24 (by omega), hf 25 (by omega), hf 0 (by omega), hf 26 (by omega)]
    refine ⟨h.1, h.2.1, h.2.2.1, ?_⟩
    rcases h.2.2.2 with ⟨r1, r2⟩ | ⟨r1, r2⟩
    · refine Or.inl ⟨r1, fun d hd z => ?_⟩
      by_cases e : d = (x 36 0).toNatClampNeg
      · rw [e, s11] at z; omega
      · rw [ho 11 (by omega) d e] at z; exact r2 d (by omega) z
    · have r3 := i_cl r1.1
      refine Or.inr ⟨by omega, ?_⟩
      rw [ho 11 (by omega) _ (by omega)]; exact r2
  · refine ⟨fun d hd => ?_, fun w hw => ?_⟩
    · rw [hf 14 (by omega), ho 6 (by omega) d (by omega), ho 11 (by omega) d (by omega)]
      exact g7.1 d (by omega)
    · rw [hf 40 (by omega)] at hw
      rw [hf 24 (by omega), hf 25 (by omega)]
      exact g7.2 w hw
  · intro r hr
    rw [eS, hf 20 (by omega), hf 21 (by omega)]
    have q1 : kIn x' r (x 36 0).toNatClampNeg = false := by
      unfold kIn
      rw [s6, decide_eq_false (show ¬ (0 : Int32).toInt = 1 by decide), Bool.false_and]
    have q2 : kBx x' r (x 36 0).toNatClampNeg = false := by
      unfold kBx
      rw [s6, decide_eq_false (show ¬ (0 : Int32).toInt = 2 by decide), decide_eq_false (show ¬ (0 : Int32).toInt = 3 by decide), Bool.false_or, Bool.false_and]
    rw [cN_add (P := kIn x r) (fun i hi => by unfold kIn; rw [ho 6 (by omega) i (by omega), ho 10 (by omega) i (by omega)]) q1, cN_add (P := kBx x r) (fun i hi => by unfold kBx; rw [ho 6 (by omega) i (by omega), ho 10 (by omega) i (by omega)]) q2]
    exact g9 r hr
theorem vT_new {x x' : wSt} (hx : vX x) (hc : (x 36 0).toInt < 200) (h36 : (x' 36 0).toInt = (x 36 0).toInt + 1)
    (hf : ∀ k : Nat, (k = 15 ∨ k = 37 ∨ k = 38) → x' k = x k)
    (ho : ∀ k : Nat, (k = 6 ∨ k = 7 ∨ k = 8) → ∀ j : Nat, j ≠ (x 36 0).toNatClampNeg → x' k j = x k j)
    (s6 : x' 6 (x 36 0).toNatClampNeg = -1) : vT x' := by
  have hB := iI_b hx.1
  have eN := i_cl (show 0 ≤ (x 36 0).toInt by omega)
  have eN' := i_cl (show 0 ≤ (x' 36 0).toInt by omega)
  have eS : (x' 36 0).toNatClampNeg = (x 36 0).toNatClampNeg + 1 := by omega
  have hT := hx.2.2.2.2.2.2.2.1
  unfold vT
  rw [eS, hf 15 (by omega), hf 37 (by omega), hf 38 (by omega)]
  refine ⟨fun t v ht hv => ?_, ?_, ?_⟩
  · rw [cN_add (P := kSh x t v) (fun i hi => by unfold kSh; rw [ho 6 (by omega) i (by omega), ho 7 (by omega) i (by omega), ho 8 (by omega) i (by omega)]) (by unfold kSh; rw [s6, decide_eq_false (show ¬ (-1 : Int32).toInt = 0 by decide), Bool.false_and, Bool.false_and])]
    exact hT.1 t v ht hv
  · rw [cN_add (P := kBa x) (fun i hi => by unfold kBa; rw [ho 6 (by omega) i (by omega)]) (by unfold kBa; rw [s6, decide_eq_false (show ¬ (-1 : Int32).toInt = 2 by decide), decide_eq_false (show ¬ (-1 : Int32).toInt = 3 by decide), Bool.false_or])]
    exact hT.2.1
  · rw [cN_add (P := kLo x) (fun i hi => by unfold kLo; rw [ho 6 (by omega) i (by omega)]) (by unfold kLo; rw [s6, decide_eq_false (show ¬ (-1 : Int32).toInt = 5 by decide)])]
    exact hT.2.2
/-- one copy is bought -/
theorem add_core {p q : wSt} (hr : Rel p q) {t v pr : Int32} (hc : (p 36 0).toInt < 200) (ht : 0 ≤ t.toInt ∧ t.toInt < (p 34 0).toInt) (hv : 0 ≤ v.toInt ∧ v.toInt ≤ 3) : Rel (fX1_add p t v pr) (rset (rset (rset (rset (rset (rset (rset (rset q 7 (upd (q 7) (q 36 0).toNatClampNeg t)) 8 (upd (q 8) (q 36 0).toNatClampNeg v)) 9 (upd (q 9) (q 36 0).toNatClampNeg pr)) 6 (upd (q 6) (q 36 0).toNatClampNeg 0)) 10 (upd (q 10) (q 36 0).toNatClampNeg (-1))) 11 (upd (q 11) (q 36 0).toNatClampNeg (-1))) 12 (upd (q 12) (q 36 0).toNatClampNeg (-1))) 36 (fun _ => q 36 0 + 1)) := by
  obtain ⟨hs, hb, hx⟩ := hr
  have hB := iI_b hx.1
  have t0 : (0 : Int32).toInt = 0 := rfl
  have tm : (-1 : Int32).toInt = -1 := rfl
  have eN := i_cl (show 0 ≤ (p 36 0).toInt by omega)
  have e1 : (p 36 0 + 1).toInt = (p 36 0).toInt + 1 := i_inc (by omega)
  rw [hs 36 (by omega), hs 7 (by omega), hs 8 (by omega), hs 9 (by omega), hs 6 (by omega), hs 10 (by omega), hs 11 (by omega), hs 12 (by omega)]
  have z14 := (hx.2.2.2.2.2.2.1.1 (p 36 0).toNatClampNeg (by omega)).1
  unfold fX1_add
  rw [show ∀ (z : wSt) (c : Int32), fX1_shelve z c = fX1_leaveFor z c 0 from fun _ _ => rfl]
  have P36 : rset (rset (rset (rset (rset (rset p 36 (fun _ => p 36 0 + 1)) 7 (upd (p 7) (p 36 0).toNatClampNeg t)) 8 (upd (p 8) (p 36 0).toNatClampNeg v)) 9 (upd (p 9) (p 36 0).toNatClampNeg pr)) 6 (upd (p 6) (p 36 0).toNatClampNeg (-1))) 14 (upd (p 14) (p 36 0).toNatClampNeg 0) 36 = fun _ => p 36 0 + 1 := by
    rw [rset_ne (by decide), rset_ne (by decide), rset_ne (by decide), rset_ne (by decide), rset_ne (by decide), rset_eq]
  have P7 : rset (rset (rset (rset (rset (rset p 36 (fun _ => p 36 0 + 1)) 7 (upd (p 7) (p 36 0).toNatClampNeg t)) 8 (upd (p 8) (p 36 0).toNatClampNeg v)) 9 (upd (p 9) (p 36 0).toNatClampNeg pr)) 6 (upd (p 6) (p 36 0).toNatClampNeg (-1))) 14 (upd (p 14) (p 36 0).toNatClampNeg 0) 7 = upd (p 7) (p 36 0).toNatClampNeg t := by
    rw [rset_ne (by decide), rset_ne (by decide), rset_ne (by decide), rset_ne (by decide), rset_eq]
  have P8 : rset (rset (rset (rset (rset (rset p 36 (fun _ => p 36 0 + 1)) 7 (upd (p 7) (p 36 0).toNatClampNeg t)) 8 (upd (p 8) (p 36 0).toNatClampNeg v)) 9 (upd (p 9) (p 36 0).toNatClampNeg pr)) 6 (upd (p 6) (p 36 0).toNatClampNeg (-1))) 14 (upd (p 14) (p 36 0).toNatClampNeg 0) 8 = upd (p 8) (p 36 0).toNatClampNeg v := by
    rw [rset_ne (by decide), rset_ne (by decide), rset_ne (by decide), rset_eq]
  have P9 : rset (rset (rset (rset (rset (rset p 36 (fun _ => p 36 0 + 1)) 7 (upd (p 7) (p 36 0).toNatClampNeg t)) 8 (upd (p 8) (p 36 0).toNatClampNeg v)) 9 (upd (p 9) (p 36 0).toNatClampNeg pr)) 6 (upd (p 6) (p 36 0).toNatClampNeg (-1))) 14 (upd (p 14) (p 36 0).toNatClampNeg 0) 9 = upd (p 9) (p 36 0).toNatClampNeg pr := by
    rw [rset_ne (by decide), rset_ne (by decide), rset_eq]
  have P6 : rset (rset (rset (rset (rset (rset p 36 (fun _ => p 36 0 + 1)) 7 (upd (p 7) (p 36 0).toNatClampNeg t)) 8 (upd (p 8) (p 36 0).toNatClampNeg v)) 9 (upd (p 9) (p 36 0).toNatClampNeg pr)) 6 (upd (p 6) (p 36 0).toNatClampNeg (-1))) 14 (upd (p 14) (p 36 0).toNatClampNeg 0) 6 = upd (p 6) (p 36 0).toNatClampNeg (-1) := by
    rw [rset_ne (by decide), rset_eq]
  have P14 : rset (rset (rset (rset (rset (rset p 36 (fun _ => p 36 0 + 1)) 7 (upd (p 7) (p 36 0).toNatClampNeg t)) 8 (upd (p 8) (p 36 0).toNatClampNeg v)) 9 (upd (p 9) (p 36 0).toNatClampNeg pr)) 6 (upd (p 6) (p 36 0).toNatClampNeg (-1))) 14 (upd (p 14) (p 36 0).toNatClampNeg 0) 14 = p 14 := by
    rw [rset_eq, u_id z14]
  have Pf : ∀ k : Nat, ¬ (k = 6 ∨ k = 7 ∨ k = 8 ∨ k = 9 ∨ k = 14 ∨ k = 36) → rset (rset (rset (rset (rset (rset p 36 (fun _ => p 36 0 + 1)) 7 (upd (p 7) (p 36 0).toNatClampNeg t)) 8 (upd (p 8) (p 36 0).toNatClampNeg v)) 9 (upd (p 9) (p 36 0).toNatClampNeg pr)) 6 (upd (p 6) (p 36 0).toNatClampNeg (-1))) 14 (upd (p 14) (p 36 0).toNatClampNeg 0) k = p k := by
    intro k hk
    rw [rset_ne (by omega), rset_ne (by omega), rset_ne (by omega), rset_ne (by omega), rset_ne (by omega), rset_ne (by omega)]
  generalize rset (rset (rset (rset (rset (rset p 36 (fun _ => p 36 0 + 1)) 7 (upd (p 7) (p 36 0).toNatClampNeg t)) 8 (upd (p 8) (p 36 0).toNatClampNeg v)) 9 (upd (p 9) (p 36 0).toNatClampNeg pr)) 6 (upd (p 6) (p 36 0).toNatClampNeg (-1))) 14 (upd (p 14) (p 36 0).toNatClampNeg 0) = X at P36 P7 P8 P9 P6 P14 Pf ⊢
  have X36 : (X 36 0).toInt = (p 36 0).toInt + 1 := by rw [P36]; exact e1
  have XI : iI X := by
    obtain ⟨-, i0, i16, i22, i23⟩ := hx.1
    refine ⟨?_, ?_, ?_, ?_, ?_⟩
    · rw [Pf 34 (by omega), Pf 35 (by omega), Pf 39 (by omega), Pf 40 (by omega)]; omega
    · rw [Pf 0 (by omega)]; exact i0
    · rw [Pf 16 (by omega)]; exact i16
    · rw [Pf 22 (by omega)]; exact i22
    · rw [Pf 23 (by omega)]; exact i23
  have XT : vT X := vT_new hx hc X36 (fun k hk => Pf k (by omega)) (fun k hk j hj => by
    by_cases k6 : k = 6
    · rw [k6, P6, u_ne hj]
    · by_cases k7 : k = 7
      · rw [k7, P7, u_ne hj]
      · rw [show k = 8 by omega, P8, u_ne hj]) (by rw [P6, u_eq])
  have AT : vT (fX1_leaveFor X (p 36 0) 0) := vT_leave XI XT (by omega) (by omega) (by rw [P7, u_eq]; omega) (by rw [P8, u_eq]; omega)
  have a6 : fX1_leaveFor X (p 36 0) 0 6 = upd (p 6) (p 36 0).toNatClampNeg 0 := by rw [leave6, P6, u_u]
  have a10 : fX1_leaveFor X (p 36 0) 0 10 = upd (p 10) (p 36 0).toNatClampNeg (-1) := by rw [leave10, Pf 10 (by omega)]
  have a11 : fX1_leaveFor X (p 36 0) 0 11 = upd (p 11) (p 36 0).toNatClampNeg (-1) := by rw [leave11, Pf 11 (by omega)]
  have a12 : fX1_leaveFor X (p 36 0) 0 12 = upd (p 12) (p 36 0).toNatClampNeg (-1) := by rw [leave12, Pf 12 (by omega)]
  have a13 : fX1_leaveFor X (p 36 0) 0 13 = upd (p 13) (p 36 0).toNatClampNeg 0 := by rw [leave13, Pf 13 (by omega)]
  have af : ∀ k : Nat, ¬ (k = 6 ∨ k = 10 ∨ k = 11 ∨ k = 12 ∨ k = 13 ∨ k = 15 ∨ k = 37 ∨ k = 38) → fX1_leaveFor X (p 36 0) 0 k = X k := fun k hk => frX1_leaveFor _ _ _ k (by omega)
  generalize fX1_leaveFor X (p 36 0) 0 = A at AT a6 a10 a11 a12 a13 af ⊢
  have a7 : A 7 = upd (p 7) (p 36 0).toNatClampNeg t := (af 7 (by omega)).trans P7
  have a8 : A 8 = upd (p 8) (p 36 0).toNatClampNeg v := (af 8 (by omega)).trans P8
  have a9 : A 9 = upd (p 9) (p 36 0).toNatClampNeg pr := (af 9 (by omega)).trans P9
  have a14 : A 14 = p 14 := (af 14 (by omega)).trans P14
  have a36 : A 36 = fun _ => p 36 0 + 1 := (af 36 (by omega)).trans P36
  have ap : ∀ k : Nat, ¬ (k = 6 ∨ k = 7 ∨ k = 8 ∨ k = 9 ∨ k = 10 ∨ k = 11 ∨ k = 12 ∨ k = 13 ∨ k = 15 ∨ k = 36 ∨ k = 37 ∨ k = 38) → A k = p k := by
    intro k hk
    by_cases k14 : k = 14
    · rw [k14]; exact a14
    · exact (af k (by omega)).trans (Pf k (by omega))
  have A36 : (A 36 0).toInt = (p 36 0).toInt + 1 := by rw [a36]; exact e1
  refine ⟨fun k hk => ?_, fun d hd hst => ?_, ?_⟩
  · by_cases k36 : k = 36
    · rw [k36, rset_eq, a36]
    · by_cases k12 : k = 12
      · rw [k12, rset_ne (by decide), rset_eq, a12]
      · by_cases k11 : k = 11
        · rw [k11, rset_ne (by decide), rset_ne (by decide), rset_eq, a11]
        · by_cases k10 : k = 10
          · rw [k10, rset_ne (by decide), rset_ne (by decide), rset_ne (by decide), rset_eq, a10]
          · by_cases k6 : k = 6
            · rw [k6, rset_ne (by decide), rset_ne (by decide), rset_ne (by decide), rset_ne (by decide), rset_eq, a6]
            · by_cases k9 : k = 9
              · rw [k9, rset_ne (by decide), rset_ne (by decide), rset_ne (by decide), rset_ne (by decide), rset_ne (by decide), rset_eq, a9]
              · by_cases k8 : k = 8
                · rw [k8, rset_ne (by decide), rset_ne (by decide), rset_ne (by decide), rset_ne (by decide), rset_ne (by decide), rset_ne (by decide), rset_eq, a8]
                · by_cases k7 : k = 7
                  · rw [k7, rset_ne (by decide), rset_ne (by decide), rset_ne (by decide), rset_ne (by decide), rset_ne (by decide), rset_ne (by decide), rset_ne (by decide), rset_eq, a7]
                  · rw [rset_ne (by omega), rset_ne (by omega), rset_ne (by omega), rset_ne (by omega), rset_ne (by omega), rset_ne (by omega), rset_ne (by omega), rset_ne (by omega), ap k (by omega)]
                    exact hs k hk
  · by_cases e : d = (p 36 0).toNatClampNeg
    · rw [e, a6, u_eq] at hst; omega
    · rw [a6, u_ne e] at hst
      rw [rset_ne (by decide), rset_ne (by decide), rset_ne (by decide), rset_ne (by decide), rset_ne (by decide), rset_ne (by decide), rset_ne (by decide), rset_ne (by decide), a13, u_ne e]
      exact hb d (by omega) hst
  · refine vX_add hx hc A36 (fun k hk => ap k (by omega)) (fun k hk j hj => ?_) (by rw [a6, u_eq]) (by rw [a11, u_eq]) ?_ AT
    · by_cases k6 : k = 6
      · rw [k6, a6, u_ne hj]
      · by_cases k7 : k = 7
        · rw [k7, a7, u_ne hj]
        · by_cases k8 : k = 8
          · rw [k8, a8, u_ne hj]
          · by_cases k10 : k = 10
            · rw [k10, a10, u_ne hj]
            · by_cases k11 : k = 11
              · rw [k11, a11, u_ne hj]
              · by_cases k12 : k = 12
                · rw [k12, a12, u_ne hj]
                · rw [show k = 13 by omega, a13, u_ne hj]
    · unfold vC1
      rw [a6, a7, a8, a10, a11, a12, a13, u_eq, u_eq, u_eq, u_eq, u_eq, u_eq, u_eq, ap 34 (by omega), ap 39 (by omega), ap 40 (by omega)]
      omega
theorem lbargain {x y : wSt} (hs : rSame x y) (t : Int32) (n : Nat) (a b : Int32) : lX7_bargainOf_1 y t n a b = lX0_inForce_1 x t (x 30 0) n a b := by
  induction n generalizing a b with
  | zero => rfl
  | succ n ih =>
    rw [lX7_bargainOf_1_s, lX0_inForce_1_s, ih, hs 35 (by omega)]
    unfold fX7_bargainOf_j2 fX0_inForce_j2
    rw [hs 1 (by omega), hs 2 (by omega), hs 30 (by omega)]
theorem bargain_eq {x y : wSt} (hs : rSame x y) (t : Int32) : fX7_bargainOf y t = fX0_inForce x t (x 30 0) := by
  unfold fX7_bargainOf fX0_inForce
  rw [lbargain hs, hs 35 (by omega)]
theorem price_eq {x y p q : wSt} (hs : rSame x y) (hp : rSame p q) (h35 : p 35 = x 35) (t m a b : Int32) : fX7_buy_j2 y t m a b q = fX0_priceAt p (fX0_inForce x t (x 30 0)) b := by
  have hb := tX7_bargainOf y t
  have tm : (-1 : Int32).toInt = -1 := rfl
  have t0 : (0 : Int32).toInt = 0 := rfl
  rw [bargain_eq hs, hs 35 (by omega)] at hb
  unfold fX7_buy_j2 fX0_priceAt
  rw [bargain_eq hs, hp 3 (by omega), hp 4 (by omega), hp 5 (by omega), h35]
  generalize fX0_inForce x t (x 30 0) = z at hb ⊢
  rcases hb with h | ⟨h1, h2⟩
  · rw [if_pos (show z = -1 from Int32.toInt_inj.mp h), if_pos (show z < 0 from Int32.lt_iff_toInt_lt.mpr (by omega))]
  · rw [if_neg (show ¬ z = -1 from fun e => by have := i_eq e; omega), if_neg (show ¬ z < 0 from fun e => by have := i_lt e; omega), if_pos (show z < x 35 0 from Int32.lt_iff_toInt_lt.mpr h2)]
theorem lbuy {x y : wSt} (hs : rSame x y) {t m : Int32} (hI : iI x) (ht : 0 ≤ t.toInt ∧ t.toInt < (x 34 0).toInt) (hm : 1 ≤ m.toInt ∧ m.toInt ≤ 20) (hq : (x 36 0).toInt + (m * x 0 t.toNatClampNeg).toInt ≤ 200) (n : Nat) (a b : Int32) (p q : wSt) (hb : 0 ≤ b.toInt) (hr : Rel p q) (h0 : p 0 = x 0) (h34 : p 34 = x 34) (h35 : p 35 = x 35) (h36 : (p 36 0).toInt = (x 36 0).toInt + b.toInt) : (lX6_buy_1 x t m n a b p).1 = (lX7_buy_1 y t m n a b q).1 ∧ Rel (lX6_buy_1 x t m n a b p).2 (lX7_buy_1 y t m n a b q).2 := by
  have hB := iI_b hI
  have e0 := i_cl ht.1
  have hv := hI.2.1 t.toNatClampNeg (by omega)
  have hw := t_bought m (x 0 t.toNatClampNeg) hm hv
  have ev : fX4_volumesOf x t = x 0 t.toNatClampNeg := by unfold fX4_volumesOf; rw [if_neg (hX4 ht.1 ht.2)]
  induction n generalizing a b p q with
  | zero => exact ⟨rfl, hr⟩
  | succ n ih =>
    rw [lX6_buy_1_s, lX7_buy_1_s, ev, hr.1 0 (by omega), h0]
    by_cases c : m * x 0 t.toNatClampNeg ≤ b
    · rw [if_pos c, if_pos c]; exact ⟨rfl, hr⟩
    · have c1 := i_nle c
      have e1 : (b + 1).toInt = b.toInt + 1 := i_inc (by omega)
      rw [if_neg c, if_neg c, price_eq hs hr.1 h35]
      have hd := i_quot (a := b) (m := m) (v := x 0 t.toNatClampNeg) hb hm.1 (by rw [Int.mul_comm]; omega)
      refine ih _ _ _ _ (by omega) (add_core hr (by omega) (by rw [h34]; exact ht) (by omega)) ?_ ?_ ?_ ?_
      · rw [frX1_add _ _ _ _ 0 (by decide)]; exact h0
      · rw [frX1_add _ _ _ _ 34 (by decide)]; exact h34
      · rw [frX1_add _ _ _ _ 35 (by decide)]; exact h35
      · rw [tX1_add36 _ _ _ _ (by omega)]; omega
theorem sim_buy : Sim_buy Rel := by
  intro x y hr t m
  obtain ⟨hs, hb, hx⟩ := id hr
  have hB := iI_b hx.1
  have t0 : (0 : Int32).toInt = 0 := rfl
  have t1 : (1 : Int32).toInt = 1 := rfl
  have t20 : (20 : Int32).toInt = 20 := rfl
  have t200 : (200 : Int32).toInt = 200 := rfl
  unfold fX6_buy fX7_buy
  rw [isTitle_eq hs hx.1, in_eq x y, hs 36 (by omega), hs 0 (by omega)]
  by_cases c1 : fX4_has x t = 0
  · rw [if_pos c1, if_pos c1]; exact ⟨rfl, hr⟩
  · rw [if_neg c1, if_neg c1]
    by_cases c2 : fX6_within x m 1 20 = 0
    · rw [if_pos c2, if_pos c2]; exact ⟨rfl, hr⟩
    · rw [if_neg c2, if_neg c2]
      have d1 := tX4_has x t (i_ne c1)
      have d2 := tX6_within _ _ _ _ (i_ne c2)
      rw [t1, t20] at d2
      have e0 := i_cl d1.1
      have hv := hx.1.2.1 t.toNatClampNeg (by omega)
      have hw := t_bought m (x 0 t.toNatClampNeg) d2 hv
      have ev : fX4_volumesOf x t = x 0 t.toNatClampNeg := by unfold fX4_volumesOf; rw [if_neg c1]
      rw [ev]
      by_cases c3 : x 36 0 + m * x 0 t.toNatClampNeg ≤ 200
      · rw [if_pos c3, if_pos c3]
        have d3 := i_le c3
        rw [i_add (by omega), t200] at d3
        have H := lbuy hs hx.1 d1 d2 d3 (((m * x 0 t.toNatClampNeg).toInt - (0 : Int32).toInt).toNat + 1) 0 0 x y (by decide) hr rfl rfl rfl (by omega)
        refine ⟨H.1, ?_⟩
        dsimp only
        rw [← H.1, H.2.1 31 (by omega)]
        exact Rel_set (by omega) H.2
      · rw [if_neg c3, if_neg c3]; exact ⟨rfl, hr⟩
