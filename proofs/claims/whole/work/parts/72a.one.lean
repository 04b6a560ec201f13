/-! Part 72: one copy changes -/
def vC1 (x : wSt) (c : Nat) : Prop :=
  (0 ≤ (x 6 c).toInt ∧ (x 6 c).toInt ≤ 5) ∧ (0 ≤ (x 7 c).toInt ∧ (x 7 c).toInt < (x 34 0).toInt) ∧ (0 ≤ (x 8 c).toInt ∧ (x 8 c).toInt ≤ 3) ∧
  (((x 6 c).toInt = 1 ∨ (x 6 c).toInt = 2 ∨ (x 6 c).toInt = 3) → 0 ≤ (x 10 c).toInt ∧ (x 10 c).toInt < (x 39 0).toInt) ∧
  (((x 6 c).toInt = 0 ∨ (x 6 c).toInt = 4 ∨ (x 6 c).toInt = 5) → (x 10 c).toInt = -1) ∧
  (((x 6 c).toInt = 1 ∨ (x 6 c).toInt = 2) → 0 ≤ (x 11 c).toInt ∧ (x 11 c).toInt < (x 40 0).toInt) ∧
  (¬ ((x 6 c).toInt = 1 ∨ (x 6 c).toInt = 2) → (x 11 c).toInt = -1) ∧
  (¬ (x 6 c).toInt = 1 → (x 12 c).toInt = -1) ∧
  (¬ ((x 6 c).toInt = 2 ∨ (x 6 c).toInt = 3) → (x 13 c).toInt = 0)
def vStep (A B : Prop) (n' n : Int) : Prop := (A → B → n' = n) ∧ (¬ A → ¬ B → n' = n) ∧ (A → ¬ B → n' = n - 1) ∧ (¬ A → B → n' = n + 1)
theorem cN_step {P P' : Nat → Bool} {n c : Nat} {a a' : Int} (hc : c < n) (h : ∀ i, i < n → i ≠ c → P' i = P i) (hs : vStep (P c = true) (P' c = true) a' a) (ha : a = (cN P n : Int)) : a' = (cN P' n : Int) := by
  have h1 := cN_one hc h
  obtain ⟨s1, s2, s3, s4⟩ := hs
  by_cases g1 : P c = true
  · by_cases g2 : P' c = true
    · rw [if_pos g1, if_pos g2] at h1
      have := s1 g1 g2
      omega
    · rw [if_pos g1, if_neg g2] at h1
      have := s3 g1 g2
      omega
  · by_cases g2 : P' c = true
    · rw [if_neg g1, if_pos g2] at h1
      have := s4 g1 g2
      omega
    · rw [if_neg g1, if_neg g2] at h1
      have := s2 g1 g2
      omega
theorem vStep_iff {A B A' B' : Prop} {n' n : Int} (hA : A' ↔ A) (hB : B' ↔ B) (h : vStep A B n' n) : vStep A' B' n' n := by
  obtain ⟨s1, s2, s3, s4⟩ := h
  exact ⟨fun a b => s1 (hA.mp a) (hB.mp b), fun a b => s2 (fun z => a (hA.mpr z)) (fun z => b (hB.mpr z)), fun a b => s3 (hA.mp a) (fun z => b (hB.mpr z)), fun a b => s4 (fun z => a (hA.mpr z)) (hB.mp b)⟩
theorem kIn_i (x : wSt) (r : Int) (c : Nat) : kIn x r c = true ↔ ((x 6 c).toInt = 1 ∧ (x 10 c).toInt = r) := by
  unfold kIn
  rw [Bool.and_eq_true, decide_eq_true_eq, decide_eq_true_eq]
theorem kBx_i (x : wSt) (r : Int) (c : Nat) : kBx x r c = true ↔ (((x 6 c).toInt = 2 ∨ (x 6 c).toInt = 3) ∧ (x 10 c).toInt = r) := by
  unfold kBx
  rw [Bool.and_eq_true, Bool.or_eq_true, decide_eq_true_eq, decide_eq_true_eq, decide_eq_true_eq]
theorem vX_one {x x' : wSt} (hx : vX x) {c : Nat} (hc : (c : Int) < (x 36 0).toInt)
    (hf : ∀ k : Nat, (k = 0 ∨ k = 7 ∨ k = 8 ∨ k = 16 ∨ k = 22 ∨ k = 23 ∨ k = 28 ∨ k = 29 ∨ k = 30 ∨ k = 34 ∨ k = 35 ∨ k = 36 ∨ k = 39 ∨ k = 40) → x' k = x k)
    (ho : ∀ k : Nat, (k = 6 ∨ k = 10 ∨ k = 11 ∨ k = 12 ∨ k = 13 ∨ k = 14) → ∀ j : Nat, j ≠ c → x' k j = x k j)
    (hC : vC1 x' c) (hT : vT x')
    (h20 : ∀ r : Nat, r < 20 → vStep ((x 6 c).toInt = 1 ∧ (x 10 c).toInt = (r : Int)) ((x' 6 c).toInt = 1 ∧ (x' 10 c).toInt = (r : Int)) (x' 20 r).toInt (x 20 r).toInt)
    (h21 : ∀ r : Nat, r < 20 → vStep (((x 6 c).toInt = 2 ∨ (x 6 c).toInt = 3) ∧ (x 10 c).toInt = (r : Int)) (((x' 6 c).toInt = 2 ∨ (x' 6 c).toInt = 3) ∧ (x' 10 c).toInt = (r : Int)) (x' 21 r).toInt (x 21 r).toInt)
    (hL : ∀ w : Nat, (w : Int) < (x 40 0).toInt → ((x' 26 w = x 26 w ∧ ((x' 11 c).toInt = (w : Int) ↔ (x 11 c).toInt = (w : Int))) ∨ ((x' 26 w).toInt = -1 ∧ (x 11 c).toInt = (w : Int) ∧ ¬ (x' 11 c).toInt = (w : Int)) ∨ ((x' 26 w).toInt = (c : Int) ∧ (x 26 w).toInt = -1 ∧ (x' 11 c).toInt = (w : Int))))
    (hW : ∀ w : Nat, (w : Int) < (x 40 0).toInt → (x' 24 w).toInt = 0 → 0 ≤ (x' 25 w).toInt ∧ (x' 25 w).toInt < (x 0 (x 23 w).toNatClampNeg).toInt)
    (hZ : ∀ w : Nat, (x 40 0).toInt ≤ (w : Int) → x' 24 w = x 24 w ∧ x' 25 w = x 25 w) : vX x' := by
  obtain ⟨g1, g2, g3, g4, g5, g6, g7, g8, g9, g10⟩ := hx
  have hB := iI_b g1
  have eN := i_cl (show 0 ≤ (x 36 0).toInt by omega)
  have e36 := hf 36 (by omega)
  have e40 := hf 40 (by omega)
  refine ⟨iI_fr (fun k hk => hf k (by omega)) g1, dOk_fr (fun k hk => hf k (by omega)) g2, vV_fr (fun k hk => hf k (by omega)) g3, ?_, ?_, ?_, ?_, hT, ?_, vNow_fr (fun k hk => hf k (by omega)) g10⟩
  · intro d hd
    rw [e36] at hd
    by_cases e : d = c
    · rw [e]; exact hC
    · have h := g4 d hd
      rw [ho 6 (by omega) d e, ho 10 (by omega) d e, ho 11 (by omega) d e, ho 12 (by omega) d e, ho 13 (by omega) d e, hf 7 (by omega), hf 8 (by omega), hf 34 (by omega), hf 39 (by omega), e40]
      exact h
  · intro d d' hd hd' hn he
    rw [e36] at hd hd'
    have key : ∀ d : Nat, (d : Int) < (x 36 0).toInt → d ≠ c → ¬ (x' 11 c).toInt = -1 → x' 11 c = x 11 d → False := by
      intro d hd hdc hn he
      obtain ⟨-, -, -, -, -, c6, c7, -, -⟩ := hC
      rw [e40] at c6
      have c8 : 0 ≤ (x' 11 c).toInt ∧ (x' 11 c).toInt < (x 40 0).toInt := by
        by_cases z : (x' 6 c).toInt = 1 ∨ (x' 6 c).toInt = 2
        · exact c6 z
        · exact absurd (c7 z) hn
      have c9 := i_cl c8.1
      have hd11 := i_eq he
      rcases hL (x' 11 c).toNatClampNeg (by omega) with ⟨-, q⟩ | ⟨-, -, q⟩ | ⟨-, q, -⟩
      · have q1 : (x 11 c).toInt = (x' 11 c).toInt := by rw [← c9]; exact q.mp c9.symm
        exact hdc (g5 d c hd hc (by omega) (Int32.toInt_inj.mp (by omega)))
      · exact q c9.symm
      · rcases (g6 (x' 11 c).toNatClampNeg (by omega)).2.2.2 with ⟨-, r⟩ | ⟨⟨r, -⟩, -⟩
        · exact r d hd (by omega)
        · omega
    by_cases e : d = c
    · by_cases e' : d' = c
      · rw [e, e']
      · subst e
        rw [ho 11 (by omega) d' e'] at he
        exact absurd (key d' hd' e' hn he) id
    · by_cases e' : d' = c
      · subst e'
        rw [ho 11 (by omega) d e] at he
        have hn' : ¬ (x' 11 d').toInt = -1 := by rw [← he, ← ho 11 (by omega) d e]; exact hn
        exact absurd (key d hd e hn' he.symm) id
      · rw [ho 11 (by omega) d e] at he hn
        rw [ho 11 (by omega) d' e'] at he
        exact g5 d d' hd hd' hn he
  · intro w hw
    rw [e40] at hw
    have h := g6 w hw
    rw [hf 22 (by omega), hf 23 (by omega), hf 39 (by omega), hf 34 (by omega), hf 0 (by omega), e36]
    refine ⟨h.1, h.2.1, hW w hw, ?_⟩
    rcases hL w hw with ⟨q1, q2⟩ | ⟨q1, q2, q3⟩ | ⟨q1, q2, q3⟩
    · rw [q1]
      rcases h.2.2.2 with ⟨r1, r2⟩ | ⟨r1, r2⟩
      · refine Or.inl ⟨r1, fun d hd z => ?_⟩
        by_cases e : d = c
        · rw [e] at z; exact r2 c hc (q2.mp z)
        · rw [ho 11 (by omega) d e] at z; exact r2 d hd z
      · refine Or.inr ⟨r1, ?_⟩
        by_cases e : (x 26 w).toNatClampNeg = c
        · rw [e] at r2 ⊢; exact q2.mpr r2
        · rw [ho 11 (by omega) _ e]; exact r2
    · refine Or.inl ⟨q1, fun d hd z => ?_⟩
      by_cases e : d = c
      · rw [e] at z; exact q3 z
      · rw [ho 11 (by omega) d e] at z
        exact e (g5 d c hd hc (by omega) (Int32.toInt_inj.mp (by omega)))
    · have q4 : (x' 26 w).toNatClampNeg = c := i_nat q1
      refine Or.inr ⟨by omega, ?_⟩
      rw [q4]; exact q3
  · refine ⟨fun d hd => ?_, fun w hw => ?_⟩
    · rw [e36] at hd
      have e : d ≠ c := by omega
      rw [ho 14 (by omega) d e, ho 6 (by omega) d e, ho 11 (by omega) d e]
      exact g7.1 d hd
    · rw [e40] at hw
      rw [(hZ w hw).1, (hZ w hw).2]
      exact g7.2 w hw
  · intro r hr
    rw [e36]
    refine ⟨cN_step (P := kIn x r) (c := c) (by omega) (fun i _ hi => ?_) (vStep_iff (kIn_i x r c) (kIn_i x' r c) (h20 r hr)) (g9 r hr).1, cN_step (P := kBx x r) (c := c) (by omega) (fun i _ hi => ?_) (vStep_iff (kBx_i x r c) (kBx_i x' r c) (h21 r hr)) (g9 r hr).2⟩
    · unfold kIn; rw [ho 6 (by omega) i hi, ho 10 (by omega) i hi]
    · unfold kBx; rw [ho 6 (by omega) i hi, ho 10 (by omega) i hi]
/-- the rows of leaveFor -/
theorem leave6 (x : wSt) (c p : Int32) : fX1_leaveFor x c p 6 = upd (x 6) c.toNatClampNeg p := by
  unfold fX1_leaveFor
  rw [frX1_belongToNobody _ _ 6 (by decide), move6]
theorem leave10 (x : wSt) (c p : Int32) : fX1_leaveFor x c p 10 = upd (x 10) c.toNatClampNeg (-1) := by
  unfold fX1_leaveFor fX1_belongToNobody
  rw [rset_ne (by decide), rset_ne (by decide), rset_ne (by decide), rset_eq, frX1_moveTo _ _ _ 10 (by decide)]
theorem leave11 (x : wSt) (c p : Int32) : fX1_leaveFor x c p 11 = upd (x 11) c.toNatClampNeg (-1) := by
  unfold fX1_leaveFor fX1_belongToNobody
  rw [rset_ne (by decide), rset_ne (by decide), rset_eq, frX1_moveTo _ _ _ 11 (by decide)]
theorem leave12 (x : wSt) (c p : Int32) : fX1_leaveFor x c p 12 = upd (x 12) c.toNatClampNeg (-1) := by
  unfold fX1_leaveFor fX1_belongToNobody
  rw [rset_ne (by decide), rset_eq, frX1_moveTo _ _ _ 12 (by decide)]
theorem leave13 (x : wSt) (c p : Int32) : fX1_leaveFor x c p 13 = upd (x 13) c.toNatClampNeg 0 := by
  unfold fX1_leaveFor fX1_belongToNobody
  rw [rset_eq, frX1_moveTo _ _ _ 13 (by decide)]
theorem vT_leave {x : wSt} (hI : iI x) (hT : vT x) {c p : Int32} (h0 : 0 ≤ c.toInt) (h1 : c.toInt < (x 36 0).toInt) (ha : 0 ≤ (x 7 c.toNatClampNeg).toInt ∧ (x 7 c.toNatClampNeg).toInt ≤ 11) (hb : 0 ≤ (x 8 c.toNatClampNeg).toInt ∧ (x 8 c.toNatClampNeg).toInt ≤ 3) : vT (fX1_leaveFor x c p) := by
  unfold fX1_leaveFor
  exact vT_fr (fun k hk => frX1_belongToNobody _ _ k (by omega)) (vT_move hI hT h0 h1 ha hb)
theorem sim_sell : Sim_sell Rel := by
  intro x y hr c p
  obtain ⟨hs, hb, hx⟩ := id hr
  have hB := iI_b hx.1
  have t0 : (0 : Int32).toInt = 0 := rfl
  have t4 : (4 : Int32).toInt = 4 := rfl
  have tm : (-1 : Int32).toInt = -1 := rfl
  unfold fX6_sell fX7_sell fX1_isAt
  rw [isCopy_eq hs hx.1, hs 6 (by omega), in_eq x y, hs 32 (by omega)]
  by_cases c1 : fX1_has x c = 0
  · rw [if_pos c1, if_pos c1, if_pos rfl]; exact ⟨rfl, hr⟩
  · rw [if_neg c1, if_neg c1]
    by_cases c2 : x 6 c.toNatClampNeg = 0
    · rw [if_pos c2, if_pos c2, if_neg (show ¬ (1 : Int32) = 0 by decide)]
      by_cases c3 : fX6_within x p 0 1000 = 0
      · rw [if_pos c3, if_pos c3]; exact ⟨rfl, hr⟩
      · rw [if_neg c3, if_neg c3, frX1_leaveFor _ _ _ 32 (by decide)]
        refine ⟨rfl, Rel_set (by omega) ?_⟩
        have d1 := tX1_has x c (i_ne c1)
        have d2 := i_cl d1.1
        have d3 := i_eq c2
        have hC := hx.2.2.2.1 c.toNatClampNeg (by omega)
        obtain ⟨k1, k2, k3, k4, k5, k6, k7, k8, k9⟩ := id hC
        have z10 : x 10 c.toNatClampNeg = -1 := Int32.toInt_inj.mp (by have := k5 (by omega); omega)
        have z11 : x 11 c.toNatClampNeg = -1 := Int32.toInt_inj.mp (by have := k7 (by omega); omega)
        have z12 : x 12 c.toNatClampNeg = -1 := Int32.toInt_inj.mp (by have := k8 (by omega); omega)
        have z13 : x 13 c.toNatClampNeg = 0 := Int32.toInt_inj.mp (by have := k9 (by omega); omega)
        have f10 := (leave10 x c 4).trans (u_id z10)
        have f11 := (leave11 x c 4).trans (u_id z11)
        have f12 := (leave12 x c 4).trans (u_id z12)
        have f13 := (leave13 x c 4).trans (u_id z13)
        have f6 := leave6 x c 4
        have fr : ∀ k : Nat, ¬ (k = 6 ∨ k = 15 ∨ k = 37 ∨ k = 38) → fX1_leaveFor x c 4 k = x k := by
          intro k hk
          by_cases h10 : k = 10
          · rw [h10]; exact f10
          · by_cases h11 : k = 11
            · rw [h11]; exact f11
            · by_cases h12 : k = 12
              · rw [h12]; exact f12
              · by_cases h13 : k = 13
                · rw [h13]; exact f13
                · exact frX1_leaveFor _ _ _ k (by omega)
        refine ⟨fun k hk => ?_, fun d hd hst => ?_, ?_⟩
        · by_cases h6 : k = 6
          · rw [h6, f6, rset_eq]
          · rw [fr k (by omega), rset_ne h6]; exact hs k hk
        · rw [fr 36 (by omega)] at hd
          rw [f6] at hst
          rw [fr 13 (by omega), rset_ne (show (13 : Nat) ≠ 6 by decide)]
          by_cases e : d = c.toNatClampNeg
          · rw [e, u_eq] at hst; omega
          · rw [u_ne e] at hst; exact hb d hd hst
        · have s6 : fX1_leaveFor x c 4 6 c.toNatClampNeg = 4 := by rw [f6, u_eq]
          refine vX_one hx (c := c.toNatClampNeg) (by omega) (fun k hk => fr k (by omega)) (fun k hk j hj => ?_) ?_ (vT_leave hx.1 hx.2.2.2.2.2.2.2.1 d1.1 d1.2 (by omega) (by omega)) (fun r _ => ?_) (fun r _ => ?_) (fun w hw => Or.inl ⟨by rw [fr 26 (by omega)], by rw [fr 11 (by omega)]⟩) (fun w hw z => ?_) (fun w hw => ⟨by rw [fr 24 (by omega)], by rw [fr 25 (by omega)]⟩)
          · by_cases h6 : k = 6
            · rw [h6, f6, u_ne hj]
            · rw [fr k (by omega)]
          · unfold vC1
            rw [s6, fr 7 (by omega), fr 8 (by omega), fr 34 (by omega), fr 10 (by omega), fr 39 (by omega), fr 11 (by omega), fr 40 (by omega), fr 12 (by omega), fr 13 (by omega), z10, z11, z12, z13]
            omega
          · unfold vStep
            rw [s6, fr 20 (by omega), fr 10 (by omega)]
            omega
          · unfold vStep
            rw [s6, fr 21 (by omega), fr 10 (by omega)]
            omega
          · rw [fr 24 (by omega)] at z
            rw [fr 25 (by omega)]
            exact (hx.2.2.2.2.2.1 w hw).2.2.1 z
    · rw [if_neg c2, if_neg c2, if_pos rfl]; exact ⟨rfl, hr⟩
