/-! Part 78: the turns -/
theorem le10 (x : wSt) (c r w : Int32) : fX1_lend x c r w 10 = upd (x 10) c.toNatClampNeg r := by
  unfold fX1_lend
  rw [rset_ne (by decide), rset_ne (by decide), rset_eq]
theorem le11 (x : wSt) (c r w : Int32) : fX1_lend x c r w 11 = upd (x 11) c.toNatClampNeg w := by
  unfold fX1_lend
  rw [rset_ne (by decide), rset_eq]
theorem le14 (x : wSt) (c r w : Int32) : fX1_lend x c r w 14 = upd (x 14) c.toNatClampNeg (x 14 c.toNatClampNeg + 1) := by
  unfold fX1_lend
  rw [rset_eq]
theorem so6 (x : wSt) (c d : Int32) : fX1_sendOut x c d 6 = upd (x 6) c.toNatClampNeg 2 := by
  unfold fX1_sendOut
  rw [rset_ne (by decide), move6]
theorem so13 (x : wSt) (c d : Int32) : fX1_sendOut x c d 13 = upd (x 13) c.toNatClampNeg d := by
  unfold fX1_sendOut
  rw [rset_eq, frX1_moveTo _ _ _ 13 (by decide)]
theorem vT_so {x : wSt} (hI : iI x) (hT : vT x) {c d : Int32} (h0 : 0 ≤ c.toInt) (h1 : c.toInt < (x 36 0).toInt) (ha : 0 ≤ (x 7 c.toNatClampNeg).toInt ∧ (x 7 c.toNatClampNeg).toInt ≤ 11) (hb : 0 ≤ (x 8 c.toNatClampNeg).toInt ∧ (x 8 c.toNatClampNeg).toInt ≤ 3) : vT (fX1_sendOut x c d) := by
  unfold fX1_sendOut
  exact vT_fr (fun k hk => rset_ne (by omega)) (vT_move (p := 2) hI hT h0 h1 ha hb)
/-- a copy from the shelf goes out: what both sides have in common -/
theorem lend_core {p q A B : wSt} (hr : Rel p q) {c w s d n : Int32} {r : Nat} (h0 : 0 ≤ c.toInt) (h1 : c.toInt < (p 36 0).toInt) (hsh : (p 6 c.toNatClampNeg).toInt = 0) (w0 : 0 ≤ w.toInt) (w1 : w.toInt < (p 40 0).toInt) (hw : (p 26 w.toNatClampNeg).toInt = -1)
    (hr0 : (p 22 w.toNatClampNeg).toInt = (r : Int)) (hr1 : (r : Int) < (p 39 0).toInt) (hst : (s.toInt = 1 ∧ d.toInt = 0) ∨ (s.toInt = 2 ∧ n.toInt = -1))
    (a6 : A 6 = upd (p 6) c.toNatClampNeg s) (a10 : A 10 = upd (p 10) c.toNatClampNeg (p 22 w.toNatClampNeg)) (a11 : A 11 = upd (p 11) c.toNatClampNeg w) (a12 : A 12 = upd (p 12) c.toNatClampNeg n) (a13 : A 13 = upd (p 13) c.toNatClampNeg d) (a14 : A 14 = upd (p 14) c.toNatClampNeg (p 14 c.toNatClampNeg + 1)) (a26 : A 26 = upd (p 26) w.toNatClampNeg c)
    (aT : vT A) (a20 : ∀ j : Nat, (A 20 j).toInt = (if s.toInt = 1 ∧ j = r then (p 20 j).toInt + 1 else (p 20 j).toInt)) (a21 : ∀ j : Nat, (A 21 j).toInt = (if s.toInt = 2 ∧ j = r then (p 21 j).toInt + 1 else (p 21 j).toInt))
    (af : ∀ k : Nat, ¬ (k = 6 ∨ k = 10 ∨ k = 11 ∨ k = 12 ∨ k = 13 ∨ k = 14 ∨ k = 15 ∨ k = 20 ∨ k = 21 ∨ k = 26 ∨ k = 37 ∨ k = 38) → A k = p k)
    (b6 : B 6 = upd (p 6) c.toNatClampNeg s) (b10 : B 10 = upd (p 10) c.toNatClampNeg (p 22 w.toNatClampNeg)) (b11 : B 11 = upd (p 11) c.toNatClampNeg w) (b12 : B 12 = upd (p 12) c.toNatClampNeg n) (b13 : B 13 = upd (q 13) c.toNatClampNeg d) (b14 : B 14 = upd (p 14) c.toNatClampNeg (p 14 c.toNatClampNeg + 1))
    (bf : ∀ k : Nat, ¬ (k = 6 ∨ k = 10 ∨ k = 11 ∨ k = 12 ∨ k = 13 ∨ k = 14) → B k = q k) : Rel A B := by
  obtain ⟨hs, hb, hx⟩ := id hr
  have hB := iI_b hx.1
  have d2 := i_cl h0
  have ew := i_cl w0
  obtain ⟨k1, k2, k3, k4, k5, k6, k7, k8, k9⟩ := hx.2.2.2.1 c.toNatClampNeg (by omega)
  have z10 := k5 (by omega)
  have z11 := k7 (by omega)
  have s6 : A 6 c.toNatClampNeg = s := by rw [a6, u_eq]
  have s10 : A 10 c.toNatClampNeg = p 22 w.toNatClampNeg := by rw [a10, u_eq]
  have s11 : A 11 c.toNatClampNeg = w := by rw [a11, u_eq]
  have s12 : A 12 c.toNatClampNeg = n := by rw [a12, u_eq]
  have s13 : A 13 c.toNatClampNeg = d := by rw [a13, u_eq]
  refine move_core hr (c := c.toNatClampNeg) (by omega) (fun k hk => af k (by omega)) (fun k hk => ?_) (fun k hk j hj => ?_) (fun j hj => by rw [b13, u_ne hj]) (fun _ => by rw [b13, u_eq, s13]) ?_ aT (fun j h => ?_) (fun j h => ?_) (fun v h => ?_) (fun v h => by rw [af 24 (by omega), af 25 (by omega)]; exact (hx.2.2.2.2.2.1 v h).2.2.1) (fun v h => by rw [af 24 (by omega), af 25 (by omega)]; exact ⟨rfl, rfl⟩)
  · by_cases e6 : k = 6
    · rw [e6, b6, a6]
    · by_cases e10 : k = 10
      · rw [e10, b10, a10]
      · by_cases e11 : k = 11
        · rw [e11, b11, a11]
        · by_cases e12 : k = 12
          · rw [e12, b12, a12]
          · by_cases e14 : k = 14
            · rw [e14, b14, a14]
            · rw [bf k (by omega), af k (by omega)]; exact hs k hk
  · by_cases e6 : k = 6
    · rw [e6, a6, u_ne hj]
    · by_cases e10 : k = 10
      · rw [e10, a10, u_ne hj]
      · by_cases e11 : k = 11
        · rw [e11, a11, u_ne hj]
        · by_cases e12 : k = 12
          · rw [e12, a12, u_ne hj]
          · by_cases e13 : k = 13
            · rw [e13, a13, u_ne hj]
            · rw [show k = 14 by omega, a14, u_ne hj]
  · unfold vC1
    rw [s6, s10, s11, s12, s13, af 7 (by omega), af 8 (by omega), af 34 (by omega), af 39 (by omega), af 40 (by omega)]
    omega
  · unfold vStep
    rw [s6, s10, a20 j]
    by_cases e : s.toInt = 1 ∧ j = r
    · rw [if_pos e]; omega
    · rw [if_neg e]; omega
  · unfold vStep
    rw [s6, s10, a21 j]
    by_cases e : s.toInt = 2 ∧ j = r
    · rw [if_pos e]; omega
    · rw [if_neg e]; omega
  · rw [s11, a26]
    by_cases e : v = w.toNatClampNeg
    · rw [e, u_eq]; exact Or.inr (Or.inr ⟨by omega, hw, by omega⟩)
    · rw [u_ne e]; exact Or.inl ⟨rfl, ⟨fun z => by omega, fun z => by omega⟩⟩
theorem lend_rel {p q : wSt} (hr2 : Rel2 p q) {w : Int32} (w0 : 0 ≤ w.toInt) (w1 : w.toInt < (p 40 0).toInt) (hc : ¬ fX6_canGet p w = 0) : Rel2 (fX6_lendFor p w) (fX7_gets q w) := by
  obtain ⟨hr, hv⟩ := hr2
  refine ⟨?_, vB_fr (frX6_lendFor p w 17 (by decide)) hv⟩
  obtain ⟨hs, hb, hx⟩ := id hr
  have hB := iI_b hx.1
  have t0 : (0 : Int32).toInt = 0 := rfl
  have t1 : (1 : Int32).toInt = 1 := rfl
  have t2 : (2 : Int32).toInt = 2 := rfl
  have tm : (-1 : Int32).toInt = -1 := rfl
  have ew := i_cl w0
  obtain ⟨c1, c2⟩ := can_sp hc
  obtain ⟨g1, g2⟩ := waits_sp c1
  obtain ⟨v1, v2, v3, v4⟩ := hx.2.2.2.2.2.1 w.toNatClampNeg (by omega)
  have v5 := v3 (i_eq g1)
  have er := i_cl v1.1
  have et := i_cl v2.1
  have v6 := hx.1.2.1 (p 23 w.toNatClampNeg).toNatClampNeg (by omega)
  have sh := shelf_eq hx (t := p 23 w.toNatClampNeg) (v := p 25 w.toNatClampNeg) (by omega) (by omega)
  have n1 : ¬ fX1_leastOnShelf p (p 23 w.toNatClampNeg) (p 25 w.toNatClampNeg) = -1 := fun z => c2 (sh.mpr z)
  have eL : fX7_shelved q (q 23 w.toNatClampNeg) (q 25 w.toNatClampNeg) = fX1_leastOnShelf p (p 23 w.toNatClampNeg) (p 25 w.toNatClampNeg) := by
    rw [hs 23 (by omega), hs 25 (by omega), least_eq (hs 6 (by omega)) (hs 7 (by omega)) (hs 8 (by omega)) (hs 36 (by omega))]
  have h8 := tX7_shelved p (p 23 w.toNatClampNeg) (p 25 w.toNatClampNeg)
  rw [least_eq (q := p) (p := p) rfl rfl rfl rfl] at h8
  have h9 := h8.resolve_left n1
  unfold fX6_lendFor fX7_gets
  rw [if_neg n1, if_neg (hX3 v1.1 v1.2), eL]
  clear h8 c2 sh eL
  generalize fX1_leastOnShelf p (p 23 w.toNatClampNeg) (p 25 w.toNatClampNeg) = c at n1 h9 ⊢
  obtain ⟨d0, d1, d6, -, -⟩ := h9
  have ec := i_cl d0
  obtain ⟨k1, k2, k3, k4, k5, k6, k7, k8, k9⟩ := hx.2.2.2.1 c.toNatClampNeg (by omega)
  have z6 := i_eq d6
  have z12 : p 12 c.toNatClampNeg = -1 := Int32.toInt_inj.mp (by have := k8 (by omega); omega)
  have rr := row_rng hx (r := (p 22 w.toNatClampNeg).toNatClampNeg) (by omega)
  have L10 : fX1_lend (rset p 26 (upd (p 26) w.toNatClampNeg c)) c (p 22 w.toNatClampNeg) w 10 = upd (p 10) c.toNatClampNeg (p 22 w.toNatClampNeg) := by rw [le10, rset_ne (by decide)]
  have L11 : fX1_lend (rset p 26 (upd (p 26) w.toNatClampNeg c)) c (p 22 w.toNatClampNeg) w 11 = upd (p 11) c.toNatClampNeg w := by rw [le11, rset_ne (by decide)]
  have L14 : fX1_lend (rset p 26 (upd (p 26) w.toNatClampNeg c)) c (p 22 w.toNatClampNeg) w 14 = upd (p 14) c.toNatClampNeg (p 14 c.toNatClampNeg + 1) := by rw [le14, rset_ne (by decide)]
  have L26 : fX1_lend (rset p 26 (upd (p 26) w.toNatClampNeg c)) c (p 22 w.toNatClampNeg) w 26 = upd (p 26) w.toNatClampNeg c := by rw [frX1_lend _ _ _ _ 26 (by decide), rset_eq]
  have Lf : ∀ k : Nat, ¬ (k = 10 ∨ k = 11 ∨ k = 14 ∨ k = 26) → fX1_lend (rset p 26 (upd (p 26) w.toNatClampNeg c)) c (p 22 w.toNatClampNeg) w k = p k := fun k hk => (frX1_lend _ _ _ _ k (by omega)).trans (rset_ne (by omega))
  generalize fX1_lend (rset p 26 (upd (p 26) w.toNatClampNeg c)) c (p 22 w.toNatClampNeg) w = L at L10 L11 L14 L26 Lf ⊢
  have LI : iI L := iI_fr (fun k hk => Lf k (by omega)) hx.1
  have LT : vT L := vT_fr (fun k hk => Lf k (by omega)) hx.2.2.2.2.2.2.2.1
  have g0 := hv (p 22 w.toNatClampNeg).toNatClampNeg
  unfold fX7_gets_j1 fX7_gets_j2
  rw [Lf 17 (by omega), Lf 30 (by omega), hs 22 (by omega), hs 17 (by omega), hs 10 (by omega), hs 11 (by omega), hs 14 (by omega), hs 6 (by omega), hs 12 (by omega), hs 30 (by omega)]
  by_cases g : p 17 (p 22 w.toNatClampNeg).toNatClampNeg = 0
  · have gl : p 17 (p 22 w.toNatClampNeg).toNatClampNeg ≤ 0 := Int32.le_iff_toInt_le.mpr (by have := i_eq g; omega)
    rw [if_pos g, if_pos gl, if_pos gl, frX1_handOver L c (p 30 0) 20 (by decide), Lf 20 (by omega), g]
    have f6 := ho6 L c (p 30 0)
    have f12 := ho12 L c (p 30 0)
    have f13 := ho13 L c (p 30 0)
    rw [Lf 6 (by omega)] at f6
    rw [Lf 12 (by omega)] at f12
    rw [Lf 13 (by omega)] at f13
    have ff : ∀ k : Nat, ¬ (k = 6 ∨ k = 12 ∨ k = 13 ∨ k = 15 ∨ k = 37 ∨ k = 38) → fX1_handOver L c (p 30 0) k = L k := fun k hk => frX1_handOver _ _ _ k (by omega)
    have fT : vT (fX1_handOver L c (p 30 0)) := vT_ho LI LT d0 (by rw [Lf 36 (by omega)]; exact d1) (by rw [Lf 7 (by omega)]; omega) (by rw [Lf 8 (by omega)]; omega)
    generalize fX1_handOver L c (p 30 0) = Z at f6 f12 f13 ff fT ⊢
    refine lend_core hr (c := c) (w := w) (s := 1) (d := 0) (n := p 30 0) (r := (p 22 w.toNatClampNeg).toNatClampNeg) d0 d1 z6 w0 w1 (i_eq g2) (by omega) (by omega) (Or.inl ⟨rfl, rfl⟩) ?_ ?_ ?_ ?_ ?_ ?_ ?_ ?_ (fun j => ?_) (fun j => ?_) (fun k hk => ?_) ?_ ?_ ?_ ?_ ?_ ?_ (fun k hk => ?_)
    · rw [rset_ne (by decide), f6]
    · rw [rset_ne (by decide), ff 10 (by omega), L10]
    · rw [rset_ne (by decide), ff 11 (by omega), L11]
    · rw [rset_ne (by decide), f12]
    · rw [rset_ne (by decide), f13]
    · rw [rset_ne (by decide), ff 14 (by omega), L14]
    · rw [rset_ne (by decide), ff 26 (by omega), L26]
    · exact vT_fr (fun k hk => rset_ne (by omega)) fT
    · rw [rset_eq]
      by_cases e : j = (p 22 w.toNatClampNeg).toNatClampNeg
      · rw [e, u_eq, if_pos ⟨rfl, rfl⟩, i_inc (by omega)]
      · rw [u_ne e, if_neg (fun z => e z.2)]
    · rw [rset_ne (by decide), ff 21 (by omega), Lf 21 (by omega), if_neg (fun z => absurd z.1 (by decide))]
    · rw [rset_ne (by omega), ff k (by omega), Lf k (by omega)]
    · rw [rset_ne (by decide), rset_eq]
    · rw [rset_ne (by decide), rset_ne (by decide), rset_ne (by decide), rset_ne (by decide), rset_ne (by decide), rset_eq]
    · rw [rset_ne (by decide), rset_ne (by decide), rset_ne (by decide), rset_ne (by decide), rset_eq]
    · rw [rset_eq]
    · rw [rset_ne (by decide), rset_ne (by decide), rset_eq]
    · rw [rset_ne (by decide), rset_ne (by decide), rset_ne (by decide), rset_eq]
    · rw [rset_ne (by omega), rset_ne (by omega), rset_ne (by omega), rset_ne (by omega), rset_ne (by omega), rset_ne (by omega)]
  · have gn : ¬ p 17 (p 22 w.toNatClampNeg).toNatClampNeg ≤ 0 := fun z => by have := i_le z; have := i_ne g; omega
    rw [if_neg g, if_neg gn, if_neg gn, frX1_sendOut L c _ 21 (by decide), Lf 21 (by omega)]
    generalize p 17 (p 22 w.toNatClampNeg).toNatClampNeg = D at g gn ⊢
    have f6 := so6 L c D
    have f13 := so13 L c D
    rw [Lf 6 (by omega)] at f6
    rw [Lf 13 (by omega)] at f13
    have ff : ∀ k : Nat, ¬ (k = 6 ∨ k = 13 ∨ k = 15 ∨ k = 37 ∨ k = 38) → fX1_sendOut L c D k = L k := fun k hk => frX1_sendOut _ _ _ k (by omega)
    have fT : vT (fX1_sendOut L c D) := vT_so LI LT d0 (by rw [Lf 36 (by omega)]; exact d1) (by rw [Lf 7 (by omega)]; omega) (by rw [Lf 8 (by omega)]; omega)
    generalize fX1_sendOut L c D = Z at f6 f13 ff fT ⊢
    refine lend_core hr (c := c) (w := w) (s := 2) (d := D) (n := -1) (r := (p 22 w.toNatClampNeg).toNatClampNeg) d0 d1 z6 w0 w1 (i_eq g2) (by omega) (by omega) (Or.inr ⟨rfl, rfl⟩) ?_ ?_ ?_ ?_ ?_ ?_ ?_ ?_ (fun j => ?_) (fun j => ?_) (fun k hk => ?_) ?_ ?_ ?_ ?_ ?_ ?_ (fun k hk => ?_)
    · rw [rset_ne (by decide), f6]
    · rw [rset_ne (by decide), ff 10 (by omega), L10]
    · rw [rset_ne (by decide), ff 11 (by omega), L11]
    · rw [rset_ne (by decide), ff 12 (by omega), Lf 12 (by omega), u_id z12]
    · rw [rset_ne (by decide), f13]
    · rw [rset_ne (by decide), ff 14 (by omega), L14]
    · rw [rset_ne (by decide), ff 26 (by omega), L26]
    · exact vT_fr (fun k hk => rset_ne (by omega)) fT
    · rw [rset_ne (by decide), ff 20 (by omega), Lf 20 (by omega), if_neg (fun z => absurd z.1 (by decide))]
    · rw [rset_eq]
      by_cases e : j = (p 22 w.toNatClampNeg).toNatClampNeg
      · rw [e, u_eq, if_pos ⟨rfl, rfl⟩, i_inc (by omega)]
      · rw [u_ne e, if_neg (fun z => e z.2)]
    · rw [rset_ne (by omega), ff k (by omega), Lf k (by omega)]
    · rw [rset_ne (by decide), rset_eq]
    · rw [rset_ne (by decide), rset_ne (by decide), rset_ne (by decide), rset_ne (by decide), rset_ne (by decide), rset_eq]
    · rw [rset_ne (by decide), rset_ne (by decide), rset_ne (by decide), rset_ne (by decide), rset_eq]
    · rw [rset_eq]
    · rw [rset_ne (by decide), rset_ne (by decide), rset_eq]
    · rw [rset_ne (by decide), rset_ne (by decide), rset_ne (by decide), rset_eq]
    · rw [rset_ne (by omega), rset_ne (by omega), rset_ne (by omega), rset_ne (by omega), rset_ne (by omega), rset_ne (by omega)]
/-- nobody can have -/
def nob (p : wSt) : Prop := ∀ w : Int32, 0 ≤ w.toInt → w.toInt < (p 40 0).toInt → fX6_canGet p w = 0
theorem turns_core (x y : wSt) (n1 : Nat) (n2 : Nat) (u f : Int32) (p q : wSt) (hr : Rel2 p q) (h1 : shN q < n1) (h2 : 0 ≤ u.toInt) (h3 : u.toInt + (shN q : Int) ≤ 200) (h4 : shN q + 2 ≤ n2) (h5 : ¬ f = -1) : Rel2 (lX6_takeTurns_1 x n1 u p) (lX7_turns_1 y n2 f q) ∧ nob (lX6_takeTurns_1 x n1 u p) := by
  have t200 : (200 : Int32).toInt = 200 := rfl
  have tm : (-1 : Int32).toInt = -1 := rfl
  induction n1 generalizing n2 u f p q with
  | zero => exact absurd h1 (Nat.not_lt_zero _)
  | succ n1 ih =>
    obtain ⟨m, rfl⟩ : ∃ m, n2 = m + 2 := ⟨n2 - 2, by omega⟩
    rw [lX6_takeTurns_1_s, lX7_turns_1_s, if_neg h5, next_eq hr.1]
    by_cases hn : fX6_nextInTurn p = -1
    · rw [if_pos hn, if_pos hn, lX7_turns_1_s, if_pos hn, ite_self]
      exact ⟨hr, next_none hn⟩
    · rw [if_neg hn, if_neg hn]
      rcases next_sp hr.1 with z | ⟨z0, z1, z2⟩
      · exact absurd (Int32.toInt_inj.mp z) hn
      · have hB := iI_b hr.1.2.2.1
        have sg := tX7_gets_sh q (fX6_nextInTurn p) (by rw [can_eq hr.1 z0 z1]; exact i_ne z2) (by rw [hr.1.1 36 (by omega)]; omega)
        rw [if_neg (show ¬ 200 ≤ u from fun z => by have := i_le z; omega)]
        exact ih (m + 1) (u + 1) _ _ _ (lend_rel hr z0 z1 z2) (by omega) (by rw [i_inc (by omega)]; omega) (by rw [i_inc (by omega)]; omega) (by omega) hn
theorem turns_eq {p q : wSt} (hr : Rel2 p q) : Rel2 (fX6_takeTurns p) (fX7_turns q) ∧ nob (fX6_takeTurns p) := by
  have hB := iI_b hr.1.2.2.1
  have e36 := hr.1.1 36 (by omega)
  have eN := i_cl (show 0 ≤ (p 36 0).toInt by omega)
  have t0 : (0 : Int32).toInt = 0 := rfl
  have t200 : (200 : Int32).toInt = 200 := rfl
  have hs : shN q ≤ 200 := by
    unfold shN
    rw [e36]
    have := cN_le (P := fun c => decide (q 6 c = 0)) (p 36 0).toNatClampNeg
    omega
  unfold fX6_takeTurns fX7_turns
  exact turns_core p q _ _ _ _ p q hr (by omega) (by decide) (by omega) (by omega) (by decide)
theorem turns_id {p q : wSt} (hr : Rel2 p q) (hn : nob p) : fX6_takeTurns p = p := by
  have h : fX6_nextInTurn p = -1 := by
    rcases next_sp hr.1 with z | ⟨z0, z1, z2⟩
    · exact Int32.toInt_inj.mp z
    · exact absurd (hn _ z0 z1) z2
  unfold fX6_takeTurns
  rw [lX6_takeTurns_1_s, if_pos h, ite_self]
