/-! Part 76: the boxes -/
theorem tally15n {q : wSt} {c ch : Int32} (h : ¬ q 6 c.toNatClampNeg = 0) : fX1_tally q c ch 15 = q 15 := by
  have h1 : fX1_tally q c ch 15 = fX1_tally_j1 q c ch 15 := by
    unfold fX1_tally fX1_tally_j2
    (repeat' split) <;> simp [rset]
  rw [h1]
  unfold fX1_tally_j1
  rw [if_neg h]
theorem move15 {x : wSt} {c p : Int32} (h : ¬ x 6 c.toNatClampNeg = 0) (hp : ¬ p = 0) : fX1_moveTo x c p 15 = x 15 := by
  unfold fX1_moveTo
  rw [tally15n (by rw [rset_eq, u_eq]; exact hp), rset_ne (by decide), tally15n h]
/-- the rows of handOver -/
theorem ho6 (x : wSt) (c d : Int32) : fX1_handOver x c d 6 = upd (x 6) c.toNatClampNeg 1 := by
  unfold fX1_handOver
  rw [rset_ne (by decide), rset_ne (by decide), move6]
theorem ho12 (x : wSt) (c d : Int32) : fX1_handOver x c d 12 = upd (x 12) c.toNatClampNeg d := by
  unfold fX1_handOver
  rw [rset_ne (by decide), rset_eq, frX1_moveTo _ _ _ 12 (by decide)]
theorem ho13 (x : wSt) (c d : Int32) : fX1_handOver x c d 13 = upd (x 13) c.toNatClampNeg 0 := by
  unfold fX1_handOver
  rw [rset_eq, frX1_moveTo _ _ _ 13 (by decide)]
theorem ho15 {x : wSt} {c d : Int32} (h : ¬ x 6 c.toNatClampNeg = 0) : fX1_handOver x c d 15 = x 15 := by
  unfold fX1_handOver
  rw [rset_ne (by decide), rset_ne (by decide), move15 h (by decide)]
theorem vT_ho {x : wSt} (hI : iI x) (hT : vT x) {c d : Int32} (h0 : 0 ≤ c.toInt) (h1 : c.toInt < (x 36 0).toInt) (ha : 0 ≤ (x 7 c.toNatClampNeg).toInt ∧ (x 7 c.toNatClampNeg).toInt ≤ 11) (hb : 0 ≤ (x 8 c.toNatClampNeg).toInt ∧ (x 8 c.toNatClampNeg).toInt ≤ 3) : vT (fX1_handOver x c d) := by
  unfold fX1_handOver
  exact vT_fr (fun k hk => (rset_ne (by omega)).trans (rset_ne (by omega))) (vT_move (p := 1) hI hT h0 h1 ha hb)
/-- a box has a day less -/
theorem box_less {p q : wSt} (hr : Rel p q) {c : Nat} {D : Int32} (h1 : (c : Int) < (p 36 0).toInt) (hst : (p 6 c).toInt = 2 ∨ (p 6 c).toInt = 3) : Rel (rset p 13 (upd (p 13) c D)) (rset q 13 (upd (q 13) c D)) := by
  obtain ⟨hs, hb, hx⟩ := id hr
  have af : ∀ k : Nat, k ≠ 13 → rset p 13 (upd (p 13) c D) k = p k := fun k hk => rset_ne hk
  have a13 : rset p 13 (upd (p 13) c D) 13 = upd (p 13) c D := rset_eq
  have bf : ∀ k : Nat, k ≠ 13 → rset q 13 (upd (q 13) c D) k = q k := fun k hk => rset_ne hk
  have b13 : rset q 13 (upd (q 13) c D) 13 = upd (q 13) c D := rset_eq
  generalize rset p 13 (upd (p 13) c D) = A at af a13 ⊢
  generalize rset q 13 (upd (q 13) c D) = B at bf b13 ⊢
  refine move_core hr h1 (fun k hk => af k (by omega)) (fun k hk => by rw [bf k (by omega), af k (by omega)]; exact hs k hk) (fun k hk j hj => ?_) (fun j hj => by rw [b13, u_ne hj]) (fun _ => by rw [b13, a13, u_eq, u_eq]) ?_ (vT_fr (fun k hk => af k (by omega)) hx.2.2.2.2.2.2.2.1) (fun r h => ?_) (fun r h => ?_) (fun w h => Or.inl ⟨by rw [af 26 (by omega)], by rw [af 11 (by omega)]⟩) (fun w h => by rw [af 24 (by omega), af 25 (by omega)]; exact (hx.2.2.2.2.2.1 w h).2.2.1) (fun w h => by rw [af 24 (by omega), af 25 (by omega)]; exact ⟨rfl, rfl⟩)
  · by_cases k13 : k = 13
    · rw [k13, a13, u_ne hj]
    · rw [af k k13]
  · obtain ⟨k1, k2, k3, k4, k5, k6, k7, k8, k9⟩ := hx.2.2.2.1 c h1
    unfold vC1
    rw [af 6 (by omega), af 7 (by omega), af 8 (by omega), af 34 (by omega), af 10 (by omega), af 39 (by omega), af 11 (by omega), af 40 (by omega), af 12 (by omega)]
    exact ⟨k1, k2, k3, k4, k5, k6, k7, k8, fun z => absurd hst z⟩
  · unfold vStep; rw [af 6 (by omega), af 10 (by omega), af 20 (by omega)]; omega
  · unfold vStep; rw [af 6 (by omega), af 10 (by omega), af 21 (by omega)]; omega
/-- a box comes back to the shelf -/
theorem box_back {p q : wSt} (hr : Rel p q) {b D : Int32} (h0 : 0 ≤ b.toInt) (h1 : b.toInt < (p 36 0).toInt) (hst : (p 6 b.toNatClampNeg).toInt = 3) : Rel (fX6_unpack (rset p 13 (upd (p 13) b.toNatClampNeg D)) b) (rset (rset (rset q 13 (upd (q 13) b.toNatClampNeg D)) 6 (upd (q 6) b.toNatClampNeg 0)) 10 (upd (q 10) b.toNatClampNeg (-1))) := by
  obtain ⟨hs, hb, hx⟩ := id hr
  have hB := iI_b hx.1
  have t0 : (0 : Int32).toInt = 0 := rfl
  have t3 : (3 : Int32).toInt = 3 := rfl
  have tm : (-1 : Int32).toInt = -1 := rfl
  have d2 := i_cl h0
  obtain ⟨k1, k2, k3, k4, k5, k6, k7, k8, k9⟩ := hx.2.2.2.1 b.toNatClampNeg (by omega)
  obtain ⟨r0, r1⟩ := k4 (by omega)
  have er := i_cl r0
  have rr := row_rng hx (r := (p 10 b.toNatClampNeg).toNatClampNeg) (by omega)
  have z11 : p 11 b.toNatClampNeg = -1 := Int32.toInt_inj.mp (by have := k7 (by omega); omega)
  have z12 : p 12 b.toNatClampNeg = -1 := Int32.toInt_inj.mp (by have := k8 (by omega); omega)
  have af : ∀ k : Nat, k ≠ 13 → rset p 13 (upd (p 13) b.toNatClampNeg D) k = p k := fun k hk => rset_ne hk
  have a13 : rset p 13 (upd (p 13) b.toNatClampNeg D) 13 = upd (p 13) b.toNatClampNeg D := rset_eq
  generalize rset p 13 (upd (p 13) b.toNatClampNeg D) = A at af a13 ⊢
  unfold fX6_unpack
  rw [af 10 (by omega), af 6 (by omega), af 21 (by omega), if_neg (hX3 r0 (by rw [af 39 (by omega)]; exact r1)), if_pos (show p 6 b.toNatClampNeg = 3 from Int32.toInt_inj.mp hst)]
  rw [show ∀ (z : wSt) (c : Int32), fX1_shelve z c = fX1_leaveFor z c 0 from fun _ _ => rfl]
  have xf : ∀ k : Nat, k ≠ 21 → rset A 21 (upd (p 21) (p 10 b.toNatClampNeg).toNatClampNeg (p 21 (p 10 b.toNatClampNeg).toNatClampNeg - 1)) k = A k := fun k hk => rset_ne hk
  have x21 : rset A 21 (upd (p 21) (p 10 b.toNatClampNeg).toNatClampNeg (p 21 (p 10 b.toNatClampNeg).toNatClampNeg - 1)) 21 = upd (p 21) (p 10 b.toNatClampNeg).toNatClampNeg (p 21 (p 10 b.toNatClampNeg).toNatClampNeg - 1) := rset_eq
  generalize rset A 21 (upd (p 21) (p 10 b.toNatClampNeg).toNatClampNeg (p 21 (p 10 b.toNatClampNeg).toNatClampNeg - 1)) = X at xf x21 ⊢
  refine leave_core hr h0 h1 (by omega) (fun k hk => (xf k (by omega)).trans (af k (by omega))) (fun j hj => by rw [xf 13 (by omega), a13, u_ne hj]) (fun k hk => ?_) ?_ ?_ ?_ ?_ (fun j hj => ?_) (fun r h => ?_) (fun r h => ?_) (fun w h => ?_) (fun w h => ?_) (fun w h => ?_)
  · rw [rset_ne (by omega), rset_ne (by omega), rset_ne (by omega), xf k (by omega), af k (by omega)]; exact hs k (by omega)
  · rw [rset_ne (by decide), rset_eq, hs 6 (by omega)]
  · rw [rset_eq, hs 10 (by omega)]
  · rw [rset_ne (by decide), rset_ne (by decide), rset_ne (by decide), u_id z11]; exact hs 11 (by omega)
  · rw [rset_ne (by decide), rset_ne (by decide), rset_ne (by decide), u_id z12]; exact hs 12 (by omega)
  · rw [rset_ne (by decide), rset_ne (by decide), rset_eq, u_ne hj]
  · rw [xf 20 (by omega), af 20 (by omega)]; exact vStep_F (fun z => rfl) (fun z => by omega)
  · rw [x21]
    by_cases e : r = (p 10 b.toNatClampNeg).toNatClampNeg
    · rw [e, u_eq]; exact vStep_F (fun z => by omega) (fun z => i_dec rr.2.1)
    · rw [u_ne e]; exact vStep_F (fun z => rfl) (fun z => by omega)
  · rw [xf 26 (by omega), af 26 (by omega)]; exact Or.inl ⟨rfl, by rw [z11]; omega⟩
  · rw [xf 24 (by omega), af 24 (by omega), xf 25 (by omega), af 25 (by omega)]; exact (hx.2.2.2.2.2.1 w h).2.2.1
  · rw [xf 24 (by omega), af 24 (by omega), xf 25 (by omega), af 25 (by omega)]; exact ⟨rfl, rfl⟩
/-- a box comes to its reader -/
theorem box_to {p q : wSt} (hr : Rel p q) {b D : Int32} (h0 : 0 ≤ b.toInt) (h1 : b.toInt < (p 36 0).toInt) (hst : (p 6 b.toNatClampNeg).toInt = 2) : Rel (fX6_unpack (rset p 13 (upd (p 13) b.toNatClampNeg D)) b) (rset (rset (rset q 13 (upd (q 13) b.toNatClampNeg D)) 6 (upd (q 6) b.toNatClampNeg 1)) 12 (upd (q 12) b.toNatClampNeg (q 30 0))) ∧ fX6_unpack (rset p 13 (upd (p 13) b.toNatClampNeg D)) b 15 = p 15 ∧ (∀ r : Nat, r < 20 → (fX6_unpack (rset p 13 (upd (p 13) b.toNatClampNeg D)) b 20 r).toInt + (fX6_unpack (rset p 13 (upd (p 13) b.toNatClampNeg D)) b 21 r).toInt = (p 20 r).toInt + (p 21 r).toInt) := by
  obtain ⟨hs, hb, hx⟩ := id hr
  have hB := iI_b hx.1
  have t0 : (0 : Int32).toInt = 0 := rfl
  have t1 : (1 : Int32).toInt = 1 := rfl
  have t2 : (2 : Int32).toInt = 2 := rfl
  have t3 : (3 : Int32).toInt = 3 := rfl
  have tm : (-1 : Int32).toInt = -1 := rfl
  have d2 := i_cl h0
  obtain ⟨k1, k2, k3, k4, k5, k6, k7, k8, k9⟩ := hx.2.2.2.1 b.toNatClampNeg (by omega)
  obtain ⟨r0, r1⟩ := k4 (by omega)
  have er := i_cl r0
  have rr := row_rng hx (r := (p 10 b.toNatClampNeg).toNatClampNeg) (by omega)
  have af : ∀ k : Nat, k ≠ 13 → rset p 13 (upd (p 13) b.toNatClampNeg D) k = p k := fun k hk => rset_ne hk
  have a13 : rset p 13 (upd (p 13) b.toNatClampNeg D) 13 = upd (p 13) b.toNatClampNeg D := rset_eq
  generalize rset p 13 (upd (p 13) b.toNatClampNeg D) = A at af a13 ⊢
  unfold fX6_unpack
  rw [af 10 (by omega), af 6 (by omega), af 21 (by omega), af 30 (by omega), if_neg (hX3 r0 (by rw [af 39 (by omega)]; exact r1)), if_neg (show ¬ p 6 b.toNatClampNeg = 3 from fun z => by have := i_eq z; omega)]
  have xf : ∀ k : Nat, k ≠ 21 → rset A 21 (upd (p 21) (p 10 b.toNatClampNeg).toNatClampNeg (p 21 (p 10 b.toNatClampNeg).toNatClampNeg - 1)) k = A k := fun k hk => rset_ne hk
  have x21 : rset A 21 (upd (p 21) (p 10 b.toNatClampNeg).toNatClampNeg (p 21 (p 10 b.toNatClampNeg).toNatClampNeg - 1)) 21 = upd (p 21) (p 10 b.toNatClampNeg).toNatClampNeg (p 21 (p 10 b.toNatClampNeg).toNatClampNeg - 1) := rset_eq
  generalize rset A 21 (upd (p 21) (p 10 b.toNatClampNeg).toNatClampNeg (p 21 (p 10 b.toNatClampNeg).toNatClampNeg - 1)) = X at xf x21 ⊢
  have xp : ∀ k : Nat, k ≠ 21 → k ≠ 13 → X k = p k := fun k hk hk' => (xf k hk).trans (af k hk')
  have x13 : X 13 = upd (p 13) b.toNatClampNeg D := (xf 13 (by omega)).trans a13
  have f6 : fX1_handOver X b (p 30 0) 6 = upd (p 6) b.toNatClampNeg 1 := by rw [ho6, xp 6 (by omega) (by omega)]
  have f12 : fX1_handOver X b (p 30 0) 12 = upd (p 12) b.toNatClampNeg (p 30 0) := by rw [ho12, xp 12 (by omega) (by omega)]
  have f13 : fX1_handOver X b (p 30 0) 13 = upd (p 13) b.toNatClampNeg 0 := by rw [ho13, x13, u_u]
  have f15 : fX1_handOver X b (p 30 0) 15 = p 15 := by rw [ho15 (by rw [xp 6 (by omega) (by omega)]; exact fun z => by have := i_eq z; omega), xp 15 (by omega) (by omega)]
  have ff : ∀ k : Nat, ¬ (k = 6 ∨ k = 12 ∨ k = 13 ∨ k = 15 ∨ k = 37 ∨ k = 38) → fX1_handOver X b (p 30 0) k = X k := fun k hk => frX1_handOver _ _ _ k (by omega)
  have fT : vT (fX1_handOver X b (p 30 0)) := vT_ho (iI_fr (fun k hk => xp k (by omega) (by omega)) hx.1) (vT_fr (fun k hk => xp k (by omega) (by omega)) hx.2.2.2.2.2.2.2.1) h0 (by rw [xp 36 (by omega) (by omega)]; exact h1) (by rw [xp 7 (by omega) (by omega)]; omega) (by rw [xp 8 (by omega) (by omega)]; omega)
  generalize fX1_handOver X b (p 30 0) = Z at f6 f12 f13 f15 ff fT ⊢
  rw [ff 20 (by omega), xp 20 (by omega) (by omega)]
  have zf : ∀ k : Nat, k ≠ 20 → rset Z 20 (upd (p 20) (p 10 b.toNatClampNeg).toNatClampNeg (p 20 (p 10 b.toNatClampNeg).toNatClampNeg + 1)) k = Z k := fun k hk => rset_ne hk
  have z20 : rset Z 20 (upd (p 20) (p 10 b.toNatClampNeg).toNatClampNeg (p 20 (p 10 b.toNatClampNeg).toNatClampNeg + 1)) 20 = upd (p 20) (p 10 b.toNatClampNeg).toNatClampNeg (p 20 (p 10 b.toNatClampNeg).toNatClampNeg + 1) := rset_eq
  generalize rset Z 20 (upd (p 20) (p 10 b.toNatClampNeg).toNatClampNeg (p 20 (p 10 b.toNatClampNeg).toNatClampNeg + 1)) = C at zf z20 ⊢
  have c6 : C 6 = upd (p 6) b.toNatClampNeg 1 := (zf 6 (by omega)).trans f6
  have c12 : C 12 = upd (p 12) b.toNatClampNeg (p 30 0) := (zf 12 (by omega)).trans f12
  have c13 : C 13 = upd (p 13) b.toNatClampNeg 0 := (zf 13 (by omega)).trans f13
  have c21 : C 21 = upd (p 21) (p 10 b.toNatClampNeg).toNatClampNeg (p 21 (p 10 b.toNatClampNeg).toNatClampNeg - 1) := (zf 21 (by omega)).trans ((ff 21 (by omega)).trans x21)
  have cf : ∀ k : Nat, ¬ (k = 6 ∨ k = 12 ∨ k = 13 ∨ k = 15 ∨ k = 20 ∨ k = 21 ∨ k = 37 ∨ k = 38) → C k = p k := fun k hk => (zf k (by omega)).trans ((ff k (by omega)).trans (xp k (by omega) (by omega)))
  have s6 : C 6 b.toNatClampNeg = 1 := by rw [c6, u_eq]
  have s13 : C 13 b.toNatClampNeg = 0 := by rw [c13, u_eq]
  refine ⟨?_, (zf 15 (by omega)).trans f15, fun r h => ?_⟩
  · refine move_core hr (c := b.toNatClampNeg) (by omega) (fun k hk => cf k (by omega)) (fun k hk => ?_) (fun k hk j hj => ?_) (fun j hj => ?_) (fun z => ?_) ?_ (vT_fr (fun k hk => zf k (by omega)) fT) (fun r h => ?_) (fun r h => ?_) (fun w h => Or.inl ⟨by rw [cf 26 (by omega)], by rw [cf 11 (by omega)]⟩) (fun w h => by rw [cf 24 (by omega), cf 25 (by omega)]; exact (hx.2.2.2.2.2.1 w h).2.2.1) (fun w h => by rw [cf 24 (by omega), cf 25 (by omega)]; exact ⟨rfl, rfl⟩)
    · by_cases e12 : k = 12
      · rw [e12, rset_eq, c12, hs 12 (by omega), hs 30 (by omega)]
      · by_cases e6 : k = 6
        · rw [e6, rset_ne (by decide), rset_eq, c6, hs 6 (by omega)]
        · rw [rset_ne (by omega), rset_ne (by omega), rset_ne (by omega), cf k (by omega)]; exact hs k (by omega)
    · by_cases e12 : k = 12
      · rw [e12, c12, u_ne hj]
      · by_cases e6 : k = 6
        · rw [e6, c6, u_ne hj]
        · by_cases e13 : k = 13
          · rw [e13, c13, u_ne hj]
          · rw [cf k (by omega)]
    · rw [rset_ne (by decide), rset_ne (by decide), rset_eq, u_ne hj]
    · rw [s6] at z; omega
    · unfold vC1
      rw [s6, s13, cf 7 (by omega), cf 8 (by omega), cf 34 (by omega), cf 10 (by omega), cf 39 (by omega), cf 11 (by omega), cf 40 (by omega)]
      omega
    · unfold vStep
      rw [s6, cf 10 (by omega), z20]
      by_cases e : r = (p 10 b.toNatClampNeg).toNatClampNeg
      · rw [e, u_eq, i_inc (by omega)]; omega
      · rw [u_ne e]; omega
    · unfold vStep
      rw [s6, cf 10 (by omega), c21]
      by_cases e : r = (p 10 b.toNatClampNeg).toNatClampNeg
      · rw [e, u_eq, i_dec rr.2.1]; omega
      · rw [u_ne e]; omega
  · rw [z20, c21]
    by_cases e : r = (p 10 b.toNatClampNeg).toNatClampNeg
    · rw [e, u_eq, u_eq, i_dec rr.2.1, i_inc (by omega)]; omega
    · rw [u_ne e, u_ne e]
def bxS (p p' : wSt) : Prop := p' 15 = p 15 ∧ ∀ r : Nat, r < 20 → (p' 20 r).toInt + (p' 21 r).toInt = (p 20 r).toInt + (p 21 r).toInt
theorem boxes_step {p q : wSt} (hr : Rel p q) (x y : wSt) (f : Int32) {b : Int32} (h0 : 0 ≤ b.toInt) (h1 : b.toInt < (p 36 0).toInt) : Rel (fX6_moveBoxes_j3 x f b p).2 (fX7_boxes_j2 y b q) ∧ ((fX6_moveBoxes_j3 x f b p).1 = 0 → f = 0 ∧ bxS p (fX6_moveBoxes_j3 x f b p).2) := by
  obtain ⟨hs, hb, hx⟩ := id hr
  have d2 := i_cl h0
  have t2 : (2 : Int32).toInt = 2 := rfl
  have t3 : (3 : Int32).toInt = 3 := rfl
  have main : ∀ D : Int32, ((p 6 b.toNatClampNeg).toInt = 2 ∨ (p 6 b.toNatClampNeg).toInt = 3) → p 13 b.toNatClampNeg - 1 = D → Rel (fX6_moveBoxes_j3 x f b p).2 (fX7_boxes_j2 y b q) ∧ ((fX6_moveBoxes_j3 x f b p).1 = 0 → f = 0 ∧ bxS p (fX6_moveBoxes_j3 x f b p).2) := by
    intro D hst hD
    have h13 := hb b.toNatClampNeg (by omega) hst
    have ib : ¬ fX1_inBox p b = 0 := by
      unfold fX1_inBox
      rcases hst with z | z
      · rw [if_pos (show p 6 b.toNatClampNeg = 2 from Int32.toInt_inj.mp z)]; decide
      · rw [if_neg (show ¬ p 6 b.toNatClampNeg = 2 from fun e => by have := i_eq e; omega), if_pos (show p 6 b.toNatClampNeg = 3 from Int32.toInt_inj.mp z)]; decide
    by_cases gd : 0 < D
    · have e1 : fX1_comesToday p b = (0, rset p 13 (upd (p 13) b.toNatClampNeg D)) := by
        unfold fX1_comesToday
        rw [if_neg ib, u_eq, hD, if_pos gd]
      have e2 : fX7_boxes_j2 y b q = rset q 13 (upd (q 13) b.toNatClampNeg D) := by
        have gn : ¬ D ≤ 0 := fun z => by have := i_le z; have := i_lt gd; omega
        unfold fX7_boxes_j2
        rw [hs 6 (by omega), u_eq, h13, hD, if_neg gn]
        rcases hst with z | z
        · rw [if_pos (show p 6 b.toNatClampNeg = 2 from Int32.toInt_inj.mp z)]
        · rw [if_neg (show ¬ p 6 b.toNatClampNeg = 2 from fun e => by have := i_eq e; omega), if_pos (show p 6 b.toNatClampNeg = 3 from Int32.toInt_inj.mp z)]
      have e3 : fX6_moveBoxes_j3 x f b p = (f, rset p 13 (upd (p 13) b.toNatClampNeg D)) := by
        unfold fX6_moveBoxes_j3
        rw [e1]
        exact if_pos rfl
      rw [e2, e3]
      exact ⟨box_less hr (by omega) hst, fun z => ⟨z, by dsimp only; rw [rset_ne (show (15 : Nat) ≠ 13 by decide)], fun r _ => by dsimp only; rw [rset_ne (show (20 : Nat) ≠ 13 by decide), rset_ne (show (21 : Nat) ≠ 13 by decide)]⟩⟩
    · have gn : D ≤ 0 := Int32.le_iff_toInt_le.mpr (i_nlt gd)
      have e1 : fX1_comesToday p b = (1, rset p 13 (upd (p 13) b.toNatClampNeg D)) := by
        unfold fX1_comesToday
        rw [if_neg ib, u_eq, hD, if_neg gd]
      have e3 : fX6_moveBoxes_j3 x f b p = (fX6_moveBoxes_j2 x f b p, fX6_unpack (rset p 13 (upd (p 13) b.toNatClampNeg D)) b) := by
        unfold fX6_moveBoxes_j3
        rw [e1]
        exact if_neg (show ¬ (1 : Int32) = 0 by decide)
      have e4 : fX6_moveBoxes_j2 x f b p = (if f = 0 then (if p 6 b.toNatClampNeg = 3 then 1 else 0) else 1) := by
        unfold fX6_moveBoxes_j2
        rw [frX1_comesToday p b 6 (by decide)]
      rcases hst with z | z
      · have z2 : p 6 b.toNatClampNeg = 2 := Int32.toInt_inj.mp z
        have n3 : ¬ p 6 b.toNatClampNeg = 3 := fun e => by have := i_eq e; omega
        have e2 : fX7_boxes_j2 y b q = rset (rset (rset q 13 (upd (q 13) b.toNatClampNeg D)) 6 (upd (q 6) b.toNatClampNeg 1)) 12 (upd (q 12) b.toNatClampNeg (q 30 0)) := by
          unfold fX7_boxes_j2
          rw [u_eq, h13, hD, if_pos gn, if_pos (show q 6 b.toNatClampNeg = 2 from by rw [hs 6 (by omega)]; exact z2), if_pos (show q 6 b.toNatClampNeg = 2 from by rw [hs 6 (by omega)]; exact z2)]
        rw [e2, e3, e4, if_neg n3]
        have H := box_to (D := D) hr h0 h1 z
        refine ⟨H.1, fun zf => ⟨?_, H.2⟩⟩
        by_cases f0 : f = 0
        · exact f0
        · dsimp only at zf
          rw [if_neg f0] at zf
          exact absurd zf (by decide)
      · have z3 : p 6 b.toNatClampNeg = 3 := Int32.toInt_inj.mp z
        have n2 : ¬ p 6 b.toNatClampNeg = 2 := fun e => by have := i_eq e; omega
        have e2 : fX7_boxes_j2 y b q = rset (rset (rset q 13 (upd (q 13) b.toNatClampNeg D)) 6 (upd (q 6) b.toNatClampNeg 0)) 10 (upd (q 10) b.toNatClampNeg (-1)) := by
          unfold fX7_boxes_j2
          rw [u_eq, h13, hD, if_pos gn, if_neg (show ¬ q 6 b.toNatClampNeg = 2 from by rw [hs 6 (by omega)]; exact n2), if_neg (show ¬ q 6 b.toNatClampNeg = 2 from by rw [hs 6 (by omega)]; exact n2), if_pos (show q 6 b.toNatClampNeg = 3 from by rw [hs 6 (by omega)]; exact z3)]
        rw [e2, e3, e4, if_pos z3]
        refine ⟨box_back (D := D) hr h0 h1 z, fun zf => ?_⟩
        exfalso
        dsimp only at zf
        by_cases f0 : f = 0
        · rw [if_pos f0] at zf; exact absurd zf (by decide)
        · rw [if_neg f0] at zf; exact absurd zf (by decide)
  by_cases g2 : p 6 b.toNatClampNeg = 2
  · exact main _ (Or.inl (i_eq g2)) rfl
  · by_cases g3 : p 6 b.toNatClampNeg = 3
    · exact main _ (Or.inr (i_eq g3)) rfl
    · have e1 : fX1_comesToday p b = (0, p) := by
        unfold fX1_comesToday fX1_inBox
        rw [if_neg g2, if_neg g3, if_pos rfl]
      have e2 : fX7_boxes_j2 y b q = q := by
        unfold fX7_boxes_j2
        rw [if_neg (show ¬ q 6 b.toNatClampNeg = 2 from by rw [hs 6 (by omega)]; exact g2), if_neg (show ¬ q 6 b.toNatClampNeg = 3 from by rw [hs 6 (by omega)]; exact g3)]
      have e3 : fX6_moveBoxes_j3 x f b p = (f, p) := by
        unfold fX6_moveBoxes_j3
        rw [e1]
        exact if_pos rfl
      rw [e2, e3]
      exact ⟨hr, fun z => ⟨z, rfl, fun _ _ => rfl⟩⟩
theorem lboxes (x y : wSt) (n : Nat) (f b : Int32) (p q : wSt) (hr : Rel p q) (h0 : 0 ≤ b.toInt) : Rel (lX6_moveBoxes_1 x n f b p).2 (lX7_boxes_1 y n b q) ∧ ((lX6_moveBoxes_1 x n f b p).1 = 0 → f = 0 ∧ bxS p (lX6_moveBoxes_1 x n f b p).2) := by
  induction n generalizing f b p q with
  | zero => exact ⟨hr, fun z => absurd (show (-1 : Int32) = 0 from z) (by decide)⟩
  | succ n ih =>
    rw [lX6_moveBoxes_1_s, lX7_boxes_1_s, hr.1 36 (by omega)]
    by_cases c : p 36 0 ≤ b
    · rw [if_pos c, if_pos c]; exact ⟨hr, fun z => ⟨z, rfl, fun _ _ => rfl⟩⟩
    · rw [if_neg c, if_neg c]
      have c1 := i_nle c
      have c2 := i_rng (p 36 0)
      have H := boxes_step hr x y f h0 c1
      have I := ih (fX6_moveBoxes_j3 x f b p).1 (b + 1) (fX6_moveBoxes_j3 x f b p).2 (fX7_boxes_j2 y b q) H.1 (by rw [i_inc (by omega)]; omega)
      refine ⟨I.1, fun z => ?_⟩
      have J := I.2 z
      have K := H.2 J.1
      exact ⟨K.1, J.2.1.trans K.2.1, fun r h => (J.2.2 r h).trans (K.2.2 r h)⟩
theorem cN_nil {P : Nat → Bool} {n : Nat} (h : cN P n = 0) : ∀ i, i < n → P i = false := by
  induction n with
  | zero => exact fun i hi => absurd hi (Nat.not_lt_zero _)
  | succ n ih =>
    rw [cN] at h
    intro i hi
    by_cases e : i = n
    · rw [e]
      by_cases g : P n = true
      · rw [if_pos g] at h; omega
      · exact Bool.eq_false_iff.mpr g
    · exact ih (by omega) i (by omega)
theorem lnobox (y : wSt) (n : Nat) (b : Int32) (q : wSt) (h0 : 0 ≤ b.toInt) (h : ∀ c : Nat, (c : Int) < (q 36 0).toInt → ¬ q 6 c = 2 ∧ ¬ q 6 c = 3) : lX7_boxes_1 y n b q = q := by
  induction n generalizing b with
  | zero => rfl
  | succ n ih =>
    rw [lX7_boxes_1_s]
    by_cases c : q 36 0 ≤ b
    · rw [if_pos c]
    · have c1 := i_nle c
      have c2 := i_rng (q 36 0)
      have d2 := i_cl h0
      have e2 : fX7_boxes_j2 y b q = q := by
        unfold fX7_boxes_j2
        rw [if_neg (h b.toNatClampNeg (by omega)).1, if_neg (h b.toNatClampNeg (by omega)).2]
      rw [if_neg c, e2]
      exact ih (b + 1) (by rw [i_inc (by omega)]; omega)
theorem boxes_eq {p q : wSt} (hr : Rel p q) : Rel (fX6_moveBoxes p).2 (fX7_boxes q) ∧ ((fX6_moveBoxes p).1 = 0 → bxS p (fX6_moveBoxes p).2) := by
  obtain ⟨hs, hb, hx⟩ := id hr
  have hB := iI_b hx.1
  unfold fX6_moveBoxes fX7_boxes
  by_cases c : p 37 0 = 0
  · rw [if_pos c]
    have h1 := hx.2.2.2.2.2.2.2.1.2.1
    have h2 := i_eq c
    have t0 : (0 : Int32).toInt = 0 := rfl
    have eN := i_cl (show 0 ≤ (p 36 0).toInt by omega)
    have h3 := cN_nil (P := kBa p) (n := (p 36 0).toNatClampNeg) (by omega)
    rw [lnobox q _ 0 q (by decide) (fun d hd => ?_)]
    · exact ⟨hr, fun _ => ⟨rfl, fun _ _ => rfl⟩⟩
    · rw [hs 36 (by omega)] at hd
      rw [hs 6 (by omega)]
      have h4 := h3 d (by omega)
      unfold kBa at h4
      refine ⟨fun z => ?_, fun z => ?_⟩
      · rw [decide_eq_true (show (p 6 d).toInt = 2 from i_eq z), Bool.true_or] at h4
        exact absurd h4 (by decide)
      · rw [decide_eq_true (show (p 6 d).toInt = 3 from i_eq z), Bool.or_true] at h4
        exact absurd h4 (by decide)
  · rw [if_neg c, hs 36 (by omega)]
    have H := lboxes p q (((p 36 0).toInt - (0 : Int32).toInt).toNat + 1) 0 0 p q hr (by decide)
    exact ⟨H.1, fun z => (H.2 z).2⟩
