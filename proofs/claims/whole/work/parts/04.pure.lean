/-! Part 04: the pure functions of the bytecode, by program; frames -/
def cN (P : Nat → Bool) : Nat → Nat
  | 0 => 0
  | n + 1 => cN P n + (if P n = true then 1 else 0)
/-- how many copies are on the shelf -/
def shN (p : wSt) : Nat := cN (fun c => decide (p 6 c = 0)) (p 36 0).toNatClampNeg
/-- what every call keeps: counts within bounds; volumes, classes, readers and titles of wishes within theirs -/
def iI (q : wSt) : Prop := (0 ≤ (q 34 0).toInt ∧ (q 34 0).toInt ≤ 12 ∧ 0 ≤ (q 35 0).toInt ∧ (q 35 0).toInt ≤ 40 ∧ 0 ≤ (q 36 0).toInt ∧ (q 36 0).toInt ≤ 200 ∧ 0 ≤ (q 39 0).toInt ∧ (q 39 0).toInt ≤ 20 ∧ 0 ≤ (q 40 0).toInt ∧ (q 40 0).toInt ≤ 100) ∧ (∀ i : Nat, i < 12 → 0 ≤ (q 0 i).toInt ∧ (q 0 i).toInt ≤ 4) ∧ (∀ i : Nat, i < 20 → 0 ≤ (q 16 i).toInt ∧ (q 16 i).toInt ≤ 2) ∧ (∀ i : Nat, i < 100 → 0 ≤ (q 22 i).toInt ∧ (q 22 i).toInt ≤ 19) ∧ (∀ i : Nat, i < 100 → 0 ≤ (q 23 i).toInt ∧ (q 23 i).toInt ≤ 11)
theorem iI_b {q : wSt} (h : iI q) : 0 ≤ (q 34 0).toInt ∧ (q 34 0).toInt ≤ 12 ∧ 0 ≤ (q 35 0).toInt ∧ (q 35 0).toInt ≤ 40 ∧ 0 ≤ (q 36 0).toInt ∧ (q 36 0).toInt ≤ 200 ∧ 0 ≤ (q 39 0).toInt ∧ (q 39 0).toInt ≤ 20 ∧ 0 ≤ (q 40 0).toInt ∧ (q 40 0).toInt ≤ 100 := h.1
theorem iI_0 {q : wSt} (h : iI q) : ∀ i : Nat, i < 12 → 0 ≤ (q 0 i).toInt ∧ (q 0 i).toInt ≤ 4 := h.2.1
theorem iI_16 {q : wSt} (h : iI q) : ∀ i : Nat, i < 20 → 0 ≤ (q 16 i).toInt ∧ (q 16 i).toInt ≤ 2 := h.2.2.1
theorem iI_22 {q : wSt} (h : iI q) : ∀ i : Nat, i < 100 → 0 ≤ (q 22 i).toInt ∧ (q 22 i).toInt ≤ 19 := h.2.2.2.1
theorem iI_23 {q : wSt} (h : iI q) : ∀ i : Nat, i < 100 → 0 ≤ (q 23 i).toInt ∧ (q 23 i).toInt ≤ 11 := h.2.2.2.2
theorem iI_fr {q q' : wSt} (h : ∀ k : Nat, (k = 0 ∨ k = 16 ∨ k = 22 ∨ k = 23 ∨ k = 34 ∨ k = 35 ∨ k = 36 ∨ k = 39 ∨ k = 40) → q' k = q k) (hq : iI q) : iI q' := by
  have h0 := h 0 (by omega)
  have h16 := h 16 (by omega)
  have h22 := h 22 (by omega)
  have h23 := h 23 (by omega)
  have h34 := h 34 (by omega)
  have h35 := h 35 (by omega)
  have h36 := h 36 (by omega)
  have h39 := h 39 (by omega)
  have h40 := h 40 (by omega)
  unfold iI
  rw [h0, h16, h22, h23, h34, h35, h36, h39, h40]
  exact hq
theorem iI_rset {q : wSt} {k : Nat} {f : Nat → Int32} (hk : ¬ (k = 0 ∨ k = 16 ∨ k = 22 ∨ k = 23 ∨ k = 34 ∨ k = 35 ∨ k = 36 ∨ k = 39 ∨ k = 40)) (h : iI q) : iI (rset q k f) := iI_fr (fun j hj => by unfold rset; rw [if_neg (fun e => hk (by rw [← e]; exact hj))]) h
theorem w_bool {v : Int32} (h : v.toInt = 0 ∨ v.toInt = 1) : narrow .boolean (.int v) = .int v := by
  rcases h with h | h
  · rw [Int32.toInt_inj.mp (show v.toInt = (0 : Int32).toInt from h)]; rfl
  · rw [Int32.toInt_inj.mp (show v.toInt = (1 : Int32).toInt from h)]; rfl
def fX0_add (q : wSt) (x1 : Int32) (x2 : Int32) (x3 : Int32) (x4 : Int32) (x5 : Int32) : wSt := (rset (rset (rset (rset (rset (rset q 1 (upd (q 1) (q 35 0).toNatClampNeg x1)) 2 (upd (q 2) (q 35 0).toNatClampNeg x2)) 3 (upd (q 3) (q 35 0).toNatClampNeg x3)) 4 (upd (q 4) (q 35 0).toNatClampNeg x4)) 5 (upd (q 5) (q 35 0).toNatClampNeg x5)) 35 (fun _ => ((q 35 0) + 1)))
set_option maxRecDepth 20000 in
theorem frX0_add (q : wSt) (x1 : Int32) (x2 : Int32) (x3 : Int32) (x4 : Int32) (x5 : Int32) (k : Nat) (hk : k ≠ 1 ∧ k ≠ 2 ∧ k ≠ 3 ∧ k ≠ 4 ∧ k ≠ 5 ∧ k ≠ 35) : (fX0_add q x1 x2 x3 x4 x5) k = q k := by
  obtain ⟨h1, h2, h3, h4, h5, h35⟩ := hk
  unfold fX0_add
  (repeat' split) <;> simp [rset, h1, h2, h3, h4, h5, h35]
def fX0_inForce_j2 (q : wSt) (x1 : Int32) (x2 : Int32) (y3_1 : Int32) (y4_1 : Int32) : Int32 := (if (q 1 (y4_1).toNatClampNeg) = x1 then (if x2 < (q 2 (y4_1).toNatClampNeg) then y3_1 else (if y3_1 = (-1) then y4_1 else (if (q 2 (y4_1).toNatClampNeg) < (q 2 (y3_1).toNatClampNeg) then y3_1 else y4_1))) else y3_1)
def lX0_inForce_1 (q : wSt) (x1 : Int32) (x2 : Int32) : Nat → Int32 → Int32 → Int32
  | 0, _, _ => (-1)
  | n + 1, y3_1, y4_1 => (if (q 35 0) ≤ y4_1 then y3_1 else (lX0_inForce_1 q x1 x2 n (fX0_inForce_j2 q x1 x2 y3_1 y4_1) (y4_1 + 1)))
theorem lX0_inForce_1_s (q : wSt) (x1 : Int32) (x2 : Int32) (n : Nat) (y3_1 : Int32) (y4_1 : Int32) : lX0_inForce_1 q x1 x2 (n + 1) y3_1 y4_1 = (if (q 35 0) ≤ y4_1 then y3_1 else (lX0_inForce_1 q x1 x2 n (fX0_inForce_j2 q x1 x2 y3_1 y4_1) (y4_1 + 1))) := rfl
def fX0_inForce (q : wSt) (x1 : Int32) (x2 : Int32) : Int32 := (lX0_inForce_1 q x1 x2 (((q 35 0).toInt - (0 : Int32).toInt).toNat + 1) (-1) 0)
def fX0_priceAt (q : wSt) (x1 : Int32) (x2 : Int32) : Int32 := (if x1 < 0 then 10 else (if x1 < (q 35 0) then (if (q 3 (x1).toNatClampNeg) ≤ x2 then (q 5 (x1).toNatClampNeg) else (q 4 (x1).toNatClampNeg)) else 10))
def fX1_has (q : wSt) (x1 : Int32) : Int32 := (if x1 < 0 then 0 else (if (q 36 0) ≤ x1 then 0 else 1))
def fX1_isAt (q : wSt) (x1 : Int32) (x2 : Int32) : Int32 := (if (fX1_has q x1) = 0 then 0 else (if (q 6 (x1).toNatClampNeg) = x2 then 1 else 0))
def fX1_slot (q : wSt) (x1 : Int32) (x2 : Int32) : Int32 := ((x1 * 4) + x2)
def fX1_inBox (q : wSt) (x1 : Int32) : Int32 := (if (q 6 (x1).toNatClampNeg) = 2 then 1 else (if (q 6 (x1).toNatClampNeg) = 3 then 1 else 0))
def fX1_tally_j1 (q : wSt) (x1 : Int32) (x2 : Int32) : wSt := (if (q 6 (x1).toNatClampNeg) = 0 then (if (fX1_slot q (q 7 (x1).toNatClampNeg) (q 8 (x1).toNatClampNeg)) < 0 then q else (if 48 ≤ (fX1_slot q (q 7 (x1).toNatClampNeg) (q 8 (x1).toNatClampNeg)) then q else (rset q 15 (upd (q 15) (fX1_slot q (q 7 (x1).toNatClampNeg) (q 8 (x1).toNatClampNeg)).toNatClampNeg ((q 15 (fX1_slot q (q 7 (x1).toNatClampNeg) (q 8 (x1).toNatClampNeg)).toNatClampNeg) + x2))))) else q)
def fX1_tally_j2 (q : wSt) (x1 : Int32) (x2 : Int32) : wSt := (if (fX1_inBox (fX1_tally_j1 q x1 x2) x1) = 0 then (fX1_tally_j1 q x1 x2) else (rset (fX1_tally_j1 q x1 x2) 37 (fun _ => (((fX1_tally_j1 q x1 x2) 37 0) + x2))))
def fX1_tally (q : wSt) (x1 : Int32) (x2 : Int32) : wSt := (if ((fX1_tally_j2 q x1 x2) 6 (x1).toNatClampNeg) = 5 then (rset (fX1_tally_j2 q x1 x2) 38 (fun _ => (((fX1_tally_j2 q x1 x2) 38 0) + x2))) else (fX1_tally_j2 q x1 x2))
set_option maxRecDepth 20000 in
theorem frX1_tally_j1 (q : wSt) (x1 : Int32) (x2 : Int32) (k : Nat) (hk : k ≠ 15 ∧ k ≠ 37 ∧ k ≠ 38) : (fX1_tally_j1 q x1 x2) k = q k := by
  obtain ⟨h15, h37, h38⟩ := hk
  unfold fX1_tally_j1
  (repeat' split) <;> simp [rset, h15, h37, h38]
set_option maxRecDepth 20000 in
theorem frX1_tally_j2 (q : wSt) (x1 : Int32) (x2 : Int32) (k : Nat) (hk : k ≠ 15 ∧ k ≠ 37 ∧ k ≠ 38) : (fX1_tally_j2 q x1 x2) k = q k := by
  have gfX1_tally_j1 := fun a0 a1 a2 => frX1_tally_j1 a0 a1 a2 k (by omega)
  obtain ⟨h15, h37, h38⟩ := hk
  unfold fX1_tally_j2
  (repeat' split) <;> simp [rset, h15, h37, h38, gfX1_tally_j1]
set_option maxRecDepth 20000 in
theorem frX1_tally (q : wSt) (x1 : Int32) (x2 : Int32) (k : Nat) (hk : k ≠ 15 ∧ k ≠ 37 ∧ k ≠ 38) : (fX1_tally q x1 x2) k = q k := by
  have gfX1_tally_j1 := fun a0 a1 a2 => frX1_tally_j1 a0 a1 a2 k (by omega)
  have gfX1_tally_j2 := fun a0 a1 a2 => frX1_tally_j2 a0 a1 a2 k (by omega)
  obtain ⟨h15, h37, h38⟩ := hk
  unfold fX1_tally
  (repeat' split) <;> simp [rset, h15, h37, h38, gfX1_tally_j1, gfX1_tally_j2]
theorem iIX1_tally (q : wSt) (x1 : Int32) (x2 : Int32) (h : iI q) : iI (fX1_tally q x1 x2) := iI_fr (fun k hk => frX1_tally q x1 x2 k (by omega)) h
def fX1_moveTo (q : wSt) (x1 : Int32) (x2 : Int32) : wSt := (fX1_tally (rset (fX1_tally q x1 (-1)) 6 (upd ((fX1_tally q x1 (-1)) 6) (x1).toNatClampNeg x2)) x1 1)
set_option maxRecDepth 20000 in
theorem frX1_moveTo (q : wSt) (x1 : Int32) (x2 : Int32) (k : Nat) (hk : k ≠ 6 ∧ k ≠ 15 ∧ k ≠ 37 ∧ k ≠ 38) : (fX1_moveTo q x1 x2) k = q k := by
  have gX1_tally := fun a b0 b1 => frX1_tally a b0 b1 k (by omega)
  obtain ⟨h6, h15, h37, h38⟩ := hk
  unfold fX1_moveTo
  (repeat' split) <;> simp [rset, h6, h15, h37, h38, gX1_tally]
theorem iIX1_moveTo (q : wSt) (x1 : Int32) (x2 : Int32) (h : iI q) : iI (fX1_moveTo q x1 x2) := iI_fr (fun k hk => frX1_moveTo q x1 x2 k (by omega)) h
def fX1_belongToNobody (q : wSt) (x1 : Int32) : wSt := (rset (rset (rset (rset q 10 (upd (q 10) (x1).toNatClampNeg (-1))) 11 (upd (q 11) (x1).toNatClampNeg (-1))) 12 (upd (q 12) (x1).toNatClampNeg (-1))) 13 (upd (q 13) (x1).toNatClampNeg 0))
set_option maxRecDepth 20000 in
theorem frX1_belongToNobody (q : wSt) (x1 : Int32) (k : Nat) (hk : k ≠ 10 ∧ k ≠ 11 ∧ k ≠ 12 ∧ k ≠ 13) : (fX1_belongToNobody q x1) k = q k := by
  obtain ⟨h10, h11, h12, h13⟩ := hk
  unfold fX1_belongToNobody
  (repeat' split) <;> simp [rset, h10, h11, h12, h13]
theorem iIX1_belongToNobody (q : wSt) (x1 : Int32) (h : iI q) : iI (fX1_belongToNobody q x1) := iI_fr (fun k hk => frX1_belongToNobody q x1 k (by omega)) h
def fX1_shelve (q : wSt) (x1 : Int32) : wSt := (fX1_belongToNobody (fX1_moveTo q x1 0) x1)
set_option maxRecDepth 20000 in
theorem frX1_shelve (q : wSt) (x1 : Int32) (k : Nat) (hk : k ≠ 6 ∧ k ≠ 10 ∧ k ≠ 11 ∧ k ≠ 12 ∧ k ≠ 13 ∧ k ≠ 15 ∧ k ≠ 37 ∧ k ≠ 38) : (fX1_shelve q x1) k = q k := by
  have gX1_belongToNobody := fun a b0 => frX1_belongToNobody a b0 k (by omega)
  have gX1_moveTo := fun a b0 b1 => frX1_moveTo a b0 b1 k (by omega)
  obtain ⟨h6, h10, h11, h12, h13, h15, h37, h38⟩ := hk
  unfold fX1_shelve
  (repeat' split) <;> simp [rset, h6, h10, h11, h12, h13, h15, h37, h38, gX1_belongToNobody, gX1_moveTo]
theorem iIX1_shelve (q : wSt) (x1 : Int32) (h : iI q) : iI (fX1_shelve q x1) := iI_fr (fun k hk => frX1_shelve q x1 k (by omega)) h
def fX1_add (q : wSt) (x1 : Int32) (x2 : Int32) (x3 : Int32) : wSt := (fX1_shelve (rset (rset (rset (rset (rset (rset q 36 (fun _ => ((q 36 0) + 1))) 7 (upd (q 7) (q 36 0).toNatClampNeg x1)) 8 (upd (q 8) (q 36 0).toNatClampNeg x2)) 9 (upd (q 9) (q 36 0).toNatClampNeg x3)) 6 (upd (q 6) (q 36 0).toNatClampNeg (-1))) 14 (upd (q 14) (q 36 0).toNatClampNeg 0)) (q 36 0))
set_option maxRecDepth 20000 in
theorem frX1_add (q : wSt) (x1 : Int32) (x2 : Int32) (x3 : Int32) (k : Nat) (hk : k ≠ 6 ∧ k ≠ 7 ∧ k ≠ 8 ∧ k ≠ 9 ∧ k ≠ 10 ∧ k ≠ 11 ∧ k ≠ 12 ∧ k ≠ 13 ∧ k ≠ 14 ∧ k ≠ 15 ∧ k ≠ 36 ∧ k ≠ 37 ∧ k ≠ 38) : (fX1_add q x1 x2 x3) k = q k := by
  have gX1_shelve := fun a b0 => frX1_shelve a b0 k (by omega)
  obtain ⟨h6, h7, h8, h9, h10, h11, h12, h13, h14, h15, h36, h37, h38⟩ := hk
  unfold fX1_add
  (repeat' split) <;> simp [rset, h6, h7, h8, h9, h10, h11, h12, h13, h14, h15, h36, h37, h38, gX1_shelve]
def fX1_onShelf (q : wSt) (x1 : Int32) (x2 : Int32) : Int32 := (if (fX1_slot q x1 x2) < 0 then 0 else (if 48 ≤ (fX1_slot q x1 x2) then 0 else (q 15 (fX1_slot q x1 x2).toNatClampNeg)))
def lX1_leastOnShelf_1 (q : wSt) (x1 : Int32) (x2 : Int32) : Nat → Int32 → Int32
  | 0, _ => (-1)
  | n + 1, y3_1 => (if (q 36 0) ≤ y3_1 then (-1) else (if (q 6 (y3_1).toNatClampNeg) = 0 then (if (q 7 (y3_1).toNatClampNeg) = x1 then (if (q 8 (y3_1).toNatClampNeg) = x2 then y3_1 else (lX1_leastOnShelf_1 q x1 x2 n (y3_1 + 1))) else (lX1_leastOnShelf_1 q x1 x2 n (y3_1 + 1))) else (lX1_leastOnShelf_1 q x1 x2 n (y3_1 + 1))))
theorem lX1_leastOnShelf_1_s (q : wSt) (x1 : Int32) (x2 : Int32) (n : Nat) (y3_1 : Int32) : lX1_leastOnShelf_1 q x1 x2 (n + 1) y3_1 = (if (q 36 0) ≤ y3_1 then (-1) else (if (q 6 (y3_1).toNatClampNeg) = 0 then (if (q 7 (y3_1).toNatClampNeg) = x1 then (if (q 8 (y3_1).toNatClampNeg) = x2 then y3_1 else (lX1_leastOnShelf_1 q x1 x2 n (y3_1 + 1))) else (lX1_leastOnShelf_1 q x1 x2 n (y3_1 + 1))) else (lX1_leastOnShelf_1 q x1 x2 n (y3_1 + 1)))) := rfl
def fX1_leastOnShelf (q : wSt) (x1 : Int32) (x2 : Int32) : Int32 := (lX1_leastOnShelf_1 q x1 x2 (((q 36 0).toInt - (0 : Int32).toInt).toNat + 1) 0)
def fX1_inHouse_j2 (q : wSt) (x1 : Int32) (x2 : Int32) (y3_1 : Int32) (y4_1 : Int32) : Int32 := (if (q 7 (y4_1).toNatClampNeg) = x1 then (if (q 8 (y4_1).toNatClampNeg) = x2 then (if (q 6 (y4_1).toNatClampNeg) = 4 then y3_1 else (if (q 6 (y4_1).toNatClampNeg) = 5 then y3_1 else (y3_1 + 1))) else y3_1) else y3_1)
def lX1_inHouse_1 (q : wSt) (x1 : Int32) (x2 : Int32) : Nat → Int32 → Int32 → Int32
  | 0, _, _ => (-1)
  | n + 1, y3_1, y4_1 => (if (q 36 0) ≤ y4_1 then y3_1 else (lX1_inHouse_1 q x1 x2 n (fX1_inHouse_j2 q x1 x2 y3_1 y4_1) (y4_1 + 1)))
theorem lX1_inHouse_1_s (q : wSt) (x1 : Int32) (x2 : Int32) (n : Nat) (y3_1 : Int32) (y4_1 : Int32) : lX1_inHouse_1 q x1 x2 (n + 1) y3_1 y4_1 = (if (q 36 0) ≤ y4_1 then y3_1 else (lX1_inHouse_1 q x1 x2 n (fX1_inHouse_j2 q x1 x2 y3_1 y4_1) (y4_1 + 1))) := rfl
def fX1_inHouse (q : wSt) (x1 : Int32) (x2 : Int32) : Int32 := (lX1_inHouse_1 q x1 x2 (((q 36 0).toInt - (0 : Int32).toInt).toNat + 1) 0 0)
def fX1_leaveFor (q : wSt) (x1 : Int32) (x2 : Int32) : wSt := (fX1_belongToNobody (fX1_moveTo q x1 x2) x1)
set_option maxRecDepth 20000 in
theorem frX1_leaveFor (q : wSt) (x1 : Int32) (x2 : Int32) (k : Nat) (hk : k ≠ 6 ∧ k ≠ 10 ∧ k ≠ 11 ∧ k ≠ 12 ∧ k ≠ 13 ∧ k ≠ 15 ∧ k ≠ 37 ∧ k ≠ 38) : (fX1_leaveFor q x1 x2) k = q k := by
  have gX1_belongToNobody := fun a b0 => frX1_belongToNobody a b0 k (by omega)
  have gX1_moveTo := fun a b0 b1 => frX1_moveTo a b0 b1 k (by omega)
  obtain ⟨h6, h10, h11, h12, h13, h15, h37, h38⟩ := hk
  unfold fX1_leaveFor
  (repeat' split) <;> simp [rset, h6, h10, h11, h12, h13, h15, h37, h38, gX1_belongToNobody, gX1_moveTo]
theorem iIX1_leaveFor (q : wSt) (x1 : Int32) (x2 : Int32) (h : iI q) : iI (fX1_leaveFor q x1 x2) := iI_fr (fun k hk => frX1_leaveFor q x1 x2 k (by omega)) h
def fX1_lend (q : wSt) (x1 : Int32) (x2 : Int32) (x3 : Int32) : wSt := (rset (rset (rset q 10 (upd (q 10) (x1).toNatClampNeg x2)) 11 (upd (q 11) (x1).toNatClampNeg x3)) 14 (upd (q 14) (x1).toNatClampNeg ((q 14 (x1).toNatClampNeg) + 1)))
set_option maxRecDepth 20000 in
theorem frX1_lend (q : wSt) (x1 : Int32) (x2 : Int32) (x3 : Int32) (k : Nat) (hk : k ≠ 10 ∧ k ≠ 11 ∧ k ≠ 14) : (fX1_lend q x1 x2 x3) k = q k := by
  obtain ⟨h10, h11, h14⟩ := hk
  unfold fX1_lend
  (repeat' split) <;> simp [rset, h10, h11, h14]
theorem iIX1_lend (q : wSt) (x1 : Int32) (x2 : Int32) (x3 : Int32) (h : iI q) : iI (fX1_lend q x1 x2 x3) := iI_fr (fun k hk => frX1_lend q x1 x2 x3 k (by omega)) h
def fX1_handOver (q : wSt) (x1 : Int32) (x2 : Int32) : wSt := (rset (rset (fX1_moveTo q x1 1) 12 (upd ((fX1_moveTo q x1 1) 12) (x1).toNatClampNeg x2)) 13 (upd ((fX1_moveTo q x1 1) 13) (x1).toNatClampNeg 0))
set_option maxRecDepth 20000 in
theorem frX1_handOver (q : wSt) (x1 : Int32) (x2 : Int32) (k : Nat) (hk : k ≠ 6 ∧ k ≠ 12 ∧ k ≠ 13 ∧ k ≠ 15 ∧ k ≠ 37 ∧ k ≠ 38) : (fX1_handOver q x1 x2) k = q k := by
  have gX1_moveTo := fun a b0 b1 => frX1_moveTo a b0 b1 k (by omega)
  obtain ⟨h6, h12, h13, h15, h37, h38⟩ := hk
  unfold fX1_handOver
  (repeat' split) <;> simp [rset, h6, h12, h13, h15, h37, h38, gX1_moveTo]
theorem iIX1_handOver (q : wSt) (x1 : Int32) (x2 : Int32) (h : iI q) : iI (fX1_handOver q x1 x2) := iI_fr (fun k hk => frX1_handOver q x1 x2 k (by omega)) h
def fX1_sendOut (q : wSt) (x1 : Int32) (x2 : Int32) : wSt := (rset (fX1_moveTo q x1 2) 13 (upd ((fX1_moveTo q x1 2) 13) (x1).toNatClampNeg x2))
set_option maxRecDepth 20000 in
theorem frX1_sendOut (q : wSt) (x1 : Int32) (x2 : Int32) (k : Nat) (hk : k ≠ 6 ∧ k ≠ 13 ∧ k ≠ 15 ∧ k ≠ 37 ∧ k ≠ 38) : (fX1_sendOut q x1 x2) k = q k := by
  have gX1_moveTo := fun a b0 b1 => frX1_moveTo a b0 b1 k (by omega)
  obtain ⟨h6, h13, h15, h37, h38⟩ := hk
  unfold fX1_sendOut
  (repeat' split) <;> simp [rset, h6, h13, h15, h37, h38, gX1_moveTo]
theorem iIX1_sendOut (q : wSt) (x1 : Int32) (x2 : Int32) (h : iI q) : iI (fX1_sendOut q x1 x2) := iI_fr (fun k hk => frX1_sendOut q x1 x2 k (by omega)) h
def fX1_sendBack (q : wSt) (x1 : Int32) (x2 : Int32) : wSt := (rset (rset (rset (fX1_moveTo q x1 3) 11 (upd ((fX1_moveTo q x1 3) 11) (x1).toNatClampNeg (-1))) 12 (upd ((fX1_moveTo q x1 3) 12) (x1).toNatClampNeg (-1))) 13 (upd ((fX1_moveTo q x1 3) 13) (x1).toNatClampNeg x2))
set_option maxRecDepth 20000 in
theorem frX1_sendBack (q : wSt) (x1 : Int32) (x2 : Int32) (k : Nat) (hk : k ≠ 6 ∧ k ≠ 11 ∧ k ≠ 12 ∧ k ≠ 13 ∧ k ≠ 15 ∧ k ≠ 37 ∧ k ≠ 38) : (fX1_sendBack q x1 x2) k = q k := by
  have gX1_moveTo := fun a b0 b1 => frX1_moveTo a b0 b1 k (by omega)
  obtain ⟨h6, h11, h12, h13, h15, h37, h38⟩ := hk
  unfold fX1_sendBack
  (repeat' split) <;> simp [rset, h6, h11, h12, h13, h15, h37, h38, gX1_moveTo]
theorem iIX1_sendBack (q : wSt) (x1 : Int32) (x2 : Int32) (h : iI q) : iI (fX1_sendBack q x1 x2) := iI_fr (fun k hk => frX1_sendBack q x1 x2 k (by omega)) h
def fX1_comesToday (q : wSt) (x1 : Int32) : Int32 × wSt := (if (fX1_inBox q x1) = 0 then (0, q) else (if 0 < ((upd (q 13) (x1).toNatClampNeg ((q 13 (x1).toNatClampNeg) - 1)) (x1).toNatClampNeg) then (0, (rset q 13 (upd (q 13) (x1).toNatClampNeg ((q 13 (x1).toNatClampNeg) - 1)))) else (1, (rset q 13 (upd (q 13) (x1).toNatClampNeg ((q 13 (x1).toNatClampNeg) - 1))))))
set_option maxRecDepth 20000 in
theorem frX1_comesToday (q : wSt) (x1 : Int32) (k : Nat) (hk : k ≠ 13) : (fX1_comesToday q x1).2 k = q k := by
  have h13 := hk
  unfold fX1_comesToday
  (repeat' split) <;> simp [rset, h13]
theorem iIX1_comesToday (q : wSt) (x1 : Int32) (h : iI q) : iI (fX1_comesToday q x1).2 := iI_fr (fun k hk => frX1_comesToday q x1 k (by omega)) h
def fX2_gainIn (q : wSt) (x1 : Int32) (x2 : Int32) (x3 : Int32) : Int32 := (if (q 28 (x1).toNatClampNeg) ≤ x3 then 0 else x2)
def lX2_mostOf_1 (q : wSt) (x1 : Int32) (x2 : Int32) : Nat → Int32 → Int32 → Int32 → Int32
  | 0, _, _, _ => (-1)
  | n + 1, y3_1, y4_1, y5_1 => (if 20 < y5_1 then y3_1 else (lX2_mostOf_1 q x1 x2 n (if y3_1 < ((y4_1 + (fX2_gainIn q (y5_1 - 1) x1 x2)) + (q 29 (y5_1).toNatClampNeg)) then ((y4_1 + (fX2_gainIn q (y5_1 - 1) x1 x2)) + (q 29 (y5_1).toNatClampNeg)) else y3_1) (y4_1 + (fX2_gainIn q (y5_1 - 1) x1 x2)) (y5_1 + 1)))
theorem lX2_mostOf_1_s (q : wSt) (x1 : Int32) (x2 : Int32) (n : Nat) (y3_1 : Int32) (y4_1 : Int32) (y5_1 : Int32) : lX2_mostOf_1 q x1 x2 (n + 1) y3_1 y4_1 y5_1 = (if 20 < y5_1 then y3_1 else (lX2_mostOf_1 q x1 x2 n (if y3_1 < ((y4_1 + (fX2_gainIn q (y5_1 - 1) x1 x2)) + (q 29 (y5_1).toNatClampNeg)) then ((y4_1 + (fX2_gainIn q (y5_1 - 1) x1 x2)) + (q 29 (y5_1).toNatClampNeg)) else y3_1) (y4_1 + (fX2_gainIn q (y5_1 - 1) x1 x2)) (y5_1 + 1))) := rfl
def fX2_mostOf (q : wSt) (x1 : Int32) (x2 : Int32) : Int32 := (lX2_mostOf_1 q x1 x2 (((20 : Int32).toInt + 1 - (1 : Int32).toInt).toNat + 1) (q 29 (0 : Int32).toNatClampNeg) 0 1)
def lX2_setsToBuy_1 (q : wSt) (x1 : Int32) (x2 : Int32) : Nat → Int32 → Int32
  | 0, _ => (-1)
  | n + 1, y3_1 => (if 50 ≤ y3_1 then y3_1 else (if (fX2_mostOf q x1 y3_1) ≤ x2 then y3_1 else (lX2_setsToBuy_1 q x1 x2 n (y3_1 + 1))))
theorem lX2_setsToBuy_1_s (q : wSt) (x1 : Int32) (x2 : Int32) (n : Nat) (y3_1 : Int32) : lX2_setsToBuy_1 q x1 x2 (n + 1) y3_1 = (if 50 ≤ y3_1 then y3_1 else (if (fX2_mostOf q x1 y3_1) ≤ x2 then y3_1 else (lX2_setsToBuy_1 q x1 x2 n (y3_1 + 1)))) := rfl
def fX2_setsToBuy (q : wSt) (x1 : Int32) (x2 : Int32) : Int32 := (lX2_setsToBuy_1 q x1 x2 (((50 : Int32).toInt - (0 : Int32).toInt).toNat + 1) 0)
def lX2_weeksOf_1 (q : wSt) (x1 : Int32) (x2 : Int32) : Nat → Int32 → Int32 → Int32
  | 0, _, _ => (-1)
  | n + 1, y4_1, y5_1 => (if 20 ≤ y5_1 then 20 else (if (y4_1 + (q 29 (y5_1).toNatClampNeg)) = (fX2_mostOf q x1 x2) then y5_1 else (lX2_weeksOf_1 q x1 x2 n (y4_1 + (fX2_gainIn q y5_1 x1 x2)) (y5_1 + 1))))
theorem lX2_weeksOf_1_s (q : wSt) (x1 : Int32) (x2 : Int32) (n : Nat) (y4_1 : Int32) (y5_1 : Int32) : lX2_weeksOf_1 q x1 x2 (n + 1) y4_1 y5_1 = (if 20 ≤ y5_1 then 20 else (if (y4_1 + (q 29 (y5_1).toNatClampNeg)) = (fX2_mostOf q x1 x2) then y5_1 else (lX2_weeksOf_1 q x1 x2 n (y4_1 + (fX2_gainIn q y5_1 x1 x2)) (y5_1 + 1)))) := rfl
def fX2_weeksOf (q : wSt) (x1 : Int32) (x2 : Int32) : Int32 := (lX2_weeksOf_1 q x1 x2 (((20 : Int32).toInt - (0 : Int32).toInt).toNat + 1) 0 0)
def fX3_has (q : wSt) (x1 : Int32) : Int32 := (if x1 < 0 then 0 else (if (q 39 0) ≤ x1 then 0 else 1))
def fX3_add (q : wSt) (x1 : Int32) (x2 : Int32) (x3 : Int32) : Int32 × wSt := ((((q 39 0) + 1) - 1), (rset (rset (rset (rset q 16 (upd (q 16) (q 39 0).toNatClampNeg x1)) 17 (upd (q 17) (q 39 0).toNatClampNeg x2)) 18 (upd (q 18) (q 39 0).toNatClampNeg x3)) 39 (fun _ => ((q 39 0) + 1))))
set_option maxRecDepth 20000 in
theorem frX3_add (q : wSt) (x1 : Int32) (x2 : Int32) (x3 : Int32) (k : Nat) (hk : k ≠ 16 ∧ k ≠ 17 ∧ k ≠ 18 ∧ k ≠ 39) : (fX3_add q x1 x2 x3).2 k = q k := by
  obtain ⟨h16, h17, h18, h39⟩ := hk
  unfold fX3_add
  (repeat' split) <;> simp [rset, h16, h17, h18, h39]
def fX3_rankOf (q : wSt) (x1 : Int32) : Int32 := (if (fX3_has q x1) = 0 then 0 else (q 16 (x1).toNatClampNeg))
def fX3_mayTake (q : wSt) (x1 : Int32) (x2 : Int32) : Int32 := (if (fX3_has q x1) = 0 then 0 else (if (q 18 (x1).toNatClampNeg) < x2 then 0 else (if (tMost (q 16 (x1).toNatClampNeg).toNatClampNeg) ≤ ((q 20 (x1).toNatClampNeg) + (q 21 (x1).toNatClampNeg)) then 0 else 1)))
def fX3_lateCost (q : wSt) (x1 : Int32) (x2 : Int32) : Int32 := ((if 0 < (x2 - (tTerm (fX3_rankOf q x1).toNatClampNeg)) then (x2 - (tTerm (fX3_rankOf q x1).toNatClampNeg)) else 0) * (tLate (fX3_rankOf q x1).toNatClampNeg))
def fX4_has (q : wSt) (x1 : Int32) : Int32 := (if x1 < 0 then 0 else (if (q 34 0) ≤ x1 then 0 else 1))
def fX4_volumesOf (q : wSt) (x1 : Int32) : Int32 := (if (fX4_has q x1) = 0 then 0 else (q 0 (x1).toNatClampNeg))
def fX4_hasVolume (q : wSt) (x1 : Int32) (x2 : Int32) : Int32 := (if x2 < 0 then 0 else (if (fX4_volumesOf q x1) ≤ x2 then 0 else 1))
def fX4_add (q : wSt) (x1 : Int32) : Int32 × wSt := ((((q 34 0) + 1) - 1), (rset (rset q 0 (upd (q 0) (q 34 0).toNatClampNeg x1)) 34 (fun _ => ((q 34 0) + 1))))
set_option maxRecDepth 20000 in
theorem frX4_add (q : wSt) (x1 : Int32) (k : Nat) (hk : k ≠ 0 ∧ k ≠ 34) : (fX4_add q x1).2 k = q k := by
  obtain ⟨h0, h34⟩ := hk
  unfold fX4_add
  (repeat' split) <;> simp [rset, h0, h34]
def fX5_has (q : wSt) (x1 : Int32) : Int32 := (if x1 < 0 then 0 else (if (q 40 0) ≤ x1 then 0 else 1))
def fX5_isOpen (q : wSt) (x1 : Int32) : Int32 := (if (fX5_has q x1) = 0 then 0 else (if (q 24 (x1).toNatClampNeg) = 0 then 1 else 0))
def fX5_waits (q : wSt) (x1 : Int32) : Int32 := (if (fX5_isOpen q x1) = 0 then 0 else (if (q 26 (x1).toNatClampNeg) = (-1) then 1 else 0))
def fX5_add (q : wSt) (x1 : Int32) (x2 : Int32) (x3 : Int32) : Int32 × wSt := ((q 40 0), (rset (rset (rset (rset (rset (rset (rset q 40 (fun _ => ((q 40 0) + 1))) 22 (upd (q 22) (q 40 0).toNatClampNeg x1)) 23 (upd (q 23) (q 40 0).toNatClampNeg x2)) 24 (upd (q 24) (q 40 0).toNatClampNeg 0)) 25 (upd (q 25) (q 40 0).toNatClampNeg 0)) 26 (upd (q 26) (q 40 0).toNatClampNeg (-1))) 27 (upd (q 27) (q 40 0).toNatClampNeg x3)))
set_option maxRecDepth 20000 in
theorem frX5_add (q : wSt) (x1 : Int32) (x2 : Int32) (x3 : Int32) (k : Nat) (hk : k ≠ 22 ∧ k ≠ 23 ∧ k ≠ 24 ∧ k ≠ 25 ∧ k ≠ 26 ∧ k ≠ 27 ∧ k ≠ 40) : (fX5_add q x1 x2 x3).2 k = q k := by
  obtain ⟨h22, h23, h24, h25, h26, h27, h40⟩ := hk
  unfold fX5_add
  (repeat' split) <;> simp [rset, h22, h23, h24, h25, h26, h27, h40]
def lX5_hasOpen_1 (q : wSt) (x1 : Int32) (x2 : Int32) : Nat → Int32 → Int32
  | 0, _ => (-1)
  | n + 1, y3_1 => (if (q 40 0) ≤ y3_1 then 0 else (if (q 24 (y3_1).toNatClampNeg) = 0 then (if (q 22 (y3_1).toNatClampNeg) = x1 then (if (q 23 (y3_1).toNatClampNeg) = x2 then 1 else (lX5_hasOpen_1 q x1 x2 n (y3_1 + 1))) else (lX5_hasOpen_1 q x1 x2 n (y3_1 + 1))) else (lX5_hasOpen_1 q x1 x2 n (y3_1 + 1))))
theorem lX5_hasOpen_1_s (q : wSt) (x1 : Int32) (x2 : Int32) (n : Nat) (y3_1 : Int32) : lX5_hasOpen_1 q x1 x2 (n + 1) y3_1 = (if (q 40 0) ≤ y3_1 then 0 else (if (q 24 (y3_1).toNatClampNeg) = 0 then (if (q 22 (y3_1).toNatClampNeg) = x1 then (if (q 23 (y3_1).toNatClampNeg) = x2 then 1 else (lX5_hasOpen_1 q x1 x2 n (y3_1 + 1))) else (lX5_hasOpen_1 q x1 x2 n (y3_1 + 1))) else (lX5_hasOpen_1 q x1 x2 n (y3_1 + 1)))) := rfl
def fX5_hasOpen (q : wSt) (x1 : Int32) (x2 : Int32) : Int32 := (lX5_hasOpen_1 q x1 x2 (((q 40 0).toInt - (0 : Int32).toInt).toNat + 1) 0)
def fX5_openOf_j2 (q : wSt) (x1 : Int32) (y2_1 : Int32) (y3_1 : Int32) : Int32 := (if (q 24 (y3_1).toNatClampNeg) = 0 then (if (q 22 (y3_1).toNatClampNeg) = x1 then (y2_1 + 1) else y2_1) else y2_1)
def lX5_openOf_1 (q : wSt) (x1 : Int32) : Nat → Int32 → Int32 → Int32
  | 0, _, _ => (-1)
  | n + 1, y2_1, y3_1 => (if (q 40 0) ≤ y3_1 then y2_1 else (lX5_openOf_1 q x1 n (fX5_openOf_j2 q x1 y2_1 y3_1) (y3_1 + 1)))
theorem lX5_openOf_1_s (q : wSt) (x1 : Int32) (n : Nat) (y2_1 : Int32) (y3_1 : Int32) : lX5_openOf_1 q x1 (n + 1) y2_1 y3_1 = (if (q 40 0) ≤ y3_1 then y2_1 else (lX5_openOf_1 q x1 n (fX5_openOf_j2 q x1 y2_1 y3_1) (y3_1 + 1))) := rfl
def fX5_openOf (q : wSt) (x1 : Int32) : Int32 := (lX5_openOf_1 q x1 (((q 40 0).toInt - (0 : Int32).toInt).toNat + 1) 0 0)
def fX5_waitingFor_j2 (q : wSt) (x1 : Int32) (x2 : Int32) (y3_1 : Int32) (y4_1 : Int32) : Int32 := (if (fX5_waits q y4_1) = 0 then y3_1 else (if (q 23 (y4_1).toNatClampNeg) = x1 then (if (q 25 (y4_1).toNatClampNeg) = x2 then (y3_1 + 1) else y3_1) else y3_1))
def lX5_waitingFor_1 (q : wSt) (x1 : Int32) (x2 : Int32) : Nat → Int32 → Int32 → Int32
  | 0, _, _ => (-1)
  | n + 1, y3_1, y4_1 => (if (q 40 0) ≤ y4_1 then y3_1 else (lX5_waitingFor_1 q x1 x2 n (fX5_waitingFor_j2 q x1 x2 y3_1 y4_1) (y4_1 + 1)))
theorem lX5_waitingFor_1_s (q : wSt) (x1 : Int32) (x2 : Int32) (n : Nat) (y3_1 : Int32) (y4_1 : Int32) : lX5_waitingFor_1 q x1 x2 (n + 1) y3_1 y4_1 = (if (q 40 0) ≤ y4_1 then y3_1 else (lX5_waitingFor_1 q x1 x2 n (fX5_waitingFor_j2 q x1 x2 y3_1 y4_1) (y4_1 + 1))) := rfl
def fX5_waitingFor (q : wSt) (x1 : Int32) (x2 : Int32) : Int32 := (lX5_waitingFor_1 q x1 x2 (((q 40 0).toInt - (0 : Int32).toInt).toNat + 1) 0 0)
def fX5_countAsHad (q : wSt) (x1 : Int32) (x2 : Int32) (x3 : Int32) : wSt := (if (q 24 (x1).toNatClampNeg) = 0 then (if ((upd (q 25) (x1).toNatClampNeg ((q 25 (x1).toNatClampNeg) + 1)) (x1).toNatClampNeg) < x2 then (rset (rset (rset q 26 (upd (q 26) (x1).toNatClampNeg (-1))) 25 (upd (q 25) (x1).toNatClampNeg ((q 25 (x1).toNatClampNeg) + 1))) 27 (upd (q 27) (x1).toNatClampNeg x3)) else (rset (rset (rset (rset q 26 (upd (q 26) (x1).toNatClampNeg (-1))) 25 (upd (q 25) (x1).toNatClampNeg ((q 25 (x1).toNatClampNeg) + 1))) 27 (upd (q 27) (x1).toNatClampNeg x3)) 24 (upd (q 24) (x1).toNatClampNeg 1))) else (rset (rset (rset q 26 (upd (q 26) (x1).toNatClampNeg (-1))) 25 (upd (q 25) (x1).toNatClampNeg ((q 25 (x1).toNatClampNeg) + 1))) 27 (upd (q 27) (x1).toNatClampNeg x3)))
set_option maxRecDepth 20000 in
theorem frX5_countAsHad (q : wSt) (x1 : Int32) (x2 : Int32) (x3 : Int32) (k : Nat) (hk : k ≠ 24 ∧ k ≠ 25 ∧ k ≠ 26 ∧ k ≠ 27) : (fX5_countAsHad q x1 x2 x3) k = q k := by
  obtain ⟨h24, h25, h26, h27⟩ := hk
  unfold fX5_countAsHad
  (repeat' split) <;> simp [rset, h24, h25, h26, h27]
theorem iIX5_countAsHad (q : wSt) (x1 : Int32) (x2 : Int32) (x3 : Int32) (h : iI q) : iI (fX5_countAsHad q x1 x2 x3) := iI_fr (fun k hk => frX5_countAsHad q x1 x2 x3 k (by omega)) h
def fX6_within (q : wSt) (x0 : Int32) (x1 : Int32) (x2 : Int32) : Int32 := (if x0 < x1 then 0 else (if x2 < x0 then 0 else 1))
def fX6_title (q : wSt) (x1 : Int32) : Int32 × wSt := (if (fX6_within q x1 1 4) = 0 then ((-1), q) else (if (q 34 0) < 12 then ((fX4_add q x1).1, (fX4_add q x1).2) else ((-1), q)))
set_option maxRecDepth 20000 in
theorem frX6_title (q : wSt) (x1 : Int32) (k : Nat) (hk : k ≠ 0 ∧ k ≠ 34) : (fX6_title q x1).2 k = q k := by
  have gX4_add := fun a b0 => frX4_add a b0 k (by omega)
  obtain ⟨h0, h34⟩ := hk
  unfold fX6_title
  (repeat' split) <;> simp [rset, h0, h34, gX4_add]
def fX6_bargain (q : wSt) (x1 : Int32) (x2 : Int32) (x3 : Int32) (x4 : Int32) (x5 : Int32) : Int32 × wSt := (if (fX4_has q x1) = 0 then (0, q) else (if (fX6_within q x2 0 5000) = 0 then (0, q) else (if (fX6_within q x3 0 200) = 0 then (0, q) else (if (fX6_within q x4 0 1000) = 0 then (0, q) else (if (fX6_within q x5 0 1000) = 0 then (0, q) else (if (q 35 0) < 40 then (1, (fX0_add q x1 x2 x3 x4 x5)) else (0, q)))))))
set_option maxRecDepth 20000 in
theorem frX6_bargain (q : wSt) (x1 : Int32) (x2 : Int32) (x3 : Int32) (x4 : Int32) (x5 : Int32) (k : Nat) (hk : k ≠ 1 ∧ k ≠ 2 ∧ k ≠ 3 ∧ k ≠ 4 ∧ k ≠ 5 ∧ k ≠ 35) : (fX6_bargain q x1 x2 x3 x4 x5).2 k = q k := by
  have gX0_add := fun a b0 b1 b2 b3 b4 => frX0_add a b0 b1 b2 b3 b4 k (by omega)
  obtain ⟨h1, h2, h3, h4, h5, h35⟩ := hk
  unfold fX6_bargain
  (repeat' split) <;> simp [rset, h1, h2, h3, h4, h5, h35, gX0_add]
def lX6_buy_1 (q : wSt) (x1 : Int32) (x2 : Int32) : Nat → Int32 → Int32 → wSt → Int32 × wSt
  | 0, _, _, p1 => ((-1), p1)
  | n + 1, y5_1, y6_1, p1 => (if (x2 * (fX4_volumesOf q x1)) ≤ y6_1 then (y5_1, p1) else (lX6_buy_1 q x1 x2 n (y5_1 + (fX0_priceAt p1 (fX0_inForce q x1 (q 30 0)) y6_1)) (y6_1 + 1) (fX1_add p1 x1 (y6_1 / x2) (fX0_priceAt p1 (fX0_inForce q x1 (q 30 0)) y6_1))))
theorem lX6_buy_1_s (q : wSt) (x1 : Int32) (x2 : Int32) (n : Nat) (y5_1 : Int32) (y6_1 : Int32) (p1 : wSt) : lX6_buy_1 q x1 x2 (n + 1) y5_1 y6_1 p1 = (if (x2 * (fX4_volumesOf q x1)) ≤ y6_1 then (y5_1, p1) else (lX6_buy_1 q x1 x2 n (y5_1 + (fX0_priceAt p1 (fX0_inForce q x1 (q 30 0)) y6_1)) (y6_1 + 1) (fX1_add p1 x1 (y6_1 / x2) (fX0_priceAt p1 (fX0_inForce q x1 (q 30 0)) y6_1)))) := rfl
def fX6_buy (q : wSt) (x1 : Int32) (x2 : Int32) : Int32 × wSt := (if (fX4_has q x1) = 0 then ((-1), q) else (if (fX6_within q x2 1 20) = 0 then ((-1), q) else (if ((q 36 0) + (x2 * (fX4_volumesOf q x1))) ≤ 200 then ((lX6_buy_1 q x1 x2 (((x2 * (fX4_volumesOf q x1)).toInt - (0 : Int32).toInt).toNat + 1) 0 0 q).1, (rset (lX6_buy_1 q x1 x2 (((x2 * (fX4_volumesOf q x1)).toInt - (0 : Int32).toInt).toNat + 1) 0 0 q).2 31 (fun _ => (((lX6_buy_1 q x1 x2 (((x2 * (fX4_volumesOf q x1)).toInt - (0 : Int32).toInt).toNat + 1) 0 0 q).2 31 0) + (lX6_buy_1 q x1 x2 (((x2 * (fX4_volumesOf q x1)).toInt - (0 : Int32).toInt).toNat + 1) 0 0 q).1)))) else ((-1), q))))
set_option maxRecDepth 20000 in
theorem frlX6_buy_1 (q : wSt) (x1 : Int32) (x2 : Int32) (n : Nat) (y5_1 : Int32) (y6_1 : Int32) (p1 : wSt) (k : Nat) (hk : k ≠ 6 ∧ k ≠ 7 ∧ k ≠ 8 ∧ k ≠ 9 ∧ k ≠ 10 ∧ k ≠ 11 ∧ k ≠ 12 ∧ k ≠ 13 ∧ k ≠ 14 ∧ k ≠ 15 ∧ k ≠ 31 ∧ k ≠ 36 ∧ k ≠ 37 ∧ k ≠ 38) : (lX6_buy_1 q x1 x2 n y5_1 y6_1 p1).2 k = p1 k := by
  have gX1_add := fun a b0 b1 b2 => frX1_add a b0 b1 b2 k (by omega)
  obtain ⟨h6, h7, h8, h9, h10, h11, h12, h13, h14, h15, h31, h36, h37, h38⟩ := hk
  induction n generalizing y5_1 y6_1 p1 with
  | zero => rfl
  | succ n ih =>
    rw [lX6_buy_1_s]
    (repeat' split) <;> simp [rset, h6, h7, h8, h9, h10, h11, h12, h13, h14, h15, h31, h36, h37, h38, gX1_add, ih]
set_option maxRecDepth 20000 in
theorem frX6_buy (q : wSt) (x1 : Int32) (x2 : Int32) (k : Nat) (hk : k ≠ 6 ∧ k ≠ 7 ∧ k ≠ 8 ∧ k ≠ 9 ∧ k ≠ 10 ∧ k ≠ 11 ∧ k ≠ 12 ∧ k ≠ 13 ∧ k ≠ 14 ∧ k ≠ 15 ∧ k ≠ 31 ∧ k ≠ 36 ∧ k ≠ 37 ∧ k ≠ 38) : (fX6_buy q x1 x2).2 k = q k := by
  have gX1_add := fun a b0 b1 b2 => frX1_add a b0 b1 b2 k (by omega)
  have glX6_buy_1 := fun a0 a1 a2 a3 a4 a5 a6 => frlX6_buy_1 a0 a1 a2 a3 a4 a5 a6 k (by omega)
  obtain ⟨h6, h7, h8, h9, h10, h11, h12, h13, h14, h15, h31, h36, h37, h38⟩ := hk
  unfold fX6_buy
  (repeat' split) <;> simp [rset, h6, h7, h8, h9, h10, h11, h12, h13, h14, h15, h31, h36, h37, h38, gX1_add, glX6_buy_1]
def fX6_sell (q : wSt) (x1 : Int32) (x2 : Int32) : Int32 × wSt := (if (fX1_isAt q x1 0) = 0 then (0, q) else (if (fX6_within q x2 0 1000) = 0 then (0, q) else (1, (rset (fX1_leaveFor q x1 4) 32 (fun _ => (((fX1_leaveFor q x1 4) 32 0) + x2))))))
set_option maxRecDepth 20000 in
theorem frX6_sell (q : wSt) (x1 : Int32) (x2 : Int32) (k : Nat) (hk : k ≠ 6 ∧ k ≠ 10 ∧ k ≠ 11 ∧ k ≠ 12 ∧ k ≠ 13 ∧ k ≠ 15 ∧ k ≠ 32 ∧ k ≠ 37 ∧ k ≠ 38) : (fX6_sell q x1 x2).2 k = q k := by
  have gX1_leaveFor := fun a b0 b1 => frX1_leaveFor a b0 b1 k (by omega)
  obtain ⟨h6, h10, h11, h12, h13, h15, h32, h37, h38⟩ := hk
  unfold fX6_sell
  (repeat' split) <;> simp [rset, h6, h10, h11, h12, h13, h15, h32, h37, h38, gX1_leaveFor]
theorem iIX6_sell (q : wSt) (x1 : Int32) (x2 : Int32) (h : iI q) : iI (fX6_sell q x1 x2).2 := iI_fr (fun k hk => frX6_sell q x1 x2 k (by omega)) h
def fX6_reader (q : wSt) (x1 : Int32) (x2 : Int32) (x3 : Int32) : Int32 × wSt := (if (fX6_within q x1 0 2) = 0 then ((-1), q) else (if (fX6_within q x2 0 9) = 0 then ((-1), q) else (if (fX6_within q x3 0 5000) = 0 then ((-1), q) else (if (q 39 0) < 20 then ((fX3_add q x1 x2 x3).1, (fX3_add q x1 x2 x3).2) else ((-1), q)))))
set_option maxRecDepth 20000 in
theorem frX6_reader (q : wSt) (x1 : Int32) (x2 : Int32) (x3 : Int32) (k : Nat) (hk : k ≠ 16 ∧ k ≠ 17 ∧ k ≠ 18 ∧ k ≠ 39) : (fX6_reader q x1 x2 x3).2 k = q k := by
  have gX3_add := fun a b0 b1 b2 => frX3_add a b0 b1 b2 k (by omega)
  obtain ⟨h16, h17, h18, h39⟩ := hk
  unfold fX6_reader
  (repeat' split) <;> simp [rset, h16, h17, h18, h39, gX3_add]
def fX6_renew (q : wSt) (x1 : Int32) (x2 : Int32) : Int32 × wSt := (if (fX3_has q x1) = 0 then (0, q) else (if (fX6_within q x2 0 5000) = 0 then (0, q) else (1, (rset q 18 (upd (q 18) (x1).toNatClampNeg x2)))))
set_option maxRecDepth 20000 in
theorem frX6_renew (q : wSt) (x1 : Int32) (x2 : Int32) (k : Nat) (hk : k ≠ 18) : (fX6_renew q x1 x2).2 k = q k := by
  have h18 := hk
  unfold fX6_renew
  (repeat' split) <;> simp [rset, h18]
theorem iIX6_renew (q : wSt) (x1 : Int32) (x2 : Int32) (h : iI q) : iI (fX6_renew q x1 x2).2 := iI_fr (fun k hk => frX6_renew q x1 x2 k (by omega)) h
def fX6_wish (q : wSt) (x1 : Int32) (x2 : Int32) : Int32 × wSt := (if (fX3_has q x1) = 0 then ((-1), q) else (if (fX4_has q x2) = 0 then ((-1), q) else (if (q 40 0) < 100 then (if (fX5_hasOpen q x1 x2) = 0 then ((fX5_add q x1 x2 (q 30 0)).1, (fX5_add q x1 x2 (q 30 0)).2) else ((-1), q)) else ((-1), q))))
set_option maxRecDepth 20000 in
theorem frX6_wish (q : wSt) (x1 : Int32) (x2 : Int32) (k : Nat) (hk : k ≠ 22 ∧ k ≠ 23 ∧ k ≠ 24 ∧ k ≠ 25 ∧ k ≠ 26 ∧ k ≠ 27 ∧ k ≠ 40) : (fX6_wish q x1 x2).2 k = q k := by
  have gX5_add := fun a b0 b1 b2 => frX5_add a b0 b1 b2 k (by omega)
  obtain ⟨h22, h23, h24, h25, h26, h27, h40⟩ := hk
  unfold fX6_wish
  (repeat' split) <;> simp [rset, h22, h23, h24, h25, h26, h27, h40, gX5_add]
def fX6_unwish (q : wSt) (x1 : Int32) : Int32 × wSt := (if (fX5_isOpen q x1) = 0 then (0, q) else (1, (rset q 24 (upd (q 24) (x1).toNatClampNeg 2))))
set_option maxRecDepth 20000 in
theorem frX6_unwish (q : wSt) (x1 : Int32) (k : Nat) (hk : k ≠ 24) : (fX6_unwish q x1).2 k = q k := by
  have h24 := hk
  unfold fX6_unwish
  (repeat' split) <;> simp [rset, h24]
theorem iIX6_unwish (q : wSt) (x1 : Int32) (h : iI q) : iI (fX6_unwish q x1).2 := iI_fr (fun k hk => frX6_unwish q x1 k (by omega)) h
def fX6_unpack (q : wSt) (x1 : Int32) : wSt := (if (fX3_has q (q 10 (x1).toNatClampNeg)) = 0 then q else (if (q 6 (x1).toNatClampNeg) = 3 then (fX1_shelve (rset q 21 (upd (q 21) (q 10 (x1).toNatClampNeg).toNatClampNeg ((q 21 (q 10 (x1).toNatClampNeg).toNatClampNeg) - 1))) x1) else (rset (fX1_handOver (rset q 21 (upd (q 21) (q 10 (x1).toNatClampNeg).toNatClampNeg ((q 21 (q 10 (x1).toNatClampNeg).toNatClampNeg) - 1))) x1 (q 30 0)) 20 (upd ((fX1_handOver (rset q 21 (upd (q 21) (q 10 (x1).toNatClampNeg).toNatClampNeg ((q 21 (q 10 (x1).toNatClampNeg).toNatClampNeg) - 1))) x1 (q 30 0)) 20) (q 10 (x1).toNatClampNeg).toNatClampNeg (((fX1_handOver (rset q 21 (upd (q 21) (q 10 (x1).toNatClampNeg).toNatClampNeg ((q 21 (q 10 (x1).toNatClampNeg).toNatClampNeg) - 1))) x1 (q 30 0)) 20 (q 10 (x1).toNatClampNeg).toNatClampNeg) + 1)))))
set_option maxRecDepth 20000 in
theorem frX6_unpack (q : wSt) (x1 : Int32) (k : Nat) (hk : k ≠ 6 ∧ k ≠ 10 ∧ k ≠ 11 ∧ k ≠ 12 ∧ k ≠ 13 ∧ k ≠ 15 ∧ k ≠ 20 ∧ k ≠ 21 ∧ k ≠ 37 ∧ k ≠ 38) : (fX6_unpack q x1) k = q k := by
  have gX1_handOver := fun a b0 b1 => frX1_handOver a b0 b1 k (by omega)
  have gX1_shelve := fun a b0 => frX1_shelve a b0 k (by omega)
  obtain ⟨h6, h10, h11, h12, h13, h15, h20, h21, h37, h38⟩ := hk
  unfold fX6_unpack
  (repeat' split) <;> simp [rset, h6, h10, h11, h12, h13, h15, h20, h21, h37, h38, gX1_handOver, gX1_shelve]
theorem iIX6_unpack (q : wSt) (x1 : Int32) (h : iI q) : iI (fX6_unpack q x1) := iI_fr (fun k hk => frX6_unpack q x1 k (by omega)) h
def fX6_moveBoxes_j2 (q : wSt) (y1_1 : Int32) (y2_1 : Int32) (p1 : wSt) : Int32 := (if y1_1 = 0 then (if ((fX1_comesToday p1 y2_1).2 6 (y2_1).toNatClampNeg) = 3 then 1 else 0) else 1)
def fX6_moveBoxes_j3 (q : wSt) (y1_1 : Int32) (y2_1 : Int32) (p1 : wSt) : Int32 × wSt := (if (fX1_comesToday p1 y2_1).1 = 0 then (y1_1, (fX1_comesToday p1 y2_1).2) else ((fX6_moveBoxes_j2 q y1_1 y2_1 p1), (fX6_unpack (fX1_comesToday p1 y2_1).2 y2_1)))
def lX6_moveBoxes_1 (q : wSt) : Nat → Int32 → Int32 → wSt → Int32 × wSt
  | 0, _, _, p1 => ((-1), p1)
  | n + 1, y1_1, y2_1, p1 => (if (p1 36 0) ≤ y2_1 then (y1_1, p1) else (lX6_moveBoxes_1 q n (fX6_moveBoxes_j3 q y1_1 y2_1 p1).1 (y2_1 + 1) (fX6_moveBoxes_j3 q y1_1 y2_1 p1).2))
theorem lX6_moveBoxes_1_s (q : wSt) (n : Nat) (y1_1 : Int32) (y2_1 : Int32) (p1 : wSt) : lX6_moveBoxes_1 q (n + 1) y1_1 y2_1 p1 = (if (p1 36 0) ≤ y2_1 then (y1_1, p1) else (lX6_moveBoxes_1 q n (fX6_moveBoxes_j3 q y1_1 y2_1 p1).1 (y2_1 + 1) (fX6_moveBoxes_j3 q y1_1 y2_1 p1).2)) := rfl
def fX6_moveBoxes (q : wSt) : Int32 × wSt := (if (q 37 0) = 0 then (0, q) else ((lX6_moveBoxes_1 q ((((q 36) 0).toInt - (0 : Int32).toInt).toNat + 1) 0 0 q).1, (lX6_moveBoxes_1 q ((((q 36) 0).toInt - (0 : Int32).toInt).toNat + 1) 0 0 q).2))
set_option maxRecDepth 20000 in
theorem frX6_moveBoxes_j3 (q : wSt) (y1_1 : Int32) (y2_1 : Int32) (p1 : wSt) (k : Nat) (hk : k ≠ 6 ∧ k ≠ 10 ∧ k ≠ 11 ∧ k ≠ 12 ∧ k ≠ 13 ∧ k ≠ 15 ∧ k ≠ 20 ∧ k ≠ 21 ∧ k ≠ 37 ∧ k ≠ 38) : (fX6_moveBoxes_j3 q y1_1 y2_1 p1).2 k = p1 k := by
  have gX1_comesToday := fun a b0 => frX1_comesToday a b0 k (by omega)
  have gX6_unpack := fun a b0 => frX6_unpack a b0 k (by omega)
  obtain ⟨h6, h10, h11, h12, h13, h15, h20, h21, h37, h38⟩ := hk
  unfold fX6_moveBoxes_j3
  (repeat' split) <;> simp [rset, h6, h10, h11, h12, h13, h15, h20, h21, h37, h38, gX1_comesToday, gX6_unpack]
set_option maxRecDepth 20000 in
theorem frlX6_moveBoxes_1 (q : wSt) (n : Nat) (y1_1 : Int32) (y2_1 : Int32) (p1 : wSt) (k : Nat) (hk : k ≠ 6 ∧ k ≠ 10 ∧ k ≠ 11 ∧ k ≠ 12 ∧ k ≠ 13 ∧ k ≠ 15 ∧ k ≠ 20 ∧ k ≠ 21 ∧ k ≠ 37 ∧ k ≠ 38) : (lX6_moveBoxes_1 q n y1_1 y2_1 p1).2 k = p1 k := by
  have gX1_comesToday := fun a b0 => frX1_comesToday a b0 k (by omega)
  have gX6_unpack := fun a b0 => frX6_unpack a b0 k (by omega)
  have gfX6_moveBoxes_j3 := fun a0 a1 a2 a3 => frX6_moveBoxes_j3 a0 a1 a2 a3 k (by omega)
  obtain ⟨h6, h10, h11, h12, h13, h15, h20, h21, h37, h38⟩ := hk
  induction n generalizing y1_1 y2_1 p1 with
  | zero => rfl
  | succ n ih =>
    rw [lX6_moveBoxes_1_s]
    (repeat' split) <;> simp [rset, h6, h10, h11, h12, h13, h15, h20, h21, h37, h38, gX1_comesToday, gX6_unpack, gfX6_moveBoxes_j3, ih]
set_option maxRecDepth 20000 in
theorem frX6_moveBoxes (q : wSt) (k : Nat) (hk : k ≠ 6 ∧ k ≠ 10 ∧ k ≠ 11 ∧ k ≠ 12 ∧ k ≠ 13 ∧ k ≠ 15 ∧ k ≠ 20 ∧ k ≠ 21 ∧ k ≠ 37 ∧ k ≠ 38) : (fX6_moveBoxes q).2 k = q k := by
  have gX1_comesToday := fun a b0 => frX1_comesToday a b0 k (by omega)
  have gX6_unpack := fun a b0 => frX6_unpack a b0 k (by omega)
  have gfX6_moveBoxes_j3 := fun a0 a1 a2 a3 => frX6_moveBoxes_j3 a0 a1 a2 a3 k (by omega)
  have glX6_moveBoxes_1 := fun a0 a1 a2 a3 a4 => frlX6_moveBoxes_1 a0 a1 a2 a3 a4 k (by omega)
  obtain ⟨h6, h10, h11, h12, h13, h15, h20, h21, h37, h38⟩ := hk
  unfold fX6_moveBoxes
  (repeat' split) <;> simp [rset, h6, h10, h11, h12, h13, h15, h20, h21, h37, h38, gX1_comesToday, gX6_unpack, gfX6_moveBoxes_j3, glX6_moveBoxes_1]
theorem iIX6_moveBoxes (q : wSt) (h : iI q) : iI (fX6_moveBoxes q).2 := iI_fr (fun k hk => frX6_moveBoxes q k (by omega)) h
def fX6_canGet (q : wSt) (x1 : Int32) : Int32 := (if (fX5_waits q x1) = 0 then 0 else (if (fX3_mayTake q (q 22 (x1).toNatClampNeg) (q 30 0)) = 0 then 0 else (if (fX1_onShelf q (q 23 (x1).toNatClampNeg) (q 25 (x1).toNatClampNeg)) ≤ 0 then 0 else 1)))
def fX6_goesAhead (q : wSt) (x1 : Int32) (x2 : Int32) : Int32 := (if (fX3_rankOf q (q 22 (x1).toNatClampNeg)) = (fX3_rankOf q (q 22 (x2).toNatClampNeg)) then (if (q 27 (x2).toNatClampNeg) ≤ (q 27 (x1).toNatClampNeg) then 0 else 1) else (if (fX3_rankOf q (q 22 (x1).toNatClampNeg)) ≤ (fX3_rankOf q (q 22 (x2).toNatClampNeg)) then 0 else 1))
def fX6_nextInTurn_j2 (q : wSt) (y1_1 : Int32) (y2_1 : Int32) : Int32 := (if (fX6_canGet q y2_1) = 0 then y1_1 else (if y1_1 = (-1) then y2_1 else (if (fX6_goesAhead q y2_1 y1_1) = 0 then y1_1 else y2_1)))
def lX6_nextInTurn_1 (q : wSt) : Nat → Int32 → Int32 → Int32
  | 0, _, _ => (-1)
  | n + 1, y1_1, y2_1 => (if (q 40 0) ≤ y2_1 then y1_1 else (lX6_nextInTurn_1 q n (fX6_nextInTurn_j2 q y1_1 y2_1) (y2_1 + 1)))
theorem lX6_nextInTurn_1_s (q : wSt) (n : Nat) (y1_1 : Int32) (y2_1 : Int32) : lX6_nextInTurn_1 q (n + 1) y1_1 y2_1 = (if (q 40 0) ≤ y2_1 then y1_1 else (lX6_nextInTurn_1 q n (fX6_nextInTurn_j2 q y1_1 y2_1) (y2_1 + 1))) := rfl
def fX6_nextInTurn (q : wSt) : Int32 := (lX6_nextInTurn_1 q (((q 40 0).toInt - (0 : Int32).toInt).toNat + 1) (-1) 0)
def fX6_lendFor (q : wSt) (x1 : Int32) : wSt := (if (fX1_leastOnShelf q (q 23 (x1).toNatClampNeg) (q 25 (x1).toNatClampNeg)) = (-1) then q else (if (fX3_has q (q 22 (x1).toNatClampNeg)) = 0 then q else (if ((fX1_lend (rset q 26 (upd (q 26) (x1).toNatClampNeg (fX1_leastOnShelf q (q 23 (x1).toNatClampNeg) (q 25 (x1).toNatClampNeg)))) (fX1_leastOnShelf q (q 23 (x1).toNatClampNeg) (q 25 (x1).toNatClampNeg)) (q 22 (x1).toNatClampNeg) x1) 17 (q 22 (x1).toNatClampNeg).toNatClampNeg) = 0 then (rset (fX1_handOver (fX1_lend (rset q 26 (upd (q 26) (x1).toNatClampNeg (fX1_leastOnShelf q (q 23 (x1).toNatClampNeg) (q 25 (x1).toNatClampNeg)))) (fX1_leastOnShelf q (q 23 (x1).toNatClampNeg) (q 25 (x1).toNatClampNeg)) (q 22 (x1).toNatClampNeg) x1) (fX1_leastOnShelf q (q 23 (x1).toNatClampNeg) (q 25 (x1).toNatClampNeg)) ((fX1_lend (rset q 26 (upd (q 26) (x1).toNatClampNeg (fX1_leastOnShelf q (q 23 (x1).toNatClampNeg) (q 25 (x1).toNatClampNeg)))) (fX1_leastOnShelf q (q 23 (x1).toNatClampNeg) (q 25 (x1).toNatClampNeg)) (q 22 (x1).toNatClampNeg) x1) 30 0)) 20 (upd ((fX1_handOver (fX1_lend (rset q 26 (upd (q 26) (x1).toNatClampNeg (fX1_leastOnShelf q (q 23 (x1).toNatClampNeg) (q 25 (x1).toNatClampNeg)))) (fX1_leastOnShelf q (q 23 (x1).toNatClampNeg) (q 25 (x1).toNatClampNeg)) (q 22 (x1).toNatClampNeg) x1) (fX1_leastOnShelf q (q 23 (x1).toNatClampNeg) (q 25 (x1).toNatClampNeg)) ((fX1_lend (rset q 26 (upd (q 26) (x1).toNatClampNeg (fX1_leastOnShelf q (q 23 (x1).toNatClampNeg) (q 25 (x1).toNatClampNeg)))) (fX1_leastOnShelf q (q 23 (x1).toNatClampNeg) (q 25 (x1).toNatClampNeg)) (q 22 (x1).toNatClampNeg) x1) 30 0)) 20) (q 22 (x1).toNatClampNeg).toNatClampNeg (((fX1_handOver (fX1_lend (rset q 26 (upd (q 26) (x1).toNatClampNeg (fX1_leastOnShelf q (q 23 (x1).toNatClampNeg) (q 25 (x1).toNatClampNeg)))) (fX1_leastOnShelf q (q 23 (x1).toNatClampNeg) (q 25 (x1).toNatClampNeg)) (q 22 (x1).toNatClampNeg) x1) (fX1_leastOnShelf q (q 23 (x1).toNatClampNeg) (q 25 (x1).toNatClampNeg)) ((fX1_lend (rset q 26 (upd (q 26) (x1).toNatClampNeg (fX1_leastOnShelf q (q 23 (x1).toNatClampNeg) (q 25 (x1).toNatClampNeg)))) (fX1_leastOnShelf q (q 23 (x1).toNatClampNeg) (q 25 (x1).toNatClampNeg)) (q 22 (x1).toNatClampNeg) x1) 30 0)) 20 (q 22 (x1).toNatClampNeg).toNatClampNeg) + 1))) else (rset (fX1_sendOut (fX1_lend (rset q 26 (upd (q 26) (x1).toNatClampNeg (fX1_leastOnShelf q (q 23 (x1).toNatClampNeg) (q 25 (x1).toNatClampNeg)))) (fX1_leastOnShelf q (q 23 (x1).toNatClampNeg) (q 25 (x1).toNatClampNeg)) (q 22 (x1).toNatClampNeg) x1) (fX1_leastOnShelf q (q 23 (x1).toNatClampNeg) (q 25 (x1).toNatClampNeg)) ((fX1_lend (rset q 26 (upd (q 26) (x1).toNatClampNeg (fX1_leastOnShelf q (q 23 (x1).toNatClampNeg) (q 25 (x1).toNatClampNeg)))) (fX1_leastOnShelf q (q 23 (x1).toNatClampNeg) (q 25 (x1).toNatClampNeg)) (q 22 (x1).toNatClampNeg) x1) 17 (q 22 (x1).toNatClampNeg).toNatClampNeg)) 21 (upd ((fX1_sendOut (fX1_lend (rset q 26 (upd (q 26) (x1).toNatClampNeg (fX1_leastOnShelf q (q 23 (x1).toNatClampNeg) (q 25 (x1).toNatClampNeg)))) (fX1_leastOnShelf q (q 23 (x1).toNatClampNeg) (q 25 (x1).toNatClampNeg)) (q 22 (x1).toNatClampNeg) x1) (fX1_leastOnShelf q (q 23 (x1).toNatClampNeg) (q 25 (x1).toNatClampNeg)) ((fX1_lend (rset q 26 (upd (q 26) (x1).toNatClampNeg (fX1_leastOnShelf q (q 23 (x1).toNatClampNeg) (q 25 (x1).toNatClampNeg)))) (fX1_leastOnShelf q (q 23 (x1).toNatClampNeg) (q 25 (x1).toNatClampNeg)) (q 22 (x1).toNatClampNeg) x1) 17 (q 22 (x1).toNatClampNeg).toNatClampNeg)) 21) (q 22 (x1).toNatClampNeg).toNatClampNeg (((fX1_sendOut (fX1_lend (rset q 26 (upd (q 26) (x1).toNatClampNeg (fX1_leastOnShelf q (q 23 (x1).toNatClampNeg) (q 25 (x1).toNatClampNeg)))) (fX1_leastOnShelf q (q 23 (x1).toNatClampNeg) (q 25 (x1).toNatClampNeg)) (q 22 (x1).toNatClampNeg) x1) (fX1_leastOnShelf q (q 23 (x1).toNatClampNeg) (q 25 (x1).toNatClampNeg)) ((fX1_lend (rset q 26 (upd (q 26) (x1).toNatClampNeg (fX1_leastOnShelf q (q 23 (x1).toNatClampNeg) (q 25 (x1).toNatClampNeg)))) (fX1_leastOnShelf q (q 23 (x1).toNatClampNeg) (q 25 (x1).toNatClampNeg)) (q 22 (x1).toNatClampNeg) x1) 17 (q 22 (x1).toNatClampNeg).toNatClampNeg)) 21 (q 22 (x1).toNatClampNeg).toNatClampNeg) + 1))))))
set_option maxRecDepth 20000 in
theorem frX6_lendFor (q : wSt) (x1 : Int32) (k : Nat) (hk : k ≠ 6 ∧ k ≠ 10 ∧ k ≠ 11 ∧ k ≠ 12 ∧ k ≠ 13 ∧ k ≠ 14 ∧ k ≠ 15 ∧ k ≠ 20 ∧ k ≠ 21 ∧ k ≠ 26 ∧ k ≠ 37 ∧ k ≠ 38) : (fX6_lendFor q x1) k = q k := by
  have gX1_handOver := fun a b0 b1 => frX1_handOver a b0 b1 k (by omega)
  have gX1_lend := fun a b0 b1 b2 => frX1_lend a b0 b1 b2 k (by omega)
  have gX1_sendOut := fun a b0 b1 => frX1_sendOut a b0 b1 k (by omega)
  obtain ⟨h6, h10, h11, h12, h13, h14, h15, h20, h21, h26, h37, h38⟩ := hk
  unfold fX6_lendFor
  (repeat' split) <;> simp [rset, h6, h10, h11, h12, h13, h14, h15, h20, h21, h26, h37, h38, gX1_handOver, gX1_lend, gX1_sendOut]
theorem iIX6_lendFor (q : wSt) (x1 : Int32) (h : iI q) : iI (fX6_lendFor q x1) := iI_fr (fun k hk => frX6_lendFor q x1 k (by omega)) h
def lX6_takeTurns_1 (q : wSt) : Nat → Int32 → wSt → wSt
  | 0, _, p1 => p1
  | n + 1, y1_1, p1 => (if 200 ≤ y1_1 then p1 else (if (fX6_nextInTurn p1) = (-1) then p1 else (lX6_takeTurns_1 q n (y1_1 + 1) (fX6_lendFor p1 (fX6_nextInTurn p1)))))
theorem lX6_takeTurns_1_s (q : wSt) (n : Nat) (y1_1 : Int32) (p1 : wSt) : lX6_takeTurns_1 q (n + 1) y1_1 p1 = (if 200 ≤ y1_1 then p1 else (if (fX6_nextInTurn p1) = (-1) then p1 else (lX6_takeTurns_1 q n (y1_1 + 1) (fX6_lendFor p1 (fX6_nextInTurn p1))))) := rfl
def fX6_takeTurns (q : wSt) : wSt := (lX6_takeTurns_1 q (((200 : Int32).toInt - (0 : Int32).toInt).toNat + 1) 0 q)
set_option maxRecDepth 20000 in
theorem frlX6_takeTurns_1 (q : wSt) (n : Nat) (y1_1 : Int32) (p1 : wSt) (k : Nat) (hk : k ≠ 6 ∧ k ≠ 10 ∧ k ≠ 11 ∧ k ≠ 12 ∧ k ≠ 13 ∧ k ≠ 14 ∧ k ≠ 15 ∧ k ≠ 20 ∧ k ≠ 21 ∧ k ≠ 26 ∧ k ≠ 37 ∧ k ≠ 38) : (lX6_takeTurns_1 q n y1_1 p1) k = p1 k := by
  have gX6_lendFor := fun a b0 => frX6_lendFor a b0 k (by omega)
  obtain ⟨h6, h10, h11, h12, h13, h14, h15, h20, h21, h26, h37, h38⟩ := hk
  induction n generalizing y1_1 p1 with
  | zero => rfl
  | succ n ih =>
    rw [lX6_takeTurns_1_s]
    (repeat' split) <;> simp [rset, h6, h10, h11, h12, h13, h14, h15, h20, h21, h26, h37, h38, gX6_lendFor, ih]
set_option maxRecDepth 20000 in
theorem frX6_takeTurns (q : wSt) (k : Nat) (hk : k ≠ 6 ∧ k ≠ 10 ∧ k ≠ 11 ∧ k ≠ 12 ∧ k ≠ 13 ∧ k ≠ 14 ∧ k ≠ 15 ∧ k ≠ 20 ∧ k ≠ 21 ∧ k ≠ 26 ∧ k ≠ 37 ∧ k ≠ 38) : (fX6_takeTurns q) k = q k := by
  have gX6_lendFor := fun a b0 => frX6_lendFor a b0 k (by omega)
  have glX6_takeTurns_1 := fun a0 a1 a2 a3 => frlX6_takeTurns_1 a0 a1 a2 a3 k (by omega)
  obtain ⟨h6, h10, h11, h12, h13, h14, h15, h20, h21, h26, h37, h38⟩ := hk
  unfold fX6_takeTurns
  (repeat' split) <;> simp [rset, h6, h10, h11, h12, h13, h14, h15, h20, h21, h26, h37, h38, gX6_lendFor, glX6_takeTurns_1]
theorem iIX6_takeTurns (q : wSt) (h : iI q) : iI (fX6_takeTurns q) := iI_fr (fun k hk => frX6_takeTurns q k (by omega)) h
def fX6_go_j2 (q : wSt) (x1 : Int32) (y3_1 : Int32) (p1 : wSt) : wSt := (if y3_1 = 0 then (fX6_takeTurns (fX6_moveBoxes p1).2) else (if (fX6_moveBoxes p1).1 = 0 then (fX6_moveBoxes p1).2 else (fX6_takeTurns (fX6_moveBoxes p1).2)))
def lX6_go_1 (q : wSt) (x1 : Int32) : Nat → Int32 → wSt → wSt
  | 0, _, p1 => p1
  | n + 1, y3_1, p1 => (if (if (5000 - (q 30 0)) < x1 then (5000 - (q 30 0)) else x1) ≤ y3_1 then p1 else (lX6_go_1 q x1 n (y3_1 + 1) (rset (fX6_go_j2 q x1 y3_1 p1) 30 (fun _ => (((fX6_go_j2 q x1 y3_1 p1) 30 0) + 1)))))
theorem lX6_go_1_s (q : wSt) (x1 : Int32) (n : Nat) (y3_1 : Int32) (p1 : wSt) : lX6_go_1 q x1 (n + 1) y3_1 p1 = (if (if (5000 - (q 30 0)) < x1 then (5000 - (q 30 0)) else x1) ≤ y3_1 then p1 else (lX6_go_1 q x1 n (y3_1 + 1) (rset (fX6_go_j2 q x1 y3_1 p1) 30 (fun _ => (((fX6_go_j2 q x1 y3_1 p1) 30 0) + 1))))) := rfl
def fX6_go (q : wSt) (x1 : Int32) : Int32 × wSt := (if (fX6_within q x1 0 100) = 0 then ((-1), q) else (((lX6_go_1 q x1 (((if (5000 - (q 30 0)) < x1 then (5000 - (q 30 0)) else x1).toInt - (0 : Int32).toInt).toNat + 1) 0 q) 30 0), (lX6_go_1 q x1 (((if (5000 - (q 30 0)) < x1 then (5000 - (q 30 0)) else x1).toInt - (0 : Int32).toInt).toNat + 1) 0 q)))
set_option maxRecDepth 20000 in
theorem frX6_go_j2 (q : wSt) (x1 : Int32) (y3_1 : Int32) (p1 : wSt) (k : Nat) (hk : k ≠ 6 ∧ k ≠ 10 ∧ k ≠ 11 ∧ k ≠ 12 ∧ k ≠ 13 ∧ k ≠ 14 ∧ k ≠ 15 ∧ k ≠ 20 ∧ k ≠ 21 ∧ k ≠ 26 ∧ k ≠ 30 ∧ k ≠ 37 ∧ k ≠ 38) : (fX6_go_j2 q x1 y3_1 p1) k = p1 k := by
  have gX6_moveBoxes := fun a => frX6_moveBoxes a  k (by omega)
  have gX6_takeTurns := fun a => frX6_takeTurns a  k (by omega)
  obtain ⟨h6, h10, h11, h12, h13, h14, h15, h20, h21, h26, h30, h37, h38⟩ := hk
  unfold fX6_go_j2
  (repeat' split) <;> simp [rset, h6, h10, h11, h12, h13, h14, h15, h20, h21, h26, h30, h37, h38, gX6_moveBoxes, gX6_takeTurns]
set_option maxRecDepth 20000 in
theorem frlX6_go_1 (q : wSt) (x1 : Int32) (n : Nat) (y3_1 : Int32) (p1 : wSt) (k : Nat) (hk : k ≠ 6 ∧ k ≠ 10 ∧ k ≠ 11 ∧ k ≠ 12 ∧ k ≠ 13 ∧ k ≠ 14 ∧ k ≠ 15 ∧ k ≠ 20 ∧ k ≠ 21 ∧ k ≠ 26 ∧ k ≠ 30 ∧ k ≠ 37 ∧ k ≠ 38) : (lX6_go_1 q x1 n y3_1 p1) k = p1 k := by
  have gX6_moveBoxes := fun a => frX6_moveBoxes a  k (by omega)
  have gX6_takeTurns := fun a => frX6_takeTurns a  k (by omega)
  have gfX6_go_j2 := fun a0 a1 a2 a3 => frX6_go_j2 a0 a1 a2 a3 k (by omega)
  obtain ⟨h6, h10, h11, h12, h13, h14, h15, h20, h21, h26, h30, h37, h38⟩ := hk
  induction n generalizing y3_1 p1 with
  | zero => rfl
  | succ n ih =>
    rw [lX6_go_1_s]
    (repeat' split) <;> simp [rset, h6, h10, h11, h12, h13, h14, h15, h20, h21, h26, h30, h37, h38, gX6_moveBoxes, gX6_takeTurns, gfX6_go_j2, ih]
set_option maxRecDepth 20000 in
theorem frX6_go (q : wSt) (x1 : Int32) (k : Nat) (hk : k ≠ 6 ∧ k ≠ 10 ∧ k ≠ 11 ∧ k ≠ 12 ∧ k ≠ 13 ∧ k ≠ 14 ∧ k ≠ 15 ∧ k ≠ 20 ∧ k ≠ 21 ∧ k ≠ 26 ∧ k ≠ 30 ∧ k ≠ 37 ∧ k ≠ 38) : (fX6_go q x1).2 k = q k := by
  have gX6_moveBoxes := fun a => frX6_moveBoxes a  k (by omega)
  have gX6_takeTurns := fun a => frX6_takeTurns a  k (by omega)
  have gfX6_go_j2 := fun a0 a1 a2 a3 => frX6_go_j2 a0 a1 a2 a3 k (by omega)
  have glX6_go_1 := fun a0 a1 a2 a3 a4 => frlX6_go_1 a0 a1 a2 a3 a4 k (by omega)
  obtain ⟨h6, h10, h11, h12, h13, h14, h15, h20, h21, h26, h30, h37, h38⟩ := hk
  unfold fX6_go
  (repeat' split) <;> simp [rset, h6, h10, h11, h12, h13, h14, h15, h20, h21, h26, h30, h37, h38, gX6_moveBoxes, gX6_takeTurns, gfX6_go_j2, glX6_go_1]
theorem iIX6_go (q : wSt) (x1 : Int32) (h : iI q) : iI (fX6_go q x1).2 := iI_fr (fun k hk => frX6_go q x1 k (by omega)) h
def fX6_lateCost (q : wSt) (x1 : Int32) (x2 : Int32) : Int32 := (if (fX1_isAt q x1 1) = 0 then 0 else (fX3_lateCost q x2 ((q 30 0) - (q 12 (x1).toNatClampNeg))))
def fX6_countAsHad (q : wSt) (x1 : Int32) : wSt := (if (fX5_has q x1) = 0 then q else (fX5_countAsHad q x1 (fX4_volumesOf q (q 23 (x1).toNatClampNeg)) (q 30 0)))
set_option maxRecDepth 20000 in
theorem frX6_countAsHad (q : wSt) (x1 : Int32) (k : Nat) (hk : k ≠ 24 ∧ k ≠ 25 ∧ k ≠ 26 ∧ k ≠ 27) : (fX6_countAsHad q x1) k = q k := by
  have gX5_countAsHad := fun a b0 b1 b2 => frX5_countAsHad a b0 b1 b2 k (by omega)
  obtain ⟨h24, h25, h26, h27⟩ := hk
  unfold fX6_countAsHad
  (repeat' split) <;> simp [rset, h24, h25, h26, h27, gX5_countAsHad]
theorem iIX6_countAsHad (q : wSt) (x1 : Int32) (h : iI q) : iI (fX6_countAsHad q x1) := iI_fr (fun k hk => frX6_countAsHad q x1 k (by omega)) h
def fX6_back_j1 (q : wSt) (x1 : Int32) : wSt := (if ((fX6_countAsHad (rset q 19 (upd (q 19) (q 10 (x1).toNatClampNeg).toNatClampNeg ((q 19 (q 10 (x1).toNatClampNeg).toNatClampNeg) + (fX6_lateCost q x1 (q 10 (x1).toNatClampNeg))))) (q 11 (x1).toNatClampNeg)) 17 (q 10 (x1).toNatClampNeg).toNatClampNeg) = 0 then (fX1_shelve (rset (fX6_countAsHad (rset q 19 (upd (q 19) (q 10 (x1).toNatClampNeg).toNatClampNeg ((q 19 (q 10 (x1).toNatClampNeg).toNatClampNeg) + (fX6_lateCost q x1 (q 10 (x1).toNatClampNeg))))) (q 11 (x1).toNatClampNeg)) 20 (upd ((fX6_countAsHad (rset q 19 (upd (q 19) (q 10 (x1).toNatClampNeg).toNatClampNeg ((q 19 (q 10 (x1).toNatClampNeg).toNatClampNeg) + (fX6_lateCost q x1 (q 10 (x1).toNatClampNeg))))) (q 11 (x1).toNatClampNeg)) 20) (q 10 (x1).toNatClampNeg).toNatClampNeg (((fX6_countAsHad (rset q 19 (upd (q 19) (q 10 (x1).toNatClampNeg).toNatClampNeg ((q 19 (q 10 (x1).toNatClampNeg).toNatClampNeg) + (fX6_lateCost q x1 (q 10 (x1).toNatClampNeg))))) (q 11 (x1).toNatClampNeg)) 20 (q 10 (x1).toNatClampNeg).toNatClampNeg) - 1))) x1) else (rset (fX1_sendBack (rset (fX6_countAsHad (rset q 19 (upd (q 19) (q 10 (x1).toNatClampNeg).toNatClampNeg ((q 19 (q 10 (x1).toNatClampNeg).toNatClampNeg) + (fX6_lateCost q x1 (q 10 (x1).toNatClampNeg))))) (q 11 (x1).toNatClampNeg)) 20 (upd ((fX6_countAsHad (rset q 19 (upd (q 19) (q 10 (x1).toNatClampNeg).toNatClampNeg ((q 19 (q 10 (x1).toNatClampNeg).toNatClampNeg) + (fX6_lateCost q x1 (q 10 (x1).toNatClampNeg))))) (q 11 (x1).toNatClampNeg)) 20) (q 10 (x1).toNatClampNeg).toNatClampNeg (((fX6_countAsHad (rset q 19 (upd (q 19) (q 10 (x1).toNatClampNeg).toNatClampNeg ((q 19 (q 10 (x1).toNatClampNeg).toNatClampNeg) + (fX6_lateCost q x1 (q 10 (x1).toNatClampNeg))))) (q 11 (x1).toNatClampNeg)) 20 (q 10 (x1).toNatClampNeg).toNatClampNeg) - 1))) x1 ((fX6_countAsHad (rset q 19 (upd (q 19) (q 10 (x1).toNatClampNeg).toNatClampNeg ((q 19 (q 10 (x1).toNatClampNeg).toNatClampNeg) + (fX6_lateCost q x1 (q 10 (x1).toNatClampNeg))))) (q 11 (x1).toNatClampNeg)) 17 (q 10 (x1).toNatClampNeg).toNatClampNeg)) 21 (upd ((fX1_sendBack (rset (fX6_countAsHad (rset q 19 (upd (q 19) (q 10 (x1).toNatClampNeg).toNatClampNeg ((q 19 (q 10 (x1).toNatClampNeg).toNatClampNeg) + (fX6_lateCost q x1 (q 10 (x1).toNatClampNeg))))) (q 11 (x1).toNatClampNeg)) 20 (upd ((fX6_countAsHad (rset q 19 (upd (q 19) (q 10 (x1).toNatClampNeg).toNatClampNeg ((q 19 (q 10 (x1).toNatClampNeg).toNatClampNeg) + (fX6_lateCost q x1 (q 10 (x1).toNatClampNeg))))) (q 11 (x1).toNatClampNeg)) 20) (q 10 (x1).toNatClampNeg).toNatClampNeg (((fX6_countAsHad (rset q 19 (upd (q 19) (q 10 (x1).toNatClampNeg).toNatClampNeg ((q 19 (q 10 (x1).toNatClampNeg).toNatClampNeg) + (fX6_lateCost q x1 (q 10 (x1).toNatClampNeg))))) (q 11 (x1).toNatClampNeg)) 20 (q 10 (x1).toNatClampNeg).toNatClampNeg) - 1))) x1 ((fX6_countAsHad (rset q 19 (upd (q 19) (q 10 (x1).toNatClampNeg).toNatClampNeg ((q 19 (q 10 (x1).toNatClampNeg).toNatClampNeg) + (fX6_lateCost q x1 (q 10 (x1).toNatClampNeg))))) (q 11 (x1).toNatClampNeg)) 17 (q 10 (x1).toNatClampNeg).toNatClampNeg)) 21) (q 10 (x1).toNatClampNeg).toNatClampNeg (((fX1_sendBack (rset (fX6_countAsHad (rset q 19 (upd (q 19) (q 10 (x1).toNatClampNeg).toNatClampNeg ((q 19 (q 10 (x1).toNatClampNeg).toNatClampNeg) + (fX6_lateCost q x1 (q 10 (x1).toNatClampNeg))))) (q 11 (x1).toNatClampNeg)) 20 (upd ((fX6_countAsHad (rset q 19 (upd (q 19) (q 10 (x1).toNatClampNeg).toNatClampNeg ((q 19 (q 10 (x1).toNatClampNeg).toNatClampNeg) + (fX6_lateCost q x1 (q 10 (x1).toNatClampNeg))))) (q 11 (x1).toNatClampNeg)) 20) (q 10 (x1).toNatClampNeg).toNatClampNeg (((fX6_countAsHad (rset q 19 (upd (q 19) (q 10 (x1).toNatClampNeg).toNatClampNeg ((q 19 (q 10 (x1).toNatClampNeg).toNatClampNeg) + (fX6_lateCost q x1 (q 10 (x1).toNatClampNeg))))) (q 11 (x1).toNatClampNeg)) 20 (q 10 (x1).toNatClampNeg).toNatClampNeg) - 1))) x1 ((fX6_countAsHad (rset q 19 (upd (q 19) (q 10 (x1).toNatClampNeg).toNatClampNeg ((q 19 (q 10 (x1).toNatClampNeg).toNatClampNeg) + (fX6_lateCost q x1 (q 10 (x1).toNatClampNeg))))) (q 11 (x1).toNatClampNeg)) 17 (q 10 (x1).toNatClampNeg).toNatClampNeg)) 21 (q 10 (x1).toNatClampNeg).toNatClampNeg) + 1))))
def fX6_back (q : wSt) (x1 : Int32) : Int32 × wSt := (if (fX1_isAt q x1 1) = 0 then ((-1), q) else (if (fX3_has q (q 10 (x1).toNatClampNeg)) = 0 then ((-1), q) else ((fX6_lateCost q x1 (q 10 (x1).toNatClampNeg)), (fX6_back_j1 q x1))))
set_option maxRecDepth 20000 in
theorem frX6_back_j1 (q : wSt) (x1 : Int32) (k : Nat) (hk : k ≠ 6 ∧ k ≠ 10 ∧ k ≠ 11 ∧ k ≠ 12 ∧ k ≠ 13 ∧ k ≠ 15 ∧ k ≠ 19 ∧ k ≠ 20 ∧ k ≠ 21 ∧ k ≠ 24 ∧ k ≠ 25 ∧ k ≠ 26 ∧ k ≠ 27 ∧ k ≠ 37 ∧ k ≠ 38) : (fX6_back_j1 q x1) k = q k := by
  have gX1_sendBack := fun a b0 b1 => frX1_sendBack a b0 b1 k (by omega)
  have gX1_shelve := fun a b0 => frX1_shelve a b0 k (by omega)
  have gX6_countAsHad := fun a b0 => frX6_countAsHad a b0 k (by omega)
  obtain ⟨h6, h10, h11, h12, h13, h15, h19, h20, h21, h24, h25, h26, h27, h37, h38⟩ := hk
  unfold fX6_back_j1
  (repeat' split) <;> simp [rset, h6, h10, h11, h12, h13, h15, h19, h20, h21, h24, h25, h26, h27, h37, h38, gX1_sendBack, gX1_shelve, gX6_countAsHad]
set_option maxRecDepth 20000 in
theorem frX6_back (q : wSt) (x1 : Int32) (k : Nat) (hk : k ≠ 6 ∧ k ≠ 10 ∧ k ≠ 11 ∧ k ≠ 12 ∧ k ≠ 13 ∧ k ≠ 15 ∧ k ≠ 19 ∧ k ≠ 20 ∧ k ≠ 21 ∧ k ≠ 24 ∧ k ≠ 25 ∧ k ≠ 26 ∧ k ≠ 27 ∧ k ≠ 37 ∧ k ≠ 38) : (fX6_back q x1).2 k = q k := by
  have gX1_sendBack := fun a b0 b1 => frX1_sendBack a b0 b1 k (by omega)
  have gX1_shelve := fun a b0 => frX1_shelve a b0 k (by omega)
  have gX6_countAsHad := fun a b0 => frX6_countAsHad a b0 k (by omega)
  have gfX6_back_j1 := fun a0 a1 => frX6_back_j1 a0 a1 k (by omega)
  obtain ⟨h6, h10, h11, h12, h13, h15, h19, h20, h21, h24, h25, h26, h27, h37, h38⟩ := hk
  unfold fX6_back
  (repeat' split) <;> simp [rset, h6, h10, h11, h12, h13, h15, h19, h20, h21, h24, h25, h26, h27, h37, h38, gX1_sendBack, gX1_shelve, gX6_countAsHad, gfX6_back_j1]
theorem iIX6_back (q : wSt) (x1 : Int32) (h : iI q) : iI (fX6_back q x1).2 := iI_fr (fun k hk => frX6_back q x1 k (by omega)) h
def fX6_takeFrom (q : wSt) (x1 : Int32) (x2 : Int32) : wSt := (if (fX1_isAt q x2 1) = 0 then (rset q 21 (upd (q 21) (x1).toNatClampNeg ((q 21 (x1).toNatClampNeg) - 1))) else (rset q 20 (upd (q 20) (x1).toNatClampNeg ((q 20 (x1).toNatClampNeg) - 1))))
set_option maxRecDepth 20000 in
theorem frX6_takeFrom (q : wSt) (x1 : Int32) (x2 : Int32) (k : Nat) (hk : k ≠ 20 ∧ k ≠ 21) : (fX6_takeFrom q x1 x2) k = q k := by
  obtain ⟨h20, h21⟩ := hk
  unfold fX6_takeFrom
  (repeat' split) <;> simp [rset, h20, h21]
theorem iIX6_takeFrom (q : wSt) (x1 : Int32) (x2 : Int32) (h : iI q) : iI (fX6_takeFrom q x1 x2) := iI_fr (fun k hk => frX6_takeFrom q x1 x2 k (by omega)) h
def fX6_lose_j1 (q : wSt) (x1 : Int32) : Int32 × wSt := (if (fX3_has q (q 10 (x1).toNatClampNeg)) = 0 then (0, q) else (((q 9 (x1).toNatClampNeg) + (fX6_lateCost q x1 (q 10 (x1).toNatClampNeg))), (fX6_takeFrom (fX6_countAsHad (rset q 19 (upd (q 19) (q 10 (x1).toNatClampNeg).toNatClampNeg ((q 19 (q 10 (x1).toNatClampNeg).toNatClampNeg) + ((q 9 (x1).toNatClampNeg) + (fX6_lateCost q x1 (q 10 (x1).toNatClampNeg)))))) (q 11 (x1).toNatClampNeg)) (q 10 (x1).toNatClampNeg) x1)))
def fX6_lose (q : wSt) (x1 : Int32) : Int32 × wSt := (if (fX1_has q x1) = 0 then ((-1), q) else (if (fX1_isAt q x1 4) = 0 then (if (fX1_isAt q x1 5) = 0 then ((fX6_lose_j1 q x1).1, (fX1_leaveFor (fX6_lose_j1 q x1).2 x1 5)) else ((-1), q)) else ((-1), q)))
set_option maxRecDepth 20000 in
theorem frX6_lose_j1 (q : wSt) (x1 : Int32) (k : Nat) (hk : k ≠ 6 ∧ k ≠ 10 ∧ k ≠ 11 ∧ k ≠ 12 ∧ k ≠ 13 ∧ k ≠ 15 ∧ k ≠ 19 ∧ k ≠ 20 ∧ k ≠ 21 ∧ k ≠ 24 ∧ k ≠ 25 ∧ k ≠ 26 ∧ k ≠ 27 ∧ k ≠ 37 ∧ k ≠ 38) : (fX6_lose_j1 q x1).2 k = q k := by
  have gX1_leaveFor := fun a b0 b1 => frX1_leaveFor a b0 b1 k (by omega)
  have gX6_countAsHad := fun a b0 => frX6_countAsHad a b0 k (by omega)
  have gX6_takeFrom := fun a b0 b1 => frX6_takeFrom a b0 b1 k (by omega)
  obtain ⟨h6, h10, h11, h12, h13, h15, h19, h20, h21, h24, h25, h26, h27, h37, h38⟩ := hk
  unfold fX6_lose_j1
  (repeat' split) <;> simp [rset, h6, h10, h11, h12, h13, h15, h19, h20, h21, h24, h25, h26, h27, h37, h38, gX1_leaveFor, gX6_countAsHad, gX6_takeFrom]
set_option maxRecDepth 20000 in
theorem frX6_lose (q : wSt) (x1 : Int32) (k : Nat) (hk : k ≠ 6 ∧ k ≠ 10 ∧ k ≠ 11 ∧ k ≠ 12 ∧ k ≠ 13 ∧ k ≠ 15 ∧ k ≠ 19 ∧ k ≠ 20 ∧ k ≠ 21 ∧ k ≠ 24 ∧ k ≠ 25 ∧ k ≠ 26 ∧ k ≠ 27 ∧ k ≠ 37 ∧ k ≠ 38) : (fX6_lose q x1).2 k = q k := by
  have gX1_leaveFor := fun a b0 b1 => frX1_leaveFor a b0 b1 k (by omega)
  have gX6_countAsHad := fun a b0 => frX6_countAsHad a b0 k (by omega)
  have gX6_takeFrom := fun a b0 b1 => frX6_takeFrom a b0 b1 k (by omega)
  have gfX6_lose_j1 := fun a0 a1 => frX6_lose_j1 a0 a1 k (by omega)
  obtain ⟨h6, h10, h11, h12, h13, h15, h19, h20, h21, h24, h25, h26, h27, h37, h38⟩ := hk
  unfold fX6_lose
  (repeat' split) <;> simp [rset, h6, h10, h11, h12, h13, h15, h19, h20, h21, h24, h25, h26, h27, h37, h38, gX1_leaveFor, gX6_countAsHad, gX6_takeFrom, gfX6_lose_j1]
theorem iIX6_lose (q : wSt) (x1 : Int32) (h : iI q) : iI (fX6_lose q x1).2 := iI_fr (fun k hk => frX6_lose q x1 k (by omega)) h
def fX6_pay (q : wSt) (x1 : Int32) (x2 : Int32) : Int32 × wSt := (if (fX3_has q x1) = 0 then ((-1), q) else (if (fX6_within q x2 1 (q 19 (x1).toNatClampNeg)) = 0 then ((-1), q) else (((upd (q 19) (x1).toNatClampNeg ((q 19 (x1).toNatClampNeg) - x2)) (x1).toNatClampNeg), (rset (rset q 19 (upd (q 19) (x1).toNatClampNeg ((q 19 (x1).toNatClampNeg) - x2))) 33 (fun _ => ((q 33 0) + x2))))))
set_option maxRecDepth 20000 in
theorem frX6_pay (q : wSt) (x1 : Int32) (x2 : Int32) (k : Nat) (hk : k ≠ 19 ∧ k ≠ 33) : (fX6_pay q x1 x2).2 k = q k := by
  obtain ⟨h19, h33⟩ := hk
  unfold fX6_pay
  (repeat' split) <;> simp [rset, h19, h33]
theorem iIX6_pay (q : wSt) (x1 : Int32) (x2 : Int32) (h : iI q) : iI (fX6_pay q x1 x2).2 := iI_fr (fun k hk => frX6_pay q x1 x2 k (by omega)) h
def fX6_copy (q : wSt) (x1 : Int32) (x2 : Int32) : Int32 := (if (fX1_has q x1) = 0 then (-1) else (if x2 = 0 then (q 6 (x1).toNatClampNeg) else (if x2 = 1 then (q 7 (x1).toNatClampNeg) else (if x2 = 2 then (q 8 (x1).toNatClampNeg) else (if x2 = 3 then (q 9 (x1).toNatClampNeg) else (if x2 = 4 then (q 10 (x1).toNatClampNeg) else (if x2 = 5 then (q 12 (x1).toNatClampNeg) else (if x2 = 6 then (q 13 (x1).toNatClampNeg) else (if x2 = 7 then (q 14 (x1).toNatClampNeg) else (-1))))))))))
def fX6_told (q : wSt) (x1 : Int32) (x2 : Int32) : Int32 := (if (fX3_has q x1) = 0 then (-1) else (if x2 = 0 then (q 16 (x1).toNatClampNeg) else (if x2 = 1 then (q 20 (x1).toNatClampNeg) else (if x2 = 2 then (q 21 (x1).toNatClampNeg) else (if x2 = 3 then (q 19 (x1).toNatClampNeg) else (if x2 = 4 then (fX5_openOf q x1) else (if x2 = 5 then (q 18 (x1).toNatClampNeg) else (-1))))))))
def fX6_wished (q : wSt) (x1 : Int32) (x2 : Int32) : Int32 := (if (fX5_has q x1) = 0 then (-1) else (if x2 = 0 then (q 24 (x1).toNatClampNeg) else (if x2 = 1 then (q 25 (x1).toNatClampNeg) else (if x2 = 2 then (q 26 (x1).toNatClampNeg) else (if x2 = 3 then (if (fX5_waits q x1) = 0 then (-1) else (q 27 (x1).toNatClampNeg)) else (-1))))))
def fX6_waiting (q : wSt) (x1 : Int32) (x2 : Int32) : Int32 := (if (fX4_hasVolume q x1 x2) = 0 then (-1) else (fX5_waitingFor q x1 x2))
def lX6_sets_1 (q : wSt) (x1 : Int32) : Nat → Int32 → Int32 → Int32
  | 0, _, _ => (-1)
  | n + 1, y2_1, y4_1 => (if (fX4_volumesOf q x1) ≤ y4_1 then y2_1 else (lX6_sets_1 q x1 n (if (fX1_inHouse q x1 y4_1) < y2_1 then (fX1_inHouse q x1 y4_1) else y2_1) (y4_1 + 1)))
theorem lX6_sets_1_s (q : wSt) (x1 : Int32) (n : Nat) (y2_1 : Int32) (y4_1 : Int32) : lX6_sets_1 q x1 (n + 1) y2_1 y4_1 = (if (fX4_volumesOf q x1) ≤ y4_1 then y2_1 else (lX6_sets_1 q x1 n (if (fX1_inHouse q x1 y4_1) < y2_1 then (fX1_inHouse q x1 y4_1) else y2_1) (y4_1 + 1))) := rfl
def fX6_sets (q : wSt) (x1 : Int32) : Int32 := (if (fX4_has q x1) = 0 then (-1) else (lX6_sets_1 q x1 (((fX4_volumesOf q x1).toInt - (0 : Int32).toInt).toNat + 1) 200 0))
def fX6_demand_j1 (q : wSt) (x1 : Int32) (x2 : Int32) (x3 : Int32) : Int32 := (if x1 = 20 then 0 else 50)
def fX6_demand (q : wSt) (x1 : Int32) (x2 : Int32) (x3 : Int32) : Int32 × wSt := (if (fX6_within q x1 0 20) = 0 then (0, q) else (if (fX6_within q x2 0 (fX6_demand_j1 q x1 x2 x3)) = 0 then (0, q) else (if (fX6_within q x3 0 1000) = 0 then (0, q) else (1, (rset (rset q 28 (upd (q 28) (x1).toNatClampNeg x2)) 29 (upd (q 29) (x1).toNatClampNeg x3))))))
set_option maxRecDepth 20000 in
theorem frX6_demand (q : wSt) (x1 : Int32) (x2 : Int32) (x3 : Int32) (k : Nat) (hk : k ≠ 28 ∧ k ≠ 29) : (fX6_demand q x1 x2 x3).2 k = q k := by
  obtain ⟨h28, h29⟩ := hk
  unfold fX6_demand
  (repeat' split) <;> simp [rset, h28, h29]
theorem iIX6_demand (q : wSt) (x1 : Int32) (x2 : Int32) (x3 : Int32) (h : iI q) : iI (fX6_demand q x1 x2 x3).2 := iI_fr (fun k hk => frX6_demand q x1 x2 x3 k (by omega)) h
def fX6_canPlan (q : wSt) (x0 : Int32) (x1 : Int32) : Int32 := (if (fX6_within q x0 0 1000) = 0 then 0 else (if (fX6_within q x1 0 1000) = 0 then 0 else 1))
def fX6_best (q : wSt) (x1 : Int32) (x2 : Int32) : Int32 := (if (fX6_canPlan q x1 x2) = 0 then (-1) else (fX2_setsToBuy q x1 x2))
def lX6_gain_1 (q : wSt) (x1 : Int32) (x2 : Int32) : Nat → Int32 → Int32 → Int32
  | 0, _, _ => (-1)
  | n + 1, y4_1, y5_1 => (if (fX2_setsToBuy q x1 x2) ≤ y5_1 then y4_1 else (lX6_gain_1 q x1 x2 n (y4_1 + ((fX2_mostOf q x1 y5_1) - x2)) (y5_1 + 1)))
theorem lX6_gain_1_s (q : wSt) (x1 : Int32) (x2 : Int32) (n : Nat) (y4_1 : Int32) (y5_1 : Int32) : lX6_gain_1 q x1 x2 (n + 1) y4_1 y5_1 = (if (fX2_setsToBuy q x1 x2) ≤ y5_1 then y4_1 else (lX6_gain_1 q x1 x2 n (y4_1 + ((fX2_mostOf q x1 y5_1) - x2)) (y5_1 + 1))) := rfl
def fX6_gain (q : wSt) (x1 : Int32) (x2 : Int32) : Int32 := (if (fX6_canPlan q x1 x2) = 0 then (-1) else (lX6_gain_1 q x1 x2 (((fX2_setsToBuy q x1 x2).toInt - (0 : Int32).toInt).toNat + 1) 0 0))
def fX6_kept (q : wSt) (x1 : Int32) (x2 : Int32) (x3 : Int32) : Int32 := (if (fX6_canPlan q x1 x2) = 0 then (-1) else (if (fX6_within q x3 0 ((fX2_setsToBuy q x1 x2) - 1)) = 0 then (-1) else (fX2_weeksOf q x1 x3)))
def fX6_count (q : wSt) (x1 : Int32) : Int32 := (if x1 = 0 then (q 30 0) else (if x1 = 1 then (q 34 0) else (if x1 = 2 then (q 36 0) else (if x1 = 3 then (q 39 0) else (if x1 = 4 then (q 40 0) else (if x1 = 5 then (q 31 0) else (if x1 = 6 then (q 32 0) else (if x1 = 7 then (q 33 0) else (if x1 = 8 then (q 38 0) else (-1))))))))))
def fX7_in (q : wSt) (x0 : Int32) (x1 : Int32) (x2 : Int32) : Int32 := (if x0 < x1 then 0 else (if x2 < x0 then 0 else 1))
def fX7_isTitle (q : wSt) (x1 : Int32) : Int32 := (fX7_in q x1 0 ((q 34 0) - 1))
def fX7_isReader (q : wSt) (x1 : Int32) : Int32 := (fX7_in q x1 0 ((q 39 0) - 1))
def fX7_isCopy (q : wSt) (x1 : Int32) : Int32 := (fX7_in q x1 0 ((q 36 0) - 1))
def fX7_isWish (q : wSt) (x1 : Int32) : Int32 := (fX7_in q x1 0 ((q 40 0) - 1))
def fX7_title (q : wSt) (x1 : Int32) : Int32 × wSt := (if (fX7_in q x1 1 4) = 0 then ((-1), q) else (if (q 34 0) = 12 then ((-1), q) else ((((q 34 0) + 1) - 1), (rset (rset q 0 (upd (q 0) (q 34 0).toNatClampNeg x1)) 34 (fun _ => ((q 34 0) + 1))))))
set_option maxRecDepth 20000 in
theorem frX7_title (q : wSt) (x1 : Int32) (k : Nat) (hk : k ≠ 0 ∧ k ≠ 34) : (fX7_title q x1).2 k = q k := by
  obtain ⟨h0, h34⟩ := hk
  unfold fX7_title
  (repeat' split) <;> simp [rset, h0, h34]
def fX7_bargain (q : wSt) (x1 : Int32) (x2 : Int32) (x3 : Int32) (x4 : Int32) (x5 : Int32) : Int32 × wSt := (if (fX7_isTitle q x1) = 0 then (0, q) else (if (fX7_in q x2 0 5000) = 0 then (0, q) else (if (fX7_in q x3 0 200) = 0 then (0, q) else (if (fX7_in q x4 0 1000) = 0 then (0, q) else (if (fX7_in q x5 0 1000) = 0 then (0, q) else (if (q 35 0) = 40 then (0, q) else (1, (rset (rset (rset (rset (rset (rset q 1 (upd (q 1) (q 35 0).toNatClampNeg x1)) 2 (upd (q 2) (q 35 0).toNatClampNeg x2)) 3 (upd (q 3) (q 35 0).toNatClampNeg x3)) 4 (upd (q 4) (q 35 0).toNatClampNeg x4)) 5 (upd (q 5) (q 35 0).toNatClampNeg x5)) 35 (fun _ => ((q 35 0) + 1))))))))))
set_option maxRecDepth 20000 in
theorem frX7_bargain (q : wSt) (x1 : Int32) (x2 : Int32) (x3 : Int32) (x4 : Int32) (x5 : Int32) (k : Nat) (hk : k ≠ 1 ∧ k ≠ 2 ∧ k ≠ 3 ∧ k ≠ 4 ∧ k ≠ 5 ∧ k ≠ 35) : (fX7_bargain q x1 x2 x3 x4 x5).2 k = q k := by
  obtain ⟨h1, h2, h3, h4, h5, h35⟩ := hk
  unfold fX7_bargain
  (repeat' split) <;> simp [rset, h1, h2, h3, h4, h5, h35]
def fX7_bargainOf_j2 (q : wSt) (x1 : Int32) (y2_1 : Int32) (y3_1 : Int32) : Int32 := (if (q 1 (y3_1).toNatClampNeg) = x1 then (if (q 30 0) < (q 2 (y3_1).toNatClampNeg) then y2_1 else (if y2_1 = (-1) then y3_1 else (if (q 2 (y3_1).toNatClampNeg) < (q 2 (y2_1).toNatClampNeg) then y2_1 else y3_1))) else y2_1)
def lX7_bargainOf_1 (q : wSt) (x1 : Int32) : Nat → Int32 → Int32 → Int32
  | 0, _, _ => (-1)
  | n + 1, y2_1, y3_1 => (if (q 35 0) ≤ y3_1 then y2_1 else (lX7_bargainOf_1 q x1 n (fX7_bargainOf_j2 q x1 y2_1 y3_1) (y3_1 + 1)))
theorem lX7_bargainOf_1_s (q : wSt) (x1 : Int32) (n : Nat) (y2_1 : Int32) (y3_1 : Int32) : lX7_bargainOf_1 q x1 (n + 1) y2_1 y3_1 = (if (q 35 0) ≤ y3_1 then y2_1 else (lX7_bargainOf_1 q x1 n (fX7_bargainOf_j2 q x1 y2_1 y3_1) (y3_1 + 1))) := rfl
def fX7_bargainOf (q : wSt) (x1 : Int32) : Int32 := (lX7_bargainOf_1 q x1 (((q 35 0).toInt - (0 : Int32).toInt).toNat + 1) (-1) 0)
def fX7_buy_j2 (q : wSt) (x1 : Int32) (x2 : Int32) (y4_1 : Int32) (y5_1 : Int32) (p1 : wSt) : Int32 := (if (fX7_bargainOf q x1) = (-1) then 10 else (if (p1 3 (fX7_bargainOf q x1).toNatClampNeg) ≤ y5_1 then (p1 5 (fX7_bargainOf q x1).toNatClampNeg) else (p1 4 (fX7_bargainOf q x1).toNatClampNeg)))
def lX7_buy_1 (q : wSt) (x1 : Int32) (x2 : Int32) : Nat → Int32 → Int32 → wSt → Int32 × wSt
  | 0, _, _, p1 => ((-1), p1)
  | n + 1, y4_1, y5_1, p1 => (if (x2 * (p1 0 (x1).toNatClampNeg)) ≤ y5_1 then (y4_1, p1) else (lX7_buy_1 q x1 x2 n (y4_1 + (fX7_buy_j2 q x1 x2 y4_1 y5_1 p1)) (y5_1 + 1) (rset (rset (rset (rset (rset (rset (rset (rset p1 7 (upd (p1 7) (p1 36 0).toNatClampNeg x1)) 8 (upd (p1 8) (p1 36 0).toNatClampNeg (y5_1 / x2))) 9 (upd (p1 9) (p1 36 0).toNatClampNeg (fX7_buy_j2 q x1 x2 y4_1 y5_1 p1))) 6 (upd (p1 6) (p1 36 0).toNatClampNeg 0)) 10 (upd (p1 10) (p1 36 0).toNatClampNeg (-1))) 11 (upd (p1 11) (p1 36 0).toNatClampNeg (-1))) 12 (upd (p1 12) (p1 36 0).toNatClampNeg (-1))) 36 (fun _ => ((p1 36 0) + 1)))))
theorem lX7_buy_1_s (q : wSt) (x1 : Int32) (x2 : Int32) (n : Nat) (y4_1 : Int32) (y5_1 : Int32) (p1 : wSt) : lX7_buy_1 q x1 x2 (n + 1) y4_1 y5_1 p1 = (if (x2 * (p1 0 (x1).toNatClampNeg)) ≤ y5_1 then (y4_1, p1) else (lX7_buy_1 q x1 x2 n (y4_1 + (fX7_buy_j2 q x1 x2 y4_1 y5_1 p1)) (y5_1 + 1) (rset (rset (rset (rset (rset (rset (rset (rset p1 7 (upd (p1 7) (p1 36 0).toNatClampNeg x1)) 8 (upd (p1 8) (p1 36 0).toNatClampNeg (y5_1 / x2))) 9 (upd (p1 9) (p1 36 0).toNatClampNeg (fX7_buy_j2 q x1 x2 y4_1 y5_1 p1))) 6 (upd (p1 6) (p1 36 0).toNatClampNeg 0)) 10 (upd (p1 10) (p1 36 0).toNatClampNeg (-1))) 11 (upd (p1 11) (p1 36 0).toNatClampNeg (-1))) 12 (upd (p1 12) (p1 36 0).toNatClampNeg (-1))) 36 (fun _ => ((p1 36 0) + 1))))) := rfl
def fX7_buy (q : wSt) (x1 : Int32) (x2 : Int32) : Int32 × wSt := (if (fX7_isTitle q x1) = 0 then ((-1), q) else (if (fX7_in q x2 1 20) = 0 then ((-1), q) else (if ((q 36 0) + (x2 * (q 0 (x1).toNatClampNeg))) ≤ 200 then ((lX7_buy_1 q x1 x2 (((x2 * ((q 0) (x1).toNatClampNeg)).toInt - (0 : Int32).toInt).toNat + 1) 0 0 q).1, (rset (lX7_buy_1 q x1 x2 (((x2 * ((q 0) (x1).toNatClampNeg)).toInt - (0 : Int32).toInt).toNat + 1) 0 0 q).2 31 (fun _ => (((lX7_buy_1 q x1 x2 (((x2 * ((q 0) (x1).toNatClampNeg)).toInt - (0 : Int32).toInt).toNat + 1) 0 0 q).2 31 0) + (lX7_buy_1 q x1 x2 (((x2 * ((q 0) (x1).toNatClampNeg)).toInt - (0 : Int32).toInt).toNat + 1) 0 0 q).1)))) else ((-1), q))))
set_option maxRecDepth 20000 in
theorem frlX7_buy_1 (q : wSt) (x1 : Int32) (x2 : Int32) (n : Nat) (y4_1 : Int32) (y5_1 : Int32) (p1 : wSt) (k : Nat) (hk : k ≠ 6 ∧ k ≠ 7 ∧ k ≠ 8 ∧ k ≠ 9 ∧ k ≠ 10 ∧ k ≠ 11 ∧ k ≠ 12 ∧ k ≠ 31 ∧ k ≠ 36) : (lX7_buy_1 q x1 x2 n y4_1 y5_1 p1).2 k = p1 k := by
  obtain ⟨h6, h7, h8, h9, h10, h11, h12, h31, h36⟩ := hk
  induction n generalizing y4_1 y5_1 p1 with
  | zero => rfl
  | succ n ih =>
    rw [lX7_buy_1_s]
    (repeat' split) <;> simp [rset, h6, h7, h8, h9, h10, h11, h12, h31, h36, ih]
set_option maxRecDepth 20000 in
theorem frX7_buy (q : wSt) (x1 : Int32) (x2 : Int32) (k : Nat) (hk : k ≠ 6 ∧ k ≠ 7 ∧ k ≠ 8 ∧ k ≠ 9 ∧ k ≠ 10 ∧ k ≠ 11 ∧ k ≠ 12 ∧ k ≠ 31 ∧ k ≠ 36) : (fX7_buy q x1 x2).2 k = q k := by
  have glX7_buy_1 := fun a0 a1 a2 a3 a4 a5 a6 => frlX7_buy_1 a0 a1 a2 a3 a4 a5 a6 k (by omega)
  obtain ⟨h6, h7, h8, h9, h10, h11, h12, h31, h36⟩ := hk
  unfold fX7_buy
  (repeat' split) <;> simp [rset, h6, h7, h8, h9, h10, h11, h12, h31, h36, glX7_buy_1]
def fX7_sell (q : wSt) (x1 : Int32) (x2 : Int32) : Int32 × wSt := (if (fX7_isCopy q x1) = 0 then (0, q) else (if (q 6 (x1).toNatClampNeg) = 0 then (if (fX7_in q x2 0 1000) = 0 then (0, q) else (1, (rset (rset q 6 (upd (q 6) (x1).toNatClampNeg 4)) 32 (fun _ => ((q 32 0) + x2))))) else (0, q)))
set_option maxRecDepth 20000 in
theorem frX7_sell (q : wSt) (x1 : Int32) (x2 : Int32) (k : Nat) (hk : k ≠ 6 ∧ k ≠ 32) : (fX7_sell q x1 x2).2 k = q k := by
  obtain ⟨h6, h32⟩ := hk
  unfold fX7_sell
  (repeat' split) <;> simp [rset, h6, h32]
theorem iIX7_sell (q : wSt) (x1 : Int32) (x2 : Int32) (h : iI q) : iI (fX7_sell q x1 x2).2 := iI_fr (fun k hk => frX7_sell q x1 x2 k (by omega)) h
def fX7_reader (q : wSt) (x1 : Int32) (x2 : Int32) (x3 : Int32) : Int32 × wSt := (if (fX7_in q x1 0 2) = 0 then ((-1), q) else (if (fX7_in q x2 0 9) = 0 then ((-1), q) else (if (fX7_in q x3 0 5000) = 0 then ((-1), q) else (if (q 39 0) = 20 then ((-1), q) else ((((q 39 0) + 1) - 1), (rset (rset (rset (rset q 16 (upd (q 16) (q 39 0).toNatClampNeg x1)) 17 (upd (q 17) (q 39 0).toNatClampNeg x2)) 18 (upd (q 18) (q 39 0).toNatClampNeg x3)) 39 (fun _ => ((q 39 0) + 1))))))))
set_option maxRecDepth 20000 in
theorem frX7_reader (q : wSt) (x1 : Int32) (x2 : Int32) (x3 : Int32) (k : Nat) (hk : k ≠ 16 ∧ k ≠ 17 ∧ k ≠ 18 ∧ k ≠ 39) : (fX7_reader q x1 x2 x3).2 k = q k := by
  obtain ⟨h16, h17, h18, h39⟩ := hk
  unfold fX7_reader
  (repeat' split) <;> simp [rset, h16, h17, h18, h39]
def fX7_renew (q : wSt) (x1 : Int32) (x2 : Int32) : Int32 × wSt := (if (fX7_isReader q x1) = 0 then (0, q) else (if (fX7_in q x2 0 5000) = 0 then (0, q) else (1, (rset q 18 (upd (q 18) (x1).toNatClampNeg x2)))))
set_option maxRecDepth 20000 in
theorem frX7_renew (q : wSt) (x1 : Int32) (x2 : Int32) (k : Nat) (hk : k ≠ 18) : (fX7_renew q x1 x2).2 k = q k := by
  have h18 := hk
  unfold fX7_renew
  (repeat' split) <;> simp [rset, h18]
theorem iIX7_renew (q : wSt) (x1 : Int32) (x2 : Int32) (h : iI q) : iI (fX7_renew q x1 x2).2 := iI_fr (fun k hk => frX7_renew q x1 x2 k (by omega)) h
def lX7_wish_1 (q : wSt) (x1 : Int32) (x2 : Int32) : Nat → Int32 → Int32 × wSt
  | 0, _ => ((-1), q)
  | n + 1, y3_1 => (if (q 40 0) ≤ y3_1 then ((((q 40 0) + 1) - 1), (rset (rset (rset (rset q 22 (upd (q 22) (q 40 0).toNatClampNeg x1)) 23 (upd (q 23) (q 40 0).toNatClampNeg x2)) 27 (upd (q 27) (q 40 0).toNatClampNeg (q 30 0))) 40 (fun _ => ((q 40 0) + 1)))) else (if (q 22 (y3_1).toNatClampNeg) = x1 then (if (q 23 (y3_1).toNatClampNeg) = x2 then (if (q 24 (y3_1).toNatClampNeg) = 0 then ((-1), q) else (lX7_wish_1 q x1 x2 n (y3_1 + 1))) else (lX7_wish_1 q x1 x2 n (y3_1 + 1))) else (lX7_wish_1 q x1 x2 n (y3_1 + 1))))
theorem lX7_wish_1_s (q : wSt) (x1 : Int32) (x2 : Int32) (n : Nat) (y3_1 : Int32) : lX7_wish_1 q x1 x2 (n + 1) y3_1 = (if (q 40 0) ≤ y3_1 then ((((q 40 0) + 1) - 1), (rset (rset (rset (rset q 22 (upd (q 22) (q 40 0).toNatClampNeg x1)) 23 (upd (q 23) (q 40 0).toNatClampNeg x2)) 27 (upd (q 27) (q 40 0).toNatClampNeg (q 30 0))) 40 (fun _ => ((q 40 0) + 1)))) else (if (q 22 (y3_1).toNatClampNeg) = x1 then (if (q 23 (y3_1).toNatClampNeg) = x2 then (if (q 24 (y3_1).toNatClampNeg) = 0 then ((-1), q) else (lX7_wish_1 q x1 x2 n (y3_1 + 1))) else (lX7_wish_1 q x1 x2 n (y3_1 + 1))) else (lX7_wish_1 q x1 x2 n (y3_1 + 1)))) := rfl
def fX7_wish (q : wSt) (x1 : Int32) (x2 : Int32) : Int32 × wSt := (if (fX7_isReader q x1) = 0 then ((-1), q) else (if (fX7_isTitle q x2) = 0 then ((-1), q) else (if (q 40 0) = 100 then ((-1), q) else (lX7_wish_1 q x1 x2 (((q 40 0).toInt - (0 : Int32).toInt).toNat + 1) 0))))
set_option maxRecDepth 20000 in
theorem frlX7_wish_1 (q : wSt) (x1 : Int32) (x2 : Int32) (n : Nat) (y3_1 : Int32) (k : Nat) (hk : k ≠ 22 ∧ k ≠ 23 ∧ k ≠ 27 ∧ k ≠ 40) : (lX7_wish_1 q x1 x2 n y3_1).2 k = q k := by
  obtain ⟨h22, h23, h27, h40⟩ := hk
  induction n generalizing y3_1 with
  | zero => rfl
  | succ n ih =>
    rw [lX7_wish_1_s]
    (repeat' split) <;> simp [rset, h22, h23, h27, h40, ih]
set_option maxRecDepth 20000 in
theorem frX7_wish (q : wSt) (x1 : Int32) (x2 : Int32) (k : Nat) (hk : k ≠ 22 ∧ k ≠ 23 ∧ k ≠ 27 ∧ k ≠ 40) : (fX7_wish q x1 x2).2 k = q k := by
  have glX7_wish_1 := fun a0 a1 a2 a3 a4 => frlX7_wish_1 a0 a1 a2 a3 a4 k (by omega)
  obtain ⟨h22, h23, h27, h40⟩ := hk
  unfold fX7_wish
  (repeat' split) <;> simp [rset, h22, h23, h27, h40, glX7_wish_1]
def fX7_unwish (q : wSt) (x1 : Int32) : Int32 × wSt := (if (fX7_isWish q x1) = 0 then (0, q) else (if (q 24 (x1).toNatClampNeg) = 0 then (1, (rset q 24 (upd (q 24) (x1).toNatClampNeg 2))) else (0, q)))
set_option maxRecDepth 20000 in
theorem frX7_unwish (q : wSt) (x1 : Int32) (k : Nat) (hk : k ≠ 24) : (fX7_unwish q x1).2 k = q k := by
  have h24 := hk
  unfold fX7_unwish
  (repeat' split) <;> simp [rset, h24]
theorem iIX7_unwish (q : wSt) (x1 : Int32) (h : iI q) : iI (fX7_unwish q x1).2 := iI_fr (fun k hk => frX7_unwish q x1 k (by omega)) h
def lX7_copyOf_1 (q : wSt) (x1 : Int32) : Nat → Int32 → Int32
  | 0, _ => (-1)
  | n + 1, y2_1 => (if (q 36 0) ≤ y2_1 then (-1) else (if (q 11 (y2_1).toNatClampNeg) = x1 then y2_1 else (lX7_copyOf_1 q x1 n (y2_1 + 1))))
theorem lX7_copyOf_1_s (q : wSt) (x1 : Int32) (n : Nat) (y2_1 : Int32) : lX7_copyOf_1 q x1 (n + 1) y2_1 = (if (q 36 0) ≤ y2_1 then (-1) else (if (q 11 (y2_1).toNatClampNeg) = x1 then y2_1 else (lX7_copyOf_1 q x1 n (y2_1 + 1)))) := rfl
def fX7_copyOf (q : wSt) (x1 : Int32) : Int32 := (lX7_copyOf_1 q x1 (((q 36 0).toInt - (0 : Int32).toInt).toNat + 1) 0)
def fX7_waits (q : wSt) (x1 : Int32) : Int32 := (if (q 24 (x1).toNatClampNeg) = 0 then (if (fX7_copyOf q x1) = (-1) then 1 else 0) else 0)
def fX7_holds_j2 (q : wSt) (x1 : Int32) (x2 : Int32) (y3_1 : Int32) (y4_1 : Int32) : Int32 := (if (q 10 (y4_1).toNatClampNeg) = x1 then (if (q 6 (y4_1).toNatClampNeg) = x2 then 1 else 0) else 0)
def lX7_holds_1 (q : wSt) (x1 : Int32) (x2 : Int32) : Nat → Int32 → Int32 → Int32
  | 0, _, _ => (-1)
  | n + 1, y3_1, y4_1 => (if (q 36 0) ≤ y4_1 then y3_1 else (lX7_holds_1 q x1 x2 n (y3_1 + (fX7_holds_j2 q x1 x2 y3_1 y4_1)) (y4_1 + 1)))
theorem lX7_holds_1_s (q : wSt) (x1 : Int32) (x2 : Int32) (n : Nat) (y3_1 : Int32) (y4_1 : Int32) : lX7_holds_1 q x1 x2 (n + 1) y3_1 y4_1 = (if (q 36 0) ≤ y4_1 then y3_1 else (lX7_holds_1 q x1 x2 n (y3_1 + (fX7_holds_j2 q x1 x2 y3_1 y4_1)) (y4_1 + 1))) := rfl
def fX7_holds (q : wSt) (x1 : Int32) (x2 : Int32) : Int32 := (lX7_holds_1 q x1 x2 (((q 36 0).toInt - (0 : Int32).toInt).toNat + 1) 0 0)
def fX7_most (q : wSt) (x1 : Int32) : Int32 := (if (q 16 (x1).toNatClampNeg) = 0 then 1 else (if (q 16 (x1).toNatClampNeg) = 1 then 3 else 6))
def fX7_term (q : wSt) (x0 : Int32) : Int32 := (if x0 = 0 then 7 else (if x0 = 1 then 14 else 28))
def fX7_boxes_j2 (q : wSt) (y1_1 : Int32) (p1 : wSt) : wSt := (if (p1 6 (y1_1).toNatClampNeg) = 2 then (if ((upd (p1 13) (y1_1).toNatClampNeg ((p1 13 (y1_1).toNatClampNeg) - 1)) (y1_1).toNatClampNeg) ≤ 0 then (if (p1 6 (y1_1).toNatClampNeg) = 2 then (rset (rset (rset p1 13 (upd (p1 13) (y1_1).toNatClampNeg ((p1 13 (y1_1).toNatClampNeg) - 1))) 6 (upd (p1 6) (y1_1).toNatClampNeg 1)) 12 (upd (p1 12) (y1_1).toNatClampNeg (p1 30 0))) else (rset (rset (rset p1 13 (upd (p1 13) (y1_1).toNatClampNeg ((p1 13 (y1_1).toNatClampNeg) - 1))) 6 (upd (p1 6) (y1_1).toNatClampNeg 0)) 10 (upd (p1 10) (y1_1).toNatClampNeg (-1)))) else (rset p1 13 (upd (p1 13) (y1_1).toNatClampNeg ((p1 13 (y1_1).toNatClampNeg) - 1)))) else (if (p1 6 (y1_1).toNatClampNeg) = 3 then (if ((upd (p1 13) (y1_1).toNatClampNeg ((p1 13 (y1_1).toNatClampNeg) - 1)) (y1_1).toNatClampNeg) ≤ 0 then (if (p1 6 (y1_1).toNatClampNeg) = 2 then (rset (rset (rset p1 13 (upd (p1 13) (y1_1).toNatClampNeg ((p1 13 (y1_1).toNatClampNeg) - 1))) 6 (upd (p1 6) (y1_1).toNatClampNeg 1)) 12 (upd (p1 12) (y1_1).toNatClampNeg (p1 30 0))) else (rset (rset (rset p1 13 (upd (p1 13) (y1_1).toNatClampNeg ((p1 13 (y1_1).toNatClampNeg) - 1))) 6 (upd (p1 6) (y1_1).toNatClampNeg 0)) 10 (upd (p1 10) (y1_1).toNatClampNeg (-1)))) else (rset p1 13 (upd (p1 13) (y1_1).toNatClampNeg ((p1 13 (y1_1).toNatClampNeg) - 1)))) else p1))
def lX7_boxes_1 (q : wSt) : Nat → Int32 → wSt → wSt
  | 0, _, p1 => p1
  | n + 1, y1_1, p1 => (if (p1 36 0) ≤ y1_1 then p1 else (lX7_boxes_1 q n (y1_1 + 1) (fX7_boxes_j2 q y1_1 p1)))
theorem lX7_boxes_1_s (q : wSt) (n : Nat) (y1_1 : Int32) (p1 : wSt) : lX7_boxes_1 q (n + 1) y1_1 p1 = (if (p1 36 0) ≤ y1_1 then p1 else (lX7_boxes_1 q n (y1_1 + 1) (fX7_boxes_j2 q y1_1 p1))) := rfl
def fX7_boxes (q : wSt) : wSt := (lX7_boxes_1 q ((((q 36) 0).toInt - (0 : Int32).toInt).toNat + 1) 0 q)
set_option maxRecDepth 20000 in
theorem frX7_boxes_j2 (q : wSt) (y1_1 : Int32) (p1 : wSt) (k : Nat) (hk : k ≠ 6 ∧ k ≠ 10 ∧ k ≠ 12 ∧ k ≠ 13) : (fX7_boxes_j2 q y1_1 p1) k = p1 k := by
  obtain ⟨h6, h10, h12, h13⟩ := hk
  unfold fX7_boxes_j2
  (repeat' split) <;> simp [rset, h6, h10, h12, h13]
set_option maxRecDepth 20000 in
theorem frlX7_boxes_1 (q : wSt) (n : Nat) (y1_1 : Int32) (p1 : wSt) (k : Nat) (hk : k ≠ 6 ∧ k ≠ 10 ∧ k ≠ 12 ∧ k ≠ 13) : (lX7_boxes_1 q n y1_1 p1) k = p1 k := by
  have gfX7_boxes_j2 := fun a0 a1 a2 => frX7_boxes_j2 a0 a1 a2 k (by omega)
  obtain ⟨h6, h10, h12, h13⟩ := hk
  induction n generalizing y1_1 p1 with
  | zero => rfl
  | succ n ih =>
    rw [lX7_boxes_1_s]
    (repeat' split) <;> simp [rset, h6, h10, h12, h13, gfX7_boxes_j2, ih]
set_option maxRecDepth 20000 in
theorem frX7_boxes (q : wSt) (k : Nat) (hk : k ≠ 6 ∧ k ≠ 10 ∧ k ≠ 12 ∧ k ≠ 13) : (fX7_boxes q) k = q k := by
  have gfX7_boxes_j2 := fun a0 a1 a2 => frX7_boxes_j2 a0 a1 a2 k (by omega)
  have glX7_boxes_1 := fun a0 a1 a2 a3 => frlX7_boxes_1 a0 a1 a2 a3 k (by omega)
  obtain ⟨h6, h10, h12, h13⟩ := hk
  unfold fX7_boxes
  (repeat' split) <;> simp [rset, h6, h10, h12, h13, gfX7_boxes_j2, glX7_boxes_1]
theorem iIX7_boxes (q : wSt) (h : iI q) : iI (fX7_boxes q) := iI_fr (fun k hk => frX7_boxes q k (by omega)) h
def lX7_shelved_1 (q : wSt) (x1 : Int32) (x2 : Int32) : Nat → Int32 → Int32
  | 0, _ => (-1)
  | n + 1, y3_1 => (if (q 36 0) ≤ y3_1 then (-1) else (if (q 7 (y3_1).toNatClampNeg) = x1 then (if (q 8 (y3_1).toNatClampNeg) = x2 then (if (q 6 (y3_1).toNatClampNeg) = 0 then y3_1 else (lX7_shelved_1 q x1 x2 n (y3_1 + 1))) else (lX7_shelved_1 q x1 x2 n (y3_1 + 1))) else (lX7_shelved_1 q x1 x2 n (y3_1 + 1))))
theorem lX7_shelved_1_s (q : wSt) (x1 : Int32) (x2 : Int32) (n : Nat) (y3_1 : Int32) : lX7_shelved_1 q x1 x2 (n + 1) y3_1 = (if (q 36 0) ≤ y3_1 then (-1) else (if (q 7 (y3_1).toNatClampNeg) = x1 then (if (q 8 (y3_1).toNatClampNeg) = x2 then (if (q 6 (y3_1).toNatClampNeg) = 0 then y3_1 else (lX7_shelved_1 q x1 x2 n (y3_1 + 1))) else (lX7_shelved_1 q x1 x2 n (y3_1 + 1))) else (lX7_shelved_1 q x1 x2 n (y3_1 + 1)))) := rfl
def fX7_shelved (q : wSt) (x1 : Int32) (x2 : Int32) : Int32 := (lX7_shelved_1 q x1 x2 (((q 36 0).toInt - (0 : Int32).toInt).toNat + 1) 0)
def fX7_canHave (q : wSt) (x1 : Int32) : Int32 := (if (fX7_waits q x1) = 0 then 0 else (if (q 18 (q 22 (x1).toNatClampNeg).toNatClampNeg) < (q 30 0) then 0 else (if (fX7_shelved q (q 23 (x1).toNatClampNeg) (q 25 (x1).toNatClampNeg)) = (-1) then 0 else (if (fX7_most q (q 22 (x1).toNatClampNeg)) ≤ (((fX7_holds q (q 22 (x1).toNatClampNeg) 1) + (fX7_holds q (q 22 (x1).toNatClampNeg) 2)) + (fX7_holds q (q 22 (x1).toNatClampNeg) 3)) then 0 else 1))))
def fX7_gets_j1 (q : wSt) (x1 : Int32) : Int32 := (if (q 17 (q 22 (x1).toNatClampNeg).toNatClampNeg) ≤ 0 then 1 else 2)
def fX7_gets_j2 (q : wSt) (x1 : Int32) : Int32 := (if (q 17 (q 22 (x1).toNatClampNeg).toNatClampNeg) ≤ 0 then (q 30 0) else (-1))
def fX7_gets (q : wSt) (x1 : Int32) : wSt := (rset (rset (rset (rset (rset (rset q 10 (upd (q 10) (fX7_shelved q (q 23 (x1).toNatClampNeg) (q 25 (x1).toNatClampNeg)).toNatClampNeg (q 22 (x1).toNatClampNeg))) 11 (upd (q 11) (fX7_shelved q (q 23 (x1).toNatClampNeg) (q 25 (x1).toNatClampNeg)).toNatClampNeg x1)) 14 (upd (q 14) (fX7_shelved q (q 23 (x1).toNatClampNeg) (q 25 (x1).toNatClampNeg)).toNatClampNeg ((q 14 (fX7_shelved q (q 23 (x1).toNatClampNeg) (q 25 (x1).toNatClampNeg)).toNatClampNeg) + 1))) 13 (upd (q 13) (fX7_shelved q (q 23 (x1).toNatClampNeg) (q 25 (x1).toNatClampNeg)).toNatClampNeg (q 17 (q 22 (x1).toNatClampNeg).toNatClampNeg))) 6 (upd (q 6) (fX7_shelved q (q 23 (x1).toNatClampNeg) (q 25 (x1).toNatClampNeg)).toNatClampNeg (fX7_gets_j1 q x1))) 12 (upd (q 12) (fX7_shelved q (q 23 (x1).toNatClampNeg) (q 25 (x1).toNatClampNeg)).toNatClampNeg (fX7_gets_j2 q x1)))
set_option maxRecDepth 20000 in
theorem frX7_gets (q : wSt) (x1 : Int32) (k : Nat) (hk : k ≠ 6 ∧ k ≠ 10 ∧ k ≠ 11 ∧ k ≠ 12 ∧ k ≠ 13 ∧ k ≠ 14) : (fX7_gets q x1) k = q k := by
  obtain ⟨h6, h10, h11, h12, h13, h14⟩ := hk
  unfold fX7_gets
  (repeat' split) <;> simp [rset, h6, h10, h11, h12, h13, h14]
theorem iIX7_gets (q : wSt) (x1 : Int32) (h : iI q) : iI (fX7_gets q x1) := iI_fr (fun k hk => frX7_gets q x1 k (by omega)) h
def fX7_turns_j3 (q : wSt) (y1_1 : Int32) (p1 : wSt) (y1_2 : Int32) (y2_2 : Int32) : Int32 := (if (fX7_canHave p1 y2_2) = 0 then y1_2 else (if y1_2 = (-1) then y2_2 else (if (p1 16 (p1 22 (y1_2).toNatClampNeg).toNatClampNeg) < (p1 16 (p1 22 (y2_2).toNatClampNeg).toNatClampNeg) then y2_2 else (if (p1 16 (p1 22 (y2_2).toNatClampNeg).toNatClampNeg) = (p1 16 (p1 22 (y1_2).toNatClampNeg).toNatClampNeg) then (if (p1 27 (y1_2).toNatClampNeg) ≤ (p1 27 (y2_2).toNatClampNeg) then y1_2 else y2_2) else y1_2))))
def lX7_turns_2 (q : wSt) (y1_1 : Int32) (p1 : wSt) : Nat → Int32 → Int32 → Int32
  | 0, _, _ => (-1)
  | n + 1, y1_2, y2_2 => (if (p1 40 0) ≤ y2_2 then y1_2 else (lX7_turns_2 q y1_1 p1 n (fX7_turns_j3 q y1_1 p1 y1_2 y2_2) (y2_2 + 1)))
theorem lX7_turns_2_s (q : wSt) (y1_1 : Int32) (p1 : wSt) (n : Nat) (y1_2 : Int32) (y2_2 : Int32) : lX7_turns_2 q y1_1 p1 (n + 1) y1_2 y2_2 = (if (p1 40 0) ≤ y2_2 then y1_2 else (lX7_turns_2 q y1_1 p1 n (fX7_turns_j3 q y1_1 p1 y1_2 y2_2) (y2_2 + 1))) := rfl
def lX7_turns_1 (q : wSt) : Nat → Int32 → wSt → wSt
  | 0, _, p1 => p1
  | n + 1, y1_1, p1 => (if y1_1 = (-1) then p1 else (if (lX7_turns_2 q y1_1 p1 (((p1 40 0).toInt - (0 : Int32).toInt).toNat + 1) (-1) 0) = (-1) then (lX7_turns_1 q n (lX7_turns_2 q y1_1 p1 (((p1 40 0).toInt - (0 : Int32).toInt).toNat + 1) (-1) 0) p1) else (lX7_turns_1 q n (lX7_turns_2 q y1_1 p1 (((p1 40 0).toInt - (0 : Int32).toInt).toNat + 1) (-1) 0) (fX7_gets p1 (lX7_turns_2 q y1_1 p1 (((p1 40 0).toInt - (0 : Int32).toInt).toNat + 1) (-1) 0)))))
theorem lX7_turns_1_s (q : wSt) (n : Nat) (y1_1 : Int32) (p1 : wSt) : lX7_turns_1 q (n + 1) y1_1 p1 = (if y1_1 = (-1) then p1 else (if (lX7_turns_2 q y1_1 p1 (((p1 40 0).toInt - (0 : Int32).toInt).toNat + 1) (-1) 0) = (-1) then (lX7_turns_1 q n (lX7_turns_2 q y1_1 p1 (((p1 40 0).toInt - (0 : Int32).toInt).toNat + 1) (-1) 0) p1) else (lX7_turns_1 q n (lX7_turns_2 q y1_1 p1 (((p1 40 0).toInt - (0 : Int32).toInt).toNat + 1) (-1) 0) (fX7_gets p1 (lX7_turns_2 q y1_1 p1 (((p1 40 0).toInt - (0 : Int32).toInt).toNat + 1) (-1) 0))))) := rfl
def fX7_turns (q : wSt) : wSt := (lX7_turns_1 q (2 * shN q + 2) 0 q)
set_option maxRecDepth 20000 in
theorem frlX7_turns_1 (q : wSt) (n : Nat) (y1_1 : Int32) (p1 : wSt) (k : Nat) (hk : k ≠ 6 ∧ k ≠ 10 ∧ k ≠ 11 ∧ k ≠ 12 ∧ k ≠ 13 ∧ k ≠ 14) : (lX7_turns_1 q n y1_1 p1) k = p1 k := by
  have gX7_gets := fun a b0 => frX7_gets a b0 k (by omega)
  obtain ⟨h6, h10, h11, h12, h13, h14⟩ := hk
  induction n generalizing y1_1 p1 with
  | zero => rfl
  | succ n ih =>
    rw [lX7_turns_1_s]
    (repeat' split) <;> simp [rset, h6, h10, h11, h12, h13, h14, gX7_gets, ih]
set_option maxRecDepth 20000 in
theorem frX7_turns (q : wSt) (k : Nat) (hk : k ≠ 6 ∧ k ≠ 10 ∧ k ≠ 11 ∧ k ≠ 12 ∧ k ≠ 13 ∧ k ≠ 14) : (fX7_turns q) k = q k := by
  have gX7_gets := fun a b0 => frX7_gets a b0 k (by omega)
  have glX7_turns_1 := fun a0 a1 a2 a3 => frlX7_turns_1 a0 a1 a2 a3 k (by omega)
  obtain ⟨h6, h10, h11, h12, h13, h14⟩ := hk
  unfold fX7_turns
  (repeat' split) <;> simp [rset, h6, h10, h11, h12, h13, h14, gX7_gets, glX7_turns_1]
theorem iIX7_turns (q : wSt) (h : iI q) : iI (fX7_turns q) := iI_fr (fun k hk => frX7_turns q k (by omega)) h
def lX7_go_1 (q : wSt) (x1 : Int32) : Nat → Int32 → wSt → wSt
  | 0, _, p1 => p1
  | n + 1, y2_1, p1 => (if x1 ≤ y2_1 then p1 else (if 5000 ≤ (p1 30 0) then p1 else (lX7_go_1 q x1 n (y2_1 + 1) (rset (fX7_turns (fX7_boxes p1)) 30 (fun _ => (((fX7_turns (fX7_boxes p1)) 30 0) + 1))))))
theorem lX7_go_1_s (q : wSt) (x1 : Int32) (n : Nat) (y2_1 : Int32) (p1 : wSt) : lX7_go_1 q x1 (n + 1) y2_1 p1 = (if x1 ≤ y2_1 then p1 else (if 5000 ≤ (p1 30 0) then p1 else (lX7_go_1 q x1 n (y2_1 + 1) (rset (fX7_turns (fX7_boxes p1)) 30 (fun _ => (((fX7_turns (fX7_boxes p1)) 30 0) + 1)))))) := rfl
def fX7_go (q : wSt) (x1 : Int32) : Int32 × wSt := (if (fX7_in q x1 0 100) = 0 then ((-1), q) else (((lX7_go_1 q x1 (((x1).toInt - (0 : Int32).toInt).toNat + 1) 0 q) 30 0), (lX7_go_1 q x1 (((x1).toInt - (0 : Int32).toInt).toNat + 1) 0 q)))
set_option maxRecDepth 20000 in
theorem frlX7_go_1 (q : wSt) (x1 : Int32) (n : Nat) (y2_1 : Int32) (p1 : wSt) (k : Nat) (hk : k ≠ 6 ∧ k ≠ 10 ∧ k ≠ 11 ∧ k ≠ 12 ∧ k ≠ 13 ∧ k ≠ 14 ∧ k ≠ 30) : (lX7_go_1 q x1 n y2_1 p1) k = p1 k := by
  have gX7_boxes := fun a => frX7_boxes a  k (by omega)
  have gX7_turns := fun a => frX7_turns a  k (by omega)
  obtain ⟨h6, h10, h11, h12, h13, h14, h30⟩ := hk
  induction n generalizing y2_1 p1 with
  | zero => rfl
  | succ n ih =>
    rw [lX7_go_1_s]
    (repeat' split) <;> simp [rset, h6, h10, h11, h12, h13, h14, h30, gX7_boxes, gX7_turns, ih]
set_option maxRecDepth 20000 in
theorem frX7_go (q : wSt) (x1 : Int32) (k : Nat) (hk : k ≠ 6 ∧ k ≠ 10 ∧ k ≠ 11 ∧ k ≠ 12 ∧ k ≠ 13 ∧ k ≠ 14 ∧ k ≠ 30) : (fX7_go q x1).2 k = q k := by
  have gX7_boxes := fun a => frX7_boxes a  k (by omega)
  have gX7_turns := fun a => frX7_turns a  k (by omega)
  have glX7_go_1 := fun a0 a1 a2 a3 a4 => frlX7_go_1 a0 a1 a2 a3 a4 k (by omega)
  obtain ⟨h6, h10, h11, h12, h13, h14, h30⟩ := hk
  unfold fX7_go
  (repeat' split) <;> simp [rset, h6, h10, h11, h12, h13, h14, h30, gX7_boxes, gX7_turns, glX7_go_1]
theorem iIX7_go (q : wSt) (x1 : Int32) (h : iI q) : iI (fX7_go q x1).2 := iI_fr (fun k hk => frX7_go q x1 k (by omega)) h
def fX7_had (q : wSt) (x1 : Int32) : wSt := (if (q 11 (x1).toNatClampNeg) = (-1) then (rset q 11 (upd (q 11) (x1).toNatClampNeg (-1))) else (if (q 24 (q 11 (x1).toNatClampNeg).toNatClampNeg) = 0 then (if ((upd (q 25) (q 11 (x1).toNatClampNeg).toNatClampNeg ((q 25 (q 11 (x1).toNatClampNeg).toNatClampNeg) + 1)) (q 11 (x1).toNatClampNeg).toNatClampNeg) = (q 0 (q 23 (q 11 (x1).toNatClampNeg).toNatClampNeg).toNatClampNeg) then (rset (rset (rset (rset q 11 (upd (q 11) (x1).toNatClampNeg (-1))) 25 (upd (q 25) (q 11 (x1).toNatClampNeg).toNatClampNeg ((q 25 (q 11 (x1).toNatClampNeg).toNatClampNeg) + 1))) 27 (upd (q 27) (q 11 (x1).toNatClampNeg).toNatClampNeg (q 30 0))) 24 (upd (q 24) (q 11 (x1).toNatClampNeg).toNatClampNeg 1)) else (rset (rset (rset q 11 (upd (q 11) (x1).toNatClampNeg (-1))) 25 (upd (q 25) (q 11 (x1).toNatClampNeg).toNatClampNeg ((q 25 (q 11 (x1).toNatClampNeg).toNatClampNeg) + 1))) 27 (upd (q 27) (q 11 (x1).toNatClampNeg).toNatClampNeg (q 30 0)))) else (rset (rset (rset q 11 (upd (q 11) (x1).toNatClampNeg (-1))) 25 (upd (q 25) (q 11 (x1).toNatClampNeg).toNatClampNeg ((q 25 (q 11 (x1).toNatClampNeg).toNatClampNeg) + 1))) 27 (upd (q 27) (q 11 (x1).toNatClampNeg).toNatClampNeg (q 30 0)))))
set_option maxRecDepth 20000 in
theorem frX7_had (q : wSt) (x1 : Int32) (k : Nat) (hk : k ≠ 11 ∧ k ≠ 24 ∧ k ≠ 25 ∧ k ≠ 27) : (fX7_had q x1) k = q k := by
  obtain ⟨h11, h24, h25, h27⟩ := hk
  unfold fX7_had
  (repeat' split) <;> simp [rset, h11, h24, h25, h27]
theorem iIX7_had (q : wSt) (x1 : Int32) (h : iI q) : iI (fX7_had q x1) := iI_fr (fun k hk => frX7_had q x1 k (by omega)) h
def fX7_late (q : wSt) (x1 : Int32) : Int32 := (if (((q 30 0) - (q 12 (x1).toNatClampNeg)) - (fX7_term q (q 16 (q 10 (x1).toNatClampNeg).toNatClampNeg))) ≤ 0 then 0 else ((((q 30 0) - (q 12 (x1).toNatClampNeg)) - (fX7_term q (q 16 (q 10 (x1).toNatClampNeg).toNatClampNeg))) * (3 - (q 16 (q 10 (x1).toNatClampNeg).toNatClampNeg))))
def fX7_back_j1 (q : wSt) (x1 : Int32) : Int32 := (if ((fX7_had (rset q 19 (upd (q 19) (q 10 (x1).toNatClampNeg).toNatClampNeg ((q 19 (q 10 (x1).toNatClampNeg).toNatClampNeg) + (fX7_late q x1)))) x1) 17 (q 10 (x1).toNatClampNeg).toNatClampNeg) ≤ 0 then 0 else 3)
def fX7_back_j2 (q : wSt) (x1 : Int32) : wSt := (if ((fX7_had (rset q 19 (upd (q 19) (q 10 (x1).toNatClampNeg).toNatClampNeg ((q 19 (q 10 (x1).toNatClampNeg).toNatClampNeg) + (fX7_late q x1)))) x1) 17 (q 10 (x1).toNatClampNeg).toNatClampNeg) = 0 then (rset (rset (rset (rset (fX7_had (rset q 19 (upd (q 19) (q 10 (x1).toNatClampNeg).toNatClampNeg ((q 19 (q 10 (x1).toNatClampNeg).toNatClampNeg) + (fX7_late q x1)))) x1) 12 (upd ((fX7_had (rset q 19 (upd (q 19) (q 10 (x1).toNatClampNeg).toNatClampNeg ((q 19 (q 10 (x1).toNatClampNeg).toNatClampNeg) + (fX7_late q x1)))) x1) 12) (x1).toNatClampNeg (-1))) 13 (upd ((fX7_had (rset q 19 (upd (q 19) (q 10 (x1).toNatClampNeg).toNatClampNeg ((q 19 (q 10 (x1).toNatClampNeg).toNatClampNeg) + (fX7_late q x1)))) x1) 13) (x1).toNatClampNeg ((fX7_had (rset q 19 (upd (q 19) (q 10 (x1).toNatClampNeg).toNatClampNeg ((q 19 (q 10 (x1).toNatClampNeg).toNatClampNeg) + (fX7_late q x1)))) x1) 17 (q 10 (x1).toNatClampNeg).toNatClampNeg))) 6 (upd ((fX7_had (rset q 19 (upd (q 19) (q 10 (x1).toNatClampNeg).toNatClampNeg ((q 19 (q 10 (x1).toNatClampNeg).toNatClampNeg) + (fX7_late q x1)))) x1) 6) (x1).toNatClampNeg (fX7_back_j1 q x1))) 10 (upd ((fX7_had (rset q 19 (upd (q 19) (q 10 (x1).toNatClampNeg).toNatClampNeg ((q 19 (q 10 (x1).toNatClampNeg).toNatClampNeg) + (fX7_late q x1)))) x1) 10) (x1).toNatClampNeg (-1))) else (rset (rset (rset (fX7_had (rset q 19 (upd (q 19) (q 10 (x1).toNatClampNeg).toNatClampNeg ((q 19 (q 10 (x1).toNatClampNeg).toNatClampNeg) + (fX7_late q x1)))) x1) 12 (upd ((fX7_had (rset q 19 (upd (q 19) (q 10 (x1).toNatClampNeg).toNatClampNeg ((q 19 (q 10 (x1).toNatClampNeg).toNatClampNeg) + (fX7_late q x1)))) x1) 12) (x1).toNatClampNeg (-1))) 13 (upd ((fX7_had (rset q 19 (upd (q 19) (q 10 (x1).toNatClampNeg).toNatClampNeg ((q 19 (q 10 (x1).toNatClampNeg).toNatClampNeg) + (fX7_late q x1)))) x1) 13) (x1).toNatClampNeg ((fX7_had (rset q 19 (upd (q 19) (q 10 (x1).toNatClampNeg).toNatClampNeg ((q 19 (q 10 (x1).toNatClampNeg).toNatClampNeg) + (fX7_late q x1)))) x1) 17 (q 10 (x1).toNatClampNeg).toNatClampNeg))) 6 (upd ((fX7_had (rset q 19 (upd (q 19) (q 10 (x1).toNatClampNeg).toNatClampNeg ((q 19 (q 10 (x1).toNatClampNeg).toNatClampNeg) + (fX7_late q x1)))) x1) 6) (x1).toNatClampNeg (fX7_back_j1 q x1))))
def fX7_back (q : wSt) (x1 : Int32) : Int32 × wSt := (if (fX7_isCopy q x1) = 0 then ((-1), q) else (if (q 6 (x1).toNatClampNeg) = 1 then ((fX7_late q x1), (fX7_back_j2 q x1)) else ((-1), q)))
set_option maxRecDepth 20000 in
theorem frX7_back_j2 (q : wSt) (x1 : Int32) (k : Nat) (hk : k ≠ 6 ∧ k ≠ 10 ∧ k ≠ 11 ∧ k ≠ 12 ∧ k ≠ 13 ∧ k ≠ 19 ∧ k ≠ 24 ∧ k ≠ 25 ∧ k ≠ 27) : (fX7_back_j2 q x1) k = q k := by
  have gX7_had := fun a b0 => frX7_had a b0 k (by omega)
  obtain ⟨h6, h10, h11, h12, h13, h19, h24, h25, h27⟩ := hk
  unfold fX7_back_j2
  (repeat' split) <;> simp [rset, h6, h10, h11, h12, h13, h19, h24, h25, h27, gX7_had]
set_option maxRecDepth 20000 in
theorem frX7_back (q : wSt) (x1 : Int32) (k : Nat) (hk : k ≠ 6 ∧ k ≠ 10 ∧ k ≠ 11 ∧ k ≠ 12 ∧ k ≠ 13 ∧ k ≠ 19 ∧ k ≠ 24 ∧ k ≠ 25 ∧ k ≠ 27) : (fX7_back q x1).2 k = q k := by
  have gX7_had := fun a b0 => frX7_had a b0 k (by omega)
  have gfX7_back_j2 := fun a0 a1 => frX7_back_j2 a0 a1 k (by omega)
  obtain ⟨h6, h10, h11, h12, h13, h19, h24, h25, h27⟩ := hk
  unfold fX7_back
  (repeat' split) <;> simp [rset, h6, h10, h11, h12, h13, h19, h24, h25, h27, gX7_had, gfX7_back_j2]
theorem iIX7_back (q : wSt) (x1 : Int32) (h : iI q) : iI (fX7_back q x1).2 := iI_fr (fun k hk => frX7_back q x1 k (by omega)) h
def fX7_lose_j1 (q : wSt) (x1 : Int32) : Int32 := (if (q 6 (x1).toNatClampNeg) = 1 then (fX7_late q x1) else 0)
def fX7_lose_j2 (q : wSt) (x1 : Int32) : Int32 × wSt := (if (q 6 (x1).toNatClampNeg) = 0 then (0, q) else (((q 9 (x1).toNatClampNeg) + (fX7_lose_j1 q x1)), (fX7_had (rset q 19 (upd (q 19) (q 10 (x1).toNatClampNeg).toNatClampNeg ((q 19 (q 10 (x1).toNatClampNeg).toNatClampNeg) + ((q 9 (x1).toNatClampNeg) + (fX7_lose_j1 q x1))))) x1)))
def fX7_lose (q : wSt) (x1 : Int32) : Int32 × wSt := (if (fX7_isCopy q x1) = 0 then ((-1), q) else (if (q 6 (x1).toNatClampNeg) < 4 then ((fX7_lose_j2 q x1).1, (rset (rset (rset (rset (fX7_lose_j2 q x1).2 6 (upd ((fX7_lose_j2 q x1).2 6) (x1).toNatClampNeg 5)) 10 (upd ((fX7_lose_j2 q x1).2 10) (x1).toNatClampNeg (-1))) 12 (upd ((fX7_lose_j2 q x1).2 12) (x1).toNatClampNeg (-1))) 13 (upd ((fX7_lose_j2 q x1).2 13) (x1).toNatClampNeg 0))) else ((-1), q)))
set_option maxRecDepth 20000 in
theorem frX7_lose_j2 (q : wSt) (x1 : Int32) (k : Nat) (hk : k ≠ 6 ∧ k ≠ 10 ∧ k ≠ 11 ∧ k ≠ 12 ∧ k ≠ 13 ∧ k ≠ 19 ∧ k ≠ 24 ∧ k ≠ 25 ∧ k ≠ 27) : (fX7_lose_j2 q x1).2 k = q k := by
  have gX7_had := fun a b0 => frX7_had a b0 k (by omega)
  obtain ⟨h6, h10, h11, h12, h13, h19, h24, h25, h27⟩ := hk
  unfold fX7_lose_j2
  (repeat' split) <;> simp [rset, h6, h10, h11, h12, h13, h19, h24, h25, h27, gX7_had]
set_option maxRecDepth 20000 in
theorem frX7_lose (q : wSt) (x1 : Int32) (k : Nat) (hk : k ≠ 6 ∧ k ≠ 10 ∧ k ≠ 11 ∧ k ≠ 12 ∧ k ≠ 13 ∧ k ≠ 19 ∧ k ≠ 24 ∧ k ≠ 25 ∧ k ≠ 27) : (fX7_lose q x1).2 k = q k := by
  have gX7_had := fun a b0 => frX7_had a b0 k (by omega)
  have gfX7_lose_j2 := fun a0 a1 => frX7_lose_j2 a0 a1 k (by omega)
  obtain ⟨h6, h10, h11, h12, h13, h19, h24, h25, h27⟩ := hk
  unfold fX7_lose
  (repeat' split) <;> simp [rset, h6, h10, h11, h12, h13, h19, h24, h25, h27, gX7_had, gfX7_lose_j2]
theorem iIX7_lose (q : wSt) (x1 : Int32) (h : iI q) : iI (fX7_lose q x1).2 := iI_fr (fun k hk => frX7_lose q x1 k (by omega)) h
def fX7_pay (q : wSt) (x1 : Int32) (x2 : Int32) : Int32 × wSt := (if (fX7_isReader q x1) = 0 then ((-1), q) else (if (fX7_in q x2 1 (q 19 (x1).toNatClampNeg)) = 0 then ((-1), q) else (((upd (q 19) (x1).toNatClampNeg ((q 19 (x1).toNatClampNeg) - x2)) (x1).toNatClampNeg), (rset (rset q 19 (upd (q 19) (x1).toNatClampNeg ((q 19 (x1).toNatClampNeg) - x2))) 33 (fun _ => ((q 33 0) + x2))))))
set_option maxRecDepth 20000 in
theorem frX7_pay (q : wSt) (x1 : Int32) (x2 : Int32) (k : Nat) (hk : k ≠ 19 ∧ k ≠ 33) : (fX7_pay q x1 x2).2 k = q k := by
  obtain ⟨h19, h33⟩ := hk
  unfold fX7_pay
  (repeat' split) <;> simp [rset, h19, h33]
theorem iIX7_pay (q : wSt) (x1 : Int32) (x2 : Int32) (h : iI q) : iI (fX7_pay q x1 x2).2 := iI_fr (fun k hk => frX7_pay q x1 x2 k (by omega)) h
def fX7_copy (q : wSt) (x1 : Int32) (x2 : Int32) : Int32 := (if (fX7_isCopy q x1) = 0 then (-1) else (if x2 = 0 then (q 6 (x1).toNatClampNeg) else (if x2 = 1 then (q 7 (x1).toNatClampNeg) else (if x2 = 2 then (q 8 (x1).toNatClampNeg) else (if x2 = 3 then (q 9 (x1).toNatClampNeg) else (if x2 = 4 then (q 10 (x1).toNatClampNeg) else (if x2 = 5 then (q 12 (x1).toNatClampNeg) else (if x2 = 6 then (if (q 6 (x1).toNatClampNeg) = 2 then (q 13 (x1).toNatClampNeg) else (if (q 6 (x1).toNatClampNeg) = 3 then (q 13 (x1).toNatClampNeg) else 0)) else (if x2 = 7 then (q 14 (x1).toNatClampNeg) else (-1))))))))))
def fX7_told_j2 (q : wSt) (x1 : Int32) (x2 : Int32) (y3_1 : Int32) (y4_1 : Int32) : Int32 := (if (q 22 (y4_1).toNatClampNeg) = x1 then (if (q 24 (y4_1).toNatClampNeg) = 0 then 1 else 0) else 0)
def lX7_told_1 (q : wSt) (x1 : Int32) (x2 : Int32) : Nat → Int32 → Int32 → Int32
  | 0, _, _ => (-1)
  | n + 1, y3_1, y4_1 => (if (q 40 0) ≤ y4_1 then y3_1 else (lX7_told_1 q x1 x2 n (y3_1 + (fX7_told_j2 q x1 x2 y3_1 y4_1)) (y4_1 + 1)))
theorem lX7_told_1_s (q : wSt) (x1 : Int32) (x2 : Int32) (n : Nat) (y3_1 : Int32) (y4_1 : Int32) : lX7_told_1 q x1 x2 (n + 1) y3_1 y4_1 = (if (q 40 0) ≤ y4_1 then y3_1 else (lX7_told_1 q x1 x2 n (y3_1 + (fX7_told_j2 q x1 x2 y3_1 y4_1)) (y4_1 + 1))) := rfl
def fX7_told (q : wSt) (x1 : Int32) (x2 : Int32) : Int32 := (if (fX7_isReader q x1) = 0 then (-1) else (if x2 = 0 then (q 16 (x1).toNatClampNeg) else (if x2 = 1 then (fX7_holds q x1 1) else (if x2 = 2 then ((fX7_holds q x1 2) + (fX7_holds q x1 3)) else (if x2 = 3 then (q 19 (x1).toNatClampNeg) else (if x2 = 4 then (lX7_told_1 q x1 x2 (((q 40 0).toInt - (0 : Int32).toInt).toNat + 1) 0 0) else (if x2 = 5 then (q 18 (x1).toNatClampNeg) else (-1))))))))
def fX7_wished (q : wSt) (x1 : Int32) (x2 : Int32) : Int32 := (if (fX7_isWish q x1) = 0 then (-1) else (if x2 = 0 then (q 24 (x1).toNatClampNeg) else (if x2 = 1 then (q 25 (x1).toNatClampNeg) else (if x2 = 2 then (fX7_copyOf q x1) else (if x2 = 3 then (if (fX7_waits q x1) = 0 then (-1) else (q 27 (x1).toNatClampNeg)) else (-1))))))
def fX7_waiting_j2 (q : wSt) (x1 : Int32) (x2 : Int32) (y3_1 : Int32) (y4_1 : Int32) : Int32 := (if (q 23 (y4_1).toNatClampNeg) = x1 then (if (q 25 (y4_1).toNatClampNeg) = x2 then (if (fX7_waits q y4_1) = 0 then 0 else 1) else 0) else 0)
def lX7_waiting_1 (q : wSt) (x1 : Int32) (x2 : Int32) : Nat → Int32 → Int32 → Int32
  | 0, _, _ => (-1)
  | n + 1, y3_1, y4_1 => (if (q 40 0) ≤ y4_1 then y3_1 else (lX7_waiting_1 q x1 x2 n (y3_1 + (fX7_waiting_j2 q x1 x2 y3_1 y4_1)) (y4_1 + 1)))
theorem lX7_waiting_1_s (q : wSt) (x1 : Int32) (x2 : Int32) (n : Nat) (y3_1 : Int32) (y4_1 : Int32) : lX7_waiting_1 q x1 x2 (n + 1) y3_1 y4_1 = (if (q 40 0) ≤ y4_1 then y3_1 else (lX7_waiting_1 q x1 x2 n (y3_1 + (fX7_waiting_j2 q x1 x2 y3_1 y4_1)) (y4_1 + 1))) := rfl
def fX7_waiting (q : wSt) (x1 : Int32) (x2 : Int32) : Int32 := (if (fX7_isTitle q x1) = 0 then (-1) else (if (fX7_in q x2 0 ((q 0 (x1).toNatClampNeg) - 1)) = 0 then (-1) else (lX7_waiting_1 q x1 x2 (((q 40 0).toInt - (0 : Int32).toInt).toNat + 1) 0 0)))
def fX7_sets_j3 (q : wSt) (x1 : Int32) (y2_1 : Int32) (y3_1 : Int32) (y4_2 : Int32) (y5_2 : Int32) : Int32 := (if (q 7 (y5_2).toNatClampNeg) = x1 then (if (q 8 (y5_2).toNatClampNeg) = y3_1 then (if 4 ≤ (q 6 (y5_2).toNatClampNeg) then 0 else 1) else 0) else 0)
def lX7_sets_2 (q : wSt) (x1 : Int32) (y2_1 : Int32) (y3_1 : Int32) : Nat → Int32 → Int32 → Int32
  | 0, _, _ => (-1)
  | n + 1, y4_2, y5_2 => (if (q 36 0) ≤ y5_2 then y4_2 else (lX7_sets_2 q x1 y2_1 y3_1 n (y4_2 + (fX7_sets_j3 q x1 y2_1 y3_1 y4_2 y5_2)) (y5_2 + 1)))
theorem lX7_sets_2_s (q : wSt) (x1 : Int32) (y2_1 : Int32) (y3_1 : Int32) (n : Nat) (y4_2 : Int32) (y5_2 : Int32) : lX7_sets_2 q x1 y2_1 y3_1 (n + 1) y4_2 y5_2 = (if (q 36 0) ≤ y5_2 then y4_2 else (lX7_sets_2 q x1 y2_1 y3_1 n (y4_2 + (fX7_sets_j3 q x1 y2_1 y3_1 y4_2 y5_2)) (y5_2 + 1))) := rfl
def fX7_sets_j4 (q : wSt) (x1 : Int32) (y2_1 : Int32) (y3_1 : Int32) : Int32 := (if y2_1 ≤ (lX7_sets_2 q x1 y2_1 y3_1 (((q 36 0).toInt - (0 : Int32).toInt).toNat + 1) 0 0) then y2_1 else (lX7_sets_2 q x1 y2_1 y3_1 (((q 36 0).toInt - (0 : Int32).toInt).toNat + 1) 0 0))
def lX7_sets_1 (q : wSt) (x1 : Int32) : Nat → Int32 → Int32 → Int32
  | 0, _, _ => (-1)
  | n + 1, y2_1, y3_1 => (if (q 0 (x1).toNatClampNeg) ≤ y3_1 then y2_1 else (lX7_sets_1 q x1 n (fX7_sets_j4 q x1 y2_1 y3_1) (y3_1 + 1)))
theorem lX7_sets_1_s (q : wSt) (x1 : Int32) (n : Nat) (y2_1 : Int32) (y3_1 : Int32) : lX7_sets_1 q x1 (n + 1) y2_1 y3_1 = (if (q 0 (x1).toNatClampNeg) ≤ y3_1 then y2_1 else (lX7_sets_1 q x1 n (fX7_sets_j4 q x1 y2_1 y3_1) (y3_1 + 1))) := rfl
def fX7_sets (q : wSt) (x1 : Int32) : Int32 := (if (fX7_isTitle q x1) = 0 then (-1) else (lX7_sets_1 q x1 (((q 0 (x1).toNatClampNeg).toInt - (0 : Int32).toInt).toNat + 1) 200 0))
def fX7_demand_j1 (q : wSt) (x1 : Int32) (x2 : Int32) (x3 : Int32) : Int32 := (if x1 = 20 then 0 else 50)
def fX7_demand (q : wSt) (x1 : Int32) (x2 : Int32) (x3 : Int32) : Int32 × wSt := (if (fX7_in q x1 0 20) = 0 then (0, q) else (if (fX7_in q x2 0 (fX7_demand_j1 q x1 x2 x3)) = 0 then (0, q) else (if (fX7_in q x3 0 1000) = 0 then (0, q) else (1, (rset (rset q 28 (upd (q 28) (x1).toNatClampNeg x2)) 29 (upd (q 29) (x1).toNatClampNeg x3))))))
set_option maxRecDepth 20000 in
theorem frX7_demand (q : wSt) (x1 : Int32) (x2 : Int32) (x3 : Int32) (k : Nat) (hk : k ≠ 28 ∧ k ≠ 29) : (fX7_demand q x1 x2 x3).2 k = q k := by
  obtain ⟨h28, h29⟩ := hk
  unfold fX7_demand
  (repeat' split) <;> simp [rset, h28, h29]
theorem iIX7_demand (q : wSt) (x1 : Int32) (x2 : Int32) (x3 : Int32) (h : iI q) : iI (fX7_demand q x1 x2 x3).2 := iI_fr (fun k hk => frX7_demand q x1 x2 x3 k (by omega)) h
def fX7_brings_j2 (q : wSt) (x1 : Int32) (x2 : Int32) (x3 : Int32) (y4_1 : Int32) (y5_1 : Int32) : Int32 := (if (q 28 (y5_1).toNatClampNeg) ≤ x2 then 0 else x1)
def lX7_brings_1 (q : wSt) (x1 : Int32) (x2 : Int32) (x3 : Int32) : Nat → Int32 → Int32 → Int32
  | 0, _, _ => (-1)
  | n + 1, y4_1, y5_1 => (if x3 ≤ y5_1 then y4_1 else (lX7_brings_1 q x1 x2 x3 n (y4_1 + (fX7_brings_j2 q x1 x2 x3 y4_1 y5_1)) (y5_1 + 1)))
theorem lX7_brings_1_s (q : wSt) (x1 : Int32) (x2 : Int32) (x3 : Int32) (n : Nat) (y4_1 : Int32) (y5_1 : Int32) : lX7_brings_1 q x1 x2 x3 (n + 1) y4_1 y5_1 = (if x3 ≤ y5_1 then y4_1 else (lX7_brings_1 q x1 x2 x3 n (y4_1 + (fX7_brings_j2 q x1 x2 x3 y4_1 y5_1)) (y5_1 + 1))) := rfl
def fX7_brings (q : wSt) (x1 : Int32) (x2 : Int32) (x3 : Int32) : Int32 := (lX7_brings_1 q x1 x2 x3 (((x3).toInt - (0 : Int32).toInt).toNat + 1) (q 29 (x3).toNatClampNeg) 0)
def fX7_weeksOf_j2 (q : wSt) (x1 : Int32) (x2 : Int32) (y3_1 : Int32) (y4_1 : Int32) : Int32 := (if (fX7_brings q x1 x2 y4_1) ≤ (fX7_brings q x1 x2 y3_1) then y3_1 else y4_1)
def lX7_weeksOf_1 (q : wSt) (x1 : Int32) (x2 : Int32) : Nat → Int32 → Int32 → Int32
  | 0, _, _ => (-1)
  | n + 1, y3_1, y4_1 => (if 20 < y4_1 then y3_1 else (lX7_weeksOf_1 q x1 x2 n (fX7_weeksOf_j2 q x1 x2 y3_1 y4_1) (y4_1 + 1)))
theorem lX7_weeksOf_1_s (q : wSt) (x1 : Int32) (x2 : Int32) (n : Nat) (y3_1 : Int32) (y4_1 : Int32) : lX7_weeksOf_1 q x1 x2 (n + 1) y3_1 y4_1 = (if 20 < y4_1 then y3_1 else (lX7_weeksOf_1 q x1 x2 n (fX7_weeksOf_j2 q x1 x2 y3_1 y4_1) (y4_1 + 1))) := rfl
def fX7_weeksOf (q : wSt) (x1 : Int32) (x2 : Int32) : Int32 := (lX7_weeksOf_1 q x1 x2 (((20 : Int32).toInt + 1 - (1 : Int32).toInt).toNat + 1) 0 1)
def fX7_isAny (q : wSt) (x0 : Int32) (x1 : Int32) : Int32 := (if (fX7_in q x0 0 1000) = 0 then 0 else (if (fX7_in q x1 0 1000) = 0 then 0 else 1))
def fX7_best_j2 (q : wSt) (x1 : Int32) (x2 : Int32) (y3_1 : Int32) (y4_1 : Int32) (y5_1 : Int32) (y6_1 : Int32) : Int32 × Int32 := (if y4_1 < (y5_1 + ((fX7_brings q x1 y6_1 (fX7_weeksOf q x1 y6_1)) - x2)) then ((y6_1 + 1), (y5_1 + ((fX7_brings q x1 y6_1 (fX7_weeksOf q x1 y6_1)) - x2))) else (y3_1, y4_1))
def lX7_best_1 (q : wSt) (x1 : Int32) (x2 : Int32) : Nat → Int32 → Int32 → Int32 → Int32 → Int32
  | 0, _, _, _, _ => (-1)
  | n + 1, y3_1, y4_1, y5_1, y6_1 => (if 50 ≤ y6_1 then y3_1 else (lX7_best_1 q x1 x2 n (fX7_best_j2 q x1 x2 y3_1 y4_1 y5_1 y6_1).1 (fX7_best_j2 q x1 x2 y3_1 y4_1 y5_1 y6_1).2 (y5_1 + ((fX7_brings q x1 y6_1 (fX7_weeksOf q x1 y6_1)) - x2)) (y6_1 + 1)))
theorem lX7_best_1_s (q : wSt) (x1 : Int32) (x2 : Int32) (n : Nat) (y3_1 : Int32) (y4_1 : Int32) (y5_1 : Int32) (y6_1 : Int32) : lX7_best_1 q x1 x2 (n + 1) y3_1 y4_1 y5_1 y6_1 = (if 50 ≤ y6_1 then y3_1 else (lX7_best_1 q x1 x2 n (fX7_best_j2 q x1 x2 y3_1 y4_1 y5_1 y6_1).1 (fX7_best_j2 q x1 x2 y3_1 y4_1 y5_1 y6_1).2 (y5_1 + ((fX7_brings q x1 y6_1 (fX7_weeksOf q x1 y6_1)) - x2)) (y6_1 + 1))) := rfl
def fX7_best (q : wSt) (x1 : Int32) (x2 : Int32) : Int32 := (if (fX7_isAny q x1 x2) = 0 then (-1) else (lX7_best_1 q x1 x2 (((50 : Int32).toInt - (0 : Int32).toInt).toNat + 1) 0 0 0 0))
def lX7_gain_1 (q : wSt) (x1 : Int32) (x2 : Int32) : Nat → Int32 → Int32 → Int32
  | 0, _, _ => (-1)
  | n + 1, y3_1, y4_1 => (if (fX7_best q x1 x2) ≤ y4_1 then y3_1 else (lX7_gain_1 q x1 x2 n (y3_1 + ((fX7_brings q x1 y4_1 (fX7_weeksOf q x1 y4_1)) - x2)) (y4_1 + 1)))
theorem lX7_gain_1_s (q : wSt) (x1 : Int32) (x2 : Int32) (n : Nat) (y3_1 : Int32) (y4_1 : Int32) : lX7_gain_1 q x1 x2 (n + 1) y3_1 y4_1 = (if (fX7_best q x1 x2) ≤ y4_1 then y3_1 else (lX7_gain_1 q x1 x2 n (y3_1 + ((fX7_brings q x1 y4_1 (fX7_weeksOf q x1 y4_1)) - x2)) (y4_1 + 1))) := rfl
def fX7_gain (q : wSt) (x1 : Int32) (x2 : Int32) : Int32 := (if (fX7_isAny q x1 x2) = 0 then (-1) else (lX7_gain_1 q x1 x2 (((fX7_best q x1 x2).toInt - (0 : Int32).toInt).toNat + 1) 0 0))
def fX7_kept (q : wSt) (x1 : Int32) (x2 : Int32) (x3 : Int32) : Int32 := (if (fX7_isAny q x1 x2) = 0 then (-1) else (if (fX7_in q x3 0 ((fX7_best q x1 x2) - 1)) = 0 then (-1) else (fX7_weeksOf q x1 x3)))
def fX7_count_j2 (q : wSt) (x1 : Int32) (y2_1 : Int32) (y3_1 : Int32) : Int32 := (if (q 6 (y3_1).toNatClampNeg) = 5 then 1 else 0)
def lX7_count_1 (q : wSt) (x1 : Int32) : Nat → Int32 → Int32 → Int32
  | 0, _, _ => (-1)
  | n + 1, y2_1, y3_1 => (if (q 36 0) ≤ y3_1 then y2_1 else (lX7_count_1 q x1 n (y2_1 + (fX7_count_j2 q x1 y2_1 y3_1)) (y3_1 + 1)))
theorem lX7_count_1_s (q : wSt) (x1 : Int32) (n : Nat) (y2_1 : Int32) (y3_1 : Int32) : lX7_count_1 q x1 (n + 1) y2_1 y3_1 = (if (q 36 0) ≤ y3_1 then y2_1 else (lX7_count_1 q x1 n (y2_1 + (fX7_count_j2 q x1 y2_1 y3_1)) (y3_1 + 1))) := rfl
def fX7_count (q : wSt) (x1 : Int32) : Int32 := (if x1 = 0 then (q 30 0) else (if x1 = 1 then (q 34 0) else (if x1 = 2 then (q 36 0) else (if x1 = 3 then (q 39 0) else (if x1 = 4 then (q 40 0) else (if x1 = 5 then (q 31 0) else (if x1 = 6 then (q 32 0) else (if x1 = 7 then (q 33 0) else (if x1 = 8 then (lX7_count_1 q x1 (((q 36 0).toInt - (0 : Int32).toInt).toNat + 1) 0 0) else (-1))))))))))
