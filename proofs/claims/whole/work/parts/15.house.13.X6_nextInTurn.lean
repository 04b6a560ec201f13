set_option maxHeartbeats 4000000 in
set_option maxRecDepth 100000 in
theorem mX6_nextInTurn (l : Launch) (G : va_G) (cy : ClassId) (a : Nat → Nat) (sz : Nat) (q : wSt) (hI : iI q) : CtI l yX6_nextInTurn wsX6_nextInTurn ({ frames := 4, cells := 0, slots := 0, locals := 84 }) G cy (cX cy a) xN sz q [.ref (a 0)] (fX6_nextInTurn q) q := by
  refine Met.ofW (cc := cX6_nextInTurn) (maxL := 3) (ret := (some .int)) (by decide) rfl ?_
  intro p e s m args below meth c s₁ B hml hv
  obtain ⟨rfl, hsz, hP, hK, hD0, hN⟩ := hv
  have hx := B.exec
  have hb := B.bytes
  have hr := B.returns
  have hts := atoms_spec (ws := wsX6_nextInTurn) B.pre
  have hown : s.vm.findClass RX6 = some m.cls := findClass_of_methodNamed B.named
  have hlocks := B.notSynchronized
  subst hsz
  have hD : ∀ z : wSt, va_D (wA (cX cy a) s.heap.size) ((cX cy a) z) := fun z => w_self (xOk cy a).1 hD0 z
  have hA : ∀ z : Nat, s.heap.size ≤ z → wA (cX cy a) s.heap.size z := fun _ h => Or.inr h
  have hS : va_S (wA (cX cy a) s.heap.size) s.heap s.heap [] := va_S.rf
  have hl := lv_entry ([.ref (a 0)]) (n := 3) (Nat.le_of_ble_eq_true rfl)
  rw [lg_entry_eq]
  generalize (lg_sl ([.ref (a 0)]) ++ List.replicate (3 - (lg_sl ([.ref (a 0)])).length) Slot.unset).toArray = ls at hl ⊢
  have hl : lv_has ls 3 [(0, .ref (a 0))] := hl
  have h_1 := hts (.fieldLink RX6 40 RX6 "wishes" "LVolumeHouse$Wishes;") (by decide +kernel)
  have h_2 := (show ∀ w ∈ u_ws RX6 TX6 10, w ∈ wsX6_nextInTurn by decide +kernel)
  have h_3 := (hN.1 _ (List.mem_of_getElem? (i := 8) rfl) : va_Nw (.fieldLinkNest RX6 114 RX5 "came" "I" RX6) s)
  have h_4 := (show ∀ w ∈ u_ws RX5 TX5 7, w ∈ wsX6_nextInTurn by decide +kernel)
  have t_m1 : ((-1) : Int32).toInt = -1 := rfl
  have t_0 : (0 : Int32).toInt = 0 := rfl
  have t_1 : (1 : Int32).toInt = 1 := rfl
  have hB := iI_b hI
  refine lv_iconst (v := (-1)) hx hb dX6_nextInTurn_0 (by decide) ?_
  refine lv_istore_n (lv' := [(1, .int (-1)), (0, .ref (a 0))]) hx hb dX6_nextInTurn_1 rfl hl (by decide) rfl (fun ls hl => ?_)
  refine lv_iconst (v := 0) hx hb dX6_nextInTurn_2 (by decide) ?_
  refine lv_istore_n (lv' := [(2, .int 0), (1, .int (-1)), (0, .ref (a 0))]) hx hb dX6_nextInTurn_3 rfl hl (by decide) rfl (fun ls hl => ?_)
  have K_1 : ∀ (v1 : Int32) (H : Heap) (ls : Array Slot) (locs : List Loc), (lX6_nextInTurn_1 q (((q 40 0).toInt - (0 : Int32).toInt).toNat + 1) (-1) 0) = v1 → ((v1).toInt = -1 ∨ (0 ≤ (v1).toInt ∧ (v1).toInt < (q 40 0).toInt)) → va_P G vwCl ((cX cy a) q) H → va_S (wA (cX cy a) s.heap.size) s.heap H locs → lv_has ls 3 [(1, .int v1)] → W p l e ({ frames := 4, cells := 0, slots := 0, locals := 84 }) s m [.ref (a 0)].toArray below meth c H locs 0 0 (MQ below (wQi G (cX cy a) s.heap.size (fX6_nextInTurn q) q) [.ref (a 0)].toArray s 0 0 (wA (cX cy a) s.heap.size)) (F0 m 45 ls []) := by
    intro v1 H ls locs hv iv_1_x hP hS hl
    subst hv
    refine lv_iload_n hx hb dX6_nextInTurn_45 rfl (lv_at hl 0 rfl) ?_
    exact W.iret (v := (lX6_nextInTurn_1 q (((q 40 0).toInt - (0 : Int32).toInt).toNat + 1) (-1) 0)) hx hb hr (fun t ht hW => ⟨⟨(lX6_nextInTurn_1 q (((q 40 0).toInt - (0 : Int32).toInt).toNat + 1) (-1) 0), q, rfl, ⟨(show (fX6_nextInTurn q) = (lX6_nextInTurn_1 q (((q 40 0).toInt - (0 : Int32).toInt).toNat + 1) (-1) 0) by (rw [fX6_nextInTurn]); try rfl).symm, rfl⟩, w_ht ht hP⟩, hS.F ht⟩) hS.2.2 dX6_nextInTurn_46
  have L_1 : ∀ (n : Nat) (y1_1 : Int32) (y2_1 : Int32) (H : Heap) (ls : Array Slot) (locs : List Loc), ((q 40 0).toInt - (y2_1).toInt).toNat < n → (0 ≤ (y2_1).toInt) → ((y1_1).toInt = -1 ∨ (0 ≤ (y1_1).toInt ∧ (y1_1).toInt < (q 40 0).toInt)) → lX6_nextInTurn_1 q n y1_1 y2_1 = (lX6_nextInTurn_1 q (((q 40 0).toInt - (0 : Int32).toInt).toNat + 1) (-1) 0) → va_P G vwCl ((cX cy a) q) H → va_S (wA (cX cy a) s.heap.size) s.heap H locs → lv_has ls 3 [(0, .ref (a 0)), (1, .int y1_1), (2, .int y2_1)] → W p l e ({ frames := 4, cells := 0, slots := 0, locals := 84 }) s m [.ref (a 0)].toArray below meth c H locs 0 0 (MQ below (wQi G (cX cy a) s.heap.size (fX6_nextInTurn q) q) [.ref (a 0)].toArray s 0 0 (wA (cX cy a) s.heap.size)) (F0 m 4 ls []) := by
    intro n
    induction n with
    | zero => intro y1_1 y2_1 H ls locs hm; exact absurd hm (Nat.not_lt_zero _)
    | succ n ih =>
      intro y1_1 y2_1 H ls locs hm_1 i0_1 iv_1 he_1 hP hS hl
      refine lv_iload_n hx hb dX6_nextInTurn_4 rfl (lv_at hl 2 rfl) ?_
      refine lv_aload_n hx hb dX6_nextInTurn_5 rfl (lv_at hl 0 rfl) ?_
      refine gfX6_40 hx hb hts h_2 hown hK hP h_1 dX6_nextInTurn_6 ?_
      refine gfX6_114 (v := (q 40 0)) hx hb hts h_4 hown hK hP h_3 rfl dX6_nextInTurn_9 ?_
      refine lv_icmp_ge (tgt := 45) hx hb dX6_nextInTurn_12 (by decide) (fun c_1 => ?_) (fun c_1 => ?_)
      · have e_2 := i_le c_1
        exact K_1 y1_1 _ _ _ (Eq.trans (Eq.symm he_1) (by (rw [lX6_nextInTurn_1_s, if_pos c_1]); try rfl)) (by first | omega | assumption) hP hS (lv_sub hl [1] rfl)
      · have e_2 := i_nle c_1
        refine lv_aload_n hx hb dX6_nextInTurn_15 rfl (lv_at hl 0 rfl) ?_
        refine lv_iload_n hx hb dX6_nextInTurn_16 rfl (lv_at hl 2 rfl) ?_
        refine w_goI (va_runV (As := [.int y2_1]) (rest := []) ⟨hx, hb, hml, hown, hts⟩ (mX6_canGet l G cy a _ q y2_1 hI) (cwV 1 hts gX6_nextInTurn_X6_canGet rfl rfl rfl (by decide +kernel) ⟨Nat.le_of_ble_eq_true rfl, Nat.le_of_ble_eq_true rfl⟩) (w_pre (xOk cy a) (va_recv hK hP (ci := 6) (q0 := 0) rfl rfl) hK hP hD hS hA hN) rfl rfl hl.1 rfl (lv_room (Nat.le_of_ble_eq_true rfl)) dX6_nextInTurn_17 ⟨Nat.le_of_ble_eq_true rfl, Nat.le_of_ble_eq_true rfl⟩) hD hS hA (fun H locs hP hS => ?_)
        have J_2 : ∀ (v1 : Int32) (H : Heap) (ls : Array Slot) (locs : List Loc), (fX6_nextInTurn_j2 q y1_1 y2_1) = v1 → ((v1).toInt = -1 ∨ (0 ≤ (v1).toInt ∧ (v1).toInt < (q 40 0).toInt)) → va_P G vwCl ((cX cy a) q) H → va_S (wA (cX cy a) s.heap.size) s.heap H locs → lv_has ls 3 [(0, .ref (a 0)), (1, .int v1), (2, .int y2_1)] → W p l e ({ frames := 4, cells := 0, slots := 0, locals := 84 }) s m [.ref (a 0)].toArray below meth c H locs 0 0 (MQ below (wQi G (cX cy a) s.heap.size (fX6_nextInTurn q) q) [.ref (a 0)].toArray s 0 0 (wA (cX cy a) s.heap.size)) (F0 m 39 ls []) := by
          intro v1 H ls locs hv iv_1_j2 hP hS hl
          subst hv
          refine lv_iinc (v := (y2_1 + 1)) (lv' := [(2, .int (y2_1 + 1)), (0, .ref (a 0)), (1, .int (fX6_nextInTurn_j2 q y1_1 y2_1))]) hx hb dX6_nextInTurn_39 hl (k := 2) rfl rfl (by decide) rfl (fun ls hl => ?_)
          have e_9 : (y2_1 + 1).toInt = (y2_1).toInt + 1 := i_inc (by have := i_rng y2_1; have := i_rng (q 40 0); omega)
          refine lv_goto (tgt := 4) hx hb dX6_nextInTurn_42 (by decide) ?_
          exact ih (fX6_nextInTurn_j2 q y1_1 y2_1) (y2_1 + 1) _ _ _ (by omega) (by first | omega | assumption) (by first | omega | assumption) (Eq.trans (Eq.symm (by (rw [lX6_nextInTurn_1_s, if_neg c_1]); try rfl)) he_1) hP hS (lv_sub hl [1, 2, 0] rfl)
        refine lv_if_eq (tgt := 39) hx hb dX6_nextInTurn_20 (by decide) (fun c_3 => ?_) (fun c_3 => ?_)
        · have e_4 := i_eq c_3
          exact J_2 y1_1 _ _ _ (by (rw [fX6_nextInTurn_j2, if_pos c_3]); try rfl) (show (y1_1).toInt = -1 ∨ (0 ≤ (y1_1).toInt ∧ (y1_1).toInt < (q 40 0).toInt) by omega) hP hS (lv_sub hl [0, 1, 2] rfl)
        · have e_4 := i_ne c_3
          refine lv_iload_n hx hb dX6_nextInTurn_23 rfl (lv_at hl 1 rfl) ?_
          refine lv_iconst (v := (-1)) hx hb dX6_nextInTurn_24 (by decide) ?_
          refine lv_icmp_eq (tgt := 37) hx hb dX6_nextInTurn_25 (by decide) (fun c_5 => ?_) (fun c_5 => ?_)
          · have e_6 := i_eq c_5
            refine lv_iload_n hx hb dX6_nextInTurn_37 rfl (lv_at hl 2 rfl) ?_
            refine lv_istore_n (lv' := [(1, .int y2_1), (0, .ref (a 0)), (2, .int y2_1)]) hx hb dX6_nextInTurn_38 rfl hl (by decide) rfl (fun ls hl => ?_)
            exact J_2 y2_1 _ _ _ (by (rw [fX6_nextInTurn_j2, if_neg c_3, if_pos c_5]); try rfl) (show (y2_1).toInt = -1 ∨ (0 ≤ (y2_1).toInt ∧ (y2_1).toInt < (q 40 0).toInt) by omega) hP hS (lv_sub hl [1, 0, 2] rfl)
          · have e_6 := i_ne c_5
            refine lv_aload_n hx hb dX6_nextInTurn_28 rfl (lv_at hl 0 rfl) ?_
            refine lv_iload_n hx hb dX6_nextInTurn_29 rfl (lv_at hl 2 rfl) ?_
            refine lv_iload_n hx hb dX6_nextInTurn_30 rfl (lv_at hl 1 rfl) ?_
            refine w_goI (va_runV (As := [.int y2_1, .int y1_1]) (rest := []) ⟨hx, hb, hml, hown, hts⟩ (mX6_goesAhead l G cy a _ q y2_1 y1_1 hI (by omega) (by omega) (by omega) (by omega)) (cwV 2 hts gX6_nextInTurn_X6_goesAhead rfl rfl rfl (by decide +kernel) ⟨Nat.le_of_ble_eq_true rfl, Nat.le_of_ble_eq_true rfl⟩) (w_pre (xOk cy a) (va_recv hK hP (ci := 6) (q0 := 0) rfl rfl) hK hP hD hS hA hN) rfl rfl hl.1 rfl (lv_room (Nat.le_of_ble_eq_true rfl)) dX6_nextInTurn_31 ⟨Nat.le_of_ble_eq_true rfl, Nat.le_of_ble_eq_true rfl⟩) hD hS hA (fun H locs hP hS => ?_)
            refine lv_if_eq (tgt := 39) hx hb dX6_nextInTurn_34 (by decide) (fun c_7 => ?_) (fun c_7 => ?_)
            · have e_8 := i_eq c_7
              exact J_2 y1_1 _ _ _ (by (rw [fX6_nextInTurn_j2, if_neg c_3, if_neg c_5, if_pos c_7]); try rfl) (show (y1_1).toInt = -1 ∨ (0 ≤ (y1_1).toInt ∧ (y1_1).toInt < (q 40 0).toInt) by omega) hP hS (lv_sub hl [0, 1, 2] rfl)
            · have e_8 := i_ne c_7
              refine lv_iload_n hx hb dX6_nextInTurn_37 rfl (lv_at hl 2 rfl) ?_
              refine lv_istore_n (lv' := [(1, .int y2_1), (0, .ref (a 0)), (2, .int y2_1)]) hx hb dX6_nextInTurn_38 rfl hl (by decide) rfl (fun ls hl => ?_)
              exact J_2 y2_1 _ _ _ (by (rw [fX6_nextInTurn_j2, if_neg c_3, if_neg c_5, if_neg c_7]); try rfl) (show (y2_1).toInt = -1 ∨ (0 ≤ (y2_1).toInt ∧ (y2_1).toInt < (q 40 0).toInt) by omega) hP hS (lv_sub hl [1, 0, 2] rfl)
  exact L_1 (((q 40 0).toInt - (0 : Int32).toInt).toNat + 1) (-1) 0 _ _ _ (by omega) (by omega) (by omega) rfl hP hS (lv_sub hl [2, 1, 0] rfl)
