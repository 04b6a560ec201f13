set_option maxHeartbeats 4000000 in
set_option maxRecDepth 100000 in
theorem mX6_takeTurns (l : Launch) (G : va_G) (cy : ClassId) (a : Nat → Nat) (sz : Nat) (q : wSt) (hI : iI q) : CtV l yX6_takeTurns wsX6_takeTurns ({ frames := 5, cells := 0, slots := 0, locals := 112 }) G cy (cX cy a) xN sz q [.ref (a 0)] (fX6_takeTurns q) := by
  refine Met.ofW (cc := cX6_takeTurns) (maxL := 3) (ret := none) (by decide) rfl ?_
  intro p e s m args below meth c s₁ B hml hv
  obtain ⟨rfl, hsz, hP, hK, hD0, hN⟩ := hv
  have hx := B.exec
  have hb := B.bytes
  have hr := B.returns
  have hts := atoms_spec (ws := wsX6_takeTurns) B.pre
  have hown : s.vm.findClass RX6 = some m.cls := findClass_of_methodNamed B.named
  have hlocks := B.notSynchronized
  subst hsz
  have hD : ∀ z : wSt, va_D (wA (cX cy a) s.heap.size) ((cX cy a) z) := fun z => w_self (xOk cy a).1 hD0 z
  have hA : ∀ z : Nat, s.heap.size ≤ z → wA (cX cy a) s.heap.size z := fun _ h => Or.inr h
  have hS : va_S (wA (cX cy a) s.heap.size) s.heap s.heap [] := va_S.rf
  have hl := lv_entry ([.ref (a 0)]) (n := 3) (Nat.le_of_ble_eq_true rfl)
  rw [lg_entry_eq]
  generalize (lg_sl ([.ref (a 0)]) ++ List.replicate (3 - (lg_sl ([.ref (a 0)])).length) Slot.unset).toArray = ls at hl ⊢
  have hl : lv_has ls 3 [(0, .ref (a 0))] := hl
  have t_m1 : ((-1) : Int32).toInt = -1 := rfl
  have t_0 : (0 : Int32).toInt = 0 := rfl
  have t_1 : (1 : Int32).toInt = 1 := rfl
  have t_200 : (200 : Int32).toInt = 200 := rfl
  have hB := iI_b hI
  refine lv_iconst (v := 0) hx hb dX6_takeTurns_0 (by decide) ?_
  refine lv_istore_n (lv' := [(1, .int 0), (0, .ref (a 0))]) hx hb dX6_takeTurns_1 rfl hl (by decide) rfl (fun ls hl => ?_)
  have L_1 : ∀ (n : Nat) (y1_1 : Int32) (p1 : wSt) (H : Heap) (ls : Array Slot) (locs : List Loc), ((200 : Int32).toInt - (y1_1).toInt).toNat < n → iI p1 → (0 ≤ (y1_1).toInt) → lX6_takeTurns_1 q n y1_1 p1 = (fX6_takeTurns q) → va_P G vwCl ((cX cy a) p1) H → va_S (wA (cX cy a) s.heap.size) s.heap H locs → lv_has ls 3 [(0, .ref (a 0)), (1, .int y1_1)] → W p l e ({ frames := 5, cells := 0, slots := 0, locals := 112 }) s m [.ref (a 0)].toArray below meth c H locs 0 0 (MQ below (wQv G (cX cy a) s.heap.size (fX6_takeTurns q)) [.ref (a 0)].toArray s 0 0 (wA (cX cy a) s.heap.size)) (F0 m 2 ls []) := by
    intro n
    induction n with
    | zero => intro y1_1 p1 H ls locs hm; exact absurd hm (Nat.not_lt_zero _)
    | succ n ih =>
      intro y1_1 p1 H ls locs hm_1 hI_1 i0_1 he_1 hP hS hl
      refine lv_iload_n hx hb dX6_takeTurns_2 rfl (lv_at hl 1 rfl) ?_
      refine lv_sipush (v := 200) hx hb dX6_takeTurns_3 (by decide) ?_
      refine lv_icmp_ge (tgt := 31) hx hb dX6_takeTurns_6 (by decide) (fun c_1 => ?_) (fun c_1 => ?_)
      · have e_2 := i_le c_1
        exact W.vret hx hb hr (fun t ht hW => ⟨⟨p1, rfl, ((Eq.symm he_1).trans (by (rw [lX6_takeTurns_1_s, if_pos c_1]); try rfl)).symm, w_ht ht hP⟩, hS.F ht⟩) hS.2.2 dX6_takeTurns_31
      · have e_2 := i_nle c_1
        refine lv_aload_n hx hb dX6_takeTurns_9 rfl (lv_at hl 0 rfl) ?_
        refine w_goI (va_runV (As := []) (rest := []) ⟨hx, hb, hml, hown, hts⟩ (mX6_nextInTurn l G cy a _ p1 hI_1) (cwV 0 hts gX6_takeTurns_X6_nextInTurn rfl rfl rfl (by decide +kernel) ⟨Nat.le_of_ble_eq_true rfl, Nat.le_of_ble_eq_true rfl⟩) (w_pre (xOk cy a) (va_recv hK hP (ci := 6) (q0 := 0) rfl rfl) hK hP hD hS hA hN) rfl rfl hl.1 rfl (lv_room (Nat.le_of_ble_eq_true rfl)) dX6_takeTurns_10 ⟨Nat.le_of_ble_eq_true rfl, Nat.le_of_ble_eq_true rfl⟩) hD hS hA (fun H locs hP hS => ?_)
        have e_3 := iI_b hI_1
        have e_4 := tX6_nextInTurn p1
        refine lv_istore_n (lv' := [(2, .int (fX6_nextInTurn p1)), (0, .ref (a 0)), (1, .int y1_1)]) hx hb dX6_takeTurns_13 rfl hl (by decide) rfl (fun ls hl => ?_)
        refine lv_iload_n hx hb dX6_takeTurns_14 rfl (lv_at hl 0 rfl) ?_
        refine lv_iconst (v := (-1)) hx hb dX6_takeTurns_15 (by decide) ?_
        refine lv_icmp_ne (tgt := 20) hx hb dX6_takeTurns_16 (by decide) (fun c_5 => ?_) (fun c_5 => ?_)
        · have e_6 := i_ne c_5
          refine lv_aload_n hx hb dX6_takeTurns_20 rfl (lv_at hl 1 rfl) ?_
          refine lv_iload_n hx hb dX6_takeTurns_21 rfl (lv_at hl 0 rfl) ?_
          refine w_goV (va_runV (As := [.int (fX6_nextInTurn p1)]) (rest := []) ⟨hx, hb, hml, hown, hts⟩ (mX6_lendFor l G cy a _ p1 (fX6_nextInTurn p1) hI_1 (by have hB9 := iI_b hI_1; omega) (by have hB9 := iI_b hI_1; omega)) (cwV 1 hts gX6_takeTurns_X6_lendFor rfl rfl rfl (by decide +kernel) ⟨Nat.le_of_ble_eq_true rfl, Nat.le_of_ble_eq_true rfl⟩) (w_pre (xOk cy a) (va_recv hK hP (ci := 6) (q0 := 0) rfl rfl) hK hP hD hS hA hN) rfl rfl hl.1 rfl (lv_room (Nat.le_of_ble_eq_true rfl)) dX6_takeTurns_22 ⟨Nat.le_of_ble_eq_true rfl, Nat.le_of_ble_eq_true rfl⟩) hD hS hA (fun H locs hP hS => ?_)
          refine lv_iinc (v := (y1_1 + 1)) (lv' := [(1, .int (y1_1 + 1)), (2, .int (fX6_nextInTurn p1)), (0, .ref (a 0))]) hx hb dX6_takeTurns_25 hl (k := 2) rfl rfl (by decide) rfl (fun ls hl => ?_)
          have e_7 : (y1_1 + 1).toInt = (y1_1).toInt + 1 := i_inc (by have := i_rng y1_1; have := i_rng (200 : Int32); omega)
          refine lv_goto (tgt := 2) hx hb dX6_takeTurns_28 (by decide) ?_
          exact ih (y1_1 + 1) (fX6_lendFor p1 (fX6_nextInTurn p1)) _ _ _ (by omega) (iIX6_lendFor p1 (fX6_nextInTurn p1) hI_1) (by first | omega | assumption) (Eq.trans (Eq.symm (by (rw [lX6_takeTurns_1_s, if_neg c_1, if_neg c_5]); try rfl)) he_1) hP hS (lv_sub hl [2, 0] rfl)
        · have e_6 := i_eq c_5
          exact W.vret hx hb hr (fun t ht hW => ⟨⟨p1, rfl, ((Eq.symm he_1).trans (by (rw [lX6_takeTurns_1_s, if_neg c_1, if_pos c_5]); try rfl)).symm, w_ht ht hP⟩, hS.F ht⟩) hS.2.2 dX6_takeTurns_19
  exact L_1 (((200 : Int32).toInt - (0 : Int32).toInt).toNat + 1) 0 q _ _ _ (by omega) hI (by omega) (Eq.symm (by (rw [fX6_takeTurns]); try rfl)) hP hS (lv_sub hl [1, 0] rfl)
