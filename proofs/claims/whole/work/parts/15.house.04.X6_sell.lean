set_option maxHeartbeats 4000000 in
set_option maxRecDepth 100000 in
theorem mX6_sell (l : Launch) (G : va_G) (cy : ClassId) (a : Nat → Nat) (sz : Nat) (q : wSt) (x1 : Int32) (x2 : Int32) (hI : iI q) : CtI l yX6_sell wsX6_sell ({ frames := 4, cells := 0, slots := 0, locals := 89 }) G cy (cX cy a) xN sz q [.ref (a 0), .int x1, .int x2] (fX6_sell q x1 x2).1 (fX6_sell q x1 x2).2 := by
  refine Met.ofW (cc := cX6_sell) (maxL := 3) (ret := (some .boolean)) (by decide) rfl ?_
  intro p e s m args below meth c s₁ B hml hv
  obtain ⟨rfl, hsz, hP, hK, hD0, hN⟩ := hv
  have hx := B.exec
  have hb := B.bytes
  have hr := B.returns
  have hts := atoms_spec (ws := wsX6_sell) B.pre
  have hown : s.vm.findClass RX6 = some m.cls := findClass_of_methodNamed B.named
  have hlocks := B.notSynchronized
  subst hsz
  have hD : ∀ z : wSt, va_D (wA (cX cy a) s.heap.size) ((cX cy a) z) := fun z => w_self (xOk cy a).1 hD0 z
  have hA : ∀ z : Nat, s.heap.size ≤ z → wA (cX cy a) s.heap.size z := fun _ h => Or.inr h
  have hS : va_S (wA (cX cy a) s.heap.size) s.heap s.heap [] := va_S.rf
  have hl := lv_entry ([.ref (a 0), .int x1, .int x2]) (n := 3) (Nat.le_of_ble_eq_true rfl)
  rw [lg_entry_eq]
  generalize (lg_sl ([.ref (a 0), .int x1, .int x2]) ++ List.replicate (3 - (lg_sl ([.ref (a 0), .int x1, .int x2])).length) Slot.unset).toArray = ls at hl ⊢
  have hl : lv_has ls 3 [(0, .ref (a 0)), (1, .int x1), (2, .int x2)] := hl
  have h_1 := hts (.fieldLink RX6 26 RX6 "copies" "LVolumeHouse$Copies;") (by decide +kernel)
  have h_2 := (show ∀ w ∈ u_ws RX6 TX6 10, w ∈ wsX6_sell by decide +kernel)
  have h_3 := (hN.1 _ (List.mem_of_getElem? (i := 46) rfl) : va_Nw (.methodLinkNest RX6 97 yX1_isAt RX6) s)
  have h_4 := hts (.initialized RX1) (by decide +kernel)
  have h_5 := hts (.instanceMethod yX1_isAt) (by decide +kernel)
  have h_6 := hts (.selects RX1 yX1_isAt yX1_isAt) (by decide +kernel)
  have h_7 := (hN.1 _ (List.mem_of_getElem? (i := 47) rfl) : va_Nw (.methodLinkNest RX6 101 yX1_leaveFor RX6) s)
  have h_8 := hts (.instanceMethod yX1_leaveFor) (by decide +kernel)
  have h_9 := hts (.selects RX1 yX1_leaveFor yX1_leaveFor) (by decide +kernel)
  have h_10 := hts (.fieldLink RX6 58 RX6 "earned" "I") (by decide +kernel)
  have t_0 : (0 : Int32).toInt = 0 := rfl
  have t_1 : (1 : Int32).toInt = 1 := rfl
  have t_4 : (4 : Int32).toInt = 4 := rfl
  have t_1000 : (1000 : Int32).toInt = 1000 := rfl
  have hB := iI_b hI
  refine lv_aload_n hx hb dX6_sell_0 rfl (lv_at hl 0 rfl) ?_
  refine gfX6_26 hx hb hts h_2 hown hK hP h_1 dX6_sell_1 ?_
  refine lv_iload_n hx hb dX6_sell_4 rfl (lv_at hl 1 rfl) ?_
  refine lv_iconst (v := 0) hx hb dX6_sell_5 (by decide) ?_
  refine w_goI (va_runVN (As := [.int x1, .int 0]) (rest := []) ⟨hx, hb, hml, hown, hts⟩ (mX1_isAt l G cy a _ q x1 0 (by omega)) ⟨va_cnB 2 hts gX6_sell_X1_isAt_n97 rfl rfl rfl h_3 h_4 (by decide +kernel) ⟨Nat.le_of_ble_eq_true rfl, Nat.le_of_ble_eq_true rfl⟩, h_5, h_6⟩ (w_pre (xOk cy a) (va_recv hK hP (ci := 1) (q0 := 3) rfl rfl) hK hP hD hS hA hN) rfl rfl hl.1 rfl (lv_room (Nat.le_of_ble_eq_true rfl)) dX6_sell_6 ⟨Nat.le_of_ble_eq_true rfl, Nat.le_of_ble_eq_true rfl⟩) hD hS hA (fun H locs hP hS => ?_)
  have e_1 := tX1_isAt q x1 0
  refine lv_if_eq (tgt := 23) hx hb dX6_sell_9 (by decide) (fun c_2 => ?_) (fun c_2 => ?_)
  · have e_3 := i_eq c_2
    refine lv_iconst (v := 0) hx hb dX6_sell_23 (by decide) ?_
    have hF : (fX6_sell q x1 x2) = (0, q) := (show (fX6_sell q x1 x2) = (0, q) by (rw [fX6_sell, if_pos c_2]); try rfl)
    exact W.zret (v := 0) hx hb hr rfl (fun t ht hW => ⟨⟨0, q, rfl, ⟨(p_fst hF), (p_snd hF)⟩, w_ht ht hP⟩, hS.F ht⟩) hS.2.2 dX6_sell_24
  · have e_3 := i_ne c_2
    refine lv_iload_n hx hb dX6_sell_12 rfl (lv_at hl 2 rfl) ?_
    refine lv_iconst (v := 0) hx hb dX6_sell_13 (by decide) ?_
    refine lv_sipush (v := 1000) hx hb dX6_sell_14 (by decide) ?_
    refine w_goI (va_runS (As := [.int x2, .int 0, .int 1000]) (rest := []) ⟨hx, hb, hml, hown, hts⟩ (mX6_within l G cy a _ q x2 0 1000) (va_cwS 3 hts gX6_sell_X6_within rfl rfl rfl (by decide +kernel) ⟨Nat.le_of_ble_eq_true rfl, Nat.le_of_ble_eq_true rfl⟩) (w_preS (xOk cy a) hK hP hD hS hA hN) rfl rfl hl.1 rfl (lv_room (Nat.le_of_ble_eq_true rfl)) dX6_sell_17 ⟨Nat.le_of_ble_eq_true rfl, Nat.le_of_ble_eq_true rfl⟩) hD hS hA (fun H locs hP hS => ?_)
    have e_4 := tX6_within q x2 0 1000
    refine lv_if_ne (tgt := 25) hx hb dX6_sell_20 (by decide) (fun c_5 => ?_) (fun c_5 => ?_)
    · have e_6 := i_ne c_5
      refine lv_aload_n hx hb dX6_sell_25 rfl (lv_at hl 0 rfl) ?_
      refine gfX6_26 hx hb hts h_2 hown hK hP h_1 dX6_sell_26 ?_
      refine lv_iload_n hx hb dX6_sell_29 rfl (lv_at hl 1 rfl) ?_
      refine lv_iconst (v := 4) hx hb dX6_sell_30 (by decide) ?_
      refine w_goV (va_runVN (As := [.int x1, .int 4]) (rest := []) ⟨hx, hb, hml, hown, hts⟩ (mX1_leaveFor l G cy a _ q x1 4 (by omega) (by omega)) ⟨va_cnB 2 hts gX6_sell_X1_leaveFor_n101 rfl rfl rfl h_7 h_4 (by decide +kernel) ⟨Nat.le_of_ble_eq_true rfl, Nat.le_of_ble_eq_true rfl⟩, h_8, h_9⟩ (w_pre (xOk cy a) (va_recv hK hP (ci := 1) (q0 := 3) rfl rfl) hK hP hD hS hA hN) rfl rfl hl.1 rfl (lv_room (Nat.le_of_ble_eq_true rfl)) dX6_sell_31 ⟨Nat.le_of_ble_eq_true rfl, Nat.le_of_ble_eq_true rfl⟩) hD hS hA (fun H locs hP hS => ?_)
      refine lv_aload_n hx hb dX6_sell_34 rfl (lv_at hl 0 rfl) ?_
      refine lv_dup hx hb dX6_sell_35 rfl ?_
      refine gfX6_58 (v := ((fX1_leaveFor q x1 4) 32 0)) hx hb hts h_2 hown hK hP h_10 rfl dX6_sell_36 ?_
      refine lv_iload_n hx hb dX6_sell_39 rfl (lv_at hl 2 rfl) ?_
      refine lv_iadd hx hb dX6_sell_40 ?_
      refine pfX6_58 hx hb hts h_2 hown hK hP hD hS h_10 dX6_sell_41 (fun H locs hP hS => ?_)
      refine lv_iconst (v := 1) hx hb dX6_sell_44 (by decide) ?_
      have hF : (fX6_sell q x1 x2) = (1, (rset (fX1_leaveFor q x1 4) 32 (fun _ => (((fX1_leaveFor q x1 4) 32 0) + x2)))) := (show (fX6_sell q x1 x2) = (1, (rset (fX1_leaveFor q x1 4) 32 (fun _ => (((fX1_leaveFor q x1 4) 32 0) + x2)))) by (rw [fX6_sell, if_neg c_2, if_neg c_5]); try rfl)
      exact W.zret (v := 1) hx hb hr rfl (fun t ht hW => ⟨⟨1, (rset (fX1_leaveFor q x1 4) 32 (fun _ => (((fX1_leaveFor q x1 4) 32 0) + x2))), rfl, ⟨(p_fst hF), (p_snd hF)⟩, w_ht ht hP⟩, hS.F ht⟩) hS.2.2 dX6_sell_45
    · have e_6 := i_eq c_5
      refine lv_iconst (v := 0) hx hb dX6_sell_23 (by decide) ?_
      have hF : (fX6_sell q x1 x2) = (0, q) := (show (fX6_sell q x1 x2) = (0, q) by (rw [fX6_sell, if_neg c_2, if_pos c_5]); try rfl)
      exact W.zret (v := 0) hx hb hr rfl (fun t ht hW => ⟨⟨0, q, rfl, ⟨(p_fst hF), (p_snd hF)⟩, w_ht ht hP⟩, hS.F ht⟩) hS.2.2 dX6_sell_24
