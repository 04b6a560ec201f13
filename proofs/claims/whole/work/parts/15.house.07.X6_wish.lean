set_option maxHeartbeats 4000000 in
set_option maxRecDepth 100000 in
theorem mX6_wish (l : Launch) (G : va_G) (cy : ClassId) (a : Nat → Nat) (sz : Nat) (q : wSt) (x1 : Int32) (x2 : Int32) (hI : iI q) : CtI l yX6_wish wsX6_wish ({ frames := 1, cells := 0, slots := 0, locals := 24 }) G cy (cX cy a) xN sz q [.ref (a 0), .int x1, .int x2] (fX6_wish q x1 x2).1 (fX6_wish q x1 x2).2 := by
  refine Met.ofW (cc := cX6_wish) (maxL := 3) (ret := (some .int)) (by decide) rfl ?_
  intro p e s m args below meth c s₁ B hml hv
  obtain ⟨rfl, hsz, hP, hK, hD0, hN⟩ := hv
  have hx := B.exec
  have hb := B.bytes
  have hr := B.returns
  have hts := atoms_spec (ws := wsX6_wish) B.pre
  have hown : s.vm.findClass RX6 = some m.cls := findClass_of_methodNamed B.named
  have hlocks := B.notSynchronized
  subst hsz
  have hD : ∀ z : wSt, va_D (wA (cX cy a) s.heap.size) ((cX cy a) z) := fun z => w_self (xOk cy a).1 hD0 z
  have hA : ∀ z : Nat, s.heap.size ≤ z → wA (cX cy a) s.heap.size z := fun _ h => Or.inr h
  have hS : va_S (wA (cX cy a) s.heap.size) s.heap s.heap [] := va_S.rf
  have hl := lv_entry ([.ref (a 0), .int x1, .int x2]) (n := 3) (Nat.le_of_ble_eq_true rfl)
  rw [lg_entry_eq]
  generalize (lg_sl ([.ref (a 0), .int x1, .int x2]) ++ List.replicate (3 - (lg_sl ([.ref (a 0), .int x1, .int x2])).length) Slot.unset).toArray = ls at hl ⊢
  have hl : lv_has ls 3 [(0, .ref (a 0)), (1, .int x1), (2, .int x2)] := hl
  have h_1 := hts (.fieldLink RX6 33 RX6 "readers" "LVolumeHouse$Readers;") (by decide +kernel)
  have h_2 := (show ∀ w ∈ u_ws RX6 TX6 10, w ∈ wsX6_wish by decide +kernel)
  have h_3 := (hN.1 _ (List.mem_of_getElem? (i := 49) rfl) : va_Nw (.methodLinkNest RX6 109 yX3_has RX6) s)
  have h_4 := hts (.initialized RX3) (by decide +kernel)
  have h_5 := hts (.instanceMethod yX3_has) (by decide +kernel)
  have h_6 := hts (.selects RX3 yX3_has yX3_has) (by decide +kernel)
  have h_7 := hts (.fieldLink RX6 10 RX6 "titles" "LVolumeHouse$Titles;") (by decide +kernel)
  have h_8 := (hN.1 _ (List.mem_of_getElem? (i := 40) rfl) : va_Nw (.methodLinkNest RX6 75 yX4_has RX6) s)
  have h_9 := hts (.initialized RX4) (by decide +kernel)
  have h_10 := hts (.instanceMethod yX4_has) (by decide +kernel)
  have h_11 := hts (.selects RX4 yX4_has yX4_has) (by decide +kernel)
  have h_12 := hts (.fieldLink RX6 40 RX6 "wishes" "LVolumeHouse$Wishes;") (by decide +kernel)
  have h_13 := (hN.1 _ (List.mem_of_getElem? (i := 8) rfl) : va_Nw (.fieldLinkNest RX6 114 RX5 "came" "I" RX6) s)
  have h_14 := (show ∀ w ∈ u_ws RX5 TX5 7, w ∈ wsX6_wish by decide +kernel)
  have h_15 := (hN.1 _ (List.mem_of_getElem? (i := 50) rfl) : va_Nw (.methodLinkNest RX6 115 yX5_hasOpen RX6) s)
  have h_16 := hts (.initialized RX5) (by decide +kernel)
  have h_17 := hts (.instanceMethod yX5_hasOpen) (by decide +kernel)
  have h_18 := hts (.selects RX5 yX5_hasOpen yX5_hasOpen) (by decide +kernel)
  have h_19 := hts (.fieldLink RX6 51 RX6 "now" "I") (by decide +kernel)
  have h_20 := (hN.1 _ (List.mem_of_getElem? (i := 51) rfl) : va_Nw (.methodLinkNest RX6 118 yX5_add RX6) s)
  have h_21 := hts (.instanceMethod yX5_add) (by decide +kernel)
  have h_22 := hts (.selects RX5 yX5_add yX5_add) (by decide +kernel)
  have t_m1 : ((-1) : Int32).toInt = -1 := rfl
  have t_0 : (0 : Int32).toInt = 0 := rfl
  have t_100 : (100 : Int32).toInt = 100 := rfl
  have hB := iI_b hI
  refine lv_aload_n hx hb dX6_wish_0 rfl (lv_at hl 0 rfl) ?_
  refine gfX6_33 hx hb hts h_2 hown hK hP h_1 dX6_wish_1 ?_
  refine lv_iload_n hx hb dX6_wish_4 rfl (lv_at hl 1 rfl) ?_
  refine w_goI (va_runVN (As := [.int x1]) (rest := []) ⟨hx, hb, hml, hown, hts⟩ (mX3_has l G cy a _ q x1) ⟨va_cnB 1 hts gX6_wish_X3_has_n109 rfl rfl rfl h_3 h_4 (by decide +kernel) ⟨Nat.le_of_ble_eq_true rfl, Nat.le_of_ble_eq_true rfl⟩, h_5, h_6⟩ (w_pre (xOk cy a) (va_recv hK hP (ci := 3) (q0 := 4) rfl rfl) hK hP hD hS hA hN) rfl rfl hl.1 rfl (lv_room (Nat.le_of_ble_eq_true rfl)) dX6_wish_5 ⟨Nat.le_of_ble_eq_true rfl, Nat.le_of_ble_eq_true rfl⟩) hD hS hA (fun H locs hP hS => ?_)
  have e_1 := tX3_has q x1
  refine lv_if_eq (tgt := 34) hx hb dX6_wish_8 (by decide) (fun c_2 => ?_) (fun c_2 => ?_)
  · have e_3 := i_eq c_2
    refine lv_iconst (v := (-1)) hx hb dX6_wish_34 (by decide) ?_
    have hF : (fX6_wish q x1 x2) = ((-1), q) := (show (fX6_wish q x1 x2) = ((-1), q) by (rw [fX6_wish, if_pos c_2]); try rfl)
    exact W.iret (v := (-1)) hx hb hr (fun t ht hW => ⟨⟨(-1), q, rfl, ⟨(p_fst hF), (p_snd hF)⟩, w_ht ht hP⟩, hS.F ht⟩) hS.2.2 dX6_wish_35
  · have e_3 := i_ne c_2
    refine lv_aload_n hx hb dX6_wish_11 rfl (lv_at hl 0 rfl) ?_
    refine gfX6_10 hx hb hts h_2 hown hK hP h_7 dX6_wish_12 ?_
    refine lv_iload_n hx hb dX6_wish_15 rfl (lv_at hl 2 rfl) ?_
    refine w_goI (va_runVN (As := [.int x2]) (rest := []) ⟨hx, hb, hml, hown, hts⟩ (mX4_has l G cy a _ q x2) ⟨va_cnB 1 hts gX6_wish_X4_has_n75 rfl rfl rfl h_8 h_9 (by decide +kernel) ⟨Nat.le_of_ble_eq_true rfl, Nat.le_of_ble_eq_true rfl⟩, h_10, h_11⟩ (w_pre (xOk cy a) (va_recv hK hP (ci := 4) (q0 := 1) rfl rfl) hK hP hD hS hA hN) rfl rfl hl.1 rfl (lv_room (Nat.le_of_ble_eq_true rfl)) dX6_wish_16 ⟨Nat.le_of_ble_eq_true rfl, Nat.le_of_ble_eq_true rfl⟩) hD hS hA (fun H locs hP hS => ?_)
    have e_4 := tX4_has q x2
    refine lv_if_eq (tgt := 34) hx hb dX6_wish_19 (by decide) (fun c_5 => ?_) (fun c_5 => ?_)
    · have e_6 := i_eq c_5
      refine lv_iconst (v := (-1)) hx hb dX6_wish_34 (by decide) ?_
      have hF : (fX6_wish q x1 x2) = ((-1), q) := (show (fX6_wish q x1 x2) = ((-1), q) by (rw [fX6_wish, if_neg c_2, if_pos c_5]); try rfl)
      exact W.iret (v := (-1)) hx hb hr (fun t ht hW => ⟨⟨(-1), q, rfl, ⟨(p_fst hF), (p_snd hF)⟩, w_ht ht hP⟩, hS.F ht⟩) hS.2.2 dX6_wish_35
    · have e_6 := i_ne c_5
      refine lv_aload_n hx hb dX6_wish_22 rfl (lv_at hl 0 rfl) ?_
      refine gfX6_40 hx hb hts h_2 hown hK hP h_12 dX6_wish_23 ?_
      refine gfX6_114 (v := (q 40 0)) hx hb hts h_14 hown hK hP h_13 rfl dX6_wish_26 ?_
      refine lv_bipush (v := 100) hx hb dX6_wish_29 (by decide) ?_
      refine lv_icmp_lt (tgt := 36) hx hb dX6_wish_31 (by decide) (fun c_7 => ?_) (fun c_7 => ?_)
      · have e_8 := i_lt c_7
        refine lv_aload_n hx hb dX6_wish_36 rfl (lv_at hl 0 rfl) ?_
        refine gfX6_40 hx hb hts h_2 hown hK hP h_12 dX6_wish_37 ?_
        refine lv_iload_n hx hb dX6_wish_40 rfl (lv_at hl 1 rfl) ?_
        refine lv_iload_n hx hb dX6_wish_41 rfl (lv_at hl 2 rfl) ?_
        refine w_goI (va_runVN (As := [.int x1, .int x2]) (rest := []) ⟨hx, hb, hml, hown, hts⟩ (mX5_hasOpen l G cy a _ q x1 x2 (by omega)) ⟨va_cnB 2 hts gX6_wish_X5_hasOpen_n115 rfl rfl rfl h_15 h_16 (by decide +kernel) ⟨Nat.le_of_ble_eq_true rfl, Nat.le_of_ble_eq_true rfl⟩, h_17, h_18⟩ (w_pre (xOk cy a) (va_recv hK hP (ci := 5) (q0 := 5) rfl rfl) hK hP hD hS hA hN) rfl rfl hl.1 rfl (lv_room (Nat.le_of_ble_eq_true rfl)) dX6_wish_42 ⟨Nat.le_of_ble_eq_true rfl, Nat.le_of_ble_eq_true rfl⟩) hD hS hA (fun H locs hP hS => ?_)
        refine lv_if_eq (tgt := 50) hx hb dX6_wish_45 (by decide) (fun c_9 => ?_) (fun c_9 => ?_)
        · have e_10 := i_eq c_9
          refine lv_aload_n hx hb dX6_wish_50 rfl (lv_at hl 0 rfl) ?_
          refine gfX6_40 hx hb hts h_2 hown hK hP h_12 dX6_wish_51 ?_
          refine lv_iload_n hx hb dX6_wish_54 rfl (lv_at hl 1 rfl) ?_
          refine lv_iload_n hx hb dX6_wish_55 rfl (lv_at hl 2 rfl) ?_
          refine lv_aload_n hx hb dX6_wish_56 rfl (lv_at hl 0 rfl) ?_
          refine gfX6_51 (v := (q 30 0)) hx hb hts h_2 hown hK hP h_19 rfl dX6_wish_57 ?_
          refine w_goI (va_runVN (As := [.int x1, .int x2, .int (q 30 0)]) (rest := []) ⟨hx, hb, hml, hown, hts⟩ (mX5_add l G cy a _ q x1 x2 (q 30 0) (by omega) (by omega)) ⟨va_cnB 3 hts gX6_wish_X5_add_n118 rfl rfl rfl h_20 h_16 (by decide +kernel) ⟨Nat.le_of_ble_eq_true rfl, Nat.le_of_ble_eq_true rfl⟩, h_21, h_22⟩ (w_pre (xOk cy a) (va_recv hK hP (ci := 5) (q0 := 5) rfl rfl) hK hP hD hS hA hN) rfl rfl hl.1 rfl (lv_room (Nat.le_of_ble_eq_true rfl)) dX6_wish_60 ⟨Nat.le_of_ble_eq_true rfl, Nat.le_of_ble_eq_true rfl⟩) hD hS hA (fun H locs hP hS => ?_)
          have hF : (fX6_wish q x1 x2) = ((fX5_add q x1 x2 (q 30 0)).1, (fX5_add q x1 x2 (q 30 0)).2) := (show (fX6_wish q x1 x2) = ((fX5_add q x1 x2 (q 30 0)).1, (fX5_add q x1 x2 (q 30 0)).2) by (rw [fX6_wish, if_neg c_2, if_neg c_5, if_pos c_7, if_pos c_9]); try rfl)
          exact W.iret (v := (fX5_add q x1 x2 (q 30 0)).1) hx hb hr (fun t ht hW => ⟨⟨(fX5_add q x1 x2 (q 30 0)).1, (fX5_add q x1 x2 (q 30 0)).2, rfl, ⟨(p_fst hF), (p_snd hF)⟩, w_ht ht hP⟩, hS.F ht⟩) hS.2.2 dX6_wish_63
        · have e_10 := i_ne c_9
          refine lv_iconst (v := (-1)) hx hb dX6_wish_48 (by decide) ?_
          have hF : (fX6_wish q x1 x2) = ((-1), q) := (show (fX6_wish q x1 x2) = ((-1), q) by (rw [fX6_wish, if_neg c_2, if_neg c_5, if_pos c_7, if_neg c_9]); try rfl)
          exact W.iret (v := (-1)) hx hb hr (fun t ht hW => ⟨⟨(-1), q, rfl, ⟨(p_fst hF), (p_snd hF)⟩, w_ht ht hP⟩, hS.F ht⟩) hS.2.2 dX6_wish_49
      · have e_8 := i_nlt c_7
        refine lv_iconst (v := (-1)) hx hb dX6_wish_34 (by decide) ?_
        have hF : (fX6_wish q x1 x2) = ((-1), q) := (show (fX6_wish q x1 x2) = ((-1), q) by (rw [fX6_wish, if_neg c_2, if_neg c_5, if_neg c_7]); try rfl)
        exact W.iret (v := (-1)) hx hb hr (fun t ht hW => ⟨⟨(-1), q, rfl, ⟨(p_fst hF), (p_snd hF)⟩, w_ht ht hP⟩, hS.F ht⟩) hS.2.2 dX6_wish_35
