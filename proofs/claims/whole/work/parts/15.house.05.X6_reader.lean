set_option maxHeartbeats 4000000 in
set_option maxRecDepth 100000 in
theorem mX6_reader (l : Launch) (G : va_G) (cy : ClassId) (a : Nat → Nat) (sz : Nat) (q : wSt) (x1 : Int32) (x2 : Int32) (x3 : Int32) (hI : iI q) : CtI l yX6_reader wsX6_reader ({ frames := 1, cells := 0, slots := 0, locals := 23 }) G cy (cX cy a) xN sz q [.ref (a 0), .int x1, .int x2, .int x3] (fX6_reader q x1 x2 x3).1 (fX6_reader q x1 x2 x3).2 := by
  refine Met.ofW (cc := cX6_reader) (maxL := 4) (ret := (some .int)) (by decide) rfl ?_
  intro p e s m args below meth c s₁ B hml hv
  obtain ⟨rfl, hsz, hP, hK, hD0, hN⟩ := hv
  have hx := B.exec
  have hb := B.bytes
  have hr := B.returns
  have hts := atoms_spec (ws := wsX6_reader) B.pre
  have hown : s.vm.findClass RX6 = some m.cls := findClass_of_methodNamed B.named
  have hlocks := B.notSynchronized
  subst hsz
  have hD : ∀ z : wSt, va_D (wA (cX cy a) s.heap.size) ((cX cy a) z) := fun z => w_self (xOk cy a).1 hD0 z
  have hA : ∀ z : Nat, s.heap.size ≤ z → wA (cX cy a) s.heap.size z := fun _ h => Or.inr h
  have hS : va_S (wA (cX cy a) s.heap.size) s.heap s.heap [] := va_S.rf
  have hl := lv_entry ([.ref (a 0), .int x1, .int x2, .int x3]) (n := 4) (Nat.le_of_ble_eq_true rfl)
  rw [lg_entry_eq]
  generalize (lg_sl ([.ref (a 0), .int x1, .int x2, .int x3]) ++ List.replicate (4 - (lg_sl ([.ref (a 0), .int x1, .int x2, .int x3])).length) Slot.unset).toArray = ls at hl ⊢
  have hl : lv_has ls 4 [(0, .ref (a 0)), (1, .int x1), (2, .int x2), (3, .int x3)] := hl
  have h_1 := hts (.fieldLink RX6 33 RX6 "readers" "LVolumeHouse$Readers;") (by decide +kernel)
  have h_2 := (show ∀ w ∈ u_ws RX6 TX6 10, w ∈ wsX6_reader by decide +kernel)
  have h_3 := (hN.1 _ (List.mem_of_getElem? (i := 6) rfl) : va_Nw (.fieldLinkNest RX6 105 RX3 "came" "I" RX6) s)
  have h_4 := (show ∀ w ∈ u_ws RX3 TX3 7, w ∈ wsX6_reader by decide +kernel)
  have h_5 := (hN.1 _ (List.mem_of_getElem? (i := 48) rfl) : va_Nw (.methodLinkNest RX6 106 yX3_add RX6) s)
  have h_6 := hts (.initialized RX3) (by decide +kernel)
  have h_7 := hts (.instanceMethod yX3_add) (by decide +kernel)
  have h_8 := hts (.selects RX3 yX3_add yX3_add) (by decide +kernel)
  have t_m1 : ((-1) : Int32).toInt = -1 := rfl
  have t_0 : (0 : Int32).toInt = 0 := rfl
  have t_2 : (2 : Int32).toInt = 2 := rfl
  have t_9 : (9 : Int32).toInt = 9 := rfl
  have t_20 : (20 : Int32).toInt = 20 := rfl
  have t_5000 : (5000 : Int32).toInt = 5000 := rfl
  have hB := iI_b hI
  refine lv_iload_n hx hb dX6_reader_0 rfl (lv_at hl 1 rfl) ?_
  refine lv_iconst (v := 0) hx hb dX6_reader_1 (by decide) ?_
  refine lv_iconst (v := 2) hx hb dX6_reader_2 (by decide) ?_
  refine w_goI (va_runS (As := [.int x1, .int 0, .int 2]) (rest := []) ⟨hx, hb, hml, hown, hts⟩ (mX6_within l G cy a _ q x1 0 2) (va_cwS 3 hts gX6_reader_X6_within rfl rfl rfl (by decide +kernel) ⟨Nat.le_of_ble_eq_true rfl, Nat.le_of_ble_eq_true rfl⟩) (w_preS (xOk cy a) hK hP hD hS hA hN) rfl rfl hl.1 rfl (lv_room (Nat.le_of_ble_eq_true rfl)) dX6_reader_3 ⟨Nat.le_of_ble_eq_true rfl, Nat.le_of_ble_eq_true rfl⟩) hD hS hA (fun H locs hP hS => ?_)
  have e_1 := tX6_within q x1 0 2
  refine lv_if_eq (tgt := 19) hx hb dX6_reader_6 (by decide) (fun c_2 => ?_) (fun c_2 => ?_)
  · have e_3 := i_eq c_2
    refine lv_iconst (v := (-1)) hx hb dX6_reader_19 (by decide) ?_
    have hF : (fX6_reader q x1 x2 x3) = ((-1), q) := (show (fX6_reader q x1 x2 x3) = ((-1), q) by (rw [fX6_reader, if_pos c_2]); try rfl)
    exact W.iret (v := (-1)) hx hb hr (fun t ht hW => ⟨⟨(-1), q, rfl, ⟨(p_fst hF), (p_snd hF)⟩, w_ht ht hP⟩, hS.F ht⟩) hS.2.2 dX6_reader_20
  · have e_3 := i_ne c_2
    refine lv_iload_n hx hb dX6_reader_9 rfl (lv_at hl 2 rfl) ?_
    refine lv_iconst (v := 0) hx hb dX6_reader_10 (by decide) ?_
    refine lv_bipush (v := 9) hx hb dX6_reader_11 (by decide) ?_
    refine w_goI (va_runS (As := [.int x2, .int 0, .int 9]) (rest := []) ⟨hx, hb, hml, hown, hts⟩ (mX6_within l G cy a _ q x2 0 9) (va_cwS 3 hts gX6_reader_X6_within rfl rfl rfl (by decide +kernel) ⟨Nat.le_of_ble_eq_true rfl, Nat.le_of_ble_eq_true rfl⟩) (w_preS (xOk cy a) hK hP hD hS hA hN) rfl rfl hl.1 rfl (lv_room (Nat.le_of_ble_eq_true rfl)) dX6_reader_13 ⟨Nat.le_of_ble_eq_true rfl, Nat.le_of_ble_eq_true rfl⟩) hD hS hA (fun H locs hP hS => ?_)
    have e_4 := tX6_within q x2 0 9
    refine lv_if_ne (tgt := 21) hx hb dX6_reader_16 (by decide) (fun c_5 => ?_) (fun c_5 => ?_)
    · have e_6 := i_ne c_5
      refine lv_iload_n hx hb dX6_reader_21 rfl (lv_at hl 3 rfl) ?_
      refine lv_iconst (v := 0) hx hb dX6_reader_22 (by decide) ?_
      refine lv_sipush (v := 5000) hx hb dX6_reader_23 (by decide) ?_
      refine w_goI (va_runS (As := [.int x3, .int 0, .int 5000]) (rest := []) ⟨hx, hb, hml, hown, hts⟩ (mX6_within l G cy a _ q x3 0 5000) (va_cwS 3 hts gX6_reader_X6_within rfl rfl rfl (by decide +kernel) ⟨Nat.le_of_ble_eq_true rfl, Nat.le_of_ble_eq_true rfl⟩) (w_preS (xOk cy a) hK hP hD hS hA hN) rfl rfl hl.1 rfl (lv_room (Nat.le_of_ble_eq_true rfl)) dX6_reader_26 ⟨Nat.le_of_ble_eq_true rfl, Nat.le_of_ble_eq_true rfl⟩) hD hS hA (fun H locs hP hS => ?_)
      have e_7 := tX6_within q x3 0 5000
      refine lv_if_eq (tgt := 44) hx hb dX6_reader_29 (by decide) (fun c_8 => ?_) (fun c_8 => ?_)
      · have e_9 := i_eq c_8
        refine lv_iconst (v := (-1)) hx hb dX6_reader_44 (by decide) ?_
        have hF : (fX6_reader q x1 x2 x3) = ((-1), q) := (show (fX6_reader q x1 x2 x3) = ((-1), q) by (rw [fX6_reader, if_neg c_2, if_neg c_5, if_pos c_8]); try rfl)
        exact W.iret (v := (-1)) hx hb hr (fun t ht hW => ⟨⟨(-1), q, rfl, ⟨(p_fst hF), (p_snd hF)⟩, w_ht ht hP⟩, hS.F ht⟩) hS.2.2 dX6_reader_45
      · have e_9 := i_ne c_8
        refine lv_aload_n hx hb dX6_reader_32 rfl (lv_at hl 0 rfl) ?_
        refine gfX6_33 hx hb hts h_2 hown hK hP h_1 dX6_reader_33 ?_
        refine gfX6_105 (v := (q 39 0)) hx hb hts h_4 hown hK hP h_3 rfl dX6_reader_36 ?_
        refine lv_bipush (v := 20) hx hb dX6_reader_39 (by decide) ?_
        refine lv_icmp_lt (tgt := 46) hx hb dX6_reader_41 (by decide) (fun c_10 => ?_) (fun c_10 => ?_)
        · have e_11 := i_lt c_10
          refine lv_aload_n hx hb dX6_reader_46 rfl (lv_at hl 0 rfl) ?_
          refine gfX6_33 hx hb hts h_2 hown hK hP h_1 dX6_reader_47 ?_
          refine lv_iload_n hx hb dX6_reader_50 rfl (lv_at hl 1 rfl) ?_
          refine lv_iload_n hx hb dX6_reader_51 rfl (lv_at hl 2 rfl) ?_
          refine lv_iload_n hx hb dX6_reader_52 rfl (lv_at hl 3 rfl) ?_
          refine w_goI (va_runVN (As := [.int x1, .int x2, .int x3]) (rest := []) ⟨hx, hb, hml, hown, hts⟩ (mX3_add l G cy a _ q x1 x2 x3 (by omega) (by omega)) ⟨va_cnB 3 hts gX6_reader_X3_add_n106 rfl rfl rfl h_5 h_6 (by decide +kernel) ⟨Nat.le_of_ble_eq_true rfl, Nat.le_of_ble_eq_true rfl⟩, h_7, h_8⟩ (w_pre (xOk cy a) (va_recv hK hP (ci := 3) (q0 := 4) rfl rfl) hK hP hD hS hA hN) rfl rfl hl.1 rfl (lv_room (Nat.le_of_ble_eq_true rfl)) dX6_reader_53 ⟨Nat.le_of_ble_eq_true rfl, Nat.le_of_ble_eq_true rfl⟩) hD hS hA (fun H locs hP hS => ?_)
          have hF : (fX6_reader q x1 x2 x3) = ((fX3_add q x1 x2 x3).1, (fX3_add q x1 x2 x3).2) := (show (fX6_reader q x1 x2 x3) = ((fX3_add q x1 x2 x3).1, (fX3_add q x1 x2 x3).2) by (rw [fX6_reader, if_neg c_2, if_neg c_5, if_neg c_8, if_pos c_10]); try rfl)
          exact W.iret (v := (fX3_add q x1 x2 x3).1) hx hb hr (fun t ht hW => ⟨⟨(fX3_add q x1 x2 x3).1, (fX3_add q x1 x2 x3).2, rfl, ⟨(p_fst hF), (p_snd hF)⟩, w_ht ht hP⟩, hS.F ht⟩) hS.2.2 dX6_reader_56
        · have e_11 := i_nlt c_10
          refine lv_iconst (v := (-1)) hx hb dX6_reader_44 (by decide) ?_
          have hF : (fX6_reader q x1 x2 x3) = ((-1), q) := (show (fX6_reader q x1 x2 x3) = ((-1), q) by (rw [fX6_reader, if_neg c_2, if_neg c_5, if_neg c_8, if_neg c_10]); try rfl)
          exact W.iret (v := (-1)) hx hb hr (fun t ht hW => ⟨⟨(-1), q, rfl, ⟨(p_fst hF), (p_snd hF)⟩, w_ht ht hP⟩, hS.F ht⟩) hS.2.2 dX6_reader_45
    · have e_6 := i_eq c_5
      refine lv_iconst (v := (-1)) hx hb dX6_reader_19 (by decide) ?_
      have hF : (fX6_reader q x1 x2 x3) = ((-1), q) := (show (fX6_reader q x1 x2 x3) = ((-1), q) by (rw [fX6_reader, if_neg c_2, if_pos c_5]); try rfl)
      exact W.iret (v := (-1)) hx hb hr (fun t ht hW => ⟨⟨(-1), q, rfl, ⟨(p_fst hF), (p_snd hF)⟩, w_ht ht hP⟩, hS.F ht⟩) hS.2.2 dX6_reader_20
