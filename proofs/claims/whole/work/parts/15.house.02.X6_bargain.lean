set_option maxHeartbeats 4000000 in
set_option maxRecDepth 100000 in
theorem mX6_bargain (l : Launch) (G : va_G) (cy : ClassId) (a : Nat → Nat) (sz : Nat) (q : wSt) (x1 : Int32) (x2 : Int32) (x3 : Int32) (x4 : Int32) (x5 : Int32) (hI : iI q) : CtI l yX6_bargain wsX6_bargain ({ frames := 1, cells := 0, slots := 0, locals := 25 }) G cy (cX cy a) xN sz q [.ref (a 0), .int x1, .int x2, .int x3, .int x4, .int x5] (fX6_bargain q x1 x2 x3 x4 x5).1 (fX6_bargain q x1 x2 x3 x4 x5).2 := by
  refine Met.ofW (cc := cX6_bargain) (maxL := 6) (ret := (some .boolean)) (by decide) rfl ?_
  intro p e s m args below meth c s₁ B hml hv
  obtain ⟨rfl, hsz, hP, hK, hD0, hN⟩ := hv
  have hx := B.exec
  have hb := B.bytes
  have hr := B.returns
  have hts := atoms_spec (ws := wsX6_bargain) B.pre
  have hown : s.vm.findClass RX6 = some m.cls := findClass_of_methodNamed B.named
  have hlocks := B.notSynchronized
  subst hsz
  have hD : ∀ z : wSt, va_D (wA (cX cy a) s.heap.size) ((cX cy a) z) := fun z => w_self (xOk cy a).1 hD0 z
  have hA : ∀ z : Nat, s.heap.size ≤ z → wA (cX cy a) s.heap.size z := fun _ h => Or.inr h
  have hS : va_S (wA (cX cy a) s.heap.size) s.heap s.heap [] := va_S.rf
  have hl := lv_entry ([.ref (a 0), .int x1, .int x2, .int x3, .int x4, .int x5]) (n := 6) (Nat.le_of_ble_eq_true rfl)
  rw [lg_entry_eq]
  generalize (lg_sl ([.ref (a 0), .int x1, .int x2, .int x3, .int x4, .int x5]) ++ List.replicate (6 - (lg_sl ([.ref (a 0), .int x1, .int x2, .int x3, .int x4, .int x5])).length) Slot.unset).toArray = ls at hl ⊢
  have hl : lv_has ls 6 [(0, .ref (a 0)), (1, .int x1), (2, .int x2), (3, .int x3), (4, .int x4), (5, .int x5)] := hl
  have h_1 := hts (.fieldLink RX6 10 RX6 "titles" "LVolumeHouse$Titles;") (by decide +kernel)
  have h_2 := (show ∀ w ∈ u_ws RX6 TX6 10, w ∈ wsX6_bargain by decide +kernel)
  have h_3 := (hN.1 _ (List.mem_of_getElem? (i := 40) rfl) : va_Nw (.methodLinkNest RX6 75 yX4_has RX6) s)
  have h_4 := hts (.initialized RX4) (by decide +kernel)
  have h_5 := hts (.instanceMethod yX4_has) (by decide +kernel)
  have h_6 := hts (.selects RX4 yX4_has yX4_has) (by decide +kernel)
  have h_7 := hts (.fieldLink RX6 19 RX6 "bargains" "LVolumeHouse$Bargains;") (by decide +kernel)
  have h_8 := (hN.1 _ (List.mem_of_getElem? (i := 4) rfl) : va_Nw (.fieldLinkNest RX6 79 RX0 "came" "I" RX6) s)
  have h_9 := (show ∀ w ∈ u_ws RX0 TX0 6, w ∈ wsX6_bargain by decide +kernel)
  have h_10 := (hN.1 _ (List.mem_of_getElem? (i := 41) rfl) : va_Nw (.methodLinkNest RX6 80 yX0_add RX6) s)
  have h_11 := hts (.initialized RX0) (by decide +kernel)
  have h_12 := hts (.instanceMethod yX0_add) (by decide +kernel)
  have h_13 := hts (.selects RX0 yX0_add yX0_add) (by decide +kernel)
  have t_0 : (0 : Int32).toInt = 0 := rfl
  have t_1 : (1 : Int32).toInt = 1 := rfl
  have t_40 : (40 : Int32).toInt = 40 := rfl
  have t_200 : (200 : Int32).toInt = 200 := rfl
  have t_1000 : (1000 : Int32).toInt = 1000 := rfl
  have t_5000 : (5000 : Int32).toInt = 5000 := rfl
  have hB := iI_b hI
  refine lv_aload_n hx hb dX6_bargain_0 rfl (lv_at hl 0 rfl) ?_
  refine gfX6_10 hx hb hts h_2 hown hK hP h_1 dX6_bargain_1 ?_
  refine lv_iload_n hx hb dX6_bargain_4 rfl (lv_at hl 1 rfl) ?_
  refine w_goI (va_runVN (As := [.int x1]) (rest := []) ⟨hx, hb, hml, hown, hts⟩ (mX4_has l G cy a _ q x1) ⟨va_cnB 1 hts gX6_bargain_X4_has_n75 rfl rfl rfl h_3 h_4 (by decide +kernel) ⟨Nat.le_of_ble_eq_true rfl, Nat.le_of_ble_eq_true rfl⟩, h_5, h_6⟩ (w_pre (xOk cy a) (va_recv hK hP (ci := 4) (q0 := 1) rfl rfl) hK hP hD hS hA hN) rfl rfl hl.1 rfl (lv_room (Nat.le_of_ble_eq_true rfl)) dX6_bargain_5 ⟨Nat.le_of_ble_eq_true rfl, Nat.le_of_ble_eq_true rfl⟩) hD hS hA (fun H locs hP hS => ?_)
  have e_1 := tX4_has q x1
  refine lv_if_eq (tgt := 33) hx hb dX6_bargain_8 (by decide) (fun c_2 => ?_) (fun c_2 => ?_)
  · have e_3 := i_eq c_2
    refine lv_iconst (v := 0) hx hb dX6_bargain_33 (by decide) ?_
    have hF : (fX6_bargain q x1 x2 x3 x4 x5) = (0, q) := (show (fX6_bargain q x1 x2 x3 x4 x5) = (0, q) by (rw [fX6_bargain, if_pos c_2]); try rfl)
    exact W.zret (v := 0) hx hb hr rfl (fun t ht hW => ⟨⟨0, q, rfl, ⟨(p_fst hF), (p_snd hF)⟩, w_ht ht hP⟩, hS.F ht⟩) hS.2.2 dX6_bargain_34
  · have e_3 := i_ne c_2
    refine lv_iload_n hx hb dX6_bargain_11 rfl (lv_at hl 2 rfl) ?_
    refine lv_iconst (v := 0) hx hb dX6_bargain_12 (by decide) ?_
    refine lv_sipush (v := 5000) hx hb dX6_bargain_13 (by decide) ?_
    refine w_goI (va_runS (As := [.int x2, .int 0, .int 5000]) (rest := []) ⟨hx, hb, hml, hown, hts⟩ (mX6_within l G cy a _ q x2 0 5000) (va_cwS 3 hts gX6_bargain_X6_within rfl rfl rfl (by decide +kernel) ⟨Nat.le_of_ble_eq_true rfl, Nat.le_of_ble_eq_true rfl⟩) (w_preS (xOk cy a) hK hP hD hS hA hN) rfl rfl hl.1 rfl (lv_room (Nat.le_of_ble_eq_true rfl)) dX6_bargain_16 ⟨Nat.le_of_ble_eq_true rfl, Nat.le_of_ble_eq_true rfl⟩) hD hS hA (fun H locs hP hS => ?_)
    have e_4 := tX6_within q x2 0 5000
    refine lv_if_eq (tgt := 33) hx hb dX6_bargain_19 (by decide) (fun c_5 => ?_) (fun c_5 => ?_)
    · have e_6 := i_eq c_5
      refine lv_iconst (v := 0) hx hb dX6_bargain_33 (by decide) ?_
      have hF : (fX6_bargain q x1 x2 x3 x4 x5) = (0, q) := (show (fX6_bargain q x1 x2 x3 x4 x5) = (0, q) by (rw [fX6_bargain, if_neg c_2, if_pos c_5]); try rfl)
      exact W.zret (v := 0) hx hb hr rfl (fun t ht hW => ⟨⟨0, q, rfl, ⟨(p_fst hF), (p_snd hF)⟩, w_ht ht hP⟩, hS.F ht⟩) hS.2.2 dX6_bargain_34
    · have e_6 := i_ne c_5
      refine lv_iload_n hx hb dX6_bargain_22 rfl (lv_at hl 3 rfl) ?_
      refine lv_iconst (v := 0) hx hb dX6_bargain_23 (by decide) ?_
      refine lv_sipush (v := 200) hx hb dX6_bargain_24 (by decide) ?_
      refine w_goI (va_runS (As := [.int x3, .int 0, .int 200]) (rest := []) ⟨hx, hb, hml, hown, hts⟩ (mX6_within l G cy a _ q x3 0 200) (va_cwS 3 hts gX6_bargain_X6_within rfl rfl rfl (by decide +kernel) ⟨Nat.le_of_ble_eq_true rfl, Nat.le_of_ble_eq_true rfl⟩) (w_preS (xOk cy a) hK hP hD hS hA hN) rfl rfl hl.1 rfl (lv_room (Nat.le_of_ble_eq_true rfl)) dX6_bargain_27 ⟨Nat.le_of_ble_eq_true rfl, Nat.le_of_ble_eq_true rfl⟩) hD hS hA (fun H locs hP hS => ?_)
      have e_7 := tX6_within q x3 0 200
      refine lv_if_ne (tgt := 35) hx hb dX6_bargain_30 (by decide) (fun c_8 => ?_) (fun c_8 => ?_)
      · have e_9 := i_ne c_8
        refine lv_iload hx hb dX6_bargain_35 (lv_at hl 4 rfl) ?_
        refine lv_iconst (v := 0) hx hb dX6_bargain_37 (by decide) ?_
        refine lv_sipush (v := 1000) hx hb dX6_bargain_38 (by decide) ?_
        refine w_goI (va_runS (As := [.int x4, .int 0, .int 1000]) (rest := []) ⟨hx, hb, hml, hown, hts⟩ (mX6_within l G cy a _ q x4 0 1000) (va_cwS 3 hts gX6_bargain_X6_within rfl rfl rfl (by decide +kernel) ⟨Nat.le_of_ble_eq_true rfl, Nat.le_of_ble_eq_true rfl⟩) (w_preS (xOk cy a) hK hP hD hS hA hN) rfl rfl hl.1 rfl (lv_room (Nat.le_of_ble_eq_true rfl)) dX6_bargain_41 ⟨Nat.le_of_ble_eq_true rfl, Nat.le_of_ble_eq_true rfl⟩) hD hS hA (fun H locs hP hS => ?_)
        have e_10 := tX6_within q x4 0 1000
        refine lv_if_eq (tgt := 59) hx hb dX6_bargain_44 (by decide) (fun c_11 => ?_) (fun c_11 => ?_)
        · have e_12 := i_eq c_11
          refine lv_iconst (v := 0) hx hb dX6_bargain_59 (by decide) ?_
          have hF : (fX6_bargain q x1 x2 x3 x4 x5) = (0, q) := (show (fX6_bargain q x1 x2 x3 x4 x5) = (0, q) by (rw [fX6_bargain, if_neg c_2, if_neg c_5, if_neg c_8, if_pos c_11]); try rfl)
          exact W.zret (v := 0) hx hb hr rfl (fun t ht hW => ⟨⟨0, q, rfl, ⟨(p_fst hF), (p_snd hF)⟩, w_ht ht hP⟩, hS.F ht⟩) hS.2.2 dX6_bargain_60
        · have e_12 := i_ne c_11
          refine lv_iload hx hb dX6_bargain_47 (lv_at hl 5 rfl) ?_
          refine lv_iconst (v := 0) hx hb dX6_bargain_49 (by decide) ?_
          refine lv_sipush (v := 1000) hx hb dX6_bargain_50 (by decide) ?_
          refine w_goI (va_runS (As := [.int x5, .int 0, .int 1000]) (rest := []) ⟨hx, hb, hml, hown, hts⟩ (mX6_within l G cy a _ q x5 0 1000) (va_cwS 3 hts gX6_bargain_X6_within rfl rfl rfl (by decide +kernel) ⟨Nat.le_of_ble_eq_true rfl, Nat.le_of_ble_eq_true rfl⟩) (w_preS (xOk cy a) hK hP hD hS hA hN) rfl rfl hl.1 rfl (lv_room (Nat.le_of_ble_eq_true rfl)) dX6_bargain_53 ⟨Nat.le_of_ble_eq_true rfl, Nat.le_of_ble_eq_true rfl⟩) hD hS hA (fun H locs hP hS => ?_)
          have e_13 := tX6_within q x5 0 1000
          refine lv_if_ne (tgt := 61) hx hb dX6_bargain_56 (by decide) (fun c_14 => ?_) (fun c_14 => ?_)
          · have e_15 := i_ne c_14
            refine lv_aload_n hx hb dX6_bargain_61 rfl (lv_at hl 0 rfl) ?_
            refine gfX6_19 hx hb hts h_2 hown hK hP h_7 dX6_bargain_62 ?_
            refine gfX6_79 (v := (q 35 0)) hx hb hts h_9 hown hK hP h_8 rfl dX6_bargain_65 ?_
            refine lv_bipush (v := 40) hx hb dX6_bargain_68 (by decide) ?_
            refine lv_icmp_lt (tgt := 75) hx hb dX6_bargain_70 (by decide) (fun c_16 => ?_) (fun c_16 => ?_)
            · have e_17 := i_lt c_16
              refine lv_aload_n hx hb dX6_bargain_75 rfl (lv_at hl 0 rfl) ?_
              refine gfX6_19 hx hb hts h_2 hown hK hP h_7 dX6_bargain_76 ?_
              refine lv_iload_n hx hb dX6_bargain_79 rfl (lv_at hl 1 rfl) ?_
              refine lv_iload_n hx hb dX6_bargain_80 rfl (lv_at hl 2 rfl) ?_
              refine lv_iload_n hx hb dX6_bargain_81 rfl (lv_at hl 3 rfl) ?_
              refine lv_iload hx hb dX6_bargain_82 (lv_at hl 4 rfl) ?_
              refine lv_iload hx hb dX6_bargain_84 (lv_at hl 5 rfl) ?_
              refine w_goV (va_runVN (As := [.int x1, .int x2, .int x3, .int x4, .int x5]) (rest := []) ⟨hx, hb, hml, hown, hts⟩ (mX0_add l G cy a _ q x1 x2 x3 x4 x5 (by omega) (by omega)) ⟨va_cnB 5 hts gX6_bargain_X0_add_n80 rfl rfl rfl h_10 h_11 (by decide +kernel) ⟨Nat.le_of_ble_eq_true rfl, Nat.le_of_ble_eq_true rfl⟩, h_12, h_13⟩ (w_pre (xOk cy a) (va_recv hK hP (ci := 0) (q0 := 2) rfl rfl) hK hP hD hS hA hN) rfl rfl hl.1 rfl (lv_room (Nat.le_of_ble_eq_true rfl)) dX6_bargain_86 ⟨Nat.le_of_ble_eq_true rfl, Nat.le_of_ble_eq_true rfl⟩) hD hS hA (fun H locs hP hS => ?_)
              refine lv_iconst (v := 1) hx hb dX6_bargain_89 (by decide) ?_
              have hF : (fX6_bargain q x1 x2 x3 x4 x5) = (1, (fX0_add q x1 x2 x3 x4 x5)) := (show (fX6_bargain q x1 x2 x3 x4 x5) = (1, (fX0_add q x1 x2 x3 x4 x5)) by (rw [fX6_bargain, if_neg c_2, if_neg c_5, if_neg c_8, if_neg c_11, if_neg c_14, if_pos c_16]); try rfl)
              exact W.zret (v := 1) hx hb hr rfl (fun t ht hW => ⟨⟨1, (fX0_add q x1 x2 x3 x4 x5), rfl, ⟨(p_fst hF), (p_snd hF)⟩, w_ht ht hP⟩, hS.F ht⟩) hS.2.2 dX6_bargain_90
            · have e_17 := i_nlt c_16
              refine lv_iconst (v := 0) hx hb dX6_bargain_73 (by decide) ?_
              have hF : (fX6_bargain q x1 x2 x3 x4 x5) = (0, q) := (show (fX6_bargain q x1 x2 x3 x4 x5) = (0, q) by (rw [fX6_bargain, if_neg c_2, if_neg c_5, if_neg c_8, if_neg c_11, if_neg c_14, if_neg c_16]); try rfl)
              exact W.zret (v := 0) hx hb hr rfl (fun t ht hW => ⟨⟨0, q, rfl, ⟨(p_fst hF), (p_snd hF)⟩, w_ht ht hP⟩, hS.F ht⟩) hS.2.2 dX6_bargain_74
          · have e_15 := i_eq c_14
            refine lv_iconst (v := 0) hx hb dX6_bargain_59 (by decide) ?_
            have hF : (fX6_bargain q x1 x2 x3 x4 x5) = (0, q) := (show (fX6_bargain q x1 x2 x3 x4 x5) = (0, q) by (rw [fX6_bargain, if_neg c_2, if_neg c_5, if_neg c_8, if_neg c_11, if_pos c_14]); try rfl)
            exact W.zret (v := 0) hx hb hr rfl (fun t ht hW => ⟨⟨0, q, rfl, ⟨(p_fst hF), (p_snd hF)⟩, w_ht ht hP⟩, hS.F ht⟩) hS.2.2 dX6_bargain_60
      · have e_9 := i_eq c_8
        refine lv_iconst (v := 0) hx hb dX6_bargain_33 (by decide) ?_
        have hF : (fX6_bargain q x1 x2 x3 x4 x5) = (0, q) := (show (fX6_bargain q x1 x2 x3 x4 x5) = (0, q) by (rw [fX6_bargain, if_neg c_2, if_neg c_5, if_pos c_8]); try rfl)
        exact W.zret (v := 0) hx hb hr rfl (fun t ht hW => ⟨⟨0, q, rfl, ⟨(p_fst hF), (p_snd hF)⟩, w_ht ht hP⟩, hS.F ht⟩) hS.2.2 dX6_bargain_34
