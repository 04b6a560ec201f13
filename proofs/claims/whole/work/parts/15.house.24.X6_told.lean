set_option maxHeartbeats 4000000 in
set_option maxRecDepth 100000 in
theorem mX6_told (l : Launch) (G : va_G) (cy : ClassId) (a : Nat → Nat) (sz : Nat) (q : wSt) (x1 : Int32) (x2 : Int32) (hI : iI q) : CtI l yX6_told wsX6_told ({ frames := 1, cells := 0, slots := 0, locals := 23 }) G cy (cX cy a) xN sz q [.ref (a 0), .int x1, .int x2] (fX6_told q x1 x2) q := by
  refine Met.ofW (cc := cX6_told) (maxL := 3) (ret := (some .int)) (by decide) rfl ?_
  intro p e s m args below meth c s₁ B hml hv
  obtain ⟨rfl, hsz, hP, hK, hD0, hN⟩ := hv
  have hx := B.exec
  have hb := B.bytes
  have hr := B.returns
  have hts := atoms_spec (ws := wsX6_told) B.pre
  have hown : s.vm.findClass RX6 = some m.cls := findClass_of_methodNamed B.named
  have hlocks := B.notSynchronized
  subst hsz
  have hD : ∀ z : wSt, va_D (wA (cX cy a) s.heap.size) ((cX cy a) z) := fun z => w_self (xOk cy a).1 hD0 z
  have hA : ∀ z : Nat, s.heap.size ≤ z → wA (cX cy a) s.heap.size z := fun _ h => Or.inr h
  have hS : va_S (wA (cX cy a) s.heap.size) s.heap s.heap [] := va_S.rf
  have hl := lv_entry ([.ref (a 0), .int x1, .int x2]) (n := 3) (Nat.le_of_ble_eq_true rfl)
  rw [lg_entry_eq]
  generalize (lg_sl ([.ref (a 0), .int x1, .int x2]) ++ List.replicate (3 - (lg_sl ([.ref (a 0), .int x1, .int x2])).length) Slot.unset).toArray = ls at hl ⊢
  have hl : lv_has ls 3 [(0, .ref (a 0)), (1, .int x1), (2, .int x2)] := hl
  have h_1 := hts (.fieldLink RX6 33 RX6 "readers" "LVolumeHouse$Readers;") (by decide +kernel)
  have h_2 := (show ∀ w ∈ u_ws RX6 TX6 10, w ∈ wsX6_told by decide +kernel)
  have h_3 := (hN.1 _ (List.mem_of_getElem? (i := 49) rfl) : va_Nw (.methodLinkNest RX6 109 yX3_has RX6) s)
  have h_4 := hts (.initialized RX3) (by decide +kernel)
  have h_5 := hts (.instanceMethod yX3_has) (by decide +kernel)
  have h_6 := hts (.selects RX3 yX3_has yX3_has) (by decide +kernel)
  have h_7 := (hN.1 _ (List.mem_of_getElem? (i := 23) rfl) : va_Nw (.fieldLinkNest RX6 193 RX3 "rank" "[I" RX6) s)
  have h_8 := (show ∀ w ∈ u_ws RX3 TX3 7, w ∈ wsX6_told by decide +kernel)
  have h_9 := (hN.1 _ (List.mem_of_getElem? (i := 13) rfl) : va_Nw (.fieldLinkNest RX6 153 RX3 "inHand" "[I" RX6) s)
  have h_10 := (hN.1 _ (List.mem_of_getElem? (i := 15) rfl) : va_Nw (.fieldLinkNest RX6 165 RX3 "inBoxes" "[I" RX6) s)
  have h_11 := (hN.1 _ (List.mem_of_getElem? (i := 11) rfl) : va_Nw (.fieldLinkNest RX6 143 RX3 "owed" "[I" RX6) s)
  have h_12 := hts (.fieldLink RX6 40 RX6 "wishes" "LVolumeHouse$Wishes;") (by decide +kernel)
  have h_13 := (hN.1 _ (List.mem_of_getElem? (i := 56) rfl) : va_Nw (.methodLinkNest RX6 196 yX5_openOf RX6) s)
  have h_14 := hts (.initialized RX5) (by decide +kernel)
  have h_15 := hts (.instanceMethod yX5_openOf) (by decide +kernel)
  have h_16 := hts (.selects RX5 yX5_openOf yX5_openOf) (by decide +kernel)
  have h_17 := (hN.1 _ (List.mem_of_getElem? (i := 7) rfl) : va_Nw (.fieldLinkNest RX6 110 RX3 "last" "[I" RX6) s)
  have t_m1 : ((-1) : Int32).toInt = -1 := rfl
  have t_0 : (0 : Int32).toInt = 0 := rfl
  have t_1 : (1 : Int32).toInt = 1 := rfl
  have t_2 : (2 : Int32).toInt = 2 := rfl
  have t_3 : (3 : Int32).toInt = 3 := rfl
  have t_4 : (4 : Int32).toInt = 4 := rfl
  have t_5 : (5 : Int32).toInt = 5 := rfl
  have hB := iI_b hI
  refine lv_aload_n hx hb dX6_told_0 rfl (lv_at hl 0 rfl) ?_
  refine gfX6_33 hx hb hts h_2 hown hK hP h_1 dX6_told_1 ?_
  refine lv_iload_n hx hb dX6_told_4 rfl (lv_at hl 1 rfl) ?_
  refine w_goI (va_runVN (As := [.int x1]) (rest := []) ⟨hx, hb, hml, hown, hts⟩ (mX3_has l G cy a _ q x1) ⟨va_cnB 1 hts gX6_told_X3_has_n109 rfl rfl rfl h_3 h_4 (by decide +kernel) ⟨Nat.le_of_ble_eq_true rfl, Nat.le_of_ble_eq_true rfl⟩, h_5, h_6⟩ (w_pre (xOk cy a) (va_recv hK hP (ci := 3) (q0 := 4) rfl rfl) hK hP hD hS hA hN) rfl rfl hl.1 rfl (lv_room (Nat.le_of_ble_eq_true rfl)) dX6_told_5 ⟨Nat.le_of_ble_eq_true rfl, Nat.le_of_ble_eq_true rfl⟩) hD hS hA (fun H locs hP hS => ?_)
  have e_1 := tX3_has q x1
  refine lv_if_ne (tgt := 13) hx hb dX6_told_8 (by decide) (fun c_2 => ?_) (fun c_2 => ?_)
  · have e_3 := i_ne c_2
    refine lv_iload_n hx hb dX6_told_13 rfl (lv_at hl 2 rfl) ?_
    refine dite (x2 = 0) (fun c_4 => ?_) (fun c_4 => ?_)
    · refine lv_tableIn (off := 38) (tgt := 52) hx hb dX6_told_14 (by rw [c_4]; decide) (by rw [c_4]; decide) (by rw [c_4]; decide) (by decide) ?_
      refine lv_aload_n hx hb dX6_told_52 rfl (lv_at hl 0 rfl) ?_
      refine gfX6_33 hx hb hts h_2 hown hK hP h_1 dX6_told_53 ?_
      refine gfX6_193 hx hb hts h_8 hown hK hP h_7 dX6_told_56 ?_
      refine lv_iload_n hx hb dX6_told_59 rfl (lv_at hl 1 rfl) ?_
      have v_5 : vp_in x1 20 := vp_in_iff.mpr (by omega)
      refine ldX_16 (f := (q 16)) hx hb hK hP rfl v_5 dX6_told_60 ?_
      have e_6 := iI_16 hI _ (i_clamp v_5)
      exact W.iret (v := (q 16 (x1).toNatClampNeg)) hx hb hr (fun t ht hW => ⟨⟨(q 16 (x1).toNatClampNeg), q, rfl, ⟨(show (fX6_told q x1 x2) = (q 16 (x1).toNatClampNeg) by (rw [fX6_told, if_neg c_2, if_pos c_4]); try rfl).symm, rfl⟩, w_ht ht hP⟩, hS.F ht⟩) hS.2.2 dX6_told_61
    · have e_16 := i_ne c_4
      refine dite (x2 = 1) (fun c_7 => ?_) (fun c_7 => ?_)
      · refine lv_tableIn (off := 48) (tgt := 62) hx hb dX6_told_14 (by rw [c_7]; decide) (by rw [c_7]; decide) (by rw [c_7]; decide) (by decide) ?_
        refine lv_aload_n hx hb dX6_told_62 rfl (lv_at hl 0 rfl) ?_
        refine gfX6_33 hx hb hts h_2 hown hK hP h_1 dX6_told_63 ?_
        refine gfX6_153 hx hb hts h_8 hown hK hP h_9 dX6_told_66 ?_
        refine lv_iload_n hx hb dX6_told_69 rfl (lv_at hl 1 rfl) ?_
        have v_8 : vp_in x1 20 := vp_in_iff.mpr (by omega)
        refine ldX_20 (f := (q 20)) hx hb hK hP rfl v_8 dX6_told_70 ?_
        exact W.iret (v := (q 20 (x1).toNatClampNeg)) hx hb hr (fun t ht hW => ⟨⟨(q 20 (x1).toNatClampNeg), q, rfl, ⟨(show (fX6_told q x1 x2) = (q 20 (x1).toNatClampNeg) by (rw [fX6_told, if_neg c_2, if_neg c_4, if_pos c_7]); try rfl).symm, rfl⟩, w_ht ht hP⟩, hS.F ht⟩) hS.2.2 dX6_told_71
      · have e_17 := i_ne c_7
        refine dite (x2 = 2) (fun c_9 => ?_) (fun c_9 => ?_)
        · refine lv_tableIn (off := 58) (tgt := 72) hx hb dX6_told_14 (by rw [c_9]; decide) (by rw [c_9]; decide) (by rw [c_9]; decide) (by decide) ?_
          refine lv_aload_n hx hb dX6_told_72 rfl (lv_at hl 0 rfl) ?_
          refine gfX6_33 hx hb hts h_2 hown hK hP h_1 dX6_told_73 ?_
          refine gfX6_165 hx hb hts h_8 hown hK hP h_10 dX6_told_76 ?_
          refine lv_iload_n hx hb dX6_told_79 rfl (lv_at hl 1 rfl) ?_
          have v_10 : vp_in x1 20 := vp_in_iff.mpr (by omega)
          refine ldX_21 (f := (q 21)) hx hb hK hP rfl v_10 dX6_told_80 ?_
          exact W.iret (v := (q 21 (x1).toNatClampNeg)) hx hb hr (fun t ht hW => ⟨⟨(q 21 (x1).toNatClampNeg), q, rfl, ⟨(show (fX6_told q x1 x2) = (q 21 (x1).toNatClampNeg) by (rw [fX6_told, if_neg c_2, if_neg c_4, if_neg c_7, if_pos c_9]); try rfl).symm, rfl⟩, w_ht ht hP⟩, hS.F ht⟩) hS.2.2 dX6_told_81
        · have e_18 := i_ne c_9
          refine dite (x2 = 3) (fun c_11 => ?_) (fun c_11 => ?_)
          · refine lv_tableIn (off := 68) (tgt := 82) hx hb dX6_told_14 (by rw [c_11]; decide) (by rw [c_11]; decide) (by rw [c_11]; decide) (by decide) ?_
            refine lv_aload_n hx hb dX6_told_82 rfl (lv_at hl 0 rfl) ?_
            refine gfX6_33 hx hb hts h_2 hown hK hP h_1 dX6_told_83 ?_
            refine gfX6_143 hx hb hts h_8 hown hK hP h_11 dX6_told_86 ?_
            refine lv_iload_n hx hb dX6_told_89 rfl (lv_at hl 1 rfl) ?_
            have v_12 : vp_in x1 20 := vp_in_iff.mpr (by omega)
            refine ldX_19 (f := (q 19)) hx hb hK hP rfl v_12 dX6_told_90 ?_
            exact W.iret (v := (q 19 (x1).toNatClampNeg)) hx hb hr (fun t ht hW => ⟨⟨(q 19 (x1).toNatClampNeg), q, rfl, ⟨(show (fX6_told q x1 x2) = (q 19 (x1).toNatClampNeg) by (rw [fX6_told, if_neg c_2, if_neg c_4, if_neg c_7, if_neg c_9, if_pos c_11]); try rfl).symm, rfl⟩, w_ht ht hP⟩, hS.F ht⟩) hS.2.2 dX6_told_91
          · have e_19 := i_ne c_11
            refine dite (x2 = 4) (fun c_13 => ?_) (fun c_13 => ?_)
            · refine lv_tableIn (off := 78) (tgt := 92) hx hb dX6_told_14 (by rw [c_13]; decide) (by rw [c_13]; decide) (by rw [c_13]; decide) (by decide) ?_
              refine lv_aload_n hx hb dX6_told_92 rfl (lv_at hl 0 rfl) ?_
              refine gfX6_40 hx hb hts h_2 hown hK hP h_12 dX6_told_93 ?_
              refine lv_iload_n hx hb dX6_told_96 rfl (lv_at hl 1 rfl) ?_
              refine w_goI (va_runVN (As := [.int x1]) (rest := []) ⟨hx, hb, hml, hown, hts⟩ (mX5_openOf l G cy a _ q x1 (by omega)) ⟨va_cnB 1 hts gX6_told_X5_openOf_n196 rfl rfl rfl h_13 h_14 (by decide +kernel) ⟨Nat.le_of_ble_eq_true rfl, Nat.le_of_ble_eq_true rfl⟩, h_15, h_16⟩ (w_pre (xOk cy a) (va_recv hK hP (ci := 5) (q0 := 5) rfl rfl) hK hP hD hS hA hN) rfl rfl hl.1 rfl (lv_room (Nat.le_of_ble_eq_true rfl)) dX6_told_97 ⟨Nat.le_of_ble_eq_true rfl, Nat.le_of_ble_eq_true rfl⟩) hD hS hA (fun H locs hP hS => ?_)
              exact W.iret (v := (fX5_openOf q x1)) hx hb hr (fun t ht hW => ⟨⟨(fX5_openOf q x1), q, rfl, ⟨(show (fX6_told q x1 x2) = (fX5_openOf q x1) by (rw [fX6_told, if_neg c_2, if_neg c_4, if_neg c_7, if_neg c_9, if_neg c_11, if_pos c_13]); try rfl).symm, rfl⟩, w_ht ht hP⟩, hS.F ht⟩) hS.2.2 dX6_told_100
            · have e_20 := i_ne c_13
              refine dite (x2 = 5) (fun c_14 => ?_) (fun c_14 => ?_)
              · refine lv_tableIn (off := 87) (tgt := 101) hx hb dX6_told_14 (by rw [c_14]; decide) (by rw [c_14]; decide) (by rw [c_14]; decide) (by decide) ?_
                refine lv_aload_n hx hb dX6_told_101 rfl (lv_at hl 0 rfl) ?_
                refine gfX6_33 hx hb hts h_2 hown hK hP h_1 dX6_told_102 ?_
                refine gfX6_110 hx hb hts h_8 hown hK hP h_17 dX6_told_105 ?_
                refine lv_iload_n hx hb dX6_told_108 rfl (lv_at hl 1 rfl) ?_
                have v_15 : vp_in x1 20 := vp_in_iff.mpr (by omega)
                refine ldX_18 (f := (q 18)) hx hb hK hP rfl v_15 dX6_told_109 ?_
                exact W.iret (v := (q 18 (x1).toNatClampNeg)) hx hb hr (fun t ht hW => ⟨⟨(q 18 (x1).toNatClampNeg), q, rfl, ⟨(show (fX6_told q x1 x2) = (q 18 (x1).toNatClampNeg) by (rw [fX6_told, if_neg c_2, if_neg c_4, if_neg c_7, if_neg c_9, if_neg c_11, if_neg c_13, if_pos c_14]); try rfl).symm, rfl⟩, w_ht ht hP⟩, hS.F ht⟩) hS.2.2 dX6_told_110
              · have e_21 := i_ne c_14
                refine lv_tableOut (tgt := 111) hx hb dX6_told_14 (by omega) (by decide) ?_
                refine lv_iconst (v := (-1)) hx hb dX6_told_111 (by decide) ?_
                exact W.iret (v := (-1)) hx hb hr (fun t ht hW => ⟨⟨(-1), q, rfl, ⟨(show (fX6_told q x1 x2) = (-1) by (rw [fX6_told, if_neg c_2, if_neg c_4, if_neg c_7, if_neg c_9, if_neg c_11, if_neg c_13, if_neg c_14]); try rfl).symm, rfl⟩, w_ht ht hP⟩, hS.F ht⟩) hS.2.2 dX6_told_112
  · have e_3 := i_eq c_2
    refine lv_iconst (v := (-1)) hx hb dX6_told_11 (by decide) ?_
    exact W.iret (v := (-1)) hx hb hr (fun t ht hW => ⟨⟨(-1), q, rfl, ⟨(show (fX6_told q x1 x2) = (-1) by (rw [fX6_told, if_pos c_2]); try rfl).symm, rfl⟩, w_ht ht hP⟩, hS.F ht⟩) hS.2.2 dX6_told_12
