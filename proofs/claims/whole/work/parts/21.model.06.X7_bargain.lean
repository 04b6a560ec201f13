set_option maxHeartbeats 4000000 in
set_option maxRecDepth 100000 in
theorem mX7_bargain (l : Launch) (G : va_G) (cy : ClassId) (a : Nat → Nat) (sz : Nat) (q : wSt) (x1 : Int32) (x2 : Int32) (x3 : Int32) (x4 : Int32) (x5 : Int32) (hI : iI q) : CtI l yX7_bargain wsX7_bargain ({ frames := 2, cells := 0, slots := 0, locals := 43 }) G cy (cM cy a) mN sz q [.ref (a 0), .int x1, .int x2, .int x3, .int x4, .int x5] (fX7_bargain q x1 x2 x3 x4 x5).1 (fX7_bargain q x1 x2 x3 x4 x5).2 := by
  refine Met.ofW (cc := cX7_bargain) (maxL := 6) (ret := (some .boolean)) (by decide) rfl ?_
  intro p e s m args below meth c s₁ B hml hv
  obtain ⟨rfl, hsz, hP, hK, hD0, hN⟩ := hv
  have hx := B.exec
  have hb := B.bytes
  have hr := B.returns
  have hts := atoms_spec (ws := wsX7_bargain) B.pre
  have hown : s.vm.findClass RX7 = some m.cls := findClass_of_methodNamed B.named
  have hlocks := B.notSynchronized
  subst hsz
  have hD : ∀ z : wSt, va_D (wA (cM cy a) s.heap.size) ((cM cy a) z) := fun z => w_self (mOk cy a).1 hD0 z
  have hA : ∀ z : Nat, s.heap.size ≤ z → wA (cM cy a) s.heap.size z := fun _ h => Or.inr h
  have hS : va_S (wA (cM cy a) s.heap.size) s.heap s.heap [] := va_S.rf
  have hl := lv_entry ([.ref (a 0), .int x1, .int x2, .int x3, .int x4, .int x5]) (n := 6) (Nat.le_of_ble_eq_true rfl)
  rw [lg_entry_eq]
  generalize (lg_sl ([.ref (a 0), .int x1, .int x2, .int x3, .int x4, .int x5]) ++ List.replicate (6 - (lg_sl ([.ref (a 0), .int x1, .int x2, .int x3, .int x4, .int x5])).length) Slot.unset).toArray = ls at hl ⊢
  have hl : lv_has ls 6 [(0, .ref (a 0)), (1, .int x1), (2, .int x2), (3, .int x3), (4, .int x4), (5, .int x5)] := hl
  have h_1 := hts (.fieldLink RX7 109 RX7 "bargains" "I") (by decide +kernel)
  have h_2 := (show ∀ w ∈ u_ws RX7 TX7 35, w ∈ wsX7_bargain by decide +kernel)
  have h_3 := hts (.fieldLink RX7 67 RX7 "bargainTitle" "[I") (by decide +kernel)
  have h_4 := hts (.fieldLink RX7 70 RX7 "bargainDay" "[I") (by decide +kernel)
  have h_5 := hts (.fieldLink RX7 73 RX7 "bargainMany" "[I") (by decide +kernel)
  have h_6 := hts (.fieldLink RX7 76 RX7 "bargainPrice" "[I") (by decide +kernel)
  have h_7 := hts (.fieldLink RX7 79 RX7 "bargainBeyond" "[I") (by decide +kernel)
  have t_0 : (0 : Int32).toInt = 0 := rfl
  have t_1 : (1 : Int32).toInt = 1 := rfl
  have t_40 : (40 : Int32).toInt = 40 := rfl
  have t_200 : (200 : Int32).toInt = 200 := rfl
  have t_1000 : (1000 : Int32).toInt = 1000 := rfl
  have t_5000 : (5000 : Int32).toInt = 5000 := rfl
  have hB := iI_b hI
  refine lv_aload_n hx hb dX7_bargain_0 rfl (lv_at hl 0 rfl) ?_
  refine lv_iload_n hx hb dX7_bargain_1 rfl (lv_at hl 1 rfl) ?_
  refine w_goI (va_runV (As := [.int x1]) (rest := []) ⟨hx, hb, hml, hown, hts⟩ (mX7_isTitle l G cy a _ q x1) (cwV 1 hts gX7_bargain_X7_isTitle rfl rfl rfl (by decide +kernel) ⟨Nat.le_of_ble_eq_true rfl, Nat.le_of_ble_eq_true rfl⟩) (w_pre (mOk cy a) (va_recv hK hP (ci := 7) (q0 := 0) rfl rfl) hK hP hD hS hA hN) rfl rfl hl.1 rfl (lv_room (Nat.le_of_ble_eq_true rfl)) dX7_bargain_2 ⟨Nat.le_of_ble_eq_true rfl, Nat.le_of_ble_eq_true rfl⟩) hD hS hA (fun H locs hP hS => ?_)
  have e_1 := tX7_isTitle q x1 (by omega)
  refine lv_if_eq (tgt := 63) hx hb dX7_bargain_5 (by decide) (fun c_2 => ?_) (fun c_2 => ?_)
  · have e_3 := i_eq c_2
    refine lv_iconst (v := 0) hx hb dX7_bargain_63 (by decide) ?_
    have hF : (fX7_bargain q x1 x2 x3 x4 x5) = (0, q) := (show (fX7_bargain q x1 x2 x3 x4 x5) = (0, q) by (rw [fX7_bargain, if_pos c_2]); try rfl)
    exact W.zret (v := 0) hx hb hr rfl (fun t ht hW => ⟨⟨0, q, rfl, ⟨(p_fst hF), (p_snd hF)⟩, w_ht ht hP⟩, hS.F ht⟩) hS.2.2 dX7_bargain_64
  · have e_3 := i_ne c_2
    refine lv_iload_n hx hb dX7_bargain_8 rfl (lv_at hl 2 rfl) ?_
    refine lv_iconst (v := 0) hx hb dX7_bargain_9 (by decide) ?_
    refine lv_sipush (v := 5000) hx hb dX7_bargain_10 (by decide) ?_
    refine w_goI (va_runS (As := [.int x2, .int 0, .int 5000]) (rest := []) ⟨hx, hb, hml, hown, hts⟩ (mX7_in l G cy a _ q x2 0 5000) (va_cwS 3 hts gX7_bargain_X7_in rfl rfl rfl (by decide +kernel) ⟨Nat.le_of_ble_eq_true rfl, Nat.le_of_ble_eq_true rfl⟩) (w_preS (mOk cy a) hK hP hD hS hA hN) rfl rfl hl.1 rfl (lv_room (Nat.le_of_ble_eq_true rfl)) dX7_bargain_13 ⟨Nat.le_of_ble_eq_true rfl, Nat.le_of_ble_eq_true rfl⟩) hD hS hA (fun H locs hP hS => ?_)
    have e_4 := tX7_in q x2 0 5000
    refine lv_if_eq (tgt := 63) hx hb dX7_bargain_16 (by decide) (fun c_5 => ?_) (fun c_5 => ?_)
    · have e_6 := i_eq c_5
      refine lv_iconst (v := 0) hx hb dX7_bargain_63 (by decide) ?_
      have hF : (fX7_bargain q x1 x2 x3 x4 x5) = (0, q) := (show (fX7_bargain q x1 x2 x3 x4 x5) = (0, q) by (rw [fX7_bargain, if_neg c_2, if_pos c_5]); try rfl)
      exact W.zret (v := 0) hx hb hr rfl (fun t ht hW => ⟨⟨0, q, rfl, ⟨(p_fst hF), (p_snd hF)⟩, w_ht ht hP⟩, hS.F ht⟩) hS.2.2 dX7_bargain_64
    · have e_6 := i_ne c_5
      refine lv_iload_n hx hb dX7_bargain_19 rfl (lv_at hl 3 rfl) ?_
      refine lv_iconst (v := 0) hx hb dX7_bargain_20 (by decide) ?_
      refine lv_sipush (v := 200) hx hb dX7_bargain_21 (by decide) ?_
      refine w_goI (va_runS (As := [.int x3, .int 0, .int 200]) (rest := []) ⟨hx, hb, hml, hown, hts⟩ (mX7_in l G cy a _ q x3 0 200) (va_cwS 3 hts gX7_bargain_X7_in rfl rfl rfl (by decide +kernel) ⟨Nat.le_of_ble_eq_true rfl, Nat.le_of_ble_eq_true rfl⟩) (w_preS (mOk cy a) hK hP hD hS hA hN) rfl rfl hl.1 rfl (lv_room (Nat.le_of_ble_eq_true rfl)) dX7_bargain_24 ⟨Nat.le_of_ble_eq_true rfl, Nat.le_of_ble_eq_true rfl⟩) hD hS hA (fun H locs hP hS => ?_)
      have e_7 := tX7_in q x3 0 200
      refine lv_if_eq (tgt := 63) hx hb dX7_bargain_27 (by decide) (fun c_8 => ?_) (fun c_8 => ?_)
      · have e_9 := i_eq c_8
        refine lv_iconst (v := 0) hx hb dX7_bargain_63 (by decide) ?_
        have hF : (fX7_bargain q x1 x2 x3 x4 x5) = (0, q) := (show (fX7_bargain q x1 x2 x3 x4 x5) = (0, q) by (rw [fX7_bargain, if_neg c_2, if_neg c_5, if_pos c_8]); try rfl)
        exact W.zret (v := 0) hx hb hr rfl (fun t ht hW => ⟨⟨0, q, rfl, ⟨(p_fst hF), (p_snd hF)⟩, w_ht ht hP⟩, hS.F ht⟩) hS.2.2 dX7_bargain_64
      · have e_9 := i_ne c_8
        refine lv_iload hx hb dX7_bargain_30 (lv_at hl 4 rfl) ?_
        refine lv_iconst (v := 0) hx hb dX7_bargain_32 (by decide) ?_
        refine lv_sipush (v := 1000) hx hb dX7_bargain_33 (by decide) ?_
        refine w_goI (va_runS (As := [.int x4, .int 0, .int 1000]) (rest := []) ⟨hx, hb, hml, hown, hts⟩ (mX7_in l G cy a _ q x4 0 1000) (va_cwS 3 hts gX7_bargain_X7_in rfl rfl rfl (by decide +kernel) ⟨Nat.le_of_ble_eq_true rfl, Nat.le_of_ble_eq_true rfl⟩) (w_preS (mOk cy a) hK hP hD hS hA hN) rfl rfl hl.1 rfl (lv_room (Nat.le_of_ble_eq_true rfl)) dX7_bargain_36 ⟨Nat.le_of_ble_eq_true rfl, Nat.le_of_ble_eq_true rfl⟩) hD hS hA (fun H locs hP hS => ?_)
        have e_10 := tX7_in q x4 0 1000
        refine lv_if_eq (tgt := 63) hx hb dX7_bargain_39 (by decide) (fun c_11 => ?_) (fun c_11 => ?_)
        · have e_12 := i_eq c_11
          refine lv_iconst (v := 0) hx hb dX7_bargain_63 (by decide) ?_
          have hF : (fX7_bargain q x1 x2 x3 x4 x5) = (0, q) := (show (fX7_bargain q x1 x2 x3 x4 x5) = (0, q) by (rw [fX7_bargain, if_neg c_2, if_neg c_5, if_neg c_8, if_pos c_11]); try rfl)
          exact W.zret (v := 0) hx hb hr rfl (fun t ht hW => ⟨⟨0, q, rfl, ⟨(p_fst hF), (p_snd hF)⟩, w_ht ht hP⟩, hS.F ht⟩) hS.2.2 dX7_bargain_64
        · have e_12 := i_ne c_11
          refine lv_iload hx hb dX7_bargain_42 (lv_at hl 5 rfl) ?_
          refine lv_iconst (v := 0) hx hb dX7_bargain_44 (by decide) ?_
          refine lv_sipush (v := 1000) hx hb dX7_bargain_45 (by decide) ?_
          refine w_goI (va_runS (As := [.int x5, .int 0, .int 1000]) (rest := []) ⟨hx, hb, hml, hown, hts⟩ (mX7_in l G cy a _ q x5 0 1000) (va_cwS 3 hts gX7_bargain_X7_in rfl rfl rfl (by decide +kernel) ⟨Nat.le_of_ble_eq_true rfl, Nat.le_of_ble_eq_true rfl⟩) (w_preS (mOk cy a) hK hP hD hS hA hN) rfl rfl hl.1 rfl (lv_room (Nat.le_of_ble_eq_true rfl)) dX7_bargain_48 ⟨Nat.le_of_ble_eq_true rfl, Nat.le_of_ble_eq_true rfl⟩) hD hS hA (fun H locs hP hS => ?_)
          have e_13 := tX7_in q x5 0 1000
          refine lv_if_eq (tgt := 63) hx hb dX7_bargain_51 (by decide) (fun c_14 => ?_) (fun c_14 => ?_)
          · have e_15 := i_eq c_14
            refine lv_iconst (v := 0) hx hb dX7_bargain_63 (by decide) ?_
            have hF : (fX7_bargain q x1 x2 x3 x4 x5) = (0, q) := (show (fX7_bargain q x1 x2 x3 x4 x5) = (0, q) by (rw [fX7_bargain, if_neg c_2, if_neg c_5, if_neg c_8, if_neg c_11, if_pos c_14]); try rfl)
            exact W.zret (v := 0) hx hb hr rfl (fun t ht hW => ⟨⟨0, q, rfl, ⟨(p_fst hF), (p_snd hF)⟩, w_ht ht hP⟩, hS.F ht⟩) hS.2.2 dX7_bargain_64
          · have e_15 := i_ne c_14
            refine lv_aload_n hx hb dX7_bargain_54 rfl (lv_at hl 0 rfl) ?_
            refine gfX7_109 (v := (q 35 0)) hx hb hts h_2 hown hK hP h_1 rfl dX7_bargain_55 ?_
            refine lv_bipush (v := 40) hx hb dX7_bargain_58 (by decide) ?_
            refine lv_icmp_ne (tgt := 65) hx hb dX7_bargain_60 (by decide) (fun c_16 => ?_) (fun c_16 => ?_)
            · have e_17 := i_ne c_16
              refine lv_aload_n hx hb dX7_bargain_65 rfl (lv_at hl 0 rfl) ?_
              refine gfX7_67 hx hb hts h_2 hown hK hP h_3 dX7_bargain_66 ?_
              refine lv_aload_n hx hb dX7_bargain_69 rfl (lv_at hl 0 rfl) ?_
              refine gfX7_109 (v := (q 35 0)) hx hb hts h_2 hown hK hP h_1 rfl dX7_bargain_70 ?_
              refine lv_iload_n hx hb dX7_bargain_73 rfl (lv_at hl 1 rfl) ?_
              have v_18 : vp_in (q 35 0) 40 := vp_in_iff.mpr (by omega)
              refine stM_1 (f := (q 1)) hx hb hK hP hD hS rfl v_18 dX7_bargain_74 (fun H locs hP hS => ?_)
              refine lv_aload_n hx hb dX7_bargain_75 rfl (lv_at hl 0 rfl) ?_
              refine gfX7_70 hx hb hts h_2 hown hK hP h_4 dX7_bargain_76 ?_
              refine lv_aload_n hx hb dX7_bargain_79 rfl (lv_at hl 0 rfl) ?_
              refine gfX7_109 (v := (q 35 0)) hx hb hts h_2 hown hK hP h_1 (congrFun (rset_ne (by decide)) 0) dX7_bargain_80 ?_
              refine lv_iload_n hx hb dX7_bargain_83 rfl (lv_at hl 2 rfl) ?_
              have v_19 : vp_in (q 35 0) 40 := vp_in_iff.mpr (by omega)
              refine stM_2 (f := (q 2)) hx hb hK hP hD hS (rset_ne (by decide)) v_19 dX7_bargain_84 (fun H locs hP hS => ?_)
              refine lv_aload_n hx hb dX7_bargain_85 rfl (lv_at hl 0 rfl) ?_
              refine gfX7_73 hx hb hts h_2 hown hK hP h_5 dX7_bargain_86 ?_
              refine lv_aload_n hx hb dX7_bargain_89 rfl (lv_at hl 0 rfl) ?_
              refine gfX7_109 (v := (q 35 0)) hx hb hts h_2 hown hK hP h_1 (congrFun ((rset_ne (by decide)).trans (rset_ne (by decide))) 0) dX7_bargain_90 ?_
              refine lv_iload_n hx hb dX7_bargain_93 rfl (lv_at hl 3 rfl) ?_
              have v_20 : vp_in (q 35 0) 40 := vp_in_iff.mpr (by omega)
              refine stM_3 (f := (q 3)) hx hb hK hP hD hS ((rset_ne (by decide)).trans (rset_ne (by decide))) v_20 dX7_bargain_94 (fun H locs hP hS => ?_)
              refine lv_aload_n hx hb dX7_bargain_95 rfl (lv_at hl 0 rfl) ?_
              refine gfX7_76 hx hb hts h_2 hown hK hP h_6 dX7_bargain_96 ?_
              refine lv_aload_n hx hb dX7_bargain_99 rfl (lv_at hl 0 rfl) ?_
              refine gfX7_109 (v := (q 35 0)) hx hb hts h_2 hown hK hP h_1 (congrFun ((rset_ne (by decide)).trans ((rset_ne (by decide)).trans (rset_ne (by decide)))) 0) dX7_bargain_100 ?_
              refine lv_iload hx hb dX7_bargain_103 (lv_at hl 4 rfl) ?_
              have v_21 : vp_in (q 35 0) 40 := vp_in_iff.mpr (by omega)
              refine stM_4 (f := (q 4)) hx hb hK hP hD hS ((rset_ne (by decide)).trans ((rset_ne (by decide)).trans (rset_ne (by decide)))) v_21 dX7_bargain_105 (fun H locs hP hS => ?_)
              refine lv_aload_n hx hb dX7_bargain_106 rfl (lv_at hl 0 rfl) ?_
              refine gfX7_79 hx hb hts h_2 hown hK hP h_7 dX7_bargain_107 ?_
              refine lv_aload_n hx hb dX7_bargain_110 rfl (lv_at hl 0 rfl) ?_
              refine gfX7_109 (v := (q 35 0)) hx hb hts h_2 hown hK hP h_1 (congrFun ((rset_ne (by decide)).trans ((rset_ne (by decide)).trans ((rset_ne (by decide)).trans (rset_ne (by decide))))) 0) dX7_bargain_111 ?_
              refine lv_iload hx hb dX7_bargain_114 (lv_at hl 5 rfl) ?_
              have v_22 : vp_in (q 35 0) 40 := vp_in_iff.mpr (by omega)
              refine stM_5 (f := (q 5)) hx hb hK hP hD hS ((rset_ne (by decide)).trans ((rset_ne (by decide)).trans ((rset_ne (by decide)).trans (rset_ne (by decide))))) v_22 dX7_bargain_116 (fun H locs hP hS => ?_)
              refine lv_aload_n hx hb dX7_bargain_117 rfl (lv_at hl 0 rfl) ?_
              refine lv_dup hx hb dX7_bargain_118 rfl ?_
              refine gfX7_109 (v := (q 35 0)) hx hb hts h_2 hown hK hP h_1 (congrFun ((rset_ne (by decide)).trans ((rset_ne (by decide)).trans ((rset_ne (by decide)).trans ((rset_ne (by decide)).trans (rset_ne (by decide)))))) 0) dX7_bargain_119 ?_
              refine lv_iconst (v := 1) hx hb dX7_bargain_122 (by decide) ?_
              refine lv_iadd hx hb dX7_bargain_123 ?_
              refine pfX7_109 hx hb hts h_2 hown hK hP hD hS h_1 dX7_bargain_124 (fun H locs hP hS => ?_)
              refine lv_iconst (v := 1) hx hb dX7_bargain_127 (by decide) ?_
              have hF : (fX7_bargain q x1 x2 x3 x4 x5) = (1, (rset (rset (rset (rset (rset (rset q 1 (upd (q 1) (q 35 0).toNatClampNeg x1)) 2 (upd (q 2) (q 35 0).toNatClampNeg x2)) 3 (upd (q 3) (q 35 0).toNatClampNeg x3)) 4 (upd (q 4) (q 35 0).toNatClampNeg x4)) 5 (upd (q 5) (q 35 0).toNatClampNeg x5)) 35 (fun _ => ((q 35 0) + 1)))) := (show (fX7_bargain q x1 x2 x3 x4 x5) = (1, (rset (rset (rset (rset (rset (rset q 1 (upd (q 1) (q 35 0).toNatClampNeg x1)) 2 (upd (q 2) (q 35 0).toNatClampNeg x2)) 3 (upd (q 3) (q 35 0).toNatClampNeg x3)) 4 (upd (q 4) (q 35 0).toNatClampNeg x4)) 5 (upd (q 5) (q 35 0).toNatClampNeg x5)) 35 (fun _ => ((q 35 0) + 1)))) by (rw [fX7_bargain, if_neg c_2, if_neg c_5, if_neg c_8, if_neg c_11, if_neg c_14, if_neg c_16]); try rfl)
              exact W.zret (v := 1) hx hb hr rfl (fun t ht hW => ⟨⟨1, (rset (rset (rset (rset (rset (rset q 1 (upd (q 1) (q 35 0).toNatClampNeg x1)) 2 (upd (q 2) (q 35 0).toNatClampNeg x2)) 3 (upd (q 3) (q 35 0).toNatClampNeg x3)) 4 (upd (q 4) (q 35 0).toNatClampNeg x4)) 5 (upd (q 5) (q 35 0).toNatClampNeg x5)) 35 (fun _ => ((q 35 0) + 1))), rfl, ⟨(p_fst hF), (p_snd hF)⟩, w_ht ht hP⟩, hS.F ht⟩) hS.2.2 dX7_bargain_128
            · have e_17 := i_eq c_16
              refine lv_iconst (v := 0) hx hb dX7_bargain_63 (by decide) ?_
              have hF : (fX7_bargain q x1 x2 x3 x4 x5) = (0, q) := (show (fX7_bargain q x1 x2 x3 x4 x5) = (0, q) by (rw [fX7_bargain, if_neg c_2, if_neg c_5, if_neg c_8, if_neg c_11, if_neg c_14, if_pos c_16]); try rfl)
              exact W.zret (v := 0) hx hb hr rfl (fun t ht hW => ⟨⟨0, q, rfl, ⟨(p_fst hF), (p_snd hF)⟩, w_ht ht hP⟩, hS.F ht⟩) hS.2.2 dX7_bargain_64
