set_option maxHeartbeats 4000000 in
set_option maxRecDepth 100000 in
theorem mX7_copy (l : Launch) (G : va_G) (cy : ClassId) (a : Nat → Nat) (sz : Nat) (q : wSt) (x1 : Int32) (x2 : Int32) (hI : iI q) : CtI l yX7_copy wsX7_copy ({ frames := 2, cells := 0, slots := 0, locals := 43 }) G cy (cM cy a) mN sz q [.ref (a 0), .int x1, .int x2] (fX7_copy q x1 x2) q := by
  refine Met.ofW (cc := cX7_copy) (maxL := 3) (ret := (some .int)) (by decide) rfl ?_
  intro p e s m args below meth c s₁ B hml hv
  obtain ⟨rfl, hsz, hP, hK, hD0, hN⟩ := hv
  have hx := B.exec
  have hb := B.bytes
  have hr := B.returns
  have hts := atoms_spec (ws := wsX7_copy) B.pre
  have hown : s.vm.findClass RX7 = some m.cls := findClass_of_methodNamed B.named
  have hlocks := B.notSynchronized
  subst hsz
  have hD : ∀ z : wSt, va_D (wA (cM cy a) s.heap.size) ((cM cy a) z) := fun z => w_self (mOk cy a).1 hD0 z
  have hA : ∀ z : Nat, s.heap.size ≤ z → wA (cM cy a) s.heap.size z := fun _ h => Or.inr h
  have hS : va_S (wA (cM cy a) s.heap.size) s.heap s.heap [] := va_S.rf
  have hl := lv_entry ([.ref (a 0), .int x1, .int x2]) (n := 3) (Nat.le_of_ble_eq_true rfl)
  rw [lg_entry_eq]
  generalize (lg_sl ([.ref (a 0), .int x1, .int x2]) ++ List.replicate (3 - (lg_sl ([.ref (a 0), .int x1, .int x2])).length) Slot.unset).toArray = ls at hl ⊢
  have hl : lv_has ls 3 [(0, .ref (a 0)), (1, .int x1), (2, .int x2)] := hl
  have h_1 := hts (.fieldLink RX7 22 RX7 "state" "[I") (by decide +kernel)
  have h_2 := (show ∀ w ∈ u_ws RX7 TX7 35, w ∈ wsX7_copy by decide +kernel)
  have h_3 := hts (.fieldLink RX7 13 RX7 "titleOf" "[I") (by decide +kernel)
  have h_4 := hts (.fieldLink RX7 16 RX7 "volumeOf" "[I") (by decide +kernel)
  have h_5 := hts (.fieldLink RX7 19 RX7 "costOf" "[I") (by decide +kernel)
  have h_6 := hts (.fieldLink RX7 25 RX7 "readerOf" "[I") (by decide +kernel)
  have h_7 := hts (.fieldLink RX7 31 RX7 "since" "[I") (by decide +kernel)
  have h_8 := hts (.fieldLink RX7 34 RX7 "toGo" "[I") (by decide +kernel)
  have h_9 := hts (.fieldLink RX7 37 RX7 "lent" "[I") (by decide +kernel)
  have t_m1 : ((-1) : Int32).toInt = -1 := rfl
  have t_0 : (0 : Int32).toInt = 0 := rfl
  have t_1 : (1 : Int32).toInt = 1 := rfl
  have t_2 : (2 : Int32).toInt = 2 := rfl
  have t_3 : (3 : Int32).toInt = 3 := rfl
  have t_4 : (4 : Int32).toInt = 4 := rfl
  have t_5 : (5 : Int32).toInt = 5 := rfl
  have t_6 : (6 : Int32).toInt = 6 := rfl
  have t_7 : (7 : Int32).toInt = 7 := rfl
  have hB := iI_b hI
  refine lv_aload_n hx hb dX7_copy_0 rfl (lv_at hl 0 rfl) ?_
  refine lv_iload_n hx hb dX7_copy_1 rfl (lv_at hl 1 rfl) ?_
  refine w_goI (va_runV (As := [.int x1]) (rest := []) ⟨hx, hb, hml, hown, hts⟩ (mX7_isCopy l G cy a _ q x1) (cwV 1 hts gX7_copy_X7_isCopy rfl rfl rfl (by decide +kernel) ⟨Nat.le_of_ble_eq_true rfl, Nat.le_of_ble_eq_true rfl⟩) (w_pre (mOk cy a) (va_recv hK hP (ci := 7) (q0 := 0) rfl rfl) hK hP hD hS hA hN) rfl rfl hl.1 rfl (lv_room (Nat.le_of_ble_eq_true rfl)) dX7_copy_2 ⟨Nat.le_of_ble_eq_true rfl, Nat.le_of_ble_eq_true rfl⟩) hD hS hA (fun H locs hP hS => ?_)
  have e_1 := tX7_isCopy q x1 (by omega)
  refine lv_if_ne (tgt := 10) hx hb dX7_copy_5 (by decide) (fun c_2 => ?_) (fun c_2 => ?_)
  · have e_3 := i_ne c_2
    refine lv_iload_n hx hb dX7_copy_10 rfl (lv_at hl 2 rfl) ?_
    refine dite (x2 = 0) (fun c_4 => ?_) (fun c_4 => ?_)
    · refine lv_tableIn (off := 45) (tgt := 56) hx hb dX7_copy_11 (by rw [c_4]; decide) (by rw [c_4]; decide) (by rw [c_4]; decide) (by decide) ?_
      refine lv_aload_n hx hb dX7_copy_56 rfl (lv_at hl 0 rfl) ?_
      refine gfX7_22 hx hb hts h_2 hown hK hP h_1 dX7_copy_57 ?_
      refine lv_iload_n hx hb dX7_copy_60 rfl (lv_at hl 1 rfl) ?_
      have v_5 : vp_in x1 200 := vp_in_iff.mpr (by omega)
      refine ldM_6 (f := (q 6)) hx hb hK hP rfl v_5 dX7_copy_61 ?_
      exact W.iret (v := (q 6 (x1).toNatClampNeg)) hx hb hr (fun t ht hW => ⟨⟨(q 6 (x1).toNatClampNeg), q, rfl, ⟨(show (fX7_copy q x1 x2) = (q 6 (x1).toNatClampNeg) by (rw [fX7_copy, if_neg c_2, if_pos c_4]); try rfl).symm, rfl⟩, w_ht ht hP⟩, hS.F ht⟩) hS.2.2 dX7_copy_62
    · have e_27 := i_ne c_4
      refine dite (x2 = 1) (fun c_6 => ?_) (fun c_6 => ?_)
      · refine lv_tableIn (off := 52) (tgt := 63) hx hb dX7_copy_11 (by rw [c_6]; decide) (by rw [c_6]; decide) (by rw [c_6]; decide) (by decide) ?_
        refine lv_aload_n hx hb dX7_copy_63 rfl (lv_at hl 0 rfl) ?_
        refine gfX7_13 hx hb hts h_2 hown hK hP h_3 dX7_copy_64 ?_
        refine lv_iload_n hx hb dX7_copy_67 rfl (lv_at hl 1 rfl) ?_
        have v_7 : vp_in x1 200 := vp_in_iff.mpr (by omega)
        refine ldM_7 (f := (q 7)) hx hb hK hP rfl v_7 dX7_copy_68 ?_
        exact W.iret (v := (q 7 (x1).toNatClampNeg)) hx hb hr (fun t ht hW => ⟨⟨(q 7 (x1).toNatClampNeg), q, rfl, ⟨(show (fX7_copy q x1 x2) = (q 7 (x1).toNatClampNeg) by (rw [fX7_copy, if_neg c_2, if_neg c_4, if_pos c_6]); try rfl).symm, rfl⟩, w_ht ht hP⟩, hS.F ht⟩) hS.2.2 dX7_copy_69
      · have e_28 := i_ne c_6
        refine dite (x2 = 2) (fun c_8 => ?_) (fun c_8 => ?_)
        · refine lv_tableIn (off := 59) (tgt := 70) hx hb dX7_copy_11 (by rw [c_8]; decide) (by rw [c_8]; decide) (by rw [c_8]; decide) (by decide) ?_
          refine lv_aload_n hx hb dX7_copy_70 rfl (lv_at hl 0 rfl) ?_
          refine gfX7_16 hx hb hts h_2 hown hK hP h_4 dX7_copy_71 ?_
          refine lv_iload_n hx hb dX7_copy_74 rfl (lv_at hl 1 rfl) ?_
          have v_9 : vp_in x1 200 := vp_in_iff.mpr (by omega)
          refine ldM_8 (f := (q 8)) hx hb hK hP rfl v_9 dX7_copy_75 ?_
          exact W.iret (v := (q 8 (x1).toNatClampNeg)) hx hb hr (fun t ht hW => ⟨⟨(q 8 (x1).toNatClampNeg), q, rfl, ⟨(show (fX7_copy q x1 x2) = (q 8 (x1).toNatClampNeg) by (rw [fX7_copy, if_neg c_2, if_neg c_4, if_neg c_6, if_pos c_8]); try rfl).symm, rfl⟩, w_ht ht hP⟩, hS.F ht⟩) hS.2.2 dX7_copy_76
        · have e_29 := i_ne c_8
          refine dite (x2 = 3) (fun c_10 => ?_) (fun c_10 => ?_)
          · refine lv_tableIn (off := 66) (tgt := 77) hx hb dX7_copy_11 (by rw [c_10]; decide) (by rw [c_10]; decide) (by rw [c_10]; decide) (by decide) ?_
            refine lv_aload_n hx hb dX7_copy_77 rfl (lv_at hl 0 rfl) ?_
            refine gfX7_19 hx hb hts h_2 hown hK hP h_5 dX7_copy_78 ?_
            refine lv_iload_n hx hb dX7_copy_81 rfl (lv_at hl 1 rfl) ?_
            have v_11 : vp_in x1 200 := vp_in_iff.mpr (by omega)
            refine ldM_9 (f := (q 9)) hx hb hK hP rfl v_11 dX7_copy_82 ?_
            exact W.iret (v := (q 9 (x1).toNatClampNeg)) hx hb hr (fun t ht hW => ⟨⟨(q 9 (x1).toNatClampNeg), q, rfl, ⟨(show (fX7_copy q x1 x2) = (q 9 (x1).toNatClampNeg) by (rw [fX7_copy, if_neg c_2, if_neg c_4, if_neg c_6, if_neg c_8, if_pos c_10]); try rfl).symm, rfl⟩, w_ht ht hP⟩, hS.F ht⟩) hS.2.2 dX7_copy_83
          · have e_30 := i_ne c_10
            refine dite (x2 = 4) (fun c_12 => ?_) (fun c_12 => ?_)
            · refine lv_tableIn (off := 73) (tgt := 84) hx hb dX7_copy_11 (by rw [c_12]; decide) (by rw [c_12]; decide) (by rw [c_12]; decide) (by decide) ?_
              refine lv_aload_n hx hb dX7_copy_84 rfl (lv_at hl 0 rfl) ?_
              refine gfX7_25 hx hb hts h_2 hown hK hP h_6 dX7_copy_85 ?_
              refine lv_iload_n hx hb dX7_copy_88 rfl (lv_at hl 1 rfl) ?_
              have v_13 : vp_in x1 200 := vp_in_iff.mpr (by omega)
              refine ldM_10 (f := (q 10)) hx hb hK hP rfl v_13 dX7_copy_89 ?_
              exact W.iret (v := (q 10 (x1).toNatClampNeg)) hx hb hr (fun t ht hW => ⟨⟨(q 10 (x1).toNatClampNeg), q, rfl, ⟨(show (fX7_copy q x1 x2) = (q 10 (x1).toNatClampNeg) by (rw [fX7_copy, if_neg c_2, if_neg c_4, if_neg c_6, if_neg c_8, if_neg c_10, if_pos c_12]); try rfl).symm, rfl⟩, w_ht ht hP⟩, hS.F ht⟩) hS.2.2 dX7_copy_90
            · have e_31 := i_ne c_12
              refine dite (x2 = 5) (fun c_14 => ?_) (fun c_14 => ?_)
              · refine lv_tableIn (off := 80) (tgt := 91) hx hb dX7_copy_11 (by rw [c_14]; decide) (by rw [c_14]; decide) (by rw [c_14]; decide) (by decide) ?_
                refine lv_aload_n hx hb dX7_copy_91 rfl (lv_at hl 0 rfl) ?_
                refine gfX7_31 hx hb hts h_2 hown hK hP h_7 dX7_copy_92 ?_
                refine lv_iload_n hx hb dX7_copy_95 rfl (lv_at hl 1 rfl) ?_
                have v_15 : vp_in x1 200 := vp_in_iff.mpr (by omega)
                refine ldM_12 (f := (q 12)) hx hb hK hP rfl v_15 dX7_copy_96 ?_
                exact W.iret (v := (q 12 (x1).toNatClampNeg)) hx hb hr (fun t ht hW => ⟨⟨(q 12 (x1).toNatClampNeg), q, rfl, ⟨(show (fX7_copy q x1 x2) = (q 12 (x1).toNatClampNeg) by (rw [fX7_copy, if_neg c_2, if_neg c_4, if_neg c_6, if_neg c_8, if_neg c_10, if_neg c_12, if_pos c_14]); try rfl).symm, rfl⟩, w_ht ht hP⟩, hS.F ht⟩) hS.2.2 dX7_copy_97
              · have e_32 := i_ne c_14
                refine dite (x2 = 6) (fun c_16 => ?_) (fun c_16 => ?_)
                · refine lv_tableIn (off := 87) (tgt := 98) hx hb dX7_copy_11 (by rw [c_16]; decide) (by rw [c_16]; decide) (by rw [c_16]; decide) (by decide) ?_
                  refine lv_aload_n hx hb dX7_copy_98 rfl (lv_at hl 0 rfl) ?_
                  refine gfX7_22 hx hb hts h_2 hown hK hP h_1 dX7_copy_99 ?_
                  refine lv_iload_n hx hb dX7_copy_102 rfl (lv_at hl 1 rfl) ?_
                  have v_17 : vp_in x1 200 := vp_in_iff.mpr (by omega)
                  refine ldM_6 (f := (q 6)) hx hb hK hP rfl v_17 dX7_copy_103 ?_
                  refine lv_iconst (v := 2) hx hb dX7_copy_104 (by decide) ?_
                  refine lv_icmp_eq (tgt := 118) hx hb dX7_copy_105 (by decide) (fun c_18 => ?_) (fun c_18 => ?_)
                  · have e_19 := i_eq c_18
                    refine lv_aload_n hx hb dX7_copy_118 rfl (lv_at hl 0 rfl) ?_
                    refine gfX7_34 hx hb hts h_2 hown hK hP h_8 dX7_copy_119 ?_
                    refine lv_iload_n hx hb dX7_copy_122 rfl (lv_at hl 1 rfl) ?_
                    have v_20 : vp_in x1 200 := vp_in_iff.mpr (by omega)
                    refine ldM_13 (f := (q 13)) hx hb hK hP rfl v_20 dX7_copy_123 ?_
                    refine lv_goto (tgt := 128) hx hb dX7_copy_124 (by decide) ?_
                    exact W.iret (v := (q 13 (x1).toNatClampNeg)) hx hb hr (fun t ht hW => ⟨⟨(q 13 (x1).toNatClampNeg), q, rfl, ⟨(show (fX7_copy q x1 x2) = (q 13 (x1).toNatClampNeg) by (rw [fX7_copy, if_neg c_2, if_neg c_4, if_neg c_6, if_neg c_8, if_neg c_10, if_neg c_12, if_neg c_14, if_pos c_16, if_pos c_18]); try rfl).symm, rfl⟩, w_ht ht hP⟩, hS.F ht⟩) hS.2.2 dX7_copy_128
                  · have e_19 := i_ne c_18
                    refine lv_aload_n hx hb dX7_copy_108 rfl (lv_at hl 0 rfl) ?_
                    refine gfX7_22 hx hb hts h_2 hown hK hP h_1 dX7_copy_109 ?_
                    refine lv_iload_n hx hb dX7_copy_112 rfl (lv_at hl 1 rfl) ?_
                    have v_21 : vp_in x1 200 := vp_in_iff.mpr (by omega)
                    refine ldM_6 (f := (q 6)) hx hb hK hP rfl v_21 dX7_copy_113 ?_
                    refine lv_iconst (v := 3) hx hb dX7_copy_114 (by decide) ?_
                    refine lv_icmp_ne (tgt := 127) hx hb dX7_copy_115 (by decide) (fun c_22 => ?_) (fun c_22 => ?_)
                    · have e_23 := i_ne c_22
                      refine lv_iconst (v := 0) hx hb dX7_copy_127 (by decide) ?_
                      exact W.iret (v := 0) hx hb hr (fun t ht hW => ⟨⟨0, q, rfl, ⟨(show (fX7_copy q x1 x2) = 0 by (rw [fX7_copy, if_neg c_2, if_neg c_4, if_neg c_6, if_neg c_8, if_neg c_10, if_neg c_12, if_neg c_14, if_pos c_16, if_neg c_18, if_neg c_22]); try rfl).symm, rfl⟩, w_ht ht hP⟩, hS.F ht⟩) hS.2.2 dX7_copy_128
                    · have e_23 := i_eq c_22
                      refine lv_aload_n hx hb dX7_copy_118 rfl (lv_at hl 0 rfl) ?_
                      refine gfX7_34 hx hb hts h_2 hown hK hP h_8 dX7_copy_119 ?_
                      refine lv_iload_n hx hb dX7_copy_122 rfl (lv_at hl 1 rfl) ?_
                      have v_24 : vp_in x1 200 := vp_in_iff.mpr (by omega)
                      refine ldM_13 (f := (q 13)) hx hb hK hP rfl v_24 dX7_copy_123 ?_
                      refine lv_goto (tgt := 128) hx hb dX7_copy_124 (by decide) ?_
                      exact W.iret (v := (q 13 (x1).toNatClampNeg)) hx hb hr (fun t ht hW => ⟨⟨(q 13 (x1).toNatClampNeg), q, rfl, ⟨(show (fX7_copy q x1 x2) = (q 13 (x1).toNatClampNeg) by (rw [fX7_copy, if_neg c_2, if_neg c_4, if_neg c_6, if_neg c_8, if_neg c_10, if_neg c_12, if_neg c_14, if_pos c_16, if_neg c_18, if_pos c_22]); try rfl).symm, rfl⟩, w_ht ht hP⟩, hS.F ht⟩) hS.2.2 dX7_copy_128
                · have e_33 := i_ne c_16
                  refine dite (x2 = 7) (fun c_25 => ?_) (fun c_25 => ?_)
                  · refine lv_tableIn (off := 118) (tgt := 129) hx hb dX7_copy_11 (by rw [c_25]; decide) (by rw [c_25]; decide) (by rw [c_25]; decide) (by decide) ?_
                    refine lv_aload_n hx hb dX7_copy_129 rfl (lv_at hl 0 rfl) ?_
                    refine gfX7_37 hx hb hts h_2 hown hK hP h_9 dX7_copy_130 ?_
                    refine lv_iload_n hx hb dX7_copy_133 rfl (lv_at hl 1 rfl) ?_
                    have v_26 : vp_in x1 200 := vp_in_iff.mpr (by omega)
                    refine ldM_14 (f := (q 14)) hx hb hK hP rfl v_26 dX7_copy_134 ?_
                    exact W.iret (v := (q 14 (x1).toNatClampNeg)) hx hb hr (fun t ht hW => ⟨⟨(q 14 (x1).toNatClampNeg), q, rfl, ⟨(show (fX7_copy q x1 x2) = (q 14 (x1).toNatClampNeg) by (rw [fX7_copy, if_neg c_2, if_neg c_4, if_neg c_6, if_neg c_8, if_neg c_10, if_neg c_12, if_neg c_14, if_neg c_16, if_pos c_25]); try rfl).symm, rfl⟩, w_ht ht hP⟩, hS.F ht⟩) hS.2.2 dX7_copy_135
                  · have e_34 := i_ne c_25
                    refine lv_tableOut (tgt := 136) hx hb dX7_copy_11 (by omega) (by decide) ?_
                    refine lv_iconst (v := (-1)) hx hb dX7_copy_136 (by decide) ?_
                    exact W.iret (v := (-1)) hx hb hr (fun t ht hW => ⟨⟨(-1), q, rfl, ⟨(show (fX7_copy q x1 x2) = (-1) by (rw [fX7_copy, if_neg c_2, if_neg c_4, if_neg c_6, if_neg c_8, if_neg c_10, if_neg c_12, if_neg c_14, if_neg c_16, if_neg c_25]); try rfl).symm, rfl⟩, w_ht ht hP⟩, hS.F ht⟩) hS.2.2 dX7_copy_137
  · have e_3 := i_eq c_2
    refine lv_iconst (v := (-1)) hx hb dX7_copy_8 (by decide) ?_
    exact W.iret (v := (-1)) hx hb hr (fun t ht hW => ⟨⟨(-1), q, rfl, ⟨(show (fX7_copy q x1 x2) = (-1) by (rw [fX7_copy, if_pos c_2]); try rfl).symm, rfl⟩, w_ht ht hP⟩, hS.F ht⟩) hS.2.2 dX7_copy_9
