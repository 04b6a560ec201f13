set_option maxHeartbeats 4000000 in
set_option maxRecDepth 100000 in
theorem mX6_copy (l : Launch) (G : va_G) (cy : ClassId) (a : Nat → Nat) (sz : Nat) (q : wSt) (x1 : Int32) (x2 : Int32) (hI : iI q) : CtI l yX6_copy wsX6_copy ({ frames := 1, cells := 0, slots := 0, locals := 21 }) G cy (cX cy a) xN sz q [.ref (a 0), .int x1, .int x2] (fX6_copy q x1 x2) q := by
  refine Met.ofW (cc := cX6_copy) (maxL := 3) (ret := (some .int)) (by decide) rfl ?_
  intro p e s m args below meth c s₁ B hml hv
  obtain ⟨rfl, hsz, hP, hK, hD0, hN⟩ := hv
  have hx := B.exec
  have hb := B.bytes
  have hr := B.returns
  have hts := atoms_spec (ws := wsX6_copy) B.pre
  have hown : s.vm.findClass RX6 = some m.cls := findClass_of_methodNamed B.named
  have hlocks := B.notSynchronized
  subst hsz
  have hD : ∀ z : wSt, va_D (wA (cX cy a) s.heap.size) ((cX cy a) z) := fun z => w_self (xOk cy a).1 hD0 z
  have hA : ∀ z : Nat, s.heap.size ≤ z → wA (cX cy a) s.heap.size z := fun _ h => Or.inr h
  have hS : va_S (wA (cX cy a) s.heap.size) s.heap s.heap [] := va_S.rf
  have hl := lv_entry ([.ref (a 0), .int x1, .int x2]) (n := 3) (Nat.le_of_ble_eq_true rfl)
  rw [lg_entry_eq]
  generalize (lg_sl ([.ref (a 0), .int x1, .int x2]) ++ List.replicate (3 - (lg_sl ([.ref (a 0), .int x1, .int x2])).length) Slot.unset).toArray = ls at hl ⊢
  have hl : lv_has ls 3 [(0, .ref (a 0)), (1, .int x1), (2, .int x2)] := hl
  have h_1 := hts (.fieldLink RX6 26 RX6 "copies" "LVolumeHouse$Copies;") (by decide +kernel)
  have h_2 := (show ∀ w ∈ u_ws RX6 TX6 10, w ∈ wsX6_copy by decide +kernel)
  have h_3 := (hN.1 _ (List.mem_of_getElem? (i := 55) rfl) : va_Nw (.methodLinkNest RX6 168 yX1_has RX6) s)
  have h_4 := hts (.initialized RX1) (by decide +kernel)
  have h_5 := hts (.instanceMethod yX1_has) (by decide +kernel)
  have h_6 := hts (.selects RX1 yX1_has yX1_has) (by decide +kernel)
  have h_7 := (hN.1 _ (List.mem_of_getElem? (i := 17) rfl) : va_Nw (.fieldLinkNest RX6 175 RX1 "where" "[I" RX6) s)
  have h_8 := (show ∀ w ∈ u_ws RX1 TX1 13, w ∈ wsX6_copy by decide +kernel)
  have h_9 := (hN.1 _ (List.mem_of_getElem? (i := 18) rfl) : va_Nw (.fieldLinkNest RX6 178 RX1 "title" "[I" RX6) s)
  have h_10 := (hN.1 _ (List.mem_of_getElem? (i := 19) rfl) : va_Nw (.fieldLinkNest RX6 181 RX1 "volume" "[I" RX6) s)
  have h_11 := (hN.1 _ (List.mem_of_getElem? (i := 16) rfl) : va_Nw (.fieldLinkNest RX6 169 RX1 "cost" "[I" RX6) s)
  have h_12 := (hN.1 _ (List.mem_of_getElem? (i := 10) rfl) : va_Nw (.fieldLinkNest RX6 137 RX1 "reader" "[I" RX6) s)
  have h_13 := (hN.1 _ (List.mem_of_getElem? (i := 20) rfl) : va_Nw (.fieldLinkNest RX6 184 RX1 "since" "[I" RX6) s)
  have h_14 := (hN.1 _ (List.mem_of_getElem? (i := 21) rfl) : va_Nw (.fieldLinkNest RX6 187 RX1 "daysToGo" "[I" RX6) s)
  have h_15 := (hN.1 _ (List.mem_of_getElem? (i := 22) rfl) : va_Nw (.fieldLinkNest RX6 190 RX1 "timesLent" "[I" RX6) s)
  have t_m1 : ((-1) : Int32).toInt = -1 := rfl
  have t_0 : (0 : Int32).toInt = 0 := rfl
  have t_1 : (1 : Int32).toInt = 1 := rfl
  have t_2 : (2 : Int32).toInt = 2 := rfl
  have t_3 : (3 : Int32).toInt = 3 := rfl
  have t_4 : (4 : Int32).toInt = 4 := rfl
  have t_5 : (5 : Int32).toInt = 5 := rfl
  have t_6 : (6 : Int32).toInt = 6 := rfl
  have t_7 : (7 : Int32).toInt = 7 := rfl
  have hB := iI_b hI
  refine lv_aload_n hx hb dX6_copy_0 rfl (lv_at hl 0 rfl) ?_
  refine gfX6_26 hx hb hts h_2 hown hK hP h_1 dX6_copy_1 ?_
  refine lv_iload_n hx hb dX6_copy_4 rfl (lv_at hl 1 rfl) ?_
  refine w_goI (va_runVN (As := [.int x1]) (rest := []) ⟨hx, hb, hml, hown, hts⟩ (mX1_has l G cy a _ q x1) ⟨va_cnB 1 hts gX6_copy_X1_has_n168 rfl rfl rfl h_3 h_4 (by decide +kernel) ⟨Nat.le_of_ble_eq_true rfl, Nat.le_of_ble_eq_true rfl⟩, h_5, h_6⟩ (w_pre (xOk cy a) (va_recv hK hP (ci := 1) (q0 := 3) rfl rfl) hK hP hD hS hA hN) rfl rfl hl.1 rfl (lv_room (Nat.le_of_ble_eq_true rfl)) dX6_copy_5 ⟨Nat.le_of_ble_eq_true rfl, Nat.le_of_ble_eq_true rfl⟩) hD hS hA (fun H locs hP hS => ?_)
  have e_1 := tX1_has q x1
  refine lv_if_ne (tgt := 13) hx hb dX6_copy_8 (by decide) (fun c_2 => ?_) (fun c_2 => ?_)
  · have e_3 := i_ne c_2
    refine lv_iload_n hx hb dX6_copy_13 rfl (lv_at hl 2 rfl) ?_
    refine dite (x2 = 0) (fun c_4 => ?_) (fun c_4 => ?_)
    · refine lv_tableIn (off := 46) (tgt := 60) hx hb dX6_copy_14 (by rw [c_4]; decide) (by rw [c_4]; decide) (by rw [c_4]; decide) (by decide) ?_
      refine lv_aload_n hx hb dX6_copy_60 rfl (lv_at hl 0 rfl) ?_
      refine gfX6_26 hx hb hts h_2 hown hK hP h_1 dX6_copy_61 ?_
      refine gfX6_175 hx hb hts h_8 hown hK hP h_7 dX6_copy_64 ?_
      refine lv_iload_n hx hb dX6_copy_67 rfl (lv_at hl 1 rfl) ?_
      have v_5 : vp_in x1 200 := vp_in_iff.mpr (by omega)
      refine ldX_6 (f := (q 6)) hx hb hK hP rfl v_5 dX6_copy_68 ?_
      exact W.iret (v := (q 6 (x1).toNatClampNeg)) hx hb hr (fun t ht hW => ⟨⟨(q 6 (x1).toNatClampNeg), q, rfl, ⟨(show (fX6_copy q x1 x2) = (q 6 (x1).toNatClampNeg) by (rw [fX6_copy, if_neg c_2, if_pos c_4]); try rfl).symm, rfl⟩, w_ht ht hP⟩, hS.F ht⟩) hS.2.2 dX6_copy_69
    · have e_20 := i_ne c_4
      refine dite (x2 = 1) (fun c_6 => ?_) (fun c_6 => ?_)
      · refine lv_tableIn (off := 56) (tgt := 70) hx hb dX6_copy_14 (by rw [c_6]; decide) (by rw [c_6]; decide) (by rw [c_6]; decide) (by decide) ?_
        refine lv_aload_n hx hb dX6_copy_70 rfl (lv_at hl 0 rfl) ?_
        refine gfX6_26 hx hb hts h_2 hown hK hP h_1 dX6_copy_71 ?_
        refine gfX6_178 hx hb hts h_8 hown hK hP h_9 dX6_copy_74 ?_
        refine lv_iload_n hx hb dX6_copy_77 rfl (lv_at hl 1 rfl) ?_
        have v_7 : vp_in x1 200 := vp_in_iff.mpr (by omega)
        refine ldX_7 (f := (q 7)) hx hb hK hP rfl v_7 dX6_copy_78 ?_
        exact W.iret (v := (q 7 (x1).toNatClampNeg)) hx hb hr (fun t ht hW => ⟨⟨(q 7 (x1).toNatClampNeg), q, rfl, ⟨(show (fX6_copy q x1 x2) = (q 7 (x1).toNatClampNeg) by (rw [fX6_copy, if_neg c_2, if_neg c_4, if_pos c_6]); try rfl).symm, rfl⟩, w_ht ht hP⟩, hS.F ht⟩) hS.2.2 dX6_copy_79
      · have e_21 := i_ne c_6
        refine dite (x2 = 2) (fun c_8 => ?_) (fun c_8 => ?_)
        · refine lv_tableIn (off := 66) (tgt := 80) hx hb dX6_copy_14 (by rw [c_8]; decide) (by rw [c_8]; decide) (by rw [c_8]; decide) (by decide) ?_
          refine lv_aload_n hx hb dX6_copy_80 rfl (lv_at hl 0 rfl) ?_
          refine gfX6_26 hx hb hts h_2 hown hK hP h_1 dX6_copy_81 ?_
          refine gfX6_181 hx hb hts h_8 hown hK hP h_10 dX6_copy_84 ?_
          refine lv_iload_n hx hb dX6_copy_87 rfl (lv_at hl 1 rfl) ?_
          have v_9 : vp_in x1 200 := vp_in_iff.mpr (by omega)
          refine ldX_8 (f := (q 8)) hx hb hK hP rfl v_9 dX6_copy_88 ?_
          exact W.iret (v := (q 8 (x1).toNatClampNeg)) hx hb hr (fun t ht hW => ⟨⟨(q 8 (x1).toNatClampNeg), q, rfl, ⟨(show (fX6_copy q x1 x2) = (q 8 (x1).toNatClampNeg) by (rw [fX6_copy, if_neg c_2, if_neg c_4, if_neg c_6, if_pos c_8]); try rfl).symm, rfl⟩, w_ht ht hP⟩, hS.F ht⟩) hS.2.2 dX6_copy_89
        · have e_22 := i_ne c_8
          refine dite (x2 = 3) (fun c_10 => ?_) (fun c_10 => ?_)
          · refine lv_tableIn (off := 76) (tgt := 90) hx hb dX6_copy_14 (by rw [c_10]; decide) (by rw [c_10]; decide) (by rw [c_10]; decide) (by decide) ?_
            refine lv_aload_n hx hb dX6_copy_90 rfl (lv_at hl 0 rfl) ?_
            refine gfX6_26 hx hb hts h_2 hown hK hP h_1 dX6_copy_91 ?_
            refine gfX6_169 hx hb hts h_8 hown hK hP h_11 dX6_copy_94 ?_
            refine lv_iload_n hx hb dX6_copy_97 rfl (lv_at hl 1 rfl) ?_
            have v_11 : vp_in x1 200 := vp_in_iff.mpr (by omega)
            refine ldX_9 (f := (q 9)) hx hb hK hP rfl v_11 dX6_copy_98 ?_
            exact W.iret (v := (q 9 (x1).toNatClampNeg)) hx hb hr (fun t ht hW => ⟨⟨(q 9 (x1).toNatClampNeg), q, rfl, ⟨(show (fX6_copy q x1 x2) = (q 9 (x1).toNatClampNeg) by (rw [fX6_copy, if_neg c_2, if_neg c_4, if_neg c_6, if_neg c_8, if_pos c_10]); try rfl).symm, rfl⟩, w_ht ht hP⟩, hS.F ht⟩) hS.2.2 dX6_copy_99
          · have e_23 := i_ne c_10
            refine dite (x2 = 4) (fun c_12 => ?_) (fun c_12 => ?_)
            · refine lv_tableIn (off := 86) (tgt := 100) hx hb dX6_copy_14 (by rw [c_12]; decide) (by rw [c_12]; decide) (by rw [c_12]; decide) (by decide) ?_
              refine lv_aload_n hx hb dX6_copy_100 rfl (lv_at hl 0 rfl) ?_
              refine gfX6_26 hx hb hts h_2 hown hK hP h_1 dX6_copy_101 ?_
              refine gfX6_137 hx hb hts h_8 hown hK hP h_12 dX6_copy_104 ?_
              refine lv_iload_n hx hb dX6_copy_107 rfl (lv_at hl 1 rfl) ?_
              have v_13 : vp_in x1 200 := vp_in_iff.mpr (by omega)
              refine ldX_10 (f := (q 10)) hx hb hK hP rfl v_13 dX6_copy_108 ?_
              exact W.iret (v := (q 10 (x1).toNatClampNeg)) hx hb hr (fun t ht hW => ⟨⟨(q 10 (x1).toNatClampNeg), q, rfl, ⟨(show (fX6_copy q x1 x2) = (q 10 (x1).toNatClampNeg) by (rw [fX6_copy, if_neg c_2, if_neg c_4, if_neg c_6, if_neg c_8, if_neg c_10, if_pos c_12]); try rfl).symm, rfl⟩, w_ht ht hP⟩, hS.F ht⟩) hS.2.2 dX6_copy_109
            · have e_24 := i_ne c_12
              refine dite (x2 = 5) (fun c_14 => ?_) (fun c_14 => ?_)
              · refine lv_tableIn (off := 96) (tgt := 110) hx hb dX6_copy_14 (by rw [c_14]; decide) (by rw [c_14]; decide) (by rw [c_14]; decide) (by decide) ?_
                refine lv_aload_n hx hb dX6_copy_110 rfl (lv_at hl 0 rfl) ?_
                refine gfX6_26 hx hb hts h_2 hown hK hP h_1 dX6_copy_111 ?_
                refine gfX6_184 hx hb hts h_8 hown hK hP h_13 dX6_copy_114 ?_
                refine lv_iload_n hx hb dX6_copy_117 rfl (lv_at hl 1 rfl) ?_
                have v_15 : vp_in x1 200 := vp_in_iff.mpr (by omega)
                refine ldX_12 (f := (q 12)) hx hb hK hP rfl v_15 dX6_copy_118 ?_
                exact W.iret (v := (q 12 (x1).toNatClampNeg)) hx hb hr (fun t ht hW => ⟨⟨(q 12 (x1).toNatClampNeg), q, rfl, ⟨(show (fX6_copy q x1 x2) = (q 12 (x1).toNatClampNeg) by (rw [fX6_copy, if_neg c_2, if_neg c_4, if_neg c_6, if_neg c_8, if_neg c_10, if_neg c_12, if_pos c_14]); try rfl).symm, rfl⟩, w_ht ht hP⟩, hS.F ht⟩) hS.2.2 dX6_copy_119
              · have e_25 := i_ne c_14
                refine dite (x2 = 6) (fun c_16 => ?_) (fun c_16 => ?_)
                · refine lv_tableIn (off := 106) (tgt := 120) hx hb dX6_copy_14 (by rw [c_16]; decide) (by rw [c_16]; decide) (by rw [c_16]; decide) (by decide) ?_
                  refine lv_aload_n hx hb dX6_copy_120 rfl (lv_at hl 0 rfl) ?_
                  refine gfX6_26 hx hb hts h_2 hown hK hP h_1 dX6_copy_121 ?_
                  refine gfX6_187 hx hb hts h_8 hown hK hP h_14 dX6_copy_124 ?_
                  refine lv_iload_n hx hb dX6_copy_127 rfl (lv_at hl 1 rfl) ?_
                  have v_17 : vp_in x1 200 := vp_in_iff.mpr (by omega)
                  refine ldX_13 (f := (q 13)) hx hb hK hP rfl v_17 dX6_copy_128 ?_
                  exact W.iret (v := (q 13 (x1).toNatClampNeg)) hx hb hr (fun t ht hW => ⟨⟨(q 13 (x1).toNatClampNeg), q, rfl, ⟨(show (fX6_copy q x1 x2) = (q 13 (x1).toNatClampNeg) by (rw [fX6_copy, if_neg c_2, if_neg c_4, if_neg c_6, if_neg c_8, if_neg c_10, if_neg c_12, if_neg c_14, if_pos c_16]); try rfl).symm, rfl⟩, w_ht ht hP⟩, hS.F ht⟩) hS.2.2 dX6_copy_129
                · have e_26 := i_ne c_16
                  refine dite (x2 = 7) (fun c_18 => ?_) (fun c_18 => ?_)
                  · refine lv_tableIn (off := 116) (tgt := 130) hx hb dX6_copy_14 (by rw [c_18]; decide) (by rw [c_18]; decide) (by rw [c_18]; decide) (by decide) ?_
                    refine lv_aload_n hx hb dX6_copy_130 rfl (lv_at hl 0 rfl) ?_
                    refine gfX6_26 hx hb hts h_2 hown hK hP h_1 dX6_copy_131 ?_
                    refine gfX6_190 hx hb hts h_8 hown hK hP h_15 dX6_copy_134 ?_
                    refine lv_iload_n hx hb dX6_copy_137 rfl (lv_at hl 1 rfl) ?_
                    have v_19 : vp_in x1 200 := vp_in_iff.mpr (by omega)
                    refine ldX_14 (f := (q 14)) hx hb hK hP rfl v_19 dX6_copy_138 ?_
                    exact W.iret (v := (q 14 (x1).toNatClampNeg)) hx hb hr (fun t ht hW => ⟨⟨(q 14 (x1).toNatClampNeg), q, rfl, ⟨(show (fX6_copy q x1 x2) = (q 14 (x1).toNatClampNeg) by (rw [fX6_copy, if_neg c_2, if_neg c_4, if_neg c_6, if_neg c_8, if_neg c_10, if_neg c_12, if_neg c_14, if_neg c_16, if_pos c_18]); try rfl).symm, rfl⟩, w_ht ht hP⟩, hS.F ht⟩) hS.2.2 dX6_copy_139
                  · have e_27 := i_ne c_18
                    refine lv_tableOut (tgt := 140) hx hb dX6_copy_14 (by omega) (by decide) ?_
                    refine lv_iconst (v := (-1)) hx hb dX6_copy_140 (by decide) ?_
                    exact W.iret (v := (-1)) hx hb hr (fun t ht hW => ⟨⟨(-1), q, rfl, ⟨(show (fX6_copy q x1 x2) = (-1) by (rw [fX6_copy, if_neg c_2, if_neg c_4, if_neg c_6, if_neg c_8, if_neg c_10, if_neg c_12, if_neg c_14, if_neg c_16, if_neg c_18]); try rfl).symm, rfl⟩, w_ht ht hP⟩, hS.F ht⟩) hS.2.2 dX6_copy_141
  · have e_3 := i_eq c_2
    refine lv_iconst (v := (-1)) hx hb dX6_copy_11 (by decide) ?_
    exact W.iret (v := (-1)) hx hb hr (fun t ht hW => ⟨⟨(-1), q, rfl, ⟨(show (fX6_copy q x1 x2) = (-1) by (rw [fX6_copy, if_pos c_2]); try rfl).symm, rfl⟩, w_ht ht hP⟩, hS.F ht⟩) hS.2.2 dX6_copy_12
