set_option maxHeartbeats 4000000 in
set_option maxRecDepth 100000 in
theorem mX6_lendFor (l : Launch) (G : va_G) (cy : ClassId) (a : Nat → Nat) (sz : Nat) (q : wSt) (x1 : Int32) (hI : iI q) (g0 : 0 ≤ (x1).toInt) (g1 : (x1).toInt < 100) : CtV l yX6_lendFor wsX6_lendFor ({ frames := 4, cells := 0, slots := 0, locals := 89 }) G cy (cX cy a) xN sz q [.ref (a 0), .int x1] (fX6_lendFor q x1) := by
  refine Met.ofW (cc := cX6_lendFor) (maxL := 4) (ret := none) (by decide) rfl ?_
  intro p e s m args below meth c s₁ B hml hv
  obtain ⟨rfl, hsz, hP, hK, hD0, hN⟩ := hv
  have hx := B.exec
  have hb := B.bytes
  have hr := B.returns
  have hts := atoms_spec (ws := wsX6_lendFor) B.pre
  have hown : s.vm.findClass RX6 = some m.cls := findClass_of_methodNamed B.named
  have hlocks := B.notSynchronized
  subst hsz
  have hD : ∀ z : wSt, va_D (wA (cX cy a) s.heap.size) ((cX cy a) z) := fun z => w_self (xOk cy a).1 hD0 z
  have hA : ∀ z : Nat, s.heap.size ≤ z → wA (cX cy a) s.heap.size z := fun _ h => Or.inr h
  have hS : va_S (wA (cX cy a) s.heap.size) s.heap s.heap [] := va_S.rf
  have hl := lv_entry ([.ref (a 0), .int x1]) (n := 4) (Nat.le_of_ble_eq_true rfl)
  rw [lg_entry_eq]
  generalize (lg_sl ([.ref (a 0), .int x1]) ++ List.replicate (4 - (lg_sl ([.ref (a 0), .int x1])).length) Slot.unset).toArray = ls at hl ⊢
  have hl : lv_has ls 4 [(0, .ref (a 0)), (1, .int x1)] := hl
  have h_1 := hts (.fieldLink RX6 40 RX6 "wishes" "LVolumeHouse$Wishes;") (by decide +kernel)
  have h_2 := (show ∀ w ∈ u_ws RX6 TX6 10, w ∈ wsX6_lendFor by decide +kernel)
  have h_3 := (hN.1 _ (List.mem_of_getElem? (i := 31) rfl) : va_Nw (.fieldLinkNest RX6 264 RX5 "reader" "[I" RX6) s)
  have h_4 := (show ∀ w ∈ u_ws RX5 TX5 7, w ∈ wsX6_lendFor by decide +kernel)
  have h_5 := hts (.fieldLink RX6 26 RX6 "copies" "LVolumeHouse$Copies;") (by decide +kernel)
  have h_6 := (hN.1 _ (List.mem_of_getElem? (i := 32) rfl) : va_Nw (.fieldLinkNest RX6 268 RX5 "title" "[I" RX6) s)
  have h_7 := (hN.1 _ (List.mem_of_getElem? (i := 24) rfl) : va_Nw (.fieldLinkNest RX6 200 RX5 "had" "[I" RX6) s)
  have h_8 := (hN.1 _ (List.mem_of_getElem? (i := 70) rfl) : va_Nw (.methodLinkNest RX6 275 yX1_leastOnShelf RX6) s)
  have h_9 := hts (.initialized RX1) (by decide +kernel)
  have h_10 := hts (.instanceMethod yX1_leastOnShelf) (by decide +kernel)
  have h_11 := hts (.selects RX1 yX1_leastOnShelf yX1_leastOnShelf) (by decide +kernel)
  have h_12 := hts (.fieldLink RX6 33 RX6 "readers" "LVolumeHouse$Readers;") (by decide +kernel)
  have h_13 := (hN.1 _ (List.mem_of_getElem? (i := 49) rfl) : va_Nw (.methodLinkNest RX6 109 yX3_has RX6) s)
  have h_14 := hts (.initialized RX3) (by decide +kernel)
  have h_15 := hts (.instanceMethod yX3_has) (by decide +kernel)
  have h_16 := hts (.selects RX3 yX3_has yX3_has) (by decide +kernel)
  have h_17 := (hN.1 _ (List.mem_of_getElem? (i := 25) rfl) : va_Nw (.fieldLinkNest RX6 203 RX5 "held" "[I" RX6) s)
  have h_18 := (hN.1 _ (List.mem_of_getElem? (i := 71) rfl) : va_Nw (.methodLinkNest RX6 278 yX1_lend RX6) s)
  have h_19 := hts (.instanceMethod yX1_lend) (by decide +kernel)
  have h_20 := hts (.selects RX1 yX1_lend yX1_lend) (by decide +kernel)
  have h_21 := (hN.1 _ (List.mem_of_getElem? (i := 14) rfl) : va_Nw (.fieldLinkNest RX6 156 RX3 "boxDays" "[I" RX6) s)
  have h_22 := (show ∀ w ∈ u_ws RX3 TX3 7, w ∈ wsX6_lendFor by decide +kernel)
  have h_23 := (hN.1 _ (List.mem_of_getElem? (i := 72) rfl) : va_Nw (.methodLinkNest RX6 281 yX1_sendOut RX6) s)
  have h_24 := hts (.instanceMethod yX1_sendOut) (by decide +kernel)
  have h_25 := hts (.selects RX1 yX1_sendOut yX1_sendOut) (by decide +kernel)
  have h_26 := (hN.1 _ (List.mem_of_getElem? (i := 15) rfl) : va_Nw (.fieldLinkNest RX6 165 RX3 "inBoxes" "[I" RX6) s)
  have h_27 := hts (.fieldLink RX6 51 RX6 "now" "I") (by decide +kernel)
  have h_28 := (hN.1 _ (List.mem_of_getElem? (i := 66) rfl) : va_Nw (.methodLinkNest RX6 248 yX1_handOver RX6) s)
  have h_29 := hts (.instanceMethod yX1_handOver) (by decide +kernel)
  have h_30 := hts (.selects RX1 yX1_handOver yX1_handOver) (by decide +kernel)
  have h_31 := (hN.1 _ (List.mem_of_getElem? (i := 13) rfl) : va_Nw (.fieldLinkNest RX6 153 RX3 "inHand" "[I" RX6) s)
  have t_m1 : ((-1) : Int32).toInt = -1 := rfl
  have t_0 : (0 : Int32).toInt = 0 := rfl
  have t_1 : (1 : Int32).toInt = 1 := rfl
  have hB := iI_b hI
  refine lv_aload_n hx hb dX6_lendFor_0 rfl (lv_at hl 0 rfl) ?_
  refine gfX6_40 hx hb hts h_2 hown hK hP h_1 dX6_lendFor_1 ?_
  refine gfX6_264 hx hb hts h_4 hown hK hP h_3 dX6_lendFor_4 ?_
  refine lv_iload_n hx hb dX6_lendFor_7 rfl (lv_at hl 1 rfl) ?_
  have v_1 : vp_in x1 100 := vp_in_iff.mpr (by omega)
  refine ldX_22 (f := (q 22)) hx hb hK hP rfl v_1 dX6_lendFor_8 ?_
  have e_2 := iI_22 hI _ (i_clamp v_1)
  refine lv_istore_n (lv' := [(2, .int (q 22 (x1).toNatClampNeg)), (0, .ref (a 0)), (1, .int x1)]) hx hb dX6_lendFor_9 rfl hl (by decide) rfl (fun ls hl => ?_)
  refine lv_aload_n hx hb dX6_lendFor_10 rfl (lv_at hl 1 rfl) ?_
  refine gfX6_26 hx hb hts h_2 hown hK hP h_5 dX6_lendFor_11 ?_
  refine lv_aload_n hx hb dX6_lendFor_14 rfl (lv_at hl 1 rfl) ?_
  refine gfX6_40 hx hb hts h_2 hown hK hP h_1 dX6_lendFor_15 ?_
  refine gfX6_268 hx hb hts h_4 hown hK hP h_6 dX6_lendFor_18 ?_
  refine lv_iload_n hx hb dX6_lendFor_21 rfl (lv_at hl 2 rfl) ?_
  have v_3 : vp_in x1 100 := vp_in_iff.mpr (by omega)
  refine ldX_23 (f := (q 23)) hx hb hK hP rfl v_3 dX6_lendFor_22 ?_
  have e_4 := iI_23 hI _ (i_clamp v_3)
  refine lv_aload_n hx hb dX6_lendFor_23 rfl (lv_at hl 1 rfl) ?_
  refine gfX6_40 hx hb hts h_2 hown hK hP h_1 dX6_lendFor_24 ?_
  refine gfX6_200 hx hb hts h_4 hown hK hP h_7 dX6_lendFor_27 ?_
  refine lv_iload_n hx hb dX6_lendFor_30 rfl (lv_at hl 2 rfl) ?_
  have v_5 : vp_in x1 100 := vp_in_iff.mpr (by omega)
  refine ldX_25 (f := (q 25)) hx hb hK hP rfl v_5 dX6_lendFor_31 ?_
  refine w_goI (va_runVN (As := [.int (q 23 (x1).toNatClampNeg), .int (q 25 (x1).toNatClampNeg)]) (rest := []) ⟨hx, hb, hml, hown, hts⟩ (mX1_leastOnShelf l G cy a _ q (q 23 (x1).toNatClampNeg) (q 25 (x1).toNatClampNeg) (by omega)) ⟨va_cnB 2 hts gX6_lendFor_X1_leastOnShelf_n275 rfl rfl rfl h_8 h_9 (by decide +kernel) ⟨Nat.le_of_ble_eq_true rfl, Nat.le_of_ble_eq_true rfl⟩, h_10, h_11⟩ (w_pre (xOk cy a) (va_recv hK hP (ci := 1) (q0 := 3) rfl rfl) hK hP hD hS hA hN) rfl rfl hl.1 rfl (lv_room (Nat.le_of_ble_eq_true rfl)) dX6_lendFor_32 ⟨Nat.le_of_ble_eq_true rfl, Nat.le_of_ble_eq_true rfl⟩) hD hS hA (fun H locs hP hS => ?_)
  have e_6 := tX1_leastOnShelf q (q 23 (x1).toNatClampNeg) (q 25 (x1).toNatClampNeg)
  refine lv_istore_n (lv' := [(3, .int (fX1_leastOnShelf q (q 23 (x1).toNatClampNeg) (q 25 (x1).toNatClampNeg))), (2, .int (q 22 (x1).toNatClampNeg)), (0, .ref (a 0)), (1, .int x1)]) hx hb dX6_lendFor_35 rfl hl (by decide) rfl (fun ls hl => ?_)
  refine lv_iload_n hx hb dX6_lendFor_36 rfl (lv_at hl 0 rfl) ?_
  refine lv_iconst (v := (-1)) hx hb dX6_lendFor_37 (by decide) ?_
  refine lv_icmp_eq (tgt := 52) hx hb dX6_lendFor_38 (by decide) (fun c_7 => ?_) (fun c_7 => ?_)
  · have e_8 := i_eq c_7
    exact W.vret hx hb hr (fun t ht hW => ⟨⟨q, rfl, (show (fX6_lendFor q x1) = q by (rw [fX6_lendFor, if_pos c_7]); try rfl).symm, w_ht ht hP⟩, hS.F ht⟩) hS.2.2 dX6_lendFor_52
  · have e_8 := i_ne c_7
    refine lv_aload_n hx hb dX6_lendFor_41 rfl (lv_at hl 2 rfl) ?_
    refine gfX6_33 hx hb hts h_2 hown hK hP h_12 dX6_lendFor_42 ?_
    refine lv_iload_n hx hb dX6_lendFor_45 rfl (lv_at hl 1 rfl) ?_
    refine w_goI (va_runVN (As := [.int (q 22 (x1).toNatClampNeg)]) (rest := []) ⟨hx, hb, hml, hown, hts⟩ (mX3_has l G cy a _ q (q 22 (x1).toNatClampNeg)) ⟨va_cnB 1 hts gX6_lendFor_X3_has_n109 rfl rfl rfl h_13 h_14 (by decide +kernel) ⟨Nat.le_of_ble_eq_true rfl, Nat.le_of_ble_eq_true rfl⟩, h_15, h_16⟩ (w_pre (xOk cy a) (va_recv hK hP (ci := 3) (q0 := 4) rfl rfl) hK hP hD hS hA hN) rfl rfl hl.1 rfl (lv_room (Nat.le_of_ble_eq_true rfl)) dX6_lendFor_46 ⟨Nat.le_of_ble_eq_true rfl, Nat.le_of_ble_eq_true rfl⟩) hD hS hA (fun H locs hP hS => ?_)
    have e_9 := tX3_has q (q 22 (x1).toNatClampNeg)
    refine lv_if_ne (tgt := 53) hx hb dX6_lendFor_49 (by decide) (fun c_10 => ?_) (fun c_10 => ?_)
    · have e_11 := i_ne c_10
      refine lv_aload_n hx hb dX6_lendFor_53 rfl (lv_at hl 2 rfl) ?_
      refine gfX6_40 hx hb hts h_2 hown hK hP h_1 dX6_lendFor_54 ?_
      refine gfX6_203 hx hb hts h_4 hown hK hP h_17 dX6_lendFor_57 ?_
      refine lv_iload_n hx hb dX6_lendFor_60 rfl (lv_at hl 3 rfl) ?_
      refine lv_iload_n hx hb dX6_lendFor_61 rfl (lv_at hl 0 rfl) ?_
      have v_12 : vp_in x1 100 := vp_in_iff.mpr (by omega)
      refine stX_26 (f := (q 26)) hx hb hK hP hD hS rfl v_12 dX6_lendFor_62 (fun H locs hP hS => ?_)
      refine lv_aload_n hx hb dX6_lendFor_63 rfl (lv_at hl 2 rfl) ?_
      refine gfX6_26 hx hb hts h_2 hown hK hP h_5 dX6_lendFor_64 ?_
      refine lv_iload_n hx hb dX6_lendFor_67 rfl (lv_at hl 0 rfl) ?_
      refine lv_iload_n hx hb dX6_lendFor_68 rfl (lv_at hl 1 rfl) ?_
      refine lv_iload_n hx hb dX6_lendFor_69 rfl (lv_at hl 3 rfl) ?_
      refine w_goV (va_runVN (As := [.int (fX1_leastOnShelf q (q 23 (x1).toNatClampNeg) (q 25 (x1).toNatClampNeg)), .int (q 22 (x1).toNatClampNeg), .int x1]) (rest := []) ⟨hx, hb, hml, hown, hts⟩ (mX1_lend l G cy a _ (rset q 26 (upd (q 26) (x1).toNatClampNeg (fX1_leastOnShelf q (q 23 (x1).toNatClampNeg) (q 25 (x1).toNatClampNeg)))) (fX1_leastOnShelf q (q 23 (x1).toNatClampNeg) (q 25 (x1).toNatClampNeg)) (q 22 (x1).toNatClampNeg) x1 (by have hB9 := iI_b (iI_rset (k := 26) (f := (upd (q 26) (x1).toNatClampNeg (fX1_leastOnShelf q (q 23 (x1).toNatClampNeg) (q 25 (x1).toNatClampNeg)))) (by decide) hI); omega) (by have hB9 := iI_b (iI_rset (k := 26) (f := (upd (q 26) (x1).toNatClampNeg (fX1_leastOnShelf q (q 23 (x1).toNatClampNeg) (q 25 (x1).toNatClampNeg)))) (by decide) hI); omega)) ⟨va_cnB 3 hts gX6_lendFor_X1_lend_n278 rfl rfl rfl h_18 h_9 (by decide +kernel) ⟨Nat.le_of_ble_eq_true rfl, Nat.le_of_ble_eq_true rfl⟩, h_19, h_20⟩ (w_pre (xOk cy a) (va_recv hK hP (ci := 1) (q0 := 3) rfl rfl) hK hP hD hS hA hN) rfl rfl hl.1 rfl (lv_room (Nat.le_of_ble_eq_true rfl)) dX6_lendFor_70 ⟨Nat.le_of_ble_eq_true rfl, Nat.le_of_ble_eq_true rfl⟩) hD hS hA (fun H locs hP hS => ?_)
      refine lv_aload_n hx hb dX6_lendFor_73 rfl (lv_at hl 2 rfl) ?_
      refine gfX6_33 hx hb hts h_2 hown hK hP h_12 dX6_lendFor_74 ?_
      refine gfX6_156 hx hb hts h_22 hown hK hP h_21 dX6_lendFor_77 ?_
      refine lv_iload_n hx hb dX6_lendFor_80 rfl (lv_at hl 1 rfl) ?_
      have v_13 : vp_in (q 22 (x1).toNatClampNeg) 20 := vp_in_iff.mpr (by omega)
      refine ldX_17 (f := ((fX1_lend (rset q 26 (upd (q 26) (x1).toNatClampNeg (fX1_leastOnShelf q (q 23 (x1).toNatClampNeg) (q 25 (x1).toNatClampNeg)))) (fX1_leastOnShelf q (q 23 (x1).toNatClampNeg) (q 25 (x1).toNatClampNeg)) (q 22 (x1).toNatClampNeg) x1) 17)) hx hb hK hP rfl v_13 dX6_lendFor_81 ?_
      refine lv_if_ne (tgt := 113) hx hb dX6_lendFor_82 (by decide) (fun c_14 => ?_) (fun c_14 => ?_)
      · have e_15 := i_ne c_14
        refine lv_aload_n hx hb dX6_lendFor_113 rfl (lv_at hl 2 rfl) ?_
        refine gfX6_26 hx hb hts h_2 hown hK hP h_5 dX6_lendFor_114 ?_
        refine lv_iload_n hx hb dX6_lendFor_117 rfl (lv_at hl 0 rfl) ?_
        refine lv_aload_n hx hb dX6_lendFor_118 rfl (lv_at hl 2 rfl) ?_
        refine gfX6_33 hx hb hts h_2 hown hK hP h_12 dX6_lendFor_119 ?_
        refine gfX6_156 hx hb hts h_22 hown hK hP h_21 dX6_lendFor_122 ?_
        refine lv_iload_n hx hb dX6_lendFor_125 rfl (lv_at hl 1 rfl) ?_
        have v_16 : vp_in (q 22 (x1).toNatClampNeg) 20 := vp_in_iff.mpr (by omega)
        refine ldX_17 (f := ((fX1_lend (rset q 26 (upd (q 26) (x1).toNatClampNeg (fX1_leastOnShelf q (q 23 (x1).toNatClampNeg) (q 25 (x1).toNatClampNeg)))) (fX1_leastOnShelf q (q 23 (x1).toNatClampNeg) (q 25 (x1).toNatClampNeg)) (q 22 (x1).toNatClampNeg) x1) 17)) hx hb hK hP rfl v_16 dX6_lendFor_126 ?_
        refine w_goV (va_runVN (As := [.int (fX1_leastOnShelf q (q 23 (x1).toNatClampNeg) (q 25 (x1).toNatClampNeg)), .int ((fX1_lend (rset q 26 (upd (q 26) (x1).toNatClampNeg (fX1_leastOnShelf q (q 23 (x1).toNatClampNeg) (q 25 (x1).toNatClampNeg)))) (fX1_leastOnShelf q (q 23 (x1).toNatClampNeg) (q 25 (x1).toNatClampNeg)) (q 22 (x1).toNatClampNeg) x1) 17 (q 22 (x1).toNatClampNeg).toNatClampNeg)]) (rest := []) ⟨hx, hb, hml, hown, hts⟩ (mX1_sendOut l G cy a _ (fX1_lend (rset q 26 (upd (q 26) (x1).toNatClampNeg (fX1_leastOnShelf q (q 23 (x1).toNatClampNeg) (q 25 (x1).toNatClampNeg)))) (fX1_leastOnShelf q (q 23 (x1).toNatClampNeg) (q 25 (x1).toNatClampNeg)) (q 22 (x1).toNatClampNeg) x1) (fX1_leastOnShelf q (q 23 (x1).toNatClampNeg) (q 25 (x1).toNatClampNeg)) ((fX1_lend (rset q 26 (upd (q 26) (x1).toNatClampNeg (fX1_leastOnShelf q (q 23 (x1).toNatClampNeg) (q 25 (x1).toNatClampNeg)))) (fX1_leastOnShelf q (q 23 (x1).toNatClampNeg) (q 25 (x1).toNatClampNeg)) (q 22 (x1).toNatClampNeg) x1) 17 (q 22 (x1).toNatClampNeg).toNatClampNeg) (by have hB9 := iI_b (iIX1_lend (rset q 26 (upd (q 26) (x1).toNatClampNeg (fX1_leastOnShelf q (q 23 (x1).toNatClampNeg) (q 25 (x1).toNatClampNeg)))) (fX1_leastOnShelf q (q 23 (x1).toNatClampNeg) (q 25 (x1).toNatClampNeg)) (q 22 (x1).toNatClampNeg) x1 (iI_rset (k := 26) (f := (upd (q 26) (x1).toNatClampNeg (fX1_leastOnShelf q (q 23 (x1).toNatClampNeg) (q 25 (x1).toNatClampNeg)))) (by decide) hI)); omega) (by have hB9 := iI_b (iIX1_lend (rset q 26 (upd (q 26) (x1).toNatClampNeg (fX1_leastOnShelf q (q 23 (x1).toNatClampNeg) (q 25 (x1).toNatClampNeg)))) (fX1_leastOnShelf q (q 23 (x1).toNatClampNeg) (q 25 (x1).toNatClampNeg)) (q 22 (x1).toNatClampNeg) x1 (iI_rset (k := 26) (f := (upd (q 26) (x1).toNatClampNeg (fX1_leastOnShelf q (q 23 (x1).toNatClampNeg) (q 25 (x1).toNatClampNeg)))) (by decide) hI)); omega)) ⟨va_cnB 2 hts gX6_lendFor_X1_sendOut_n281 rfl rfl rfl h_23 h_9 (by decide +kernel) ⟨Nat.le_of_ble_eq_true rfl, Nat.le_of_ble_eq_true rfl⟩, h_24, h_25⟩ (w_pre (xOk cy a) (va_recv hK hP (ci := 1) (q0 := 3) rfl rfl) hK hP hD hS hA hN) rfl rfl hl.1 rfl (lv_room (Nat.le_of_ble_eq_true rfl)) dX6_lendFor_127 ⟨Nat.le_of_ble_eq_true rfl, Nat.le_of_ble_eq_true rfl⟩) hD hS hA (fun H locs hP hS => ?_)
        refine lv_aload_n hx hb dX6_lendFor_130 rfl (lv_at hl 2 rfl) ?_
        refine gfX6_33 hx hb hts h_2 hown hK hP h_12 dX6_lendFor_131 ?_
        refine gfX6_165 hx hb hts h_22 hown hK hP h_26 dX6_lendFor_134 ?_
        refine lv_iload_n hx hb dX6_lendFor_137 rfl (lv_at hl 1 rfl) ?_
        refine lv_dup2_11 hx hb dX6_lendFor_138 rfl rfl ?_
        have v_17 : vp_in (q 22 (x1).toNatClampNeg) 20 := vp_in_iff.mpr (by omega)
        refine ldX_21 (f := ((fX1_sendOut (fX1_lend (rset q 26 (upd (q 26) (x1).toNatClampNeg (fX1_leastOnShelf q (q 23 (x1).toNatClampNeg) (q 25 (x1).toNatClampNeg)))) (fX1_leastOnShelf q (q 23 (x1).toNatClampNeg) (q 25 (x1).toNatClampNeg)) (q 22 (x1).toNatClampNeg) x1) (fX1_leastOnShelf q (q 23 (x1).toNatClampNeg) (q 25 (x1).toNatClampNeg)) ((fX1_lend (rset q 26 (upd (q 26) (x1).toNatClampNeg (fX1_leastOnShelf q (q 23 (x1).toNatClampNeg) (q 25 (x1).toNatClampNeg)))) (fX1_leastOnShelf q (q 23 (x1).toNatClampNeg) (q 25 (x1).toNatClampNeg)) (q 22 (x1).toNatClampNeg) x1) 17 (q 22 (x1).toNatClampNeg).toNatClampNeg)) 21)) hx hb hK hP rfl v_17 dX6_lendFor_139 ?_
        refine lv_iconst (v := 1) hx hb dX6_lendFor_140 (by decide) ?_
        refine lv_iadd hx hb dX6_lendFor_141 ?_
        have v_18 : vp_in (q 22 (x1).toNatClampNeg) 20 := vp_in_iff.mpr (by omega)
        refine stX_21 (f := ((fX1_sendOut (fX1_lend (rset q 26 (upd (q 26) (x1).toNatClampNeg (fX1_leastOnShelf q (q 23 (x1).toNatClampNeg) (q 25 (x1).toNatClampNeg)))) (fX1_leastOnShelf q (q 23 (x1).toNatClampNeg) (q 25 (x1).toNatClampNeg)) (q 22 (x1).toNatClampNeg) x1) (fX1_leastOnShelf q (q 23 (x1).toNatClampNeg) (q 25 (x1).toNatClampNeg)) ((fX1_lend (rset q 26 (upd (q 26) (x1).toNatClampNeg (fX1_leastOnShelf q (q 23 (x1).toNatClampNeg) (q 25 (x1).toNatClampNeg)))) (fX1_leastOnShelf q (q 23 (x1).toNatClampNeg) (q 25 (x1).toNatClampNeg)) (q 22 (x1).toNatClampNeg) x1) 17 (q 22 (x1).toNatClampNeg).toNatClampNeg)) 21)) hx hb hK hP hD hS rfl v_18 dX6_lendFor_142 (fun H locs hP hS => ?_)
        exact W.vret hx hb hr (fun t ht hW => ⟨⟨(rset (fX1_sendOut (fX1_lend (rset q 26 (upd (q 26) (x1).toNatClampNeg (fX1_leastOnShelf q (q 23 (x1).toNatClampNeg) (q 25 (x1).toNatClampNeg)))) (fX1_leastOnShelf q (q 23 (x1).toNatClampNeg) (q 25 (x1).toNatClampNeg)) (q 22 (x1).toNatClampNeg) x1) (fX1_leastOnShelf q (q 23 (x1).toNatClampNeg) (q 25 (x1).toNatClampNeg)) ((fX1_lend (rset q 26 (upd (q 26) (x1).toNatClampNeg (fX1_leastOnShelf q (q 23 (x1).toNatClampNeg) (q 25 (x1).toNatClampNeg)))) (fX1_leastOnShelf q (q 23 (x1).toNatClampNeg) (q 25 (x1).toNatClampNeg)) (q 22 (x1).toNatClampNeg) x1) 17 (q 22 (x1).toNatClampNeg).toNatClampNeg)) 21 (upd ((fX1_sendOut (fX1_lend (rset q 26 (upd (q 26) (x1).toNatClampNeg (fX1_leastOnShelf q (q 23 (x1).toNatClampNeg) (q 25 (x1).toNatClampNeg)))) (fX1_leastOnShelf q (q 23 (x1).toNatClampNeg) (q 25 (x1).toNatClampNeg)) (q 22 (x1).toNatClampNeg) x1) (fX1_leastOnShelf q (q 23 (x1).toNatClampNeg) (q 25 (x1).toNatClampNeg)) ((fX1_lend (rset q 26 (upd (q 26) (x1).toNatClampNeg (fX1_leastOnShelf q (q 23 (x1).toNatClampNeg) (q 25 (x1).toNatClampNeg)))) (fX1_leastOnShelf q (q 23 (x1).toNatClampNeg) (q 25 (x1).toNatClampNeg)) (q 22 (x1).toNatClampNeg) x1) 17 (q 22 (x1).toNatClampNeg).toNatClampNeg)) 21) (q 22 (x1).toNatClampNeg).toNatClampNeg (((fX1_sendOut (fX1_lend (rset q 26 (upd (q 26) (x1).toNatClampNeg (fX1_leastOnShelf q (q 23 (x1).toNatClampNeg) (q 25 (x1).toNatClampNeg)))) (fX1_leastOnShelf q (q 23 (x1).toNatClampNeg) (q 25 (x1).toNatClampNeg)) (q 22 (x1).toNatClampNeg) x1) (fX1_leastOnShelf q (q 23 (x1).toNatClampNeg) (q 25 (x1).toNatClampNeg)) ((fX1_lend (rset q 26 (upd (q 26) (x1).toNatClampNeg (fX1_leastOnShelf q (q 23 (x1).toNatClampNeg) (q 25 (x1).toNatClampNeg)))) (fX1_leastOnShelf q (q 23 (x1).toNatClampNeg) (q 25 (x1).toNatClampNeg)) (q 22 (x1).toNatClampNeg) x1) 17 (q 22 (x1).toNatClampNeg).toNatClampNeg)) 21 (q 22 (x1).toNatClampNeg).toNatClampNeg) + 1))), rfl, (show (fX6_lendFor q x1) = (rset (fX1_sendOut (fX1_lend (rset q 26 (upd (q 26) (x1).toNatClampNeg (fX1_leastOnShelf q (q 23 (x1).toNatClampNeg) (q 25 (x1).toNatClampNeg)))) (fX1_leastOnShelf q (q 23 (x1).toNatClampNeg) (q 25 (x1).toNatClampNeg)) (q 22 (x1).toNatClampNeg) x1) (fX1_leastOnShelf q (q 23 (x1).toNatClampNeg) (q 25 (x1).toNatClampNeg)) ((fX1_lend (rset q 26 (upd (q 26) (x1).toNatClampNeg (fX1_leastOnShelf q (q 23 (x1).toNatClampNeg) (q 25 (x1).toNatClampNeg)))) (fX1_leastOnShelf q (q 23 (x1).toNatClampNeg) (q 25 (x1).toNatClampNeg)) (q 22 (x1).toNatClampNeg) x1) 17 (q 22 (x1).toNatClampNeg).toNatClampNeg)) 21 (upd ((fX1_sendOut (fX1_lend (rset q 26 (upd (q 26) (x1).toNatClampNeg (fX1_leastOnShelf q (q 23 (x1).toNatClampNeg) (q 25 (x1).toNatClampNeg)))) (fX1_leastOnShelf q (q 23 (x1).toNatClampNeg) (q 25 (x1).toNatClampNeg)) (q 22 (x1).toNatClampNeg) x1) (fX1_leastOnShelf q (q 23 (x1).toNatClampNeg) (q 25 (x1).toNatClampNeg)) ((fX1_lend (rset q 26 (upd (q 26) (x1).toNatClampNeg (fX1_leastOnShelf q (q 23 (x1).toNatClampNeg) (q 25 (x1).toNatClampNeg)))) (fX1_leastOnShelf q (q 23 (x1).toNatClampNeg) (q 25 (x1).toNatClampNeg)) (q 22 (x1).toNatClampNeg) x1) 17 (q 22 (x1).toNatClampNeg).toNatClampNeg)) 21) (q 22 (x1).toNatClampNeg).toNatClampNeg (((fX1_sendOut (fX1_lend (rset q 26 (upd (q 26) (x1).toNatClampNeg (fX1_leastOnShelf q (q 23 (x1).toNatClampNeg) (q 25 (x1).toNatClampNeg)))) (fX1_leastOnShelf q (q 23 (x1).toNatClampNeg) (q 25 (x1).toNatClampNeg)) (q 22 (x1).toNatClampNeg) x1) (fX1_leastOnShelf q (q 23 (x1).toNatClampNeg) (q 25 (x1).toNatClampNeg)) ((fX1_lend (rset q 26 (upd (q 26) (x1).toNatClampNeg (fX1_leastOnShelf q (q 23 (x1).toNatClampNeg) (q 25 (x1).toNatClampNeg)))) (fX1_leastOnShelf q (q 23 (x1).toNatClampNeg) (q 25 (x1).toNatClampNeg)) (q 22 (x1).toNatClampNeg) x1) 17 (q 22 (x1).toNatClampNeg).toNatClampNeg)) 21 (q 22 (x1).toNatClampNeg).toNatClampNeg) + 1))) by (rw [fX6_lendFor, if_neg c_7, if_neg c_10, if_neg c_14]); try rfl).symm, w_ht ht hP⟩, hS.F ht⟩) hS.2.2 dX6_lendFor_143
      · have e_15 := i_eq c_14
        refine lv_aload_n hx hb dX6_lendFor_85 rfl (lv_at hl 2 rfl) ?_
        refine gfX6_26 hx hb hts h_2 hown hK hP h_5 dX6_lendFor_86 ?_
        refine lv_iload_n hx hb dX6_lendFor_89 rfl (lv_at hl 0 rfl) ?_
        refine lv_aload_n hx hb dX6_lendFor_90 rfl (lv_at hl 2 rfl) ?_
        refine gfX6_51 (v := ((fX1_lend (rset q 26 (upd (q 26) (x1).toNatClampNeg (fX1_leastOnShelf q (q 23 (x1).toNatClampNeg) (q 25 (x1).toNatClampNeg)))) (fX1_leastOnShelf q (q 23 (x1).toNatClampNeg) (q 25 (x1).toNatClampNeg)) (q 22 (x1).toNatClampNeg) x1) 30 0)) hx hb hts h_2 hown hK hP h_27 rfl dX6_lendFor_91 ?_
        refine w_goV (va_runVN (As := [.int (fX1_leastOnShelf q (q 23 (x1).toNatClampNeg) (q 25 (x1).toNatClampNeg)), .int ((fX1_lend (rset q 26 (upd (q 26) (x1).toNatClampNeg (fX1_leastOnShelf q (q 23 (x1).toNatClampNeg) (q 25 (x1).toNatClampNeg)))) (fX1_leastOnShelf q (q 23 (x1).toNatClampNeg) (q 25 (x1).toNatClampNeg)) (q 22 (x1).toNatClampNeg) x1) 30 0)]) (rest := []) ⟨hx, hb, hml, hown, hts⟩ (mX1_handOver l G cy a _ (fX1_lend (rset q 26 (upd (q 26) (x1).toNatClampNeg (fX1_leastOnShelf q (q 23 (x1).toNatClampNeg) (q 25 (x1).toNatClampNeg)))) (fX1_leastOnShelf q (q 23 (x1).toNatClampNeg) (q 25 (x1).toNatClampNeg)) (q 22 (x1).toNatClampNeg) x1) (fX1_leastOnShelf q (q 23 (x1).toNatClampNeg) (q 25 (x1).toNatClampNeg)) ((fX1_lend (rset q 26 (upd (q 26) (x1).toNatClampNeg (fX1_leastOnShelf q (q 23 (x1).toNatClampNeg) (q 25 (x1).toNatClampNeg)))) (fX1_leastOnShelf q (q 23 (x1).toNatClampNeg) (q 25 (x1).toNatClampNeg)) (q 22 (x1).toNatClampNeg) x1) 30 0) (by have hB9 := iI_b (iIX1_lend (rset q 26 (upd (q 26) (x1).toNatClampNeg (fX1_leastOnShelf q (q 23 (x1).toNatClampNeg) (q 25 (x1).toNatClampNeg)))) (fX1_leastOnShelf q (q 23 (x1).toNatClampNeg) (q 25 (x1).toNatClampNeg)) (q 22 (x1).toNatClampNeg) x1 (iI_rset (k := 26) (f := (upd (q 26) (x1).toNatClampNeg (fX1_leastOnShelf q (q 23 (x1).toNatClampNeg) (q 25 (x1).toNatClampNeg)))) (by decide) hI)); omega) (by have hB9 := iI_b (iIX1_lend (rset q 26 (upd (q 26) (x1).toNatClampNeg (fX1_leastOnShelf q (q 23 (x1).toNatClampNeg) (q 25 (x1).toNatClampNeg)))) (fX1_leastOnShelf q (q 23 (x1).toNatClampNeg) (q 25 (x1).toNatClampNeg)) (q 22 (x1).toNatClampNeg) x1 (iI_rset (k := 26) (f := (upd (q 26) (x1).toNatClampNeg (fX1_leastOnShelf q (q 23 (x1).toNatClampNeg) (q 25 (x1).toNatClampNeg)))) (by decide) hI)); omega)) ⟨va_cnB 2 hts gX6_lendFor_X1_handOver_n248 rfl rfl rfl h_28 h_9 (by decide +kernel) ⟨Nat.le_of_ble_eq_true rfl, Nat.le_of_ble_eq_true rfl⟩, h_29, h_30⟩ (w_pre (xOk cy a) (va_recv hK hP (ci := 1) (q0 := 3) rfl rfl) hK hP hD hS hA hN) rfl rfl hl.1 rfl (lv_room (Nat.le_of_ble_eq_true rfl)) dX6_lendFor_94 ⟨Nat.le_of_ble_eq_true rfl, Nat.le_of_ble_eq_true rfl⟩) hD hS hA (fun H locs hP hS => ?_)
        refine lv_aload_n hx hb dX6_lendFor_97 rfl (lv_at hl 2 rfl) ?_
        refine gfX6_33 hx hb hts h_2 hown hK hP h_12 dX6_lendFor_98 ?_
        refine gfX6_153 hx hb hts h_22 hown hK hP h_31 dX6_lendFor_101 ?_
        refine lv_iload_n hx hb dX6_lendFor_104 rfl (lv_at hl 1 rfl) ?_
        refine lv_dup2_11 hx hb dX6_lendFor_105 rfl rfl ?_
        have v_19 : vp_in (q 22 (x1).toNatClampNeg) 20 := vp_in_iff.mpr (by omega)
        refine ldX_20 (f := ((fX1_handOver (fX1_lend (rset q 26 (upd (q 26) (x1).toNatClampNeg (fX1_leastOnShelf q (q 23 (x1).toNatClampNeg) (q 25 (x1).toNatClampNeg)))) (fX1_leastOnShelf q (q 23 (x1).toNatClampNeg) (q 25 (x1).toNatClampNeg)) (q 22 (x1).toNatClampNeg) x1) (fX1_leastOnShelf q (q 23 (x1).toNatClampNeg) (q 25 (x1).toNatClampNeg)) ((fX1_lend (rset q 26 (upd (q 26) (x1).toNatClampNeg (fX1_leastOnShelf q (q 23 (x1).toNatClampNeg) (q 25 (x1).toNatClampNeg)))) (fX1_leastOnShelf q (q 23 (x1).toNatClampNeg) (q 25 (x1).toNatClampNeg)) (q 22 (x1).toNatClampNeg) x1) 30 0)) 20)) hx hb hK hP rfl v_19 dX6_lendFor_106 ?_
        refine lv_iconst (v := 1) hx hb dX6_lendFor_107 (by decide) ?_
        refine lv_iadd hx hb dX6_lendFor_108 ?_
        have v_20 : vp_in (q 22 (x1).toNatClampNeg) 20 := vp_in_iff.mpr (by omega)
        refine stX_20 (f := ((fX1_handOver (fX1_lend (rset q 26 (upd (q 26) (x1).toNatClampNeg (fX1_leastOnShelf q (q 23 (x1).toNatClampNeg) (q 25 (x1).toNatClampNeg)))) (fX1_leastOnShelf q (q 23 (x1).toNatClampNeg) (q 25 (x1).toNatClampNeg)) (q 22 (x1).toNatClampNeg) x1) (fX1_leastOnShelf q (q 23 (x1).toNatClampNeg) (q 25 (x1).toNatClampNeg)) ((fX1_lend (rset q 26 (upd (q 26) (x1).toNatClampNeg (fX1_leastOnShelf q (q 23 (x1).toNatClampNeg) (q 25 (x1).toNatClampNeg)))) (fX1_leastOnShelf q (q 23 (x1).toNatClampNeg) (q 25 (x1).toNatClampNeg)) (q 22 (x1).toNatClampNeg) x1) 30 0)) 20)) hx hb hK hP hD hS rfl v_20 dX6_lendFor_109 (fun H locs hP hS => ?_)
        refine lv_goto (tgt := 143) hx hb dX6_lendFor_110 (by decide) ?_
        exact W.vret hx hb hr (fun t ht hW => ⟨⟨(rset (fX1_handOver (fX1_lend (rset q 26 (upd (q 26) (x1).toNatClampNeg (fX1_leastOnShelf q (q 23 (x1).toNatClampNeg) (q 25 (x1).toNatClampNeg)))) (fX1_leastOnShelf q (q 23 (x1).toNatClampNeg) (q 25 (x1).toNatClampNeg)) (q 22 (x1).toNatClampNeg) x1) (fX1_leastOnShelf q (q 23 (x1).toNatClampNeg) (q 25 (x1).toNatClampNeg)) ((fX1_lend (rset q 26 (upd (q 26) (x1).toNatClampNeg (fX1_leastOnShelf q (q 23 (x1).toNatClampNeg) (q 25 (x1).toNatClampNeg)))) (fX1_leastOnShelf q (q 23 (x1).toNatClampNeg) (q 25 (x1).toNatClampNeg)) (q 22 (x1).toNatClampNeg) x1) 30 0)) 20 (upd ((fX1_handOver (fX1_lend (rset q 26 (upd (q 26) (x1).toNatClampNeg (fX1_leastOnShelf q (q 23 (x1).toNatClampNeg) (q 25 (x1).toNatClampNeg)))) (fX1_leastOnShelf q (q 23 (x1).toNatClampNeg) (q 25 (x1).toNatClampNeg)) (q 22 (x1).toNatClampNeg) x1) (fX1_leastOnShelf q (q 23 (x1).toNatClampNeg) (q 25 (x1).toNatClampNeg)) ((fX1_lend (rset q 26 (upd (q 26) (x1).toNatClampNeg (fX1_leastOnShelf q (q 23 (x1).toNatClampNeg) (q 25 (x1).toNatClampNeg)))) (fX1_leastOnShelf q (q 23 (x1).toNatClampNeg) (q 25 (x1).toNatClampNeg)) (q 22 (x1).toNatClampNeg) x1) 30 0)) 20) (q 22 (x1).toNatClampNeg).toNatClampNeg (((fX1_handOver (fX1_lend (rset q 26 (upd (q 26) (x1).toNatClampNeg (fX1_leastOnShelf q (q 23 (x1).toNatClampNeg) (q 25 (x1).toNatClampNeg)))) (fX1_leastOnShelf q (q 23 (x1).toNatClampNeg) (q 25 (x1).toNatClampNeg)) (q 22 (x1).toNatClampNeg) x1) (fX1_leastOnShelf q (q 23 (x1).toNatClampNeg) (q 25 (x1).toNatClampNeg)) ((fX1_lend (rset q 26 (upd (q 26) (x1).toNatClampNeg (fX1_leastOnShelf q (q 23 (x1).toNatClampNeg) (q 25 (x1).toNatClampNeg)))) (fX1_leastOnShelf q (q 23 (x1).toNatClampNeg) (q 25 (x1).toNatClampNeg)) (q 22 (x1).toNatClampNeg) x1) 30 0)) 20 (q 22 (x1).toNatClampNeg).toNatClampNeg) + 1))), rfl, (show (fX6_lendFor q x1) = (rset (fX1_handOver (fX1_lend (rset q 26 (upd (q 26) (x1).toNatClampNeg (fX1_leastOnShelf q (q 23 (x1).toNatClampNeg) (q 25 (x1).toNatClampNeg)))) (fX1_leastOnShelf q (q 23 (x1).toNatClampNeg) (q 25 (x1).toNatClampNeg)) (q 22 (x1).toNatClampNeg) x1) (fX1_leastOnShelf q (q 23 (x1).toNatClampNeg) (q 25 (x1).toNatClampNeg)) ((fX1_lend (rset q 26 (upd (q 26) (x1).toNatClampNeg (fX1_leastOnShelf q (q 23 (x1).toNatClampNeg) (q 25 (x1).toNatClampNeg)))) (fX1_leastOnShelf q (q 23 (x1).toNatClampNeg) (q 25 (x1).toNatClampNeg)) (q 22 (x1).toNatClampNeg) x1) 30 0)) 20 (upd ((fX1_handOver (fX1_lend (rset q 26 (upd (q 26) (x1).toNatClampNeg (fX1_leastOnShelf q (q 23 (x1).toNatClampNeg) (q 25 (x1).toNatClampNeg)))) (fX1_leastOnShelf q (q 23 (x1).toNatClampNeg) (q 25 (x1).toNatClampNeg)) (q 22 (x1).toNatClampNeg) x1) (fX1_leastOnShelf q (q 23 (x1).toNatClampNeg) (q 25 (x1).toNatClampNeg)) ((fX1_lend (rset q 26 (upd (q 26) (x1).toNatClampNeg (fX1_leastOnShelf q (q 23 (x1).toNatClampNeg) (q 25 (x1).toNatClampNeg)))) (fX1_leastOnShelf q (q 23 (x1).toNatClampNeg) (q 25 (x1).toNatClampNeg)) (q 22 (x1).toNatClampNeg) x1) 30 0)) 20) (q 22 (x1).toNatClampNeg).toNatClampNeg (((fX1_handOver (fX1_lend (rset q 26 (upd (q 26) (x1).toNatClampNeg (fX1_leastOnShelf q (q 23 (x1).toNatClampNeg) (q 25 (x1).toNatClampNeg)))) (fX1_leastOnShelf q (q 23 (x1).toNatClampNeg) (q 25 (x1).toNatClampNeg)) (q 22 (x1).toNatClampNeg) x1) (fX1_leastOnShelf q (q 23 (x1).toNatClampNeg) (q 25 (x1).toNatClampNeg)) ((fX1_lend (rset q 26 (upd (q 26) (x1).toNatClampNeg (fX1_leastOnShelf q (q 23 (x1).toNatClampNeg) (q 25 (x1).toNatClampNeg)))) (fX1_leastOnShelf q (q 23 (x1).toNatClampNeg) (q 25 (x1).toNatClampNeg)) (q 22 (x1).toNatClampNeg) x1) 30 0)) 20 (q 22 (x1).toNatClampNeg).toNatClampNeg) + 1))) by (rw [fX6_lendFor, if_neg c_7, if_neg c_10, if_pos c_14]); try rfl).symm, w_ht ht hP⟩, hS.F ht⟩) hS.2.2 dX6_lendFor_143
    · have e_11 := i_eq c_10
      exact W.vret hx hb hr (fun t ht hW => ⟨⟨q, rfl, (show (fX6_lendFor q x1) = q by (rw [fX6_lendFor, if_neg c_7, if_pos c_10]); try rfl).symm, w_ht ht hP⟩, hS.F ht⟩) hS.2.2 dX6_lendFor_52
