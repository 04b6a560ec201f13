set_option maxHeartbeats 4000000 in
set_option maxRecDepth 100000 in
theorem mX6_unpack (l : Launch) (G : va_G) (cy : ClassId) (a : Nat → Nat) (sz : Nat) (q : wSt) (x1 : Int32) (hI : iI q) (g0 : 0 ≤ (x1).toInt) (g1 : (x1).toInt < 200) : CtV l yX6_unpack wsX6_unpack ({ frames := 4, cells := 0, slots := 0, locals := 89 }) G cy (cX cy a) xN sz q [.ref (a 0), .int x1] (fX6_unpack q x1) := by
  refine Met.ofW (cc := cX6_unpack) (maxL := 3) (ret := none) (by decide) rfl ?_
  intro p e s m args below meth c s₁ B hml hv
  obtain ⟨rfl, hsz, hP, hK, hD0, hN⟩ := hv
  have hx := B.exec
  have hb := B.bytes
  have hr := B.returns
  have hts := atoms_spec (ws := wsX6_unpack) B.pre
  have hown : s.vm.findClass RX6 = some m.cls := findClass_of_methodNamed B.named
  have hlocks := B.notSynchronized
  subst hsz
  have hD : ∀ z : wSt, va_D (wA (cX cy a) s.heap.size) ((cX cy a) z) := fun z => w_self (xOk cy a).1 hD0 z
  have hA : ∀ z : Nat, s.heap.size ≤ z → wA (cX cy a) s.heap.size z := fun _ h => Or.inr h
  have hS : va_S (wA (cX cy a) s.heap.size) s.heap s.heap [] := va_S.rf
  have hl := lv_entry ([.ref (a 0), .int x1]) (n := 3) (Nat.le_of_ble_eq_true rfl)
  rw [lg_entry_eq]
  generalize (lg_sl ([.ref (a 0), .int x1]) ++ List.replicate (3 - (lg_sl ([.ref (a 0), .int x1])).length) Slot.unset).toArray = ls at hl ⊢
  have hl : lv_has ls 3 [(0, .ref (a 0)), (1, .int x1)] := hl
  have h_1 := hts (.fieldLink RX6 26 RX6 "copies" "LVolumeHouse$Copies;") (by decide +kernel)
  have h_2 := (show ∀ w ∈ u_ws RX6 TX6 10, w ∈ wsX6_unpack by decide +kernel)
  have h_3 := (hN.1 _ (List.mem_of_getElem? (i := 10) rfl) : va_Nw (.fieldLinkNest RX6 137 RX1 "reader" "[I" RX6) s)
  have h_4 := (show ∀ w ∈ u_ws RX1 TX1 13, w ∈ wsX6_unpack by decide +kernel)
  have h_5 := hts (.fieldLink RX6 33 RX6 "readers" "LVolumeHouse$Readers;") (by decide +kernel)
  have h_6 := (hN.1 _ (List.mem_of_getElem? (i := 49) rfl) : va_Nw (.methodLinkNest RX6 109 yX3_has RX6) s)
  have h_7 := hts (.initialized RX3) (by decide +kernel)
  have h_8 := hts (.instanceMethod yX3_has) (by decide +kernel)
  have h_9 := hts (.selects RX3 yX3_has yX3_has) (by decide +kernel)
  have h_10 := (hN.1 _ (List.mem_of_getElem? (i := 15) rfl) : va_Nw (.fieldLinkNest RX6 165 RX3 "inBoxes" "[I" RX6) s)
  have h_11 := (show ∀ w ∈ u_ws RX3 TX3 7, w ∈ wsX6_unpack by decide +kernel)
  have h_12 := (hN.1 _ (List.mem_of_getElem? (i := 17) rfl) : va_Nw (.fieldLinkNest RX6 175 RX1 "where" "[I" RX6) s)
  have h_13 := hts (.fieldLink RX6 51 RX6 "now" "I") (by decide +kernel)
  have h_14 := (hN.1 _ (List.mem_of_getElem? (i := 66) rfl) : va_Nw (.methodLinkNest RX6 248 yX1_handOver RX6) s)
  have h_15 := hts (.initialized RX1) (by decide +kernel)
  have h_16 := hts (.instanceMethod yX1_handOver) (by decide +kernel)
  have h_17 := hts (.selects RX1 yX1_handOver yX1_handOver) (by decide +kernel)
  have h_18 := (hN.1 _ (List.mem_of_getElem? (i := 13) rfl) : va_Nw (.fieldLinkNest RX6 153 RX3 "inHand" "[I" RX6) s)
  have h_19 := (hN.1 _ (List.mem_of_getElem? (i := 53) rfl) : va_Nw (.methodLinkNest RX6 159 yX1_shelve RX6) s)
  have h_20 := hts (.instanceMethod yX1_shelve) (by decide +kernel)
  have h_21 := hts (.selects RX1 yX1_shelve yX1_shelve) (by decide +kernel)
  have t_0 : (0 : Int32).toInt = 0 := rfl
  have t_1 : (1 : Int32).toInt = 1 := rfl
  have t_3 : (3 : Int32).toInt = 3 := rfl
  have hB := iI_b hI
  refine lv_aload_n hx hb dX6_unpack_0 rfl (lv_at hl 0 rfl) ?_
  refine gfX6_26 hx hb hts h_2 hown hK hP h_1 dX6_unpack_1 ?_
  refine gfX6_137 hx hb hts h_4 hown hK hP h_3 dX6_unpack_4 ?_
  refine lv_iload_n hx hb dX6_unpack_7 rfl (lv_at hl 1 rfl) ?_
  have v_1 : vp_in x1 200 := vp_in_iff.mpr (by omega)
  refine ldX_10 (f := (q 10)) hx hb hK hP rfl v_1 dX6_unpack_8 ?_
  refine lv_istore_n (lv' := [(2, .int (q 10 (x1).toNatClampNeg)), (0, .ref (a 0)), (1, .int x1)]) hx hb dX6_unpack_9 rfl hl (by decide) rfl (fun ls hl => ?_)
  refine lv_aload_n hx hb dX6_unpack_10 rfl (lv_at hl 1 rfl) ?_
  refine gfX6_33 hx hb hts h_2 hown hK hP h_5 dX6_unpack_11 ?_
  refine lv_iload_n hx hb dX6_unpack_14 rfl (lv_at hl 0 rfl) ?_
  refine w_goI (va_runVN (As := [.int (q 10 (x1).toNatClampNeg)]) (rest := []) ⟨hx, hb, hml, hown, hts⟩ (mX3_has l G cy a _ q (q 10 (x1).toNatClampNeg)) ⟨va_cnB 1 hts gX6_unpack_X3_has_n109 rfl rfl rfl h_6 h_7 (by decide +kernel) ⟨Nat.le_of_ble_eq_true rfl, Nat.le_of_ble_eq_true rfl⟩, h_8, h_9⟩ (w_pre (xOk cy a) (va_recv hK hP (ci := 3) (q0 := 4) rfl rfl) hK hP hD hS hA hN) rfl rfl hl.1 rfl (lv_room (Nat.le_of_ble_eq_true rfl)) dX6_unpack_15 ⟨Nat.le_of_ble_eq_true rfl, Nat.le_of_ble_eq_true rfl⟩) hD hS hA (fun H locs hP hS => ?_)
  have e_2 := tX3_has q (q 10 (x1).toNatClampNeg)
  refine lv_if_ne (tgt := 22) hx hb dX6_unpack_18 (by decide) (fun c_3 => ?_) (fun c_3 => ?_)
  · have e_4 := i_ne c_3
    refine lv_aload_n hx hb dX6_unpack_22 rfl (lv_at hl 1 rfl) ?_
    refine gfX6_33 hx hb hts h_2 hown hK hP h_5 dX6_unpack_23 ?_
    refine gfX6_165 hx hb hts h_11 hown hK hP h_10 dX6_unpack_26 ?_
    refine lv_iload_n hx hb dX6_unpack_29 rfl (lv_at hl 0 rfl) ?_
    refine lv_dup2_11 hx hb dX6_unpack_30 rfl rfl ?_
    have v_5 : vp_in (q 10 (x1).toNatClampNeg) 20 := vp_in_iff.mpr (by omega)
    refine ldX_21 (f := (q 21)) hx hb hK hP rfl v_5 dX6_unpack_31 ?_
    refine lv_iconst (v := 1) hx hb dX6_unpack_32 (by decide) ?_
    refine lv_isub hx hb dX6_unpack_33 ?_
    have v_6 : vp_in (q 10 (x1).toNatClampNeg) 20 := vp_in_iff.mpr (by omega)
    refine stX_21 (f := (q 21)) hx hb hK hP hD hS rfl v_6 dX6_unpack_34 (fun H locs hP hS => ?_)
    refine lv_aload_n hx hb dX6_unpack_35 rfl (lv_at hl 1 rfl) ?_
    refine gfX6_26 hx hb hts h_2 hown hK hP h_1 dX6_unpack_36 ?_
    refine gfX6_175 hx hb hts h_4 hown hK hP h_12 dX6_unpack_39 ?_
    refine lv_iload_n hx hb dX6_unpack_42 rfl (lv_at hl 2 rfl) ?_
    have v_7 : vp_in x1 200 := vp_in_iff.mpr (by omega)
    refine ldX_6 (f := (q 6)) hx hb hK hP (rset_ne (by decide)) v_7 dX6_unpack_43 ?_
    refine lv_iconst (v := 3) hx hb dX6_unpack_44 (by decide) ?_
    refine lv_icmp_ne (tgt := 59) hx hb dX6_unpack_45 (by decide) (fun c_8 => ?_) (fun c_8 => ?_)
    · have e_9 := i_ne c_8
      refine lv_aload_n hx hb dX6_unpack_59 rfl (lv_at hl 1 rfl) ?_
      refine gfX6_26 hx hb hts h_2 hown hK hP h_1 dX6_unpack_60 ?_
      refine lv_iload_n hx hb dX6_unpack_63 rfl (lv_at hl 2 rfl) ?_
      refine lv_aload_n hx hb dX6_unpack_64 rfl (lv_at hl 1 rfl) ?_
      refine gfX6_51 (v := (q 30 0)) hx hb hts h_2 hown hK hP h_13 (congrFun (rset_ne (by decide)) 0) dX6_unpack_65 ?_
      refine w_goV (va_runVN (As := [.int x1, .int (q 30 0)]) (rest := []) ⟨hx, hb, hml, hown, hts⟩ (mX1_handOver l G cy a _ (rset q 21 (upd (q 21) (q 10 (x1).toNatClampNeg).toNatClampNeg ((q 21 (q 10 (x1).toNatClampNeg).toNatClampNeg) - 1))) x1 (q 30 0) (by have hB9 := iI_b (iI_rset (k := 21) (f := (upd (q 21) (q 10 (x1).toNatClampNeg).toNatClampNeg ((q 21 (q 10 (x1).toNatClampNeg).toNatClampNeg) - 1))) (by decide) hI); omega) (by have hB9 := iI_b (iI_rset (k := 21) (f := (upd (q 21) (q 10 (x1).toNatClampNeg).toNatClampNeg ((q 21 (q 10 (x1).toNatClampNeg).toNatClampNeg) - 1))) (by decide) hI); omega)) ⟨va_cnB 2 hts gX6_unpack_X1_handOver_n248 rfl rfl rfl h_14 h_15 (by decide +kernel) ⟨Nat.le_of_ble_eq_true rfl, Nat.le_of_ble_eq_true rfl⟩, h_16, h_17⟩ (w_pre (xOk cy a) (va_recv hK hP (ci := 1) (q0 := 3) rfl rfl) hK hP hD hS hA hN) rfl rfl hl.1 rfl (lv_room (Nat.le_of_ble_eq_true rfl)) dX6_unpack_68 ⟨Nat.le_of_ble_eq_true rfl, Nat.le_of_ble_eq_true rfl⟩) hD hS hA (fun H locs hP hS => ?_)
      refine lv_aload_n hx hb dX6_unpack_71 rfl (lv_at hl 1 rfl) ?_
      refine gfX6_33 hx hb hts h_2 hown hK hP h_5 dX6_unpack_72 ?_
      refine gfX6_153 hx hb hts h_11 hown hK hP h_18 dX6_unpack_75 ?_
      refine lv_iload_n hx hb dX6_unpack_78 rfl (lv_at hl 0 rfl) ?_
      refine lv_dup2_11 hx hb dX6_unpack_79 rfl rfl ?_
      have v_10 : vp_in (q 10 (x1).toNatClampNeg) 20 := vp_in_iff.mpr (by omega)
      refine ldX_20 (f := ((fX1_handOver (rset q 21 (upd (q 21) (q 10 (x1).toNatClampNeg).toNatClampNeg ((q 21 (q 10 (x1).toNatClampNeg).toNatClampNeg) - 1))) x1 (q 30 0)) 20)) hx hb hK hP rfl v_10 dX6_unpack_80 ?_
      refine lv_iconst (v := 1) hx hb dX6_unpack_81 (by decide) ?_
      refine lv_iadd hx hb dX6_unpack_82 ?_
      have v_11 : vp_in (q 10 (x1).toNatClampNeg) 20 := vp_in_iff.mpr (by omega)
      refine stX_20 (f := ((fX1_handOver (rset q 21 (upd (q 21) (q 10 (x1).toNatClampNeg).toNatClampNeg ((q 21 (q 10 (x1).toNatClampNeg).toNatClampNeg) - 1))) x1 (q 30 0)) 20)) hx hb hK hP hD hS rfl v_11 dX6_unpack_83 (fun H locs hP hS => ?_)
      exact W.vret hx hb hr (fun t ht hW => ⟨⟨(rset (fX1_handOver (rset q 21 (upd (q 21) (q 10 (x1).toNatClampNeg).toNatClampNeg ((q 21 (q 10 (x1).toNatClampNeg).toNatClampNeg) - 1))) x1 (q 30 0)) 20 (upd ((fX1_handOver (rset q 21 (upd (q 21) (q 10 (x1).toNatClampNeg).toNatClampNeg ((q 21 (q 10 (x1).toNatClampNeg).toNatClampNeg) - 1))) x1 (q 30 0)) 20) (q 10 (x1).toNatClampNeg).toNatClampNeg (((fX1_handOver (rset q 21 (upd (q 21) (q 10 (x1).toNatClampNeg).toNatClampNeg ((q 21 (q 10 (x1).toNatClampNeg).toNatClampNeg) - 1))) x1 (q 30 0)) 20 (q 10 (x1).toNatClampNeg).toNatClampNeg) + 1))), rfl, (show (fX6_unpack q x1) = (rset (fX1_handOver (rset q 21 (upd (q 21) (q 10 (x1).toNatClampNeg).toNatClampNeg ((q 21 (q 10 (x1).toNatClampNeg).toNatClampNeg) - 1))) x1 (q 30 0)) 20 (upd ((fX1_handOver (rset q 21 (upd (q 21) (q 10 (x1).toNatClampNeg).toNatClampNeg ((q 21 (q 10 (x1).toNatClampNeg).toNatClampNeg) - 1))) x1 (q 30 0)) 20) (q 10 (x1).toNatClampNeg).toNatClampNeg (((fX1_handOver (rset q 21 (upd (q 21) (q 10 (x1).toNatClampNeg).toNatClampNeg ((q 21 (q 10 (x1).toNatClampNeg).toNatClampNeg) - 1))) x1 (q 30 0)) 20 (q 10 (x1).toNatClampNeg).toNatClampNeg) + 1))) by (rw [fX6_unpack, if_neg c_3, if_neg c_8]); try rfl).symm, w_ht ht hP⟩, hS.F ht⟩) hS.2.2 dX6_unpack_84
    · have e_9 := i_eq c_8
      refine lv_aload_n hx hb dX6_unpack_48 rfl (lv_at hl 1 rfl) ?_
      refine gfX6_26 hx hb hts h_2 hown hK hP h_1 dX6_unpack_49 ?_
      refine lv_iload_n hx hb dX6_unpack_52 rfl (lv_at hl 2 rfl) ?_
      refine w_goV (va_runVN (As := [.int x1]) (rest := []) ⟨hx, hb, hml, hown, hts⟩ (mX1_shelve l G cy a _ (rset q 21 (upd (q 21) (q 10 (x1).toNatClampNeg).toNatClampNeg ((q 21 (q 10 (x1).toNatClampNeg).toNatClampNeg) - 1))) x1 (by have hB9 := iI_b (iI_rset (k := 21) (f := (upd (q 21) (q 10 (x1).toNatClampNeg).toNatClampNeg ((q 21 (q 10 (x1).toNatClampNeg).toNatClampNeg) - 1))) (by decide) hI); omega) (by have hB9 := iI_b (iI_rset (k := 21) (f := (upd (q 21) (q 10 (x1).toNatClampNeg).toNatClampNeg ((q 21 (q 10 (x1).toNatClampNeg).toNatClampNeg) - 1))) (by decide) hI); omega)) ⟨va_cnB 1 hts gX6_unpack_X1_shelve_n159 rfl rfl rfl h_19 h_15 (by decide +kernel) ⟨Nat.le_of_ble_eq_true rfl, Nat.le_of_ble_eq_true rfl⟩, h_20, h_21⟩ (w_pre (xOk cy a) (va_recv hK hP (ci := 1) (q0 := 3) rfl rfl) hK hP hD hS hA hN) rfl rfl hl.1 rfl (lv_room (Nat.le_of_ble_eq_true rfl)) dX6_unpack_53 ⟨Nat.le_of_ble_eq_true rfl, Nat.le_of_ble_eq_true rfl⟩) hD hS hA (fun H locs hP hS => ?_)
      refine lv_goto (tgt := 84) hx hb dX6_unpack_56 (by decide) ?_
      exact W.vret hx hb hr (fun t ht hW => ⟨⟨(fX1_shelve (rset q 21 (upd (q 21) (q 10 (x1).toNatClampNeg).toNatClampNeg ((q 21 (q 10 (x1).toNatClampNeg).toNatClampNeg) - 1))) x1), rfl, (show (fX6_unpack q x1) = (fX1_shelve (rset q 21 (upd (q 21) (q 10 (x1).toNatClampNeg).toNatClampNeg ((q 21 (q 10 (x1).toNatClampNeg).toNatClampNeg) - 1))) x1) by (rw [fX6_unpack, if_neg c_3, if_pos c_8]); try rfl).symm, w_ht ht hP⟩, hS.F ht⟩) hS.2.2 dX6_unpack_84
  · have e_4 := i_eq c_3
    exact W.vret hx hb hr (fun t ht hW => ⟨⟨q, rfl, (show (fX6_unpack q x1) = q by (rw [fX6_unpack, if_pos c_3]); try rfl).symm, w_ht ht hP⟩, hS.F ht⟩) hS.2.2 dX6_unpack_21
