set_option maxHeartbeats 4000000 in
set_option maxRecDepth 100000 in
theorem mX6_lose (l : Launch) (G : va_G) (cy : ClassId) (a : Nat → Nat) (sz : Nat) (q : wSt) (x1 : Int32) (hI : iI q) : CtI l yX6_lose wsX6_lose ({ frames := 4, cells := 0, slots := 0, locals := 89 }) G cy (cX cy a) xN sz q [.ref (a 0), .int x1] (fX6_lose q x1).1 (fX6_lose q x1).2 := by
  refine Met.ofW (cc := cX6_lose) (maxL := 4) (ret := (some .int)) (by decide) rfl ?_
  intro p e s m args below meth c s₁ B hml hv
  obtain ⟨rfl, hsz, hP, hK, hD0, hN⟩ := hv
  have hx := B.exec
  have hb := B.bytes
  have hr := B.returns
  have hts := atoms_spec (ws := wsX6_lose) B.pre
  have hown : s.vm.findClass RX6 = some m.cls := findClass_of_methodNamed B.named
  have hlocks := B.notSynchronized
  subst hsz
  have hD : ∀ z : wSt, va_D (wA (cX cy a) s.heap.size) ((cX cy a) z) := fun z => w_self (xOk cy a).1 hD0 z
  have hA : ∀ z : Nat, s.heap.size ≤ z → wA (cX cy a) s.heap.size z := fun _ h => Or.inr h
  have hS : va_S (wA (cX cy a) s.heap.size) s.heap s.heap [] := va_S.rf
  have hl := lv_entry ([.ref (a 0), .int x1]) (n := 4) (Nat.le_of_ble_eq_true rfl)
  rw [lg_entry_eq]
  generalize (lg_sl ([.ref (a 0), .int x1]) ++ List.replicate (4 - (lg_sl ([.ref (a 0), .int x1])).length) Slot.unset).toArray = ls at hl ⊢
  have hl : lv_has ls 4 [(0, .ref (a 0)), (1, .int x1)] := hl
  have h_1 := hts (.fieldLink RX6 26 RX6 "copies" "LVolumeHouse$Copies;") (by decide +kernel)
  have h_2 := (show ∀ w ∈ u_ws RX6 TX6 10, w ∈ wsX6_lose by decide +kernel)
  have h_3 := (hN.1 _ (List.mem_of_getElem? (i := 55) rfl) : va_Nw (.methodLinkNest RX6 168 yX1_has RX6) s)
  have h_4 := hts (.initialized RX1) (by decide +kernel)
  have h_5 := hts (.instanceMethod yX1_has) (by decide +kernel)
  have h_6 := hts (.selects RX1 yX1_has yX1_has) (by decide +kernel)
  have h_7 := (hN.1 _ (List.mem_of_getElem? (i := 46) rfl) : va_Nw (.methodLinkNest RX6 97 yX1_isAt RX6) s)
  have h_8 := hts (.instanceMethod yX1_isAt) (by decide +kernel)
  have h_9 := hts (.selects RX1 yX1_isAt yX1_isAt) (by decide +kernel)
  have h_10 := (hN.1 _ (List.mem_of_getElem? (i := 10) rfl) : va_Nw (.fieldLinkNest RX6 137 RX1 "reader" "[I" RX6) s)
  have h_11 := (show ∀ w ∈ u_ws RX1 TX1 13, w ∈ wsX6_lose by decide +kernel)
  have h_12 := hts (.fieldLink RX6 33 RX6 "readers" "LVolumeHouse$Readers;") (by decide +kernel)
  have h_13 := (hN.1 _ (List.mem_of_getElem? (i := 49) rfl) : va_Nw (.methodLinkNest RX6 109 yX3_has RX6) s)
  have h_14 := hts (.initialized RX3) (by decide +kernel)
  have h_15 := hts (.instanceMethod yX3_has) (by decide +kernel)
  have h_16 := hts (.selects RX3 yX3_has yX3_has) (by decide +kernel)
  have h_17 := (hN.1 _ (List.mem_of_getElem? (i := 16) rfl) : va_Nw (.fieldLinkNest RX6 169 RX1 "cost" "[I" RX6) s)
  have h_18 := (hN.1 _ (List.mem_of_getElem? (i := 11) rfl) : va_Nw (.fieldLinkNest RX6 143 RX3 "owed" "[I" RX6) s)
  have h_19 := (show ∀ w ∈ u_ws RX3 TX3 7, w ∈ wsX6_lose by decide +kernel)
  have h_20 := (hN.1 _ (List.mem_of_getElem? (i := 12) rfl) : va_Nw (.fieldLinkNest RX6 146 RX1 "wish" "[I" RX6) s)
  have h_21 := (hN.1 _ (List.mem_of_getElem? (i := 47) rfl) : va_Nw (.methodLinkNest RX6 101 yX1_leaveFor RX6) s)
  have h_22 := hts (.instanceMethod yX1_leaveFor) (by decide +kernel)
  have h_23 := hts (.selects RX1 yX1_leaveFor yX1_leaveFor) (by decide +kernel)
  have t_m1 : ((-1) : Int32).toInt = -1 := rfl
  have t_0 : (0 : Int32).toInt = 0 := rfl
  have t_4 : (4 : Int32).toInt = 4 := rfl
  have t_5 : (5 : Int32).toInt = 5 := rfl
  have hB := iI_b hI
  refine lv_aload_n hx hb dX6_lose_0 rfl (lv_at hl 0 rfl) ?_
  refine gfX6_26 hx hb hts h_2 hown hK hP h_1 dX6_lose_1 ?_
  refine lv_iload_n hx hb dX6_lose_4 rfl (lv_at hl 1 rfl) ?_
  refine w_goI (va_runVN (As := [.int x1]) (rest := []) ⟨hx, hb, hml, hown, hts⟩ (mX1_has l G cy a _ q x1) ⟨va_cnB 1 hts gX6_lose_X1_has_n168 rfl rfl rfl h_3 h_4 (by decide +kernel) ⟨Nat.le_of_ble_eq_true rfl, Nat.le_of_ble_eq_true rfl⟩, h_5, h_6⟩ (w_pre (xOk cy a) (va_recv hK hP (ci := 1) (q0 := 3) rfl rfl) hK hP hD hS hA hN) rfl rfl hl.1 rfl (lv_room (Nat.le_of_ble_eq_true rfl)) dX6_lose_5 ⟨Nat.le_of_ble_eq_true rfl, Nat.le_of_ble_eq_true rfl⟩) hD hS hA (fun H locs hP hS => ?_)
  have e_1 := tX1_has q x1
  refine lv_if_eq (tgt := 35) hx hb dX6_lose_8 (by decide) (fun c_2 => ?_) (fun c_2 => ?_)
  · have e_3 := i_eq c_2
    refine lv_iconst (v := (-1)) hx hb dX6_lose_35 (by decide) ?_
    have hF : (fX6_lose q x1) = ((-1), q) := (show (fX6_lose q x1) = ((-1), q) by (rw [fX6_lose, if_pos c_2]); try rfl)
    exact W.iret (v := (-1)) hx hb hr (fun t ht hW => ⟨⟨(-1), q, rfl, ⟨(p_fst hF), (p_snd hF)⟩, w_ht ht hP⟩, hS.F ht⟩) hS.2.2 dX6_lose_36
  · have e_3 := i_ne c_2
    refine lv_aload_n hx hb dX6_lose_11 rfl (lv_at hl 0 rfl) ?_
    refine gfX6_26 hx hb hts h_2 hown hK hP h_1 dX6_lose_12 ?_
    refine lv_iload_n hx hb dX6_lose_15 rfl (lv_at hl 1 rfl) ?_
    refine lv_iconst (v := 4) hx hb dX6_lose_16 (by decide) ?_
    refine w_goI (va_runVN (As := [.int x1, .int 4]) (rest := []) ⟨hx, hb, hml, hown, hts⟩ (mX1_isAt l G cy a _ q x1 4 (by omega)) ⟨va_cnB 2 hts gX6_lose_X1_isAt_n97 rfl rfl rfl h_7 h_4 (by decide +kernel) ⟨Nat.le_of_ble_eq_true rfl, Nat.le_of_ble_eq_true rfl⟩, h_8, h_9⟩ (w_pre (xOk cy a) (va_recv hK hP (ci := 1) (q0 := 3) rfl rfl) hK hP hD hS hA hN) rfl rfl hl.1 rfl (lv_room (Nat.le_of_ble_eq_true rfl)) dX6_lose_17 ⟨Nat.le_of_ble_eq_true rfl, Nat.le_of_ble_eq_true rfl⟩) hD hS hA (fun H locs hP hS => ?_)
    have e_4 := tX1_isAt q x1 4
    refine lv_if_ne (tgt := 35) hx hb dX6_lose_20 (by decide) (fun c_5 => ?_) (fun c_5 => ?_)
    · have e_6 := i_ne c_5
      refine lv_iconst (v := (-1)) hx hb dX6_lose_35 (by decide) ?_
      have hF : (fX6_lose q x1) = ((-1), q) := (show (fX6_lose q x1) = ((-1), q) by (rw [fX6_lose, if_neg c_2, if_neg c_5]); try rfl)
      exact W.iret (v := (-1)) hx hb hr (fun t ht hW => ⟨⟨(-1), q, rfl, ⟨(p_fst hF), (p_snd hF)⟩, w_ht ht hP⟩, hS.F ht⟩) hS.2.2 dX6_lose_36
    · have e_6 := i_eq c_5
      refine lv_aload_n hx hb dX6_lose_23 rfl (lv_at hl 0 rfl) ?_
      refine gfX6_26 hx hb hts h_2 hown hK hP h_1 dX6_lose_24 ?_
      refine lv_iload_n hx hb dX6_lose_27 rfl (lv_at hl 1 rfl) ?_
      refine lv_iconst (v := 5) hx hb dX6_lose_28 (by decide) ?_
      refine w_goI (va_runVN (As := [.int x1, .int 5]) (rest := []) ⟨hx, hb, hml, hown, hts⟩ (mX1_isAt l G cy a _ q x1 5 (by omega)) ⟨va_cnB 2 hts gX6_lose_X1_isAt_n97 rfl rfl rfl h_7 h_4 (by decide +kernel) ⟨Nat.le_of_ble_eq_true rfl, Nat.le_of_ble_eq_true rfl⟩, h_8, h_9⟩ (w_pre (xOk cy a) (va_recv hK hP (ci := 1) (q0 := 3) rfl rfl) hK hP hD hS hA hN) rfl rfl hl.1 rfl (lv_room (Nat.le_of_ble_eq_true rfl)) dX6_lose_29 ⟨Nat.le_of_ble_eq_true rfl, Nat.le_of_ble_eq_true rfl⟩) hD hS hA (fun H locs hP hS => ?_)
      have e_7 := tX1_isAt q x1 5
      refine lv_if_eq (tgt := 37) hx hb dX6_lose_32 (by decide) (fun c_8 => ?_) (fun c_8 => ?_)
      · have e_9 := i_eq c_8
        refine lv_iconst (v := 0) hx hb dX6_lose_37 (by decide) ?_
        refine lv_istore_n (lv' := [(2, .int 0), (0, .ref (a 0)), (1, .int x1)]) hx hb dX6_lose_38 rfl hl (by decide) rfl (fun ls hl => ?_)
        refine lv_aload_n hx hb dX6_lose_39 rfl (lv_at hl 1 rfl) ?_
        refine gfX6_26 hx hb hts h_2 hown hK hP h_1 dX6_lose_40 ?_
        refine gfX6_137 hx hb hts h_11 hown hK hP h_10 dX6_lose_43 ?_
        refine lv_iload_n hx hb dX6_lose_46 rfl (lv_at hl 2 rfl) ?_
        have v_10 : vp_in x1 200 := vp_in_iff.mpr (by omega)
        refine ldX_10 (f := (q 10)) hx hb hK hP rfl v_10 dX6_lose_47 ?_
        refine lv_istore_n (lv' := [(3, .int (q 10 (x1).toNatClampNeg)), (2, .int 0), (0, .ref (a 0)), (1, .int x1)]) hx hb dX6_lose_48 rfl hl (by decide) rfl (fun ls hl => ?_)
        refine lv_aload_n hx hb dX6_lose_49 rfl (lv_at hl 2 rfl) ?_
        refine gfX6_33 hx hb hts h_2 hown hK hP h_12 dX6_lose_50 ?_
        refine lv_iload_n hx hb dX6_lose_53 rfl (lv_at hl 0 rfl) ?_
        refine w_goI (va_runVN (As := [.int (q 10 (x1).toNatClampNeg)]) (rest := []) ⟨hx, hb, hml, hown, hts⟩ (mX3_has l G cy a _ q (q 10 (x1).toNatClampNeg)) ⟨va_cnB 1 hts gX6_lose_X3_has_n109 rfl rfl rfl h_13 h_14 (by decide +kernel) ⟨Nat.le_of_ble_eq_true rfl, Nat.le_of_ble_eq_true rfl⟩, h_15, h_16⟩ (w_pre (xOk cy a) (va_recv hK hP (ci := 3) (q0 := 4) rfl rfl) hK hP hD hS hA hN) rfl rfl hl.1 rfl (lv_room (Nat.le_of_ble_eq_true rfl)) dX6_lose_54 ⟨Nat.le_of_ble_eq_true rfl, Nat.le_of_ble_eq_true rfl⟩) hD hS hA (fun H locs hP hS => ?_)
        have e_11 := tX3_has q (q 10 (x1).toNatClampNeg)
        have J_1 : ∀ (v1 : Int32) (v2 : wSt) (H : Heap) (ls : Array Slot) (locs : List Loc), (fX6_lose_j1 q x1) = (v1, v2) → iI v2 → va_P G vwCl ((cX cy a) v2) H → va_S (wA (cX cy a) s.heap.size) s.heap H locs → lv_has ls 4 [(0, .ref (a 0)), (1, .int x1), (2, .int v1)] → W p l e ({ frames := 4, cells := 0, slots := 0, locals := 89 }) s m [.ref (a 0), .int x1].toArray below meth c H locs 0 0 (MQ below (wQi G (cX cy a) s.heap.size (fX6_lose q x1).1 (fX6_lose q x1).2) [.ref (a 0), .int x1].toArray s 0 0 (wA (cX cy a) s.heap.size)) (F0 m 109 ls []) := by
          intro v1 v2 H ls locs hv hI_j1 hP hS hl
          obtain ⟨rfl, rfl⟩ := p_2 hv
          refine lv_aload_n hx hb dX6_lose_109 rfl (lv_at hl 0 rfl) ?_
          refine gfX6_26 hx hb hts h_2 hown hK hP h_1 dX6_lose_110 ?_
          refine lv_iload_n hx hb dX6_lose_113 rfl (lv_at hl 1 rfl) ?_
          refine lv_iconst (v := 5) hx hb dX6_lose_114 (by decide) ?_
          refine w_goV (va_runVN (As := [.int x1, .int 5]) (rest := []) ⟨hx, hb, hml, hown, hts⟩ (mX1_leaveFor l G cy a _ (fX6_lose_j1 q x1).2 x1 5 (by have hB9 := iI_b hI_j1; omega) (by have hB9 := iI_b hI_j1; omega)) ⟨va_cnB 2 hts gX6_lose_X1_leaveFor_n101 rfl rfl rfl h_21 h_4 (by decide +kernel) ⟨Nat.le_of_ble_eq_true rfl, Nat.le_of_ble_eq_true rfl⟩, h_22, h_23⟩ (w_pre (xOk cy a) (va_recv hK hP (ci := 1) (q0 := 3) rfl rfl) hK hP hD hS hA hN) rfl rfl hl.1 rfl (lv_room (Nat.le_of_ble_eq_true rfl)) dX6_lose_115 ⟨Nat.le_of_ble_eq_true rfl, Nat.le_of_ble_eq_true rfl⟩) hD hS hA (fun H locs hP hS => ?_)
          refine lv_iload_n hx hb dX6_lose_118 rfl (lv_at hl 2 rfl) ?_
          have hF : (fX6_lose q x1) = ((fX6_lose_j1 q x1).1, (fX1_leaveFor (fX6_lose_j1 q x1).2 x1 5)) := (show (fX6_lose q x1) = ((fX6_lose_j1 q x1).1, (fX1_leaveFor (fX6_lose_j1 q x1).2 x1 5)) by (rw [fX6_lose, if_neg c_2, if_pos c_5, if_pos c_8]); try rfl)
          exact W.iret (v := (fX6_lose_j1 q x1).1) hx hb hr (fun t ht hW => ⟨⟨(fX6_lose_j1 q x1).1, (fX1_leaveFor (fX6_lose_j1 q x1).2 x1 5), rfl, ⟨(p_fst hF), (p_snd hF)⟩, w_ht ht hP⟩, hS.F ht⟩) hS.2.2 dX6_lose_119
        refine lv_if_eq (tgt := 109) hx hb dX6_lose_57 (by decide) (fun c_12 => ?_) (fun c_12 => ?_)
        · have e_13 := i_eq c_12
          exact J_1 0 q _ _ _ (by (rw [fX6_lose_j1, if_pos c_12]); try rfl) hI hP hS (lv_sub hl [2, 3, 1] rfl)
        · have e_13 := i_ne c_12
          refine lv_aload_n hx hb dX6_lose_60 rfl (lv_at hl 2 rfl) ?_
          refine gfX6_26 hx hb hts h_2 hown hK hP h_1 dX6_lose_61 ?_
          refine gfX6_169 hx hb hts h_11 hown hK hP h_17 dX6_lose_64 ?_
          refine lv_iload_n hx hb dX6_lose_67 rfl (lv_at hl 3 rfl) ?_
          have v_14 : vp_in x1 200 := vp_in_iff.mpr (by omega)
          refine ldX_9 (f := (q 9)) hx hb hK hP rfl v_14 dX6_lose_68 ?_
          refine lv_aload_n hx hb dX6_lose_69 rfl (lv_at hl 2 rfl) ?_
          refine lv_iload_n hx hb dX6_lose_70 rfl (lv_at hl 3 rfl) ?_
          refine lv_iload_n hx hb dX6_lose_71 rfl (lv_at hl 0 rfl) ?_
          refine w_goI (va_runV (As := [.int x1, .int (q 10 (x1).toNatClampNeg)]) (rest := [.int (q 9 (x1).toNatClampNeg)]) ⟨hx, hb, hml, hown, hts⟩ (mX6_lateCost l G cy a _ q x1 (q 10 (x1).toNatClampNeg) hI) (cwV 2 hts gX6_lose_X6_lateCost rfl rfl rfl (by decide +kernel) ⟨Nat.le_of_ble_eq_true rfl, Nat.le_of_ble_eq_true rfl⟩) (w_pre (xOk cy a) (va_recv hK hP (ci := 6) (q0 := 0) rfl rfl) hK hP hD hS hA hN) rfl rfl hl.1 rfl (lv_room (Nat.le_of_ble_eq_true rfl)) dX6_lose_72 ⟨Nat.le_of_ble_eq_true rfl, Nat.le_of_ble_eq_true rfl⟩) hD hS hA (fun H locs hP hS => ?_)
          refine lv_iadd hx hb dX6_lose_75 ?_
          refine lv_istore_n (lv' := [(2, .int ((q 9 (x1).toNatClampNeg) + (fX6_lateCost q x1 (q 10 (x1).toNatClampNeg)))), (3, .int (q 10 (x1).toNatClampNeg)), (0, .ref (a 0)), (1, .int x1)]) hx hb dX6_lose_76 rfl hl (by decide) rfl (fun ls hl => ?_)
          refine lv_aload_n hx hb dX6_lose_77 rfl (lv_at hl 2 rfl) ?_
          refine gfX6_33 hx hb hts h_2 hown hK hP h_12 dX6_lose_78 ?_
          refine gfX6_143 hx hb hts h_19 hown hK hP h_18 dX6_lose_81 ?_
          refine lv_iload_n hx hb dX6_lose_84 rfl (lv_at hl 1 rfl) ?_
          refine lv_dup2_11 hx hb dX6_lose_85 rfl rfl ?_
          have v_15 : vp_in (q 10 (x1).toNatClampNeg) 20 := vp_in_iff.mpr (by omega)
          refine ldX_19 (f := (q 19)) hx hb hK hP rfl v_15 dX6_lose_86 ?_
          refine lv_iload_n hx hb dX6_lose_87 rfl (lv_at hl 0 rfl) ?_
          refine lv_iadd hx hb dX6_lose_88 ?_
          have v_16 : vp_in (q 10 (x1).toNatClampNeg) 20 := vp_in_iff.mpr (by omega)
          refine stX_19 (f := (q 19)) hx hb hK hP hD hS rfl v_16 dX6_lose_89 (fun H locs hP hS => ?_)
          refine lv_aload_n hx hb dX6_lose_90 rfl (lv_at hl 2 rfl) ?_
          refine lv_aload_n hx hb dX6_lose_91 rfl (lv_at hl 2 rfl) ?_
          refine gfX6_26 hx hb hts h_2 hown hK hP h_1 dX6_lose_92 ?_
          refine gfX6_146 hx hb hts h_11 hown hK hP h_20 dX6_lose_95 ?_
          refine lv_iload_n hx hb dX6_lose_98 rfl (lv_at hl 3 rfl) ?_
          have v_17 : vp_in x1 200 := vp_in_iff.mpr (by omega)
          refine ldX_11 (f := (q 11)) hx hb hK hP (rset_ne (by decide)) v_17 dX6_lose_99 ?_
          refine w_goV (va_runV (As := [.int (q 11 (x1).toNatClampNeg)]) (rest := []) ⟨hx, hb, hml, hown, hts⟩ (mX6_countAsHad l G cy a _ (rset q 19 (upd (q 19) (q 10 (x1).toNatClampNeg).toNatClampNeg ((q 19 (q 10 (x1).toNatClampNeg).toNatClampNeg) + ((q 9 (x1).toNatClampNeg) + (fX6_lateCost q x1 (q 10 (x1).toNatClampNeg)))))) (q 11 (x1).toNatClampNeg) (iI_rset (k := 19) (f := (upd (q 19) (q 10 (x1).toNatClampNeg).toNatClampNeg ((q 19 (q 10 (x1).toNatClampNeg).toNatClampNeg) + ((q 9 (x1).toNatClampNeg) + (fX6_lateCost q x1 (q 10 (x1).toNatClampNeg)))))) (by decide) hI)) (cwV 1 hts gX6_lose_X6_countAsHad rfl rfl rfl (by decide +kernel) ⟨Nat.le_of_ble_eq_true rfl, Nat.le_of_ble_eq_true rfl⟩) (w_pre (xOk cy a) (va_recv hK hP (ci := 6) (q0 := 0) rfl rfl) hK hP hD hS hA hN) rfl rfl hl.1 rfl (lv_room (Nat.le_of_ble_eq_true rfl)) dX6_lose_100 ⟨Nat.le_of_ble_eq_true rfl, Nat.le_of_ble_eq_true rfl⟩) hD hS hA (fun H locs hP hS => ?_)
          refine lv_aload_n hx hb dX6_lose_103 rfl (lv_at hl 2 rfl) ?_
          refine lv_iload_n hx hb dX6_lose_104 rfl (lv_at hl 1 rfl) ?_
          refine lv_iload_n hx hb dX6_lose_105 rfl (lv_at hl 3 rfl) ?_
          refine w_goV (va_runV (As := [.int (q 10 (x1).toNatClampNeg), .int x1]) (rest := []) ⟨hx, hb, hml, hown, hts⟩ (mX6_takeFrom l G cy a _ (fX6_countAsHad (rset q 19 (upd (q 19) (q 10 (x1).toNatClampNeg).toNatClampNeg ((q 19 (q 10 (x1).toNatClampNeg).toNatClampNeg) + ((q 9 (x1).toNatClampNeg) + (fX6_lateCost q x1 (q 10 (x1).toNatClampNeg)))))) (q 11 (x1).toNatClampNeg)) (q 10 (x1).toNatClampNeg) x1 (iIX6_countAsHad (rset q 19 (upd (q 19) (q 10 (x1).toNatClampNeg).toNatClampNeg ((q 19 (q 10 (x1).toNatClampNeg).toNatClampNeg) + ((q 9 (x1).toNatClampNeg) + (fX6_lateCost q x1 (q 10 (x1).toNatClampNeg)))))) (q 11 (x1).toNatClampNeg) (iI_rset (k := 19) (f := (upd (q 19) (q 10 (x1).toNatClampNeg).toNatClampNeg ((q 19 (q 10 (x1).toNatClampNeg).toNatClampNeg) + ((q 9 (x1).toNatClampNeg) + (fX6_lateCost q x1 (q 10 (x1).toNatClampNeg)))))) (by decide) hI)) (by have hB9 := iI_b (iIX6_countAsHad (rset q 19 (upd (q 19) (q 10 (x1).toNatClampNeg).toNatClampNeg ((q 19 (q 10 (x1).toNatClampNeg).toNatClampNeg) + ((q 9 (x1).toNatClampNeg) + (fX6_lateCost q x1 (q 10 (x1).toNatClampNeg)))))) (q 11 (x1).toNatClampNeg) (iI_rset (k := 19) (f := (upd (q 19) (q 10 (x1).toNatClampNeg).toNatClampNeg ((q 19 (q 10 (x1).toNatClampNeg).toNatClampNeg) + ((q 9 (x1).toNatClampNeg) + (fX6_lateCost q x1 (q 10 (x1).toNatClampNeg)))))) (by decide) hI)); omega) (by have hB9 := iI_b (iIX6_countAsHad (rset q 19 (upd (q 19) (q 10 (x1).toNatClampNeg).toNatClampNeg ((q 19 (q 10 (x1).toNatClampNeg).toNatClampNeg) + ((q 9 (x1).toNatClampNeg) + (fX6_lateCost q x1 (q 10 (x1).toNatClampNeg)))))) (q 11 (x1).toNatClampNeg) (iI_rset (k := 19) (f := (upd (q 19) (q 10 (x1).toNatClampNeg).toNatClampNeg ((q 19 (q 10 (x1).toNatClampNeg).toNatClampNeg) + ((q 9 (x1).toNatClampNeg) + (fX6_lateCost q x1 (q 10 (x1).toNatClampNeg)))))) (by decide) hI)); omega)) (cwV 2 hts gX6_lose_X6_takeFrom rfl rfl rfl (by decide +kernel) ⟨Nat.le_of_ble_eq_true rfl, Nat.le_of_ble_eq_true rfl⟩) (w_pre (xOk cy a) (va_recv hK hP (ci := 6) (q0 := 0) rfl rfl) hK hP hD hS hA hN) rfl rfl hl.1 rfl (lv_room (Nat.le_of_ble_eq_true rfl)) dX6_lose_106 ⟨Nat.le_of_ble_eq_true rfl, Nat.le_of_ble_eq_true rfl⟩) hD hS hA (fun H locs hP hS => ?_)
          exact J_1 ((q 9 (x1).toNatClampNeg) + (fX6_lateCost q x1 (q 10 (x1).toNatClampNeg))) (fX6_takeFrom (fX6_countAsHad (rset q 19 (upd (q 19) (q 10 (x1).toNatClampNeg).toNatClampNeg ((q 19 (q 10 (x1).toNatClampNeg).toNatClampNeg) + ((q 9 (x1).toNatClampNeg) + (fX6_lateCost q x1 (q 10 (x1).toNatClampNeg)))))) (q 11 (x1).toNatClampNeg)) (q 10 (x1).toNatClampNeg) x1) _ _ _ (by (rw [fX6_lose_j1, if_neg c_12]); try rfl) (iIX6_takeFrom (fX6_countAsHad (rset q 19 (upd (q 19) (q 10 (x1).toNatClampNeg).toNatClampNeg ((q 19 (q 10 (x1).toNatClampNeg).toNatClampNeg) + ((q 9 (x1).toNatClampNeg) + (fX6_lateCost q x1 (q 10 (x1).toNatClampNeg)))))) (q 11 (x1).toNatClampNeg)) (q 10 (x1).toNatClampNeg) x1 (iIX6_countAsHad (rset q 19 (upd (q 19) (q 10 (x1).toNatClampNeg).toNatClampNeg ((q 19 (q 10 (x1).toNatClampNeg).toNatClampNeg) + ((q 9 (x1).toNatClampNeg) + (fX6_lateCost q x1 (q 10 (x1).toNatClampNeg)))))) (q 11 (x1).toNatClampNeg) (iI_rset (k := 19) (f := (upd (q 19) (q 10 (x1).toNatClampNeg).toNatClampNeg ((q 19 (q 10 (x1).toNatClampNeg).toNatClampNeg) + ((q 9 (x1).toNatClampNeg) + (fX6_lateCost q x1 (q 10 (x1).toNatClampNeg)))))) (by decide) hI))) hP hS (lv_sub hl [2, 3, 0] rfl)
      · have e_9 := i_ne c_8
        refine lv_iconst (v := (-1)) hx hb dX6_lose_35 (by decide) ?_
        have hF : (fX6_lose q x1) = ((-1), q) := (show (fX6_lose q x1) = ((-1), q) by (rw [fX6_lose, if_neg c_2, if_pos c_5, if_neg c_8]); try rfl)
        exact W.iret (v := (-1)) hx hb hr (fun t ht hW => ⟨⟨(-1), q, rfl, ⟨(p_fst hF), (p_snd hF)⟩, w_ht ht hP⟩, hS.F ht⟩) hS.2.2 dX6_lose_36
