set_option maxHeartbeats 4000000 in
set_option maxRecDepth 100000 in
theorem mX6_pay (l : Launch) (G : va_G) (cy : ClassId) (a : Nat → Nat) (sz : Nat) (q : wSt) (x1 : Int32) (x2 : Int32) (hI : iI q) : CtI l yX6_pay wsX6_pay ({ frames := 1, cells := 0, slots := 0, locals := 22 }) G cy (cX cy a) xN sz q [.ref (a 0), .int x1, .int x2] (fX6_pay q x1 x2).1 (fX6_pay q x1 x2).2 := by
  refine Met.ofW (cc := cX6_pay) (maxL := 3) (ret := (some .int)) (by decide) rfl ?_
  intro p e s m args below meth c s₁ B hml hv
  obtain ⟨rfl, hsz, hP, hK, hD0, hN⟩ := hv
  have hx := B.exec
  have hb := B.bytes
  have hr := B.returns
  have hts := atoms_spec (ws := wsX6_pay) B.pre
  have hown : s.vm.findClass RX6 = some m.cls := findClass_of_methodNamed B.named
  have hlocks := B.notSynchronized
  subst hsz
  have hD : ∀ z : wSt, va_D (wA (cX cy a) s.heap.size) ((cX cy a) z) := fun z => w_self (xOk cy a).1 hD0 z
  have hA : ∀ z : Nat, s.heap.size ≤ z → wA (cX cy a) s.heap.size z := fun _ h => Or.inr h
  have hS : va_S (wA (cX cy a) s.heap.size) s.heap s.heap [] := va_S.rf
  have hl := lv_entry ([.ref (a 0), .int x1, .int x2]) (n := 3) (Nat.le_of_ble_eq_true rfl)
  rw [lg_entry_eq]
  generalize (lg_sl ([.ref (a 0), .int x1, .int x2]) ++ List.replicate (3 - (lg_sl ([.ref (a 0), .int x1, .int x2])).length) Slot.unset).toArray = ls at hl ⊢
  have hl : lv_has ls 3 [(0, .ref (a 0)), (1, .int x1), (2, .int x2)] := hl
  have h_1 := hts (.fieldLink RX6 33 RX6 "readers" "LVolumeHouse$Readers;") (by decide +kernel)
  have h_2 := (show ∀ w ∈ u_ws RX6 TX6 10, w ∈ wsX6_pay by decide +kernel)
  have h_3 := (hN.1 _ (List.mem_of_getElem? (i := 49) rfl) : va_Nw (.methodLinkNest RX6 109 yX3_has RX6) s)
  have h_4 := hts (.initialized RX3) (by decide +kernel)
  have h_5 := hts (.instanceMethod yX3_has) (by decide +kernel)
  have h_6 := hts (.selects RX3 yX3_has yX3_has) (by decide +kernel)
  have h_7 := (hN.1 _ (List.mem_of_getElem? (i := 11) rfl) : va_Nw (.fieldLinkNest RX6 143 RX3 "owed" "[I" RX6) s)
  have h_8 := (show ∀ w ∈ u_ws RX3 TX3 7, w ∈ wsX6_pay by decide +kernel)
  have h_9 := hts (.fieldLink RX6 61 RX6 "paid" "I") (by decide +kernel)
  have t_m1 : ((-1) : Int32).toInt = -1 := rfl
  have t_0 : (0 : Int32).toInt = 0 := rfl
  have t_1 : (1 : Int32).toInt = 1 := rfl
  have hB := iI_b hI
  refine lv_aload_n hx hb dX6_pay_0 rfl (lv_at hl 0 rfl) ?_
  refine gfX6_33 hx hb hts h_2 hown hK hP h_1 dX6_pay_1 ?_
  refine lv_iload_n hx hb dX6_pay_4 rfl (lv_at hl 1 rfl) ?_
  refine w_goI (va_runVN (As := [.int x1]) (rest := []) ⟨hx, hb, hml, hown, hts⟩ (mX3_has l G cy a _ q x1) ⟨va_cnB 1 hts gX6_pay_X3_has_n109 rfl rfl rfl h_3 h_4 (by decide +kernel) ⟨Nat.le_of_ble_eq_true rfl, Nat.le_of_ble_eq_true rfl⟩, h_5, h_6⟩ (w_pre (xOk cy a) (va_recv hK hP (ci := 3) (q0 := 4) rfl rfl) hK hP hD hS hA hN) rfl rfl hl.1 rfl (lv_room (Nat.le_of_ble_eq_true rfl)) dX6_pay_5 ⟨Nat.le_of_ble_eq_true rfl, Nat.le_of_ble_eq_true rfl⟩) hD hS hA (fun H locs hP hS => ?_)
  have e_1 := tX3_has q x1
  refine lv_if_eq (tgt := 28) hx hb dX6_pay_8 (by decide) (fun c_2 => ?_) (fun c_2 => ?_)
  · have e_3 := i_eq c_2
    refine lv_iconst (v := (-1)) hx hb dX6_pay_28 (by decide) ?_
    have hF : (fX6_pay q x1 x2) = ((-1), q) := (show (fX6_pay q x1 x2) = ((-1), q) by (rw [fX6_pay, if_pos c_2]); try rfl)
    exact W.iret (v := (-1)) hx hb hr (fun t ht hW => ⟨⟨(-1), q, rfl, ⟨(p_fst hF), (p_snd hF)⟩, w_ht ht hP⟩, hS.F ht⟩) hS.2.2 dX6_pay_29
  · have e_3 := i_ne c_2
    refine lv_iload_n hx hb dX6_pay_11 rfl (lv_at hl 2 rfl) ?_
    refine lv_iconst (v := 1) hx hb dX6_pay_12 (by decide) ?_
    refine lv_aload_n hx hb dX6_pay_13 rfl (lv_at hl 0 rfl) ?_
    refine gfX6_33 hx hb hts h_2 hown hK hP h_1 dX6_pay_14 ?_
    refine gfX6_143 hx hb hts h_8 hown hK hP h_7 dX6_pay_17 ?_
    refine lv_iload_n hx hb dX6_pay_20 rfl (lv_at hl 1 rfl) ?_
    have v_4 : vp_in x1 20 := vp_in_iff.mpr (by omega)
    refine ldX_19 (f := (q 19)) hx hb hK hP rfl v_4 dX6_pay_21 ?_
    refine w_goI (va_runS (As := [.int x2, .int 1, .int (q 19 (x1).toNatClampNeg)]) (rest := []) ⟨hx, hb, hml, hown, hts⟩ (mX6_within l G cy a _ q x2 1 (q 19 (x1).toNatClampNeg)) (va_cwS 3 hts gX6_pay_X6_within rfl rfl rfl (by decide +kernel) ⟨Nat.le_of_ble_eq_true rfl, Nat.le_of_ble_eq_true rfl⟩) (w_preS (xOk cy a) hK hP hD hS hA hN) rfl rfl hl.1 rfl (lv_room (Nat.le_of_ble_eq_true rfl)) dX6_pay_22 ⟨Nat.le_of_ble_eq_true rfl, Nat.le_of_ble_eq_true rfl⟩) hD hS hA (fun H locs hP hS => ?_)
    have e_5 := tX6_within q x2 1 (q 19 (x1).toNatClampNeg)
    refine lv_if_ne (tgt := 30) hx hb dX6_pay_25 (by decide) (fun c_6 => ?_) (fun c_6 => ?_)
    · have e_7 := i_ne c_6
      refine lv_aload_n hx hb dX6_pay_30 rfl (lv_at hl 0 rfl) ?_
      refine gfX6_33 hx hb hts h_2 hown hK hP h_1 dX6_pay_31 ?_
      refine gfX6_143 hx hb hts h_8 hown hK hP h_7 dX6_pay_34 ?_
      refine lv_iload_n hx hb dX6_pay_37 rfl (lv_at hl 1 rfl) ?_
      refine lv_dup2_11 hx hb dX6_pay_38 rfl rfl ?_
      have v_8 : vp_in x1 20 := vp_in_iff.mpr (by omega)
      refine ldX_19 (f := (q 19)) hx hb hK hP rfl v_8 dX6_pay_39 ?_
      refine lv_iload_n hx hb dX6_pay_40 rfl (lv_at hl 2 rfl) ?_
      refine lv_isub hx hb dX6_pay_41 ?_
      have v_9 : vp_in x1 20 := vp_in_iff.mpr (by omega)
      refine stX_19 (f := (q 19)) hx hb hK hP hD hS rfl v_9 dX6_pay_42 (fun H locs hP hS => ?_)
      refine lv_aload_n hx hb dX6_pay_43 rfl (lv_at hl 0 rfl) ?_
      refine lv_dup hx hb dX6_pay_44 rfl ?_
      refine gfX6_61 (v := (q 33 0)) hx hb hts h_2 hown hK hP h_9 (congrFun (rset_ne (by decide)) 0) dX6_pay_45 ?_
      refine lv_iload_n hx hb dX6_pay_48 rfl (lv_at hl 2 rfl) ?_
      refine lv_iadd hx hb dX6_pay_49 ?_
      refine pfX6_61 hx hb hts h_2 hown hK hP hD hS h_9 dX6_pay_50 (fun H locs hP hS => ?_)
      refine lv_aload_n hx hb dX6_pay_53 rfl (lv_at hl 0 rfl) ?_
      refine gfX6_33 hx hb hts h_2 hown hK hP h_1 dX6_pay_54 ?_
      refine gfX6_143 hx hb hts h_8 hown hK hP h_7 dX6_pay_57 ?_
      refine lv_iload_n hx hb dX6_pay_60 rfl (lv_at hl 1 rfl) ?_
      have v_10 : vp_in x1 20 := vp_in_iff.mpr (by omega)
      refine ldX_19 (f := (upd (q 19) (x1).toNatClampNeg ((q 19 (x1).toNatClampNeg) - x2))) hx hb hK hP ((rset_ne (by decide)).trans rset_eq) v_10 dX6_pay_61 ?_
      have hF : (fX6_pay q x1 x2) = (((upd (q 19) (x1).toNatClampNeg ((q 19 (x1).toNatClampNeg) - x2)) (x1).toNatClampNeg), (rset (rset q 19 (upd (q 19) (x1).toNatClampNeg ((q 19 (x1).toNatClampNeg) - x2))) 33 (fun _ => ((q 33 0) + x2)))) := (show (fX6_pay q x1 x2) = (((upd (q 19) (x1).toNatClampNeg ((q 19 (x1).toNatClampNeg) - x2)) (x1).toNatClampNeg), (rset (rset q 19 (upd (q 19) (x1).toNatClampNeg ((q 19 (x1).toNatClampNeg) - x2))) 33 (fun _ => ((q 33 0) + x2)))) by (rw [fX6_pay, if_neg c_2, if_neg c_6]); try rfl)
      exact W.iret (v := ((upd (q 19) (x1).toNatClampNeg ((q 19 (x1).toNatClampNeg) - x2)) (x1).toNatClampNeg)) hx hb hr (fun t ht hW => ⟨⟨((upd (q 19) (x1).toNatClampNeg ((q 19 (x1).toNatClampNeg) - x2)) (x1).toNatClampNeg), (rset (rset q 19 (upd (q 19) (x1).toNatClampNeg ((q 19 (x1).toNatClampNeg) - x2))) 33 (fun _ => ((q 33 0) + x2))), rfl, ⟨(p_fst hF), (p_snd hF)⟩, w_ht ht hP⟩, hS.F ht⟩) hS.2.2 dX6_pay_62
    · have e_7 := i_eq c_6
      refine lv_iconst (v := (-1)) hx hb dX6_pay_28 (by decide) ?_
      have hF : (fX6_pay q x1 x2) = ((-1), q) := (show (fX6_pay q x1 x2) = ((-1), q) by (rw [fX6_pay, if_neg c_2, if_pos c_6]); try rfl)
      exact W.iret (v := (-1)) hx hb hr (fun t ht hW => ⟨⟨(-1), q, rfl, ⟨(p_fst hF), (p_snd hF)⟩, w_ht ht hP⟩, hS.F ht⟩) hS.2.2 dX6_pay_29
