set_option maxHeartbeats 4000000 in
set_option maxRecDepth 100000 in
theorem mX7_pay (l : Launch) (G : va_G) (cy : ClassId) (a : Nat → Nat) (sz : Nat) (q : wSt) (x1 : Int32) (x2 : Int32) (hI : iI q) : CtI l yX7_pay wsX7_pay ({ frames := 2, cells := 0, slots := 0, locals := 43 }) G cy (cM cy a) mN sz q [.ref (a 0), .int x1, .int x2] (fX7_pay q x1 x2).1 (fX7_pay q x1 x2).2 := by
  refine Met.ofW (cc := cX7_pay) (maxL := 3) (ret := (some .int)) (by decide) rfl ?_
  intro p e s m args below meth c s₁ B hml hv
  obtain ⟨rfl, hsz, hP, hK, hD0, hN⟩ := hv
  have hx := B.exec
  have hb := B.bytes
  have hr := B.returns
  have hts := atoms_spec (ws := wsX7_pay) B.pre
  have hown : s.vm.findClass RX7 = some m.cls := findClass_of_methodNamed B.named
  have hlocks := B.notSynchronized
  subst hsz
  have hD : ∀ z : wSt, va_D (wA (cM cy a) s.heap.size) ((cM cy a) z) := fun z => w_self (mOk cy a).1 hD0 z
  have hA : ∀ z : Nat, s.heap.size ≤ z → wA (cM cy a) s.heap.size z := fun _ h => Or.inr h
  have hS : va_S (wA (cM cy a) s.heap.size) s.heap s.heap [] := va_S.rf
  have hl := lv_entry ([.ref (a 0), .int x1, .int x2]) (n := 3) (Nat.le_of_ble_eq_true rfl)
  rw [lg_entry_eq]
  generalize (lg_sl ([.ref (a 0), .int x1, .int x2]) ++ List.replicate (3 - (lg_sl ([.ref (a 0), .int x1, .int x2])).length) Slot.unset).toArray = ls at hl ⊢
  have hl : lv_has ls 3 [(0, .ref (a 0)), (1, .int x1), (2, .int x2)] := hl
  have h_1 := hts (.fieldLink RX7 49 RX7 "owed" "[I") (by decide +kernel)
  have h_2 := (show ∀ w ∈ u_ws RX7 TX7 35, w ∈ wsX7_pay by decide +kernel)
  have h_3 := hts (.fieldLink RX7 171 RX7 "paid" "I") (by decide +kernel)
  have t_m1 : ((-1) : Int32).toInt = -1 := rfl
  have t_0 : (0 : Int32).toInt = 0 := rfl
  have t_1 : (1 : Int32).toInt = 1 := rfl
  have hB := iI_b hI
  refine lv_aload_n hx hb dX7_pay_0 rfl (lv_at hl 0 rfl) ?_
  refine lv_iload_n hx hb dX7_pay_1 rfl (lv_at hl 1 rfl) ?_
  refine w_goI (va_runV (As := [.int x1]) (rest := []) ⟨hx, hb, hml, hown, hts⟩ (mX7_isReader l G cy a _ q x1) (cwV 1 hts gX7_pay_X7_isReader rfl rfl rfl (by decide +kernel) ⟨Nat.le_of_ble_eq_true rfl, Nat.le_of_ble_eq_true rfl⟩) (w_pre (mOk cy a) (va_recv hK hP (ci := 7) (q0 := 0) rfl rfl) hK hP hD hS hA hN) rfl rfl hl.1 rfl (lv_room (Nat.le_of_ble_eq_true rfl)) dX7_pay_2 ⟨Nat.le_of_ble_eq_true rfl, Nat.le_of_ble_eq_true rfl⟩) hD hS hA (fun H locs hP hS => ?_)
  have e_1 := tX7_isReader q x1 (by omega)
  refine lv_if_eq (tgt := 22) hx hb dX7_pay_5 (by decide) (fun c_2 => ?_) (fun c_2 => ?_)
  · have e_3 := i_eq c_2
    refine lv_iconst (v := (-1)) hx hb dX7_pay_22 (by decide) ?_
    have hF : (fX7_pay q x1 x2) = ((-1), q) := (show (fX7_pay q x1 x2) = ((-1), q) by (rw [fX7_pay, if_pos c_2]); try rfl)
    exact W.iret (v := (-1)) hx hb hr (fun t ht hW => ⟨⟨(-1), q, rfl, ⟨(p_fst hF), (p_snd hF)⟩, w_ht ht hP⟩, hS.F ht⟩) hS.2.2 dX7_pay_23
  · have e_3 := i_ne c_2
    refine lv_iload_n hx hb dX7_pay_8 rfl (lv_at hl 2 rfl) ?_
    refine lv_iconst (v := 1) hx hb dX7_pay_9 (by decide) ?_
    refine lv_aload_n hx hb dX7_pay_10 rfl (lv_at hl 0 rfl) ?_
    refine gfX7_49 hx hb hts h_2 hown hK hP h_1 dX7_pay_11 ?_
    refine lv_iload_n hx hb dX7_pay_14 rfl (lv_at hl 1 rfl) ?_
    have v_4 : vp_in x1 20 := vp_in_iff.mpr (by omega)
    refine ldM_19 (f := (q 19)) hx hb hK hP rfl v_4 dX7_pay_15 ?_
    refine w_goI (va_runS (As := [.int x2, .int 1, .int (q 19 (x1).toNatClampNeg)]) (rest := []) ⟨hx, hb, hml, hown, hts⟩ (mX7_in l G cy a _ q x2 1 (q 19 (x1).toNatClampNeg)) (va_cwS 3 hts gX7_pay_X7_in rfl rfl rfl (by decide +kernel) ⟨Nat.le_of_ble_eq_true rfl, Nat.le_of_ble_eq_true rfl⟩) (w_preS (mOk cy a) hK hP hD hS hA hN) rfl rfl hl.1 rfl (lv_room (Nat.le_of_ble_eq_true rfl)) dX7_pay_16 ⟨Nat.le_of_ble_eq_true rfl, Nat.le_of_ble_eq_true rfl⟩) hD hS hA (fun H locs hP hS => ?_)
    have e_5 := tX7_in q x2 1 (q 19 (x1).toNatClampNeg)
    refine lv_if_ne (tgt := 24) hx hb dX7_pay_19 (by decide) (fun c_6 => ?_) (fun c_6 => ?_)
    · have e_7 := i_ne c_6
      refine lv_aload_n hx hb dX7_pay_24 rfl (lv_at hl 0 rfl) ?_
      refine gfX7_49 hx hb hts h_2 hown hK hP h_1 dX7_pay_25 ?_
      refine lv_iload_n hx hb dX7_pay_28 rfl (lv_at hl 1 rfl) ?_
      refine lv_dup2_11 hx hb dX7_pay_29 rfl rfl ?_
      have v_8 : vp_in x1 20 := vp_in_iff.mpr (by omega)
      refine ldM_19 (f := (q 19)) hx hb hK hP rfl v_8 dX7_pay_30 ?_
      refine lv_iload_n hx hb dX7_pay_31 rfl (lv_at hl 2 rfl) ?_
      refine lv_isub hx hb dX7_pay_32 ?_
      have v_9 : vp_in x1 20 := vp_in_iff.mpr (by omega)
      refine stM_19 (f := (q 19)) hx hb hK hP hD hS rfl v_9 dX7_pay_33 (fun H locs hP hS => ?_)
      refine lv_aload_n hx hb dX7_pay_34 rfl (lv_at hl 0 rfl) ?_
      refine lv_dup hx hb dX7_pay_35 rfl ?_
      refine gfX7_171 (v := (q 33 0)) hx hb hts h_2 hown hK hP h_3 (congrFun (rset_ne (by decide)) 0) dX7_pay_36 ?_
      refine lv_iload_n hx hb dX7_pay_39 rfl (lv_at hl 2 rfl) ?_
      refine lv_iadd hx hb dX7_pay_40 ?_
      refine pfX7_171 hx hb hts h_2 hown hK hP hD hS h_3 dX7_pay_41 (fun H locs hP hS => ?_)
      refine lv_aload_n hx hb dX7_pay_44 rfl (lv_at hl 0 rfl) ?_
      refine gfX7_49 hx hb hts h_2 hown hK hP h_1 dX7_pay_45 ?_
      refine lv_iload_n hx hb dX7_pay_48 rfl (lv_at hl 1 rfl) ?_
      have v_10 : vp_in x1 20 := vp_in_iff.mpr (by omega)
      refine ldM_19 (f := (upd (q 19) (x1).toNatClampNeg ((q 19 (x1).toNatClampNeg) - x2))) hx hb hK hP ((rset_ne (by decide)).trans rset_eq) v_10 dX7_pay_49 ?_
      have hF : (fX7_pay q x1 x2) = (((upd (q 19) (x1).toNatClampNeg ((q 19 (x1).toNatClampNeg) - x2)) (x1).toNatClampNeg), (rset (rset q 19 (upd (q 19) (x1).toNatClampNeg ((q 19 (x1).toNatClampNeg) - x2))) 33 (fun _ => ((q 33 0) + x2)))) := (show (fX7_pay q x1 x2) = (((upd (q 19) (x1).toNatClampNeg ((q 19 (x1).toNatClampNeg) - x2)) (x1).toNatClampNeg), (rset (rset q 19 (upd (q 19) (x1).toNatClampNeg ((q 19 (x1).toNatClampNeg) - x2))) 33 (fun _ => ((q 33 0) + x2)))) by (rw [fX7_pay, if_neg c_2, if_neg c_6]); try rfl)
      exact W.iret (v := ((upd (q 19) (x1).toNatClampNeg ((q 19 (x1).toNatClampNeg) - x2)) (x1).toNatClampNeg)) hx hb hr (fun t ht hW => ⟨⟨((upd (q 19) (x1).toNatClampNeg ((q 19 (x1).toNatClampNeg) - x2)) (x1).toNatClampNeg), (rset (rset q 19 (upd (q 19) (x1).toNatClampNeg ((q 19 (x1).toNatClampNeg) - x2))) 33 (fun _ => ((q 33 0) + x2))), rfl, ⟨(p_fst hF), (p_snd hF)⟩, w_ht ht hP⟩, hS.F ht⟩) hS.2.2 dX7_pay_50
    · have e_7 := i_eq c_6
      refine lv_iconst (v := (-1)) hx hb dX7_pay_22 (by decide) ?_
      have hF : (fX7_pay q x1 x2) = ((-1), q) := (show (fX7_pay q x1 x2) = ((-1), q) by (rw [fX7_pay, if_neg c_2, if_pos c_6]); try rfl)
      exact W.iret (v := (-1)) hx hb hr (fun t ht hW => ⟨⟨(-1), q, rfl, ⟨(p_fst hF), (p_snd hF)⟩, w_ht ht hP⟩, hS.F ht⟩) hS.2.2 dX7_pay_23
