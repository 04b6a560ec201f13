set_option maxHeartbeats 4000000 in
set_option maxRecDepth 100000 in
theorem mX7_late (l : Launch) (G : va_G) (cy : ClassId) (a : Nat → Nat) (sz : Nat) (q : wSt) (x1 : Int32) (g0 : 0 ≤ (x1).toInt) (g1 : (x1).toInt < 200) (k0 : 0 ≤ (q 10 (x1).toNatClampNeg).toInt) (k1 : (q 10 (x1).toNatClampNeg).toInt < 20) : CtI l yX7_late wsX7_late ({ frames := 1, cells := 0, slots := 0, locals := 20 }) G cy (cM cy a) mN sz q [.ref (a 0), .int x1] (fX7_late q x1) q := by
  refine Met.ofW (cc := cX7_late) (maxL := 4) (ret := (some .int)) (by decide) rfl ?_
  intro p e s m args below meth c s₁ B hml hv
  obtain ⟨rfl, hsz, hP, hK, hD0, hN⟩ := hv
  have hx := B.exec
  have hb := B.bytes
  have hr := B.returns
  have hts := atoms_spec (ws := wsX7_late) B.pre
  have hown : s.vm.findClass RX7 = some m.cls := findClass_of_methodNamed B.named
  have hlocks := B.notSynchronized
  subst hsz
  have hD : ∀ z : wSt, va_D (wA (cM cy a) s.heap.size) ((cM cy a) z) := fun z => w_self (mOk cy a).1 hD0 z
  have hA : ∀ z : Nat, s.heap.size ≤ z → wA (cM cy a) s.heap.size z := fun _ h => Or.inr h
  have hS : va_S (wA (cM cy a) s.heap.size) s.heap s.heap [] := va_S.rf
  have hl := lv_entry ([.ref (a 0), .int x1]) (n := 4) (Nat.le_of_ble_eq_true rfl)
  rw [lg_entry_eq]
  generalize (lg_sl ([.ref (a 0), .int x1]) ++ List.replicate (4 - (lg_sl ([.ref (a 0), .int x1])).length) Slot.unset).toArray = ls at hl ⊢
  have hl : lv_has ls 4 [(0, .ref (a 0)), (1, .int x1)] := hl
  have h_1 := hts (.fieldLink RX7 40 RX7 "rank" "[I") (by decide +kernel)
  have h_2 := (show ∀ w ∈ u_ws RX7 TX7 35, w ∈ wsX7_late by decide +kernel)
  have h_3 := hts (.fieldLink RX7 25 RX7 "readerOf" "[I") (by decide +kernel)
  have h_4 := hts (.fieldLink RX7 112 RX7 "now" "I") (by decide +kernel)
  have h_5 := hts (.fieldLink RX7 31 RX7 "since" "[I") (by decide +kernel)
  have t_0 : (0 : Int32).toInt = 0 := rfl
  have t_3 : (3 : Int32).toInt = 3 := rfl
  refine lv_aload_n hx hb dX7_late_0 rfl (lv_at hl 0 rfl) ?_
  refine gfX7_40 hx hb hts h_2 hown hK hP h_1 dX7_late_1 ?_
  refine lv_aload_n hx hb dX7_late_4 rfl (lv_at hl 0 rfl) ?_
  refine gfX7_25 hx hb hts h_2 hown hK hP h_3 dX7_late_5 ?_
  refine lv_iload_n hx hb dX7_late_8 rfl (lv_at hl 1 rfl) ?_
  have v_1 : vp_in x1 200 := vp_in_iff.mpr (by omega)
  refine ldM_10 (f := (q 10)) hx hb hK hP rfl v_1 dX7_late_9 ?_
  have v_2 : vp_in (q 10 (x1).toNatClampNeg) 20 := vp_in_iff.mpr (by omega)
  refine ldM_16 (f := (q 16)) hx hb hK hP rfl v_2 dX7_late_10 ?_
  refine lv_istore_n (lv' := [(2, .int (q 16 (q 10 (x1).toNatClampNeg).toNatClampNeg)), (0, .ref (a 0)), (1, .int x1)]) hx hb dX7_late_11 rfl hl (by decide) rfl (fun ls hl => ?_)
  refine lv_aload_n hx hb dX7_late_12 rfl (lv_at hl 1 rfl) ?_
  refine gfX7_112 (v := (q 30 0)) hx hb hts h_2 hown hK hP h_4 rfl dX7_late_13 ?_
  refine lv_aload_n hx hb dX7_late_16 rfl (lv_at hl 1 rfl) ?_
  refine gfX7_31 hx hb hts h_2 hown hK hP h_5 dX7_late_17 ?_
  refine lv_iload_n hx hb dX7_late_20 rfl (lv_at hl 2 rfl) ?_
  have v_3 : vp_in x1 200 := vp_in_iff.mpr (by omega)
  refine ldM_12 (f := (q 12)) hx hb hK hP rfl v_3 dX7_late_21 ?_
  refine lv_isub hx hb dX7_late_22 ?_
  refine lv_iload_n hx hb dX7_late_23 rfl (lv_at hl 0 rfl) ?_
  refine w_goI (va_runS (As := [.int (q 16 (q 10 (x1).toNatClampNeg).toNatClampNeg)]) (rest := [.int ((q 30 0) - (q 12 (x1).toNatClampNeg))]) ⟨hx, hb, hml, hown, hts⟩ (mX7_term l G cy a _ q (q 16 (q 10 (x1).toNatClampNeg).toNatClampNeg)) (va_cwS 1 hts gX7_late_X7_term rfl rfl rfl (by decide +kernel) ⟨Nat.le_of_ble_eq_true rfl, Nat.le_of_ble_eq_true rfl⟩) (w_preS (mOk cy a) hK hP hD hS hA hN) rfl rfl hl.1 rfl (lv_room (Nat.le_of_ble_eq_true rfl)) dX7_late_24 ⟨Nat.le_of_ble_eq_true rfl, Nat.le_of_ble_eq_true rfl⟩) hD hS hA (fun H locs hP hS => ?_)
  refine lv_isub hx hb dX7_late_27 ?_
  refine lv_istore_n (lv' := [(3, .int (((q 30 0) - (q 12 (x1).toNatClampNeg)) - (fX7_term q (q 16 (q 10 (x1).toNatClampNeg).toNatClampNeg)))), (2, .int (q 16 (q 10 (x1).toNatClampNeg).toNatClampNeg)), (0, .ref (a 0)), (1, .int x1)]) hx hb dX7_late_28 rfl hl (by decide) rfl (fun ls hl => ?_)
  refine lv_iload_n hx hb dX7_late_29 rfl (lv_at hl 0 rfl) ?_
  refine lv_if_le (tgt := 41) hx hb dX7_late_30 (by decide) (fun c_4 => ?_) (fun c_4 => ?_)
  · have e_5 := i_le c_4
    refine lv_iconst (v := 0) hx hb dX7_late_41 (by decide) ?_
    exact W.iret (v := 0) hx hb hr (fun t ht hW => ⟨⟨0, q, rfl, ⟨(show (fX7_late q x1) = 0 by (rw [fX7_late, if_pos c_4]); try rfl).symm, rfl⟩, w_ht ht hP⟩, hS.F ht⟩) hS.2.2 dX7_late_42
  · have e_5 := i_nle c_4
    refine lv_iload_n hx hb dX7_late_33 rfl (lv_at hl 0 rfl) ?_
    refine lv_iconst (v := 3) hx hb dX7_late_34 (by decide) ?_
    refine lv_iload_n hx hb dX7_late_35 rfl (lv_at hl 1 rfl) ?_
    refine lv_isub hx hb dX7_late_36 ?_
    refine lv_imul hx hb dX7_late_37 ?_
    refine lv_goto (tgt := 42) hx hb dX7_late_38 (by decide) ?_
    exact W.iret (v := ((((q 30 0) - (q 12 (x1).toNatClampNeg)) - (fX7_term q (q 16 (q 10 (x1).toNatClampNeg).toNatClampNeg))) * (3 - (q 16 (q 10 (x1).toNatClampNeg).toNatClampNeg)))) hx hb hr (fun t ht hW => ⟨⟨((((q 30 0) - (q 12 (x1).toNatClampNeg)) - (fX7_term q (q 16 (q 10 (x1).toNatClampNeg).toNatClampNeg))) * (3 - (q 16 (q 10 (x1).toNatClampNeg).toNatClampNeg))), q, rfl, ⟨(show (fX7_late q x1) = ((((q 30 0) - (q 12 (x1).toNatClampNeg)) - (fX7_term q (q 16 (q 10 (x1).toNatClampNeg).toNatClampNeg))) * (3 - (q 16 (q 10 (x1).toNatClampNeg).toNatClampNeg))) by (rw [fX7_late, if_neg c_4]); try rfl).symm, rfl⟩, w_ht ht hP⟩, hS.F ht⟩) hS.2.2 dX7_late_42
