set_option maxHeartbeats 4000000 in
set_option maxRecDepth 100000 in
theorem mX0_priceAt (l : Launch) (G : va_G) (cy : ClassId) (a : Nat → Nat) (sz : Nat) (q : wSt) (x1 : Int32) (x2 : Int32) (g0 : (q 35 0).toInt ≤ 40) : CtI l yX0_priceAt wsX0_priceAt ({ frames := 0, cells := 0, slots := 0, locals := 0 }) G cy (cX cy a) xN sz q [.ref (a 2), .int x1, .int x2] (fX0_priceAt q x1 x2) q := by
  refine Met.ofW (cc := cX0_priceAt) (maxL := 3) (ret := (some .int)) (by decide) rfl ?_
  intro p e s m args below meth c s₁ B hml hv
  obtain ⟨rfl, hsz, hP, hK, hD0, hN⟩ := hv
  have hx := B.exec
  have hb := B.bytes
  have hr := B.returns
  have hts := atoms_spec (ws := wsX0_priceAt) B.pre
  have hown : s.vm.findClass RX0 = some m.cls := findClass_of_methodNamed B.named
  have hlocks := B.notSynchronized
  subst hsz
  have hD : ∀ z : wSt, va_D (wA (cX cy a) s.heap.size) ((cX cy a) z) := fun z => w_self (xOk cy a).1 hD0 z
  have hA : ∀ z : Nat, s.heap.size ≤ z → wA (cX cy a) s.heap.size z := fun _ h => Or.inr h
  have hS : va_S (wA (cX cy a) s.heap.size) s.heap s.heap [] := va_S.rf
  have hl := lv_entry ([.ref (a 2), .int x1, .int x2]) (n := 3) (Nat.le_of_ble_eq_true rfl)
  rw [lg_entry_eq]
  generalize (lg_sl ([.ref (a 2), .int x1, .int x2]) ++ List.replicate (3 - (lg_sl ([.ref (a 2), .int x1, .int x2])).length) Slot.unset).toArray = ls at hl ⊢
  have hl : lv_has ls 3 [(0, .ref (a 2)), (1, .int x1), (2, .int x2)] := hl
  have h_1 := hts (.fieldLink RX0 27 RX0 "came" "I") (by decide +kernel)
  have h_2 := (show ∀ w ∈ u_ws RX0 TX0 6, w ∈ wsX0_priceAt by decide +kernel)
  have h_3 := hts (.fieldLink RX0 18 RX0 "atFirstPrice" "[I") (by decide +kernel)
  have h_4 := hts (.fieldLink RX0 24 RX0 "priceBeyond" "[I") (by decide +kernel)
  have h_5 := hts (.fieldLink RX0 21 RX0 "price" "[I") (by decide +kernel)
  have t_0 : (0 : Int32).toInt = 0 := rfl
  have t_10 : (10 : Int32).toInt = 10 := rfl
  refine lv_iload_n hx hb dX0_priceAt_0 rfl (lv_at hl 1 rfl) ?_
  refine lv_if_lt (tgt := 12) hx hb dX0_priceAt_1 (by decide) (fun c_1 => ?_) (fun c_1 => ?_)
  · have e_2 := i_lt c_1
    refine lv_bipush (v := 10) hx hb dX0_priceAt_12 (by decide) ?_
    exact W.iret (v := 10) hx hb hr (fun t ht hW => ⟨⟨10, q, rfl, ⟨(show (fX0_priceAt q x1 x2) = 10 by (rw [fX0_priceAt, if_pos c_1]); try rfl).symm, rfl⟩, w_ht ht hP⟩, hS.F ht⟩) hS.2.2 dX0_priceAt_14
  · have e_2 := i_nlt c_1
    refine lv_iload_n hx hb dX0_priceAt_4 rfl (lv_at hl 1 rfl) ?_
    refine lv_aload_n hx hb dX0_priceAt_5 rfl (lv_at hl 0 rfl) ?_
    refine gfX0_27 (v := (q 35 0)) hx hb hts h_2 hown hK hP h_1 rfl dX0_priceAt_6 ?_
    refine lv_icmp_lt (tgt := 15) hx hb dX0_priceAt_9 (by decide) (fun c_3 => ?_) (fun c_3 => ?_)
    · have e_4 := i_lt c_3
      refine lv_iload_n hx hb dX0_priceAt_15 rfl (lv_at hl 2 rfl) ?_
      refine lv_aload_n hx hb dX0_priceAt_16 rfl (lv_at hl 0 rfl) ?_
      refine gfX0_18 hx hb hts h_2 hown hK hP h_3 dX0_priceAt_17 ?_
      refine lv_iload_n hx hb dX0_priceAt_20 rfl (lv_at hl 1 rfl) ?_
      have v_5 : vp_in x1 40 := vp_in_iff.mpr (by omega)
      refine ldX_3 (f := (q 3)) hx hb hK hP rfl v_5 dX0_priceAt_21 ?_
      refine lv_icmp_ge (tgt := 34) hx hb dX0_priceAt_22 (by decide) (fun c_6 => ?_) (fun c_6 => ?_)
      · have e_7 := i_le c_6
        refine lv_aload_n hx hb dX0_priceAt_34 rfl (lv_at hl 0 rfl) ?_
        refine gfX0_24 hx hb hts h_2 hown hK hP h_4 dX0_priceAt_35 ?_
        refine lv_iload_n hx hb dX0_priceAt_38 rfl (lv_at hl 1 rfl) ?_
        have v_8 : vp_in x1 40 := vp_in_iff.mpr (by omega)
        refine ldX_5 (f := (q 5)) hx hb hK hP rfl v_8 dX0_priceAt_39 ?_
        exact W.iret (v := (q 5 (x1).toNatClampNeg)) hx hb hr (fun t ht hW => ⟨⟨(q 5 (x1).toNatClampNeg), q, rfl, ⟨(show (fX0_priceAt q x1 x2) = (q 5 (x1).toNatClampNeg) by (rw [fX0_priceAt, if_neg c_1, if_pos c_3, if_pos c_6]); try rfl).symm, rfl⟩, w_ht ht hP⟩, hS.F ht⟩) hS.2.2 dX0_priceAt_40
      · have e_7 := i_nle c_6
        refine lv_aload_n hx hb dX0_priceAt_25 rfl (lv_at hl 0 rfl) ?_
        refine gfX0_21 hx hb hts h_2 hown hK hP h_5 dX0_priceAt_26 ?_
        refine lv_iload_n hx hb dX0_priceAt_29 rfl (lv_at hl 1 rfl) ?_
        have v_9 : vp_in x1 40 := vp_in_iff.mpr (by omega)
        refine ldX_4 (f := (q 4)) hx hb hK hP rfl v_9 dX0_priceAt_30 ?_
        refine lv_goto (tgt := 40) hx hb dX0_priceAt_31 (by decide) ?_
        exact W.iret (v := (q 4 (x1).toNatClampNeg)) hx hb hr (fun t ht hW => ⟨⟨(q 4 (x1).toNatClampNeg), q, rfl, ⟨(show (fX0_priceAt q x1 x2) = (q 4 (x1).toNatClampNeg) by (rw [fX0_priceAt, if_neg c_1, if_pos c_3, if_neg c_6]); try rfl).symm, rfl⟩, w_ht ht hP⟩, hS.F ht⟩) hS.2.2 dX0_priceAt_40
    · have e_4 := i_nlt c_3
      refine lv_bipush (v := 10) hx hb dX0_priceAt_12 (by decide) ?_
      exact W.iret (v := 10) hx hb hr (fun t ht hW => ⟨⟨10, q, rfl, ⟨(show (fX0_priceAt q x1 x2) = 10 by (rw [fX0_priceAt, if_neg c_1, if_neg c_3]); try rfl).symm, rfl⟩, w_ht ht hP⟩, hS.F ht⟩) hS.2.2 dX0_priceAt_14
