set_option maxHeartbeats 4000000 in
set_option maxRecDepth 100000 in
theorem mX6_goesAhead (l : Launch) (G : va_G) (cy : ClassId) (a : Nat → Nat) (sz : Nat) (q : wSt) (x1 : Int32) (x2 : Int32) (hI : iI q) (g0 : 0 ≤ (x1).toInt) (g1 : (x1).toInt < 100) (k0 : 0 ≤ (x2).toInt) (k1 : (x2).toInt < 100) : CtI l yX6_goesAhead wsX6_goesAhead ({ frames := 2, cells := 0, slots := 0, locals := 42 }) G cy (cX cy a) xN sz q [.ref (a 0), .int x1, .int x2] (fX6_goesAhead q x1 x2) q := by
  refine Met.ofW (cc := cX6_goesAhead) (maxL := 5) (ret := (some .boolean)) (by decide) rfl ?_
  intro p e s m args below meth c s₁ B hml hv
  obtain ⟨rfl, hsz, hP, hK, hD0, hN⟩ := hv
  have hx := B.exec
  have hb := B.bytes
  have hr := B.returns
  have hts := atoms_spec (ws := wsX6_goesAhead) B.pre
  have hown : s.vm.findClass RX6 = some m.cls := findClass_of_methodNamed B.named
  have hlocks := B.notSynchronized
  subst hsz
  have hD : ∀ z : wSt, va_D (wA (cX cy a) s.heap.size) ((cX cy a) z) := fun z => w_self (xOk cy a).1 hD0 z
  have hA : ∀ z : Nat, s.heap.size ≤ z → wA (cX cy a) s.heap.size z := fun _ h => Or.inr h
  have hS : va_S (wA (cX cy a) s.heap.size) s.heap s.heap [] := va_S.rf
  have hl := lv_entry ([.ref (a 0), .int x1, .int x2]) (n := 5) (Nat.le_of_ble_eq_true rfl)
  rw [lg_entry_eq]
  generalize (lg_sl ([.ref (a 0), .int x1, .int x2]) ++ List.replicate (5 - (lg_sl ([.ref (a 0), .int x1, .int x2])).length) Slot.unset).toArray = ls at hl ⊢
  have hl : lv_has ls 5 [(0, .ref (a 0)), (1, .int x1), (2, .int x2)] := hl
  have h_1 := hts (.fieldLink RX6 33 RX6 "readers" "LVolumeHouse$Readers;") (by decide +kernel)
  have h_2 := (show ∀ w ∈ u_ws RX6 TX6 10, w ∈ wsX6_goesAhead by decide +kernel)
  have h_3 := hts (.fieldLink RX6 40 RX6 "wishes" "LVolumeHouse$Wishes;") (by decide +kernel)
  have h_4 := (hN.1 _ (List.mem_of_getElem? (i := 31) rfl) : va_Nw (.fieldLinkNest RX6 264 RX5 "reader" "[I" RX6) s)
  have h_5 := (show ∀ w ∈ u_ws RX5 TX5 7, w ∈ wsX6_goesAhead by decide +kernel)
  have h_6 := (hN.1 _ (List.mem_of_getElem? (i := 69) rfl) : va_Nw (.methodLinkNest RX6 272 yX3_rankOf RX6) s)
  have h_7 := hts (.initialized RX3) (by decide +kernel)
  have h_8 := hts (.instanceMethod yX3_rankOf) (by decide +kernel)
  have h_9 := hts (.selects RX3 yX3_rankOf yX3_rankOf) (by decide +kernel)
  have h_10 := (hN.1 _ (List.mem_of_getElem? (i := 26) rfl) : va_Nw (.fieldLinkNest RX6 209 RX5 "since" "[I" RX6) s)
  have t_0 : (0 : Int32).toInt = 0 := rfl
  have t_1 : (1 : Int32).toInt = 1 := rfl
  have hB := iI_b hI
  refine lv_aload_n hx hb dX6_goesAhead_0 rfl (lv_at hl 0 rfl) ?_
  refine gfX6_33 hx hb hts h_2 hown hK hP h_1 dX6_goesAhead_1 ?_
  refine lv_aload_n hx hb dX6_goesAhead_4 rfl (lv_at hl 0 rfl) ?_
  refine gfX6_40 hx hb hts h_2 hown hK hP h_3 dX6_goesAhead_5 ?_
  refine gfX6_264 hx hb hts h_5 hown hK hP h_4 dX6_goesAhead_8 ?_
  refine lv_iload_n hx hb dX6_goesAhead_11 rfl (lv_at hl 1 rfl) ?_
  have v_1 : vp_in x1 100 := vp_in_iff.mpr (by omega)
  refine ldX_22 (f := (q 22)) hx hb hK hP rfl v_1 dX6_goesAhead_12 ?_
  have e_2 := iI_22 hI _ (i_clamp v_1)
  refine w_goI (va_runVN (As := [.int (q 22 (x1).toNatClampNeg)]) (rest := []) ⟨hx, hb, hml, hown, hts⟩ (mX3_rankOf l G cy a _ q (q 22 (x1).toNatClampNeg) (by omega)) ⟨va_cnB 1 hts gX6_goesAhead_X3_rankOf_n272 rfl rfl rfl h_6 h_7 (by decide +kernel) ⟨Nat.le_of_ble_eq_true rfl, Nat.le_of_ble_eq_true rfl⟩, h_8, h_9⟩ (w_pre (xOk cy a) (va_recv hK hP (ci := 3) (q0 := 4) rfl rfl) hK hP hD hS hA hN) rfl rfl hl.1 rfl (lv_room (Nat.le_of_ble_eq_true rfl)) dX6_goesAhead_13 ⟨Nat.le_of_ble_eq_true rfl, Nat.le_of_ble_eq_true rfl⟩) hD hS hA (fun H locs hP hS => ?_)
  refine lv_istore_n (lv' := [(3, .int (fX3_rankOf q (q 22 (x1).toNatClampNeg))), (0, .ref (a 0)), (1, .int x1), (2, .int x2)]) hx hb dX6_goesAhead_16 rfl hl (by decide) rfl (fun ls hl => ?_)
  refine lv_aload_n hx hb dX6_goesAhead_17 rfl (lv_at hl 1 rfl) ?_
  refine gfX6_33 hx hb hts h_2 hown hK hP h_1 dX6_goesAhead_18 ?_
  refine lv_aload_n hx hb dX6_goesAhead_21 rfl (lv_at hl 1 rfl) ?_
  refine gfX6_40 hx hb hts h_2 hown hK hP h_3 dX6_goesAhead_22 ?_
  refine gfX6_264 hx hb hts h_5 hown hK hP h_4 dX6_goesAhead_25 ?_
  refine lv_iload_n hx hb dX6_goesAhead_28 rfl (lv_at hl 3 rfl) ?_
  have v_3 : vp_in x2 100 := vp_in_iff.mpr (by omega)
  refine ldX_22 (f := (q 22)) hx hb hK hP rfl v_3 dX6_goesAhead_29 ?_
  have e_4 := iI_22 hI _ (i_clamp v_3)
  refine w_goI (va_runVN (As := [.int (q 22 (x2).toNatClampNeg)]) (rest := []) ⟨hx, hb, hml, hown, hts⟩ (mX3_rankOf l G cy a _ q (q 22 (x2).toNatClampNeg) (by omega)) ⟨va_cnB 1 hts gX6_goesAhead_X3_rankOf_n272 rfl rfl rfl h_6 h_7 (by decide +kernel) ⟨Nat.le_of_ble_eq_true rfl, Nat.le_of_ble_eq_true rfl⟩, h_8, h_9⟩ (w_pre (xOk cy a) (va_recv hK hP (ci := 3) (q0 := 4) rfl rfl) hK hP hD hS hA hN) rfl rfl hl.1 rfl (lv_room (Nat.le_of_ble_eq_true rfl)) dX6_goesAhead_30 ⟨Nat.le_of_ble_eq_true rfl, Nat.le_of_ble_eq_true rfl⟩) hD hS hA (fun H locs hP hS => ?_)
  refine lv_istore (lv' := [(4, .int (fX3_rankOf q (q 22 (x2).toNatClampNeg))), (3, .int (fX3_rankOf q (q 22 (x1).toNatClampNeg))), (0, .ref (a 0)), (1, .int x1), (2, .int x2)]) hx hb dX6_goesAhead_33 hl (by decide) rfl (fun ls hl => ?_)
  refine lv_iload_n hx hb dX6_goesAhead_35 rfl (lv_at hl 1 rfl) ?_
  refine lv_iload hx hb dX6_goesAhead_36 (lv_at hl 0 rfl) ?_
  refine lv_icmp_eq (tgt := 53) hx hb dX6_goesAhead_38 (by decide) (fun c_5 => ?_) (fun c_5 => ?_)
  · have e_6 := i_eq c_5
    refine lv_aload_n hx hb dX6_goesAhead_53 rfl (lv_at hl 2 rfl) ?_
    refine gfX6_40 hx hb hts h_2 hown hK hP h_3 dX6_goesAhead_54 ?_
    refine gfX6_209 hx hb hts h_5 hown hK hP h_10 dX6_goesAhead_57 ?_
    refine lv_iload_n hx hb dX6_goesAhead_60 rfl (lv_at hl 3 rfl) ?_
    have v_7 : vp_in x1 100 := vp_in_iff.mpr (by omega)
    refine ldX_27 (f := (q 27)) hx hb hK hP rfl v_7 dX6_goesAhead_61 ?_
    refine lv_aload_n hx hb dX6_goesAhead_62 rfl (lv_at hl 2 rfl) ?_
    refine gfX6_40 hx hb hts h_2 hown hK hP h_3 dX6_goesAhead_63 ?_
    refine gfX6_209 hx hb hts h_5 hown hK hP h_10 dX6_goesAhead_66 ?_
    refine lv_iload_n hx hb dX6_goesAhead_69 rfl (lv_at hl 4 rfl) ?_
    have v_8 : vp_in x2 100 := vp_in_iff.mpr (by omega)
    refine ldX_27 (f := (q 27)) hx hb hK hP rfl v_8 dX6_goesAhead_70 ?_
    refine lv_icmp_ge (tgt := 78) hx hb dX6_goesAhead_71 (by decide) (fun c_9 => ?_) (fun c_9 => ?_)
    · have e_10 := i_le c_9
      refine lv_iconst (v := 0) hx hb dX6_goesAhead_78 (by decide) ?_
      exact W.zret (v := 0) hx hb hr rfl (fun t ht hW => ⟨⟨0, q, rfl, ⟨(show (fX6_goesAhead q x1 x2) = 0 by (rw [fX6_goesAhead, if_pos c_5, if_pos c_9]); try rfl).symm, rfl⟩, w_ht ht hP⟩, hS.F ht⟩) hS.2.2 dX6_goesAhead_79
    · have e_10 := i_nle c_9
      refine lv_iconst (v := 1) hx hb dX6_goesAhead_74 (by decide) ?_
      refine lv_goto (tgt := 79) hx hb dX6_goesAhead_75 (by decide) ?_
      exact W.zret (v := 1) hx hb hr rfl (fun t ht hW => ⟨⟨1, q, rfl, ⟨(show (fX6_goesAhead q x1 x2) = 1 by (rw [fX6_goesAhead, if_pos c_5, if_neg c_9]); try rfl).symm, rfl⟩, w_ht ht hP⟩, hS.F ht⟩) hS.2.2 dX6_goesAhead_79
  · have e_6 := i_ne c_5
    refine lv_iload_n hx hb dX6_goesAhead_41 rfl (lv_at hl 1 rfl) ?_
    refine lv_iload hx hb dX6_goesAhead_42 (lv_at hl 0 rfl) ?_
    refine lv_icmp_le (tgt := 51) hx hb dX6_goesAhead_44 (by decide) (fun c_11 => ?_) (fun c_11 => ?_)
    · have e_12 := i_le c_11
      refine lv_iconst (v := 0) hx hb dX6_goesAhead_51 (by decide) ?_
      exact W.zret (v := 0) hx hb hr rfl (fun t ht hW => ⟨⟨0, q, rfl, ⟨(show (fX6_goesAhead q x1 x2) = 0 by (rw [fX6_goesAhead, if_neg c_5, if_pos c_11]); try rfl).symm, rfl⟩, w_ht ht hP⟩, hS.F ht⟩) hS.2.2 dX6_goesAhead_52
    · have e_12 := i_nle c_11
      refine lv_iconst (v := 1) hx hb dX6_goesAhead_47 (by decide) ?_
      refine lv_goto (tgt := 52) hx hb dX6_goesAhead_48 (by decide) ?_
      exact W.zret (v := 1) hx hb hr rfl (fun t ht hW => ⟨⟨1, q, rfl, ⟨(show (fX6_goesAhead q x1 x2) = 1 by (rw [fX6_goesAhead, if_neg c_5, if_neg c_11]); try rfl).symm, rfl⟩, w_ht ht hP⟩, hS.F ht⟩) hS.2.2 dX6_goesAhead_52
