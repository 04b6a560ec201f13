set_option maxHeartbeats 4000000 in
set_option maxRecDepth 100000 in
theorem mX6_canGet (l : Launch) (G : va_G) (cy : ClassId) (a : Nat → Nat) (sz : Nat) (q : wSt) (x1 : Int32) (hI : iI q) : CtI l yX6_canGet wsX6_canGet ({ frames := 3, cells := 0, slots := 0, locals := 63 }) G cy (cX cy a) xN sz q [.ref (a 0), .int x1] (fX6_canGet q x1) q := by
  refine Met.ofW (cc := cX6_canGet) (maxL := 2) (ret := (some .boolean)) (by decide) rfl ?_
  intro p e s m args below meth c s₁ B hml hv
  obtain ⟨rfl, hsz, hP, hK, hD0, hN⟩ := hv
  have hx := B.exec
  have hb := B.bytes
  have hr := B.returns
  have hts := atoms_spec (ws := wsX6_canGet) B.pre
  have hown : s.vm.findClass RX6 = some m.cls := findClass_of_methodNamed B.named
  have hlocks := B.notSynchronized
  subst hsz
  have hD : ∀ z : wSt, va_D (wA (cX cy a) s.heap.size) ((cX cy a) z) := fun z => w_self (xOk cy a).1 hD0 z
  have hA : ∀ z : Nat, s.heap.size ≤ z → wA (cX cy a) s.heap.size z := fun _ h => Or.inr h
  have hS : va_S (wA (cX cy a) s.heap.size) s.heap s.heap [] := va_S.rf
  have hl := lv_entry ([.ref (a 0), .int x1]) (n := 2) (Nat.le_of_ble_eq_true rfl)
  rw [lg_entry_eq]
  generalize (lg_sl ([.ref (a 0), .int x1]) ++ List.replicate (2 - (lg_sl ([.ref (a 0), .int x1])).length) Slot.unset).toArray = ls at hl ⊢
  have hl : lv_has ls 2 [(0, .ref (a 0)), (1, .int x1)] := hl
  have h_1 := hts (.fieldLink RX6 40 RX6 "wishes" "LVolumeHouse$Wishes;") (by decide +kernel)
  have h_2 := (show ∀ w ∈ u_ws RX6 TX6 10, w ∈ wsX6_canGet by decide +kernel)
  have h_3 := (hN.1 _ (List.mem_of_getElem? (i := 58) rfl) : va_Nw (.methodLinkNest RX6 206 yX5_waits RX6) s)
  have h_4 := hts (.initialized RX5) (by decide +kernel)
  have h_5 := hts (.instanceMethod yX5_waits) (by decide +kernel)
  have h_6 := hts (.selects RX5 yX5_waits yX5_waits) (by decide +kernel)
  have h_7 := hts (.fieldLink RX6 33 RX6 "readers" "LVolumeHouse$Readers;") (by decide +kernel)
  have h_8 := (hN.1 _ (List.mem_of_getElem? (i := 31) rfl) : va_Nw (.fieldLinkNest RX6 264 RX5 "reader" "[I" RX6) s)
  have h_9 := (show ∀ w ∈ u_ws RX5 TX5 7, w ∈ wsX6_canGet by decide +kernel)
  have h_10 := hts (.fieldLink RX6 51 RX6 "now" "I") (by decide +kernel)
  have h_11 := (hN.1 _ (List.mem_of_getElem? (i := 67) rfl) : va_Nw (.methodLinkNest RX6 265 yX3_mayTake RX6) s)
  have h_12 := hts (.initialized RX3) (by decide +kernel)
  have h_13 := hts (.instanceMethod yX3_mayTake) (by decide +kernel)
  have h_14 := hts (.selects RX3 yX3_mayTake yX3_mayTake) (by decide +kernel)
  have h_15 := hts (.fieldLink RX6 26 RX6 "copies" "LVolumeHouse$Copies;") (by decide +kernel)
  have h_16 := (hN.1 _ (List.mem_of_getElem? (i := 32) rfl) : va_Nw (.fieldLinkNest RX6 268 RX5 "title" "[I" RX6) s)
  have h_17 := (hN.1 _ (List.mem_of_getElem? (i := 24) rfl) : va_Nw (.fieldLinkNest RX6 200 RX5 "had" "[I" RX6) s)
  have h_18 := (hN.1 _ (List.mem_of_getElem? (i := 68) rfl) : va_Nw (.methodLinkNest RX6 269 yX1_onShelf RX6) s)
  have h_19 := hts (.initialized RX1) (by decide +kernel)
  have h_20 := hts (.instanceMethod yX1_onShelf) (by decide +kernel)
  have h_21 := hts (.selects RX1 yX1_onShelf yX1_onShelf) (by decide +kernel)
  have t_0 : (0 : Int32).toInt = 0 := rfl
  have t_1 : (1 : Int32).toInt = 1 := rfl
  have hB := iI_b hI
  refine lv_aload_n hx hb dX6_canGet_0 rfl (lv_at hl 0 rfl) ?_
  refine gfX6_40 hx hb hts h_2 hown hK hP h_1 dX6_canGet_1 ?_
  refine lv_iload_n hx hb dX6_canGet_4 rfl (lv_at hl 1 rfl) ?_
  refine w_goI (va_runVN (As := [.int x1]) (rest := []) ⟨hx, hb, hml, hown, hts⟩ (mX5_waits l G cy a _ q x1 (by omega)) ⟨va_cnB 1 hts gX6_canGet_X5_waits_n206 rfl rfl rfl h_3 h_4 (by decide +kernel) ⟨Nat.le_of_ble_eq_true rfl, Nat.le_of_ble_eq_true rfl⟩, h_5, h_6⟩ (w_pre (xOk cy a) (va_recv hK hP (ci := 5) (q0 := 5) rfl rfl) hK hP hD hS hA hN) rfl rfl hl.1 rfl (lv_room (Nat.le_of_ble_eq_true rfl)) dX6_canGet_5 ⟨Nat.le_of_ble_eq_true rfl, Nat.le_of_ble_eq_true rfl⟩) hD hS hA (fun H locs hP hS => ?_)
  have e_1 := tX5_waits q x1
  refine lv_if_eq (tgt := 66) hx hb dX6_canGet_8 (by decide) (fun c_2 => ?_) (fun c_2 => ?_)
  · have e_3 := i_eq c_2
    refine lv_iconst (v := 0) hx hb dX6_canGet_66 (by decide) ?_
    exact W.zret (v := 0) hx hb hr rfl (fun t ht hW => ⟨⟨0, q, rfl, ⟨(show (fX6_canGet q x1) = 0 by (rw [fX6_canGet, if_pos c_2]); try rfl).symm, rfl⟩, w_ht ht hP⟩, hS.F ht⟩) hS.2.2 dX6_canGet_67
  · have e_3 := i_ne c_2
    refine lv_aload_n hx hb dX6_canGet_11 rfl (lv_at hl 0 rfl) ?_
    refine gfX6_33 hx hb hts h_2 hown hK hP h_7 dX6_canGet_12 ?_
    refine lv_aload_n hx hb dX6_canGet_15 rfl (lv_at hl 0 rfl) ?_
    refine gfX6_40 hx hb hts h_2 hown hK hP h_1 dX6_canGet_16 ?_
    refine gfX6_264 hx hb hts h_9 hown hK hP h_8 dX6_canGet_19 ?_
    refine lv_iload_n hx hb dX6_canGet_22 rfl (lv_at hl 1 rfl) ?_
    have v_4 : vp_in x1 100 := vp_in_iff.mpr (by omega)
    refine ldX_22 (f := (q 22)) hx hb hK hP rfl v_4 dX6_canGet_23 ?_
    have e_5 := iI_22 hI _ (i_clamp v_4)
    refine lv_aload_n hx hb dX6_canGet_24 rfl (lv_at hl 0 rfl) ?_
    refine gfX6_51 (v := (q 30 0)) hx hb hts h_2 hown hK hP h_10 rfl dX6_canGet_25 ?_
    refine w_goI (va_runVN (As := [.int (q 22 (x1).toNatClampNeg), .int (q 30 0)]) (rest := []) ⟨hx, hb, hml, hown, hts⟩ (mX3_mayTake l G cy a _ q (q 22 (x1).toNatClampNeg) (q 30 0) hI) ⟨va_cnB 2 hts gX6_canGet_X3_mayTake_n265 rfl rfl rfl h_11 h_12 (by decide +kernel) ⟨Nat.le_of_ble_eq_true rfl, Nat.le_of_ble_eq_true rfl⟩, h_13, h_14⟩ (w_pre (xOk cy a) (va_recv hK hP (ci := 3) (q0 := 4) rfl rfl) hK hP hD hS hA hN) rfl rfl hl.1 rfl (lv_room (Nat.le_of_ble_eq_true rfl)) dX6_canGet_28 ⟨Nat.le_of_ble_eq_true rfl, Nat.le_of_ble_eq_true rfl⟩) hD hS hA (fun H locs hP hS => ?_)
    refine lv_if_eq (tgt := 66) hx hb dX6_canGet_31 (by decide) (fun c_6 => ?_) (fun c_6 => ?_)
    · have e_7 := i_eq c_6
      refine lv_iconst (v := 0) hx hb dX6_canGet_66 (by decide) ?_
      exact W.zret (v := 0) hx hb hr rfl (fun t ht hW => ⟨⟨0, q, rfl, ⟨(show (fX6_canGet q x1) = 0 by (rw [fX6_canGet, if_neg c_2, if_pos c_6]); try rfl).symm, rfl⟩, w_ht ht hP⟩, hS.F ht⟩) hS.2.2 dX6_canGet_67
    · have e_7 := i_ne c_6
      refine lv_aload_n hx hb dX6_canGet_34 rfl (lv_at hl 0 rfl) ?_
      refine gfX6_26 hx hb hts h_2 hown hK hP h_15 dX6_canGet_35 ?_
      refine lv_aload_n hx hb dX6_canGet_38 rfl (lv_at hl 0 rfl) ?_
      refine gfX6_40 hx hb hts h_2 hown hK hP h_1 dX6_canGet_39 ?_
      refine gfX6_268 hx hb hts h_9 hown hK hP h_16 dX6_canGet_42 ?_
      refine lv_iload_n hx hb dX6_canGet_45 rfl (lv_at hl 1 rfl) ?_
      have v_8 : vp_in x1 100 := vp_in_iff.mpr (by omega)
      refine ldX_23 (f := (q 23)) hx hb hK hP rfl v_8 dX6_canGet_46 ?_
      have e_9 := iI_23 hI _ (i_clamp v_8)
      refine lv_aload_n hx hb dX6_canGet_47 rfl (lv_at hl 0 rfl) ?_
      refine gfX6_40 hx hb hts h_2 hown hK hP h_1 dX6_canGet_48 ?_
      refine gfX6_200 hx hb hts h_9 hown hK hP h_17 dX6_canGet_51 ?_
      refine lv_iload_n hx hb dX6_canGet_54 rfl (lv_at hl 1 rfl) ?_
      have v_10 : vp_in x1 100 := vp_in_iff.mpr (by omega)
      refine ldX_25 (f := (q 25)) hx hb hK hP rfl v_10 dX6_canGet_55 ?_
      refine w_goI (va_runVN (As := [.int (q 23 (x1).toNatClampNeg), .int (q 25 (x1).toNatClampNeg)]) (rest := []) ⟨hx, hb, hml, hown, hts⟩ (mX1_onShelf l G cy a _ q (q 23 (x1).toNatClampNeg) (q 25 (x1).toNatClampNeg)) ⟨va_cnB 2 hts gX6_canGet_X1_onShelf_n269 rfl rfl rfl h_18 h_19 (by decide +kernel) ⟨Nat.le_of_ble_eq_true rfl, Nat.le_of_ble_eq_true rfl⟩, h_20, h_21⟩ (w_pre (xOk cy a) (va_recv hK hP (ci := 1) (q0 := 3) rfl rfl) hK hP hD hS hA hN) rfl rfl hl.1 rfl (lv_room (Nat.le_of_ble_eq_true rfl)) dX6_canGet_56 ⟨Nat.le_of_ble_eq_true rfl, Nat.le_of_ble_eq_true rfl⟩) hD hS hA (fun H locs hP hS => ?_)
      refine lv_if_le (tgt := 66) hx hb dX6_canGet_59 (by decide) (fun c_11 => ?_) (fun c_11 => ?_)
      · have e_12 := i_le c_11
        refine lv_iconst (v := 0) hx hb dX6_canGet_66 (by decide) ?_
        exact W.zret (v := 0) hx hb hr rfl (fun t ht hW => ⟨⟨0, q, rfl, ⟨(show (fX6_canGet q x1) = 0 by (rw [fX6_canGet, if_neg c_2, if_neg c_6, if_pos c_11]); try rfl).symm, rfl⟩, w_ht ht hP⟩, hS.F ht⟩) hS.2.2 dX6_canGet_67
      · have e_12 := i_nle c_11
        refine lv_iconst (v := 1) hx hb dX6_canGet_62 (by decide) ?_
        refine lv_goto (tgt := 67) hx hb dX6_canGet_63 (by decide) ?_
        exact W.zret (v := 1) hx hb hr rfl (fun t ht hW => ⟨⟨1, q, rfl, ⟨(show (fX6_canGet q x1) = 1 by (rw [fX6_canGet, if_neg c_2, if_neg c_6, if_neg c_11]); try rfl).symm, rfl⟩, w_ht ht hP⟩, hS.F ht⟩) hS.2.2 dX6_canGet_67
