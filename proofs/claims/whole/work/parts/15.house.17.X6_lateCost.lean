set_option maxHeartbeats 4000000 in
set_option maxRecDepth 100000 in
theorem mX6_lateCost (l : Launch) (G : va_G) (cy : ClassId) (a : Nat → Nat) (sz : Nat) (q : wSt) (x1 : Int32) (x2 : Int32) (hI : iI q) : CtI l yX6_lateCost wsX6_lateCost ({ frames := 3, cells := 0, slots := 0, locals := 65 }) G cy (cX cy a) xN sz q [.ref (a 0), .int x1, .int x2] (fX6_lateCost q x1 x2) q := by
  refine Met.ofW (cc := cX6_lateCost) (maxL := 3) (ret := (some .int)) (by decide) rfl ?_
  intro p e s m args below meth c s₁ B hml hv
  obtain ⟨rfl, hsz, hP, hK, hD0, hN⟩ := hv
  have hx := B.exec
  have hb := B.bytes
  have hr := B.returns
  have hts := atoms_spec (ws := wsX6_lateCost) B.pre
  have hown : s.vm.findClass RX6 = some m.cls := findClass_of_methodNamed B.named
  have hlocks := B.notSynchronized
  subst hsz
  have hD : ∀ z : wSt, va_D (wA (cX cy a) s.heap.size) ((cX cy a) z) := fun z => w_self (xOk cy a).1 hD0 z
  have hA : ∀ z : Nat, s.heap.size ≤ z → wA (cX cy a) s.heap.size z := fun _ h => Or.inr h
  have hS : va_S (wA (cX cy a) s.heap.size) s.heap s.heap [] := va_S.rf
  have hl := lv_entry ([.ref (a 0), .int x1, .int x2]) (n := 3) (Nat.le_of_ble_eq_true rfl)
  rw [lg_entry_eq]
  generalize (lg_sl ([.ref (a 0), .int x1, .int x2]) ++ List.replicate (3 - (lg_sl ([.ref (a 0), .int x1, .int x2])).length) Slot.unset).toArray = ls at hl ⊢
  have hl : lv_has ls 3 [(0, .ref (a 0)), (1, .int x1), (2, .int x2)] := hl
  have h_1 := hts (.fieldLink RX6 26 RX6 "copies" "LVolumeHouse$Copies;") (by decide +kernel)
  have h_2 := (show ∀ w ∈ u_ws RX6 TX6 10, w ∈ wsX6_lateCost by decide +kernel)
  have h_3 := (hN.1 _ (List.mem_of_getElem? (i := 46) rfl) : va_Nw (.methodLinkNest RX6 97 yX1_isAt RX6) s)
  have h_4 := hts (.initialized RX1) (by decide +kernel)
  have h_5 := hts (.instanceMethod yX1_isAt) (by decide +kernel)
  have h_6 := hts (.selects RX1 yX1_isAt yX1_isAt) (by decide +kernel)
  have h_7 := hts (.fieldLink RX6 33 RX6 "readers" "LVolumeHouse$Readers;") (by decide +kernel)
  have h_8 := hts (.fieldLink RX6 51 RX6 "now" "I") (by decide +kernel)
  have h_9 := (hN.1 _ (List.mem_of_getElem? (i := 20) rfl) : va_Nw (.fieldLinkNest RX6 184 RX1 "since" "[I" RX6) s)
  have h_10 := (show ∀ w ∈ u_ws RX1 TX1 13, w ∈ wsX6_lateCost by decide +kernel)
  have h_11 := (hN.1 _ (List.mem_of_getElem? (i := 73) rfl) : va_Nw (.methodLinkNest RX6 284 yX3_lateCost RX6) s)
  have h_12 := hts (.initialized RX3) (by decide +kernel)
  have h_13 := hts (.instanceMethod yX3_lateCost) (by decide +kernel)
  have h_14 := hts (.selects RX3 yX3_lateCost yX3_lateCost) (by decide +kernel)
  have t_0 : (0 : Int32).toInt = 0 := rfl
  have t_1 : (1 : Int32).toInt = 1 := rfl
  have hB := iI_b hI
  refine lv_aload_n hx hb dX6_lateCost_0 rfl (lv_at hl 0 rfl) ?_
  refine gfX6_26 hx hb hts h_2 hown hK hP h_1 dX6_lateCost_1 ?_
  refine lv_iload_n hx hb dX6_lateCost_4 rfl (lv_at hl 1 rfl) ?_
  refine lv_iconst (v := 1) hx hb dX6_lateCost_5 (by decide) ?_
  refine w_goI (va_runVN (As := [.int x1, .int 1]) (rest := []) ⟨hx, hb, hml, hown, hts⟩ (mX1_isAt l G cy a _ q x1 1 (by omega)) ⟨va_cnB 2 hts gX6_lateCost_X1_isAt_n97 rfl rfl rfl h_3 h_4 (by decide +kernel) ⟨Nat.le_of_ble_eq_true rfl, Nat.le_of_ble_eq_true rfl⟩, h_5, h_6⟩ (w_pre (xOk cy a) (va_recv hK hP (ci := 1) (q0 := 3) rfl rfl) hK hP hD hS hA hN) rfl rfl hl.1 rfl (lv_room (Nat.le_of_ble_eq_true rfl)) dX6_lateCost_6 ⟨Nat.le_of_ble_eq_true rfl, Nat.le_of_ble_eq_true rfl⟩) hD hS hA (fun H locs hP hS => ?_)
  have e_1 := tX1_isAt q x1 1
  refine lv_if_ne (tgt := 14) hx hb dX6_lateCost_9 (by decide) (fun c_2 => ?_) (fun c_2 => ?_)
  · have e_3 := i_ne c_2
    refine lv_aload_n hx hb dX6_lateCost_14 rfl (lv_at hl 0 rfl) ?_
    refine gfX6_33 hx hb hts h_2 hown hK hP h_7 dX6_lateCost_15 ?_
    refine lv_iload_n hx hb dX6_lateCost_18 rfl (lv_at hl 2 rfl) ?_
    refine lv_aload_n hx hb dX6_lateCost_19 rfl (lv_at hl 0 rfl) ?_
    refine gfX6_51 (v := (q 30 0)) hx hb hts h_2 hown hK hP h_8 rfl dX6_lateCost_20 ?_
    refine lv_aload_n hx hb dX6_lateCost_23 rfl (lv_at hl 0 rfl) ?_
    refine gfX6_26 hx hb hts h_2 hown hK hP h_1 dX6_lateCost_24 ?_
    refine gfX6_184 hx hb hts h_10 hown hK hP h_9 dX6_lateCost_27 ?_
    refine lv_iload_n hx hb dX6_lateCost_30 rfl (lv_at hl 1 rfl) ?_
    have v_4 : vp_in x1 200 := vp_in_iff.mpr (by omega)
    refine ldX_12 (f := (q 12)) hx hb hK hP rfl v_4 dX6_lateCost_31 ?_
    refine lv_isub hx hb dX6_lateCost_32 ?_
    refine w_goI (va_runVN (As := [.int x2, .int ((q 30 0) - (q 12 (x1).toNatClampNeg))]) (rest := []) ⟨hx, hb, hml, hown, hts⟩ (mX3_lateCost l G cy a _ q x2 ((q 30 0) - (q 12 (x1).toNatClampNeg)) hI) ⟨va_cnB 2 hts gX6_lateCost_X3_lateCost_n284 rfl rfl rfl h_11 h_12 (by decide +kernel) ⟨Nat.le_of_ble_eq_true rfl, Nat.le_of_ble_eq_true rfl⟩, h_13, h_14⟩ (w_pre (xOk cy a) (va_recv hK hP (ci := 3) (q0 := 4) rfl rfl) hK hP hD hS hA hN) rfl rfl hl.1 rfl (lv_room (Nat.le_of_ble_eq_true rfl)) dX6_lateCost_33 ⟨Nat.le_of_ble_eq_true rfl, Nat.le_of_ble_eq_true rfl⟩) hD hS hA (fun H locs hP hS => ?_)
    exact W.iret (v := (fX3_lateCost q x2 ((q 30 0) - (q 12 (x1).toNatClampNeg)))) hx hb hr (fun t ht hW => ⟨⟨(fX3_lateCost q x2 ((q 30 0) - (q 12 (x1).toNatClampNeg))), q, rfl, ⟨(show (fX6_lateCost q x1 x2) = (fX3_lateCost q x2 ((q 30 0) - (q 12 (x1).toNatClampNeg))) by (rw [fX6_lateCost, if_neg c_2]); try rfl).symm, rfl⟩, w_ht ht hP⟩, hS.F ht⟩) hS.2.2 dX6_lateCost_36
  · have e_3 := i_eq c_2
    refine lv_iconst (v := 0) hx hb dX6_lateCost_12 (by decide) ?_
    exact W.iret (v := 0) hx hb hr (fun t ht hW => ⟨⟨0, q, rfl, ⟨(show (fX6_lateCost q x1 x2) = 0 by (rw [fX6_lateCost, if_pos c_2]); try rfl).symm, rfl⟩, w_ht ht hP⟩, hS.F ht⟩) hS.2.2 dX6_lateCost_13
