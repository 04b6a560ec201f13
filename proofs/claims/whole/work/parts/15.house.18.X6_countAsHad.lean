set_option maxHeartbeats 4000000 in
set_option maxRecDepth 100000 in
theorem mX6_countAsHad (l : Launch) (G : va_G) (cy : ClassId) (a : Nat → Nat) (sz : Nat) (q : wSt) (x1 : Int32) (hI : iI q) : CtV l yX6_countAsHad wsX6_countAsHad ({ frames := 2, cells := 0, slots := 0, locals := 42 }) G cy (cX cy a) xN sz q [.ref (a 0), .int x1] (fX6_countAsHad q x1) := by
  refine Met.ofW (cc := cX6_countAsHad) (maxL := 2) (ret := none) (by decide) rfl ?_
  intro p e s m args below meth c s₁ B hml hv
  obtain ⟨rfl, hsz, hP, hK, hD0, hN⟩ := hv
  have hx := B.exec
  have hb := B.bytes
  have hr := B.returns
  have hts := atoms_spec (ws := wsX6_countAsHad) B.pre
  have hown : s.vm.findClass RX6 = some m.cls := findClass_of_methodNamed B.named
  have hlocks := B.notSynchronized
  subst hsz
  have hD : ∀ z : wSt, va_D (wA (cX cy a) s.heap.size) ((cX cy a) z) := fun z => w_self (xOk cy a).1 hD0 z
  have hA : ∀ z : Nat, s.heap.size ≤ z → wA (cX cy a) s.heap.size z := fun _ h => Or.inr h
  have hS : va_S (wA (cX cy a) s.heap.size) s.heap s.heap [] := va_S.rf
  have hl := lv_entry ([.ref (a 0), .int x1]) (n := 2) (Nat.le_of_ble_eq_true rfl)
  rw [lg_entry_eq]
  generalize (lg_sl ([.ref (a 0), .int x1]) ++ List.replicate (2 - (lg_sl ([.ref (a 0), .int x1])).length) Slot.unset).toArray = ls at hl ⊢
  have hl : lv_has ls 2 [(0, .ref (a 0)), (1, .int x1)] := hl
  have h_1 := hts (.fieldLink RX6 40 RX6 "wishes" "LVolumeHouse$Wishes;") (by decide +kernel)
  have h_2 := (show ∀ w ∈ u_ws RX6 TX6 10, w ∈ wsX6_countAsHad by decide +kernel)
  have h_3 := (hN.1 _ (List.mem_of_getElem? (i := 57) rfl) : va_Nw (.methodLinkNest RX6 199 yX5_has RX6) s)
  have h_4 := hts (.initialized RX5) (by decide +kernel)
  have h_5 := hts (.instanceMethod yX5_has) (by decide +kernel)
  have h_6 := hts (.selects RX5 yX5_has yX5_has) (by decide +kernel)
  have h_7 := hts (.fieldLink RX6 10 RX6 "titles" "LVolumeHouse$Titles;") (by decide +kernel)
  have h_8 := (hN.1 _ (List.mem_of_getElem? (i := 32) rfl) : va_Nw (.fieldLinkNest RX6 268 RX5 "title" "[I" RX6) s)
  have h_9 := (show ∀ w ∈ u_ws RX5 TX5 7, w ∈ wsX6_countAsHad by decide +kernel)
  have h_10 := (hN.1 _ (List.mem_of_getElem? (i := 42) rfl) : va_Nw (.methodLinkNest RX6 83 yX4_volumesOf RX6) s)
  have h_11 := hts (.initialized RX4) (by decide +kernel)
  have h_12 := hts (.instanceMethod yX4_volumesOf) (by decide +kernel)
  have h_13 := hts (.selects RX4 yX4_volumesOf yX4_volumesOf) (by decide +kernel)
  have h_14 := hts (.fieldLink RX6 51 RX6 "now" "I") (by decide +kernel)
  have h_15 := (hN.1 _ (List.mem_of_getElem? (i := 74) rfl) : va_Nw (.methodLinkNest RX6 285 yX5_countAsHad RX6) s)
  have h_16 := hts (.instanceMethod yX5_countAsHad) (by decide +kernel)
  have h_17 := hts (.selects RX5 yX5_countAsHad yX5_countAsHad) (by decide +kernel)
  have t_0 : (0 : Int32).toInt = 0 := rfl
  have hB := iI_b hI
  refine lv_aload_n hx hb dX6_countAsHad_0 rfl (lv_at hl 0 rfl) ?_
  refine gfX6_40 hx hb hts h_2 hown hK hP h_1 dX6_countAsHad_1 ?_
  refine lv_iload_n hx hb dX6_countAsHad_4 rfl (lv_at hl 1 rfl) ?_
  refine w_goI (va_runVN (As := [.int x1]) (rest := []) ⟨hx, hb, hml, hown, hts⟩ (mX5_has l G cy a _ q x1) ⟨va_cnB 1 hts gX6_countAsHad_X5_has_n199 rfl rfl rfl h_3 h_4 (by decide +kernel) ⟨Nat.le_of_ble_eq_true rfl, Nat.le_of_ble_eq_true rfl⟩, h_5, h_6⟩ (w_pre (xOk cy a) (va_recv hK hP (ci := 5) (q0 := 5) rfl rfl) hK hP hD hS hA hN) rfl rfl hl.1 rfl (lv_room (Nat.le_of_ble_eq_true rfl)) dX6_countAsHad_5 ⟨Nat.le_of_ble_eq_true rfl, Nat.le_of_ble_eq_true rfl⟩) hD hS hA (fun H locs hP hS => ?_)
  have e_1 := tX5_has q x1
  refine lv_if_eq (tgt := 39) hx hb dX6_countAsHad_8 (by decide) (fun c_2 => ?_) (fun c_2 => ?_)
  · have e_3 := i_eq c_2
    exact W.vret hx hb hr (fun t ht hW => ⟨⟨q, rfl, (show (fX6_countAsHad q x1) = q by (rw [fX6_countAsHad, if_pos c_2]); try rfl).symm, w_ht ht hP⟩, hS.F ht⟩) hS.2.2 dX6_countAsHad_39
  · have e_3 := i_ne c_2
    refine lv_aload_n hx hb dX6_countAsHad_11 rfl (lv_at hl 0 rfl) ?_
    refine gfX6_40 hx hb hts h_2 hown hK hP h_1 dX6_countAsHad_12 ?_
    refine lv_iload_n hx hb dX6_countAsHad_15 rfl (lv_at hl 1 rfl) ?_
    refine lv_aload_n hx hb dX6_countAsHad_16 rfl (lv_at hl 0 rfl) ?_
    refine gfX6_10 hx hb hts h_2 hown hK hP h_7 dX6_countAsHad_17 ?_
    refine lv_aload_n hx hb dX6_countAsHad_20 rfl (lv_at hl 0 rfl) ?_
    refine gfX6_40 hx hb hts h_2 hown hK hP h_1 dX6_countAsHad_21 ?_
    refine gfX6_268 hx hb hts h_9 hown hK hP h_8 dX6_countAsHad_24 ?_
    refine lv_iload_n hx hb dX6_countAsHad_27 rfl (lv_at hl 1 rfl) ?_
    have v_4 : vp_in x1 100 := vp_in_iff.mpr (by omega)
    refine ldX_23 (f := (q 23)) hx hb hK hP rfl v_4 dX6_countAsHad_28 ?_
    have e_5 := iI_23 hI _ (i_clamp v_4)
    refine w_goI (va_runVN (As := [.int (q 23 (x1).toNatClampNeg)]) (rest := [.int x1, .ref (a 5)]) ⟨hx, hb, hml, hown, hts⟩ (mX4_volumesOf l G cy a _ q (q 23 (x1).toNatClampNeg) (by omega)) ⟨va_cnB 1 hts gX6_countAsHad_X4_volumesOf_n83 rfl rfl rfl h_10 h_11 (by decide +kernel) ⟨Nat.le_of_ble_eq_true rfl, Nat.le_of_ble_eq_true rfl⟩, h_12, h_13⟩ (w_pre (xOk cy a) (va_recv hK hP (ci := 4) (q0 := 1) rfl rfl) hK hP hD hS hA hN) rfl rfl hl.1 rfl (lv_room (Nat.le_of_ble_eq_true rfl)) dX6_countAsHad_29 ⟨Nat.le_of_ble_eq_true rfl, Nat.le_of_ble_eq_true rfl⟩) hD hS hA (fun H locs hP hS => ?_)
    refine lv_aload_n hx hb dX6_countAsHad_32 rfl (lv_at hl 0 rfl) ?_
    refine gfX6_51 (v := (q 30 0)) hx hb hts h_2 hown hK hP h_14 rfl dX6_countAsHad_33 ?_
    refine w_goV (va_runVN (As := [.int x1, .int (fX4_volumesOf q (q 23 (x1).toNatClampNeg)), .int (q 30 0)]) (rest := []) ⟨hx, hb, hml, hown, hts⟩ (mX5_countAsHad l G cy a _ q x1 (fX4_volumesOf q (q 23 (x1).toNatClampNeg)) (q 30 0) (by omega) (by omega)) ⟨va_cnB 3 hts gX6_countAsHad_X5_countAsHad_n285 rfl rfl rfl h_15 h_4 (by decide +kernel) ⟨Nat.le_of_ble_eq_true rfl, Nat.le_of_ble_eq_true rfl⟩, h_16, h_17⟩ (w_pre (xOk cy a) (va_recv hK hP (ci := 5) (q0 := 5) rfl rfl) hK hP hD hS hA hN) rfl rfl hl.1 rfl (lv_room (Nat.le_of_ble_eq_true rfl)) dX6_countAsHad_36 ⟨Nat.le_of_ble_eq_true rfl, Nat.le_of_ble_eq_true rfl⟩) hD hS hA (fun H locs hP hS => ?_)
    exact W.vret hx hb hr (fun t ht hW => ⟨⟨(fX5_countAsHad q x1 (fX4_volumesOf q (q 23 (x1).toNatClampNeg)) (q 30 0)), rfl, (show (fX6_countAsHad q x1) = (fX5_countAsHad q x1 (fX4_volumesOf q (q 23 (x1).toNatClampNeg)) (q 30 0)) by (rw [fX6_countAsHad, if_neg c_2]); try rfl).symm, w_ht ht hP⟩, hS.F ht⟩) hS.2.2 dX6_countAsHad_39
