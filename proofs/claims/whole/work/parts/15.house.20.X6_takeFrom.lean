set_option maxHeartbeats 4000000 in
set_option maxRecDepth 100000 in
theorem mX6_takeFrom (l : Launch) (G : va_G) (cy : ClassId) (a : Nat → Nat) (sz : Nat) (q : wSt) (x1 : Int32) (x2 : Int32) (hI : iI q) (g0 : 0 ≤ (x1).toInt) (g1 : (x1).toInt < 20) : CtV l yX6_takeFrom wsX6_takeFrom ({ frames := 2, cells := 0, slots := 0, locals := 43 }) G cy (cX cy a) xN sz q [.ref (a 0), .int x1, .int x2] (fX6_takeFrom q x1 x2) := by
  refine Met.ofW (cc := cX6_takeFrom) (maxL := 3) (ret := none) (by decide) rfl ?_
  intro p e s m args below meth c s₁ B hml hv
  obtain ⟨rfl, hsz, hP, hK, hD0, hN⟩ := hv
  have hx := B.exec
  have hb := B.bytes
  have hr := B.returns
  have hts := atoms_spec (ws := wsX6_takeFrom) B.pre
  have hown : s.vm.findClass RX6 = some m.cls := findClass_of_methodNamed B.named
  have hlocks := B.notSynchronized
  subst hsz
  have hD : ∀ z : wSt, va_D (wA (cX cy a) s.heap.size) ((cX cy a) z) := fun z => w_self (xOk cy a).1 hD0 z
  have hA : ∀ z : Nat, s.heap.size ≤ z → wA (cX cy a) s.heap.size z := fun _ h => Or.inr h
  have hS : va_S (wA (cX cy a) s.heap.size) s.heap s.heap [] := va_S.rf
  have hl := lv_entry ([.ref (a 0), .int x1, .int x2]) (n := 3) (Nat.le_of_ble_eq_true rfl)
  rw [lg_entry_eq]
  generalize (lg_sl ([.ref (a 0), .int x1, .int x2]) ++ List.replicate (3 - (lg_sl ([.ref (a 0), .int x1, .int x2])).length) Slot.unset).toArray = ls at hl ⊢
  have hl : lv_has ls 3 [(0, .ref (a 0)), (1, .int x1), (2, .int x2)] := hl
  have h_1 := hts (.fieldLink RX6 26 RX6 "copies" "LVolumeHouse$Copies;") (by decide +kernel)
  have h_2 := (show ∀ w ∈ u_ws RX6 TX6 10, w ∈ wsX6_takeFrom by decide +kernel)
  have h_3 := (hN.1 _ (List.mem_of_getElem? (i := 46) rfl) : va_Nw (.methodLinkNest RX6 97 yX1_isAt RX6) s)
  have h_4 := hts (.initialized RX1) (by decide +kernel)
  have h_5 := hts (.instanceMethod yX1_isAt) (by decide +kernel)
  have h_6 := hts (.selects RX1 yX1_isAt yX1_isAt) (by decide +kernel)
  have h_7 := hts (.fieldLink RX6 33 RX6 "readers" "LVolumeHouse$Readers;") (by decide +kernel)
  have h_8 := (hN.1 _ (List.mem_of_getElem? (i := 15) rfl) : va_Nw (.fieldLinkNest RX6 165 RX3 "inBoxes" "[I" RX6) s)
  have h_9 := (show ∀ w ∈ u_ws RX3 TX3 7, w ∈ wsX6_takeFrom by decide +kernel)
  have h_10 := (hN.1 _ (List.mem_of_getElem? (i := 13) rfl) : va_Nw (.fieldLinkNest RX6 153 RX3 "inHand" "[I" RX6) s)
  have t_0 : (0 : Int32).toInt = 0 := rfl
  have t_1 : (1 : Int32).toInt = 1 := rfl
  have hB := iI_b hI
  refine lv_aload_n hx hb dX6_takeFrom_0 rfl (lv_at hl 0 rfl) ?_
  refine gfX6_26 hx hb hts h_2 hown hK hP h_1 dX6_takeFrom_1 ?_
  refine lv_iload_n hx hb dX6_takeFrom_4 rfl (lv_at hl 2 rfl) ?_
  refine lv_iconst (v := 1) hx hb dX6_takeFrom_5 (by decide) ?_
  refine w_goI (va_runVN (As := [.int x2, .int 1]) (rest := []) ⟨hx, hb, hml, hown, hts⟩ (mX1_isAt l G cy a _ q x2 1 (by omega)) ⟨va_cnB 2 hts gX6_takeFrom_X1_isAt_n97 rfl rfl rfl h_3 h_4 (by decide +kernel) ⟨Nat.le_of_ble_eq_true rfl, Nat.le_of_ble_eq_true rfl⟩, h_5, h_6⟩ (w_pre (xOk cy a) (va_recv hK hP (ci := 1) (q0 := 3) rfl rfl) hK hP hD hS hA hN) rfl rfl hl.1 rfl (lv_room (Nat.le_of_ble_eq_true rfl)) dX6_takeFrom_6 ⟨Nat.le_of_ble_eq_true rfl, Nat.le_of_ble_eq_true rfl⟩) hD hS hA (fun H locs hP hS => ?_)
  have e_1 := tX1_isAt q x2 1
  refine lv_if_eq (tgt := 28) hx hb dX6_takeFrom_9 (by decide) (fun c_2 => ?_) (fun c_2 => ?_)
  · have e_3 := i_eq c_2
    refine lv_aload_n hx hb dX6_takeFrom_28 rfl (lv_at hl 0 rfl) ?_
    refine gfX6_33 hx hb hts h_2 hown hK hP h_7 dX6_takeFrom_29 ?_
    refine gfX6_165 hx hb hts h_9 hown hK hP h_8 dX6_takeFrom_32 ?_
    refine lv_iload_n hx hb dX6_takeFrom_35 rfl (lv_at hl 1 rfl) ?_
    refine lv_dup2_11 hx hb dX6_takeFrom_36 rfl rfl ?_
    have v_4 : vp_in x1 20 := vp_in_iff.mpr (by omega)
    refine ldX_21 (f := (q 21)) hx hb hK hP rfl v_4 dX6_takeFrom_37 ?_
    refine lv_iconst (v := 1) hx hb dX6_takeFrom_38 (by decide) ?_
    refine lv_isub hx hb dX6_takeFrom_39 ?_
    have v_5 : vp_in x1 20 := vp_in_iff.mpr (by omega)
    refine stX_21 (f := (q 21)) hx hb hK hP hD hS rfl v_5 dX6_takeFrom_40 (fun H locs hP hS => ?_)
    exact W.vret hx hb hr (fun t ht hW => ⟨⟨(rset q 21 (upd (q 21) (x1).toNatClampNeg ((q 21 (x1).toNatClampNeg) - 1))), rfl, (show (fX6_takeFrom q x1 x2) = (rset q 21 (upd (q 21) (x1).toNatClampNeg ((q 21 (x1).toNatClampNeg) - 1))) by (rw [fX6_takeFrom, if_pos c_2]); try rfl).symm, w_ht ht hP⟩, hS.F ht⟩) hS.2.2 dX6_takeFrom_41
  · have e_3 := i_ne c_2
    refine lv_aload_n hx hb dX6_takeFrom_12 rfl (lv_at hl 0 rfl) ?_
    refine gfX6_33 hx hb hts h_2 hown hK hP h_7 dX6_takeFrom_13 ?_
    refine gfX6_153 hx hb hts h_9 hown hK hP h_10 dX6_takeFrom_16 ?_
    refine lv_iload_n hx hb dX6_takeFrom_19 rfl (lv_at hl 1 rfl) ?_
    refine lv_dup2_11 hx hb dX6_takeFrom_20 rfl rfl ?_
    have v_6 : vp_in x1 20 := vp_in_iff.mpr (by omega)
    refine ldX_20 (f := (q 20)) hx hb hK hP rfl v_6 dX6_takeFrom_21 ?_
    refine lv_iconst (v := 1) hx hb dX6_takeFrom_22 (by decide) ?_
    refine lv_isub hx hb dX6_takeFrom_23 ?_
    have v_7 : vp_in x1 20 := vp_in_iff.mpr (by omega)
    refine stX_20 (f := (q 20)) hx hb hK hP hD hS rfl v_7 dX6_takeFrom_24 (fun H locs hP hS => ?_)
    refine lv_goto (tgt := 41) hx hb dX6_takeFrom_25 (by decide) ?_
    exact W.vret hx hb hr (fun t ht hW => ⟨⟨(rset q 20 (upd (q 20) (x1).toNatClampNeg ((q 20 (x1).toNatClampNeg) - 1))), rfl, (show (fX6_takeFrom q x1 x2) = (rset q 20 (upd (q 20) (x1).toNatClampNeg ((q 20 (x1).toNatClampNeg) - 1))) by (rw [fX6_takeFrom, if_neg c_2]); try rfl).symm, w_ht ht hP⟩, hS.F ht⟩) hS.2.2 dX6_takeFrom_41
