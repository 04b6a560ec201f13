set_option maxHeartbeats 4000000 in
set_option maxRecDepth 100000 in
theorem mX3_mayTake (l : Launch) (G : va_G) (cy : ClassId) (a : Nat → Nat) (sz : Nat) (q : wSt) (x1 : Int32) (x2 : Int32) (hI : iI q) : CtI l yX3_mayTake wsX3_mayTake ({ frames := 1, cells := 0, slots := 0, locals := 21 }) G cy (cX cy a) xN sz q [.ref (a 4), .int x1, .int x2] (fX3_mayTake q x1 x2) q := by
  refine Met.ofW (cc := cX3_mayTake) (maxL := 3) (ret := (some .boolean)) (by decide) rfl ?_
  intro p e s m args below meth c s₁ B hml hv
  obtain ⟨rfl, hsz, hP, hK, hD0, hN⟩ := hv
  have hx := B.exec
  have hb := B.bytes
  have hr := B.returns
  have hts := atoms_spec (ws := wsX3_mayTake) B.pre
  have hown : s.vm.findClass RX3 = some m.cls := findClass_of_methodNamed B.named
  have hlocks := B.notSynchronized
  subst hsz
  have hD : ∀ z : wSt, va_D (wA (cX cy a) s.heap.size) ((cX cy a) z) := fun z => w_self (xOk cy a).1 hD0 z
  have hA : ∀ z : Nat, s.heap.size ≤ z → wA (cX cy a) s.heap.size z := fun _ h => Or.inr h
  have hS : va_S (wA (cX cy a) s.heap.size) s.heap s.heap [] := va_S.rf
  have hl := lv_entry ([.ref (a 4), .int x1, .int x2]) (n := 3) (Nat.le_of_ble_eq_true rfl)
  rw [lg_entry_eq]
  generalize (lg_sl ([.ref (a 4), .int x1, .int x2]) ++ List.replicate (3 - (lg_sl ([.ref (a 4), .int x1, .int x2])).length) Slot.unset).toArray = ls at hl ⊢
  have hl : lv_has ls 3 [(0, .ref (a 4)), (1, .int x1), (2, .int x2)] := hl
  have h_1 := hts (.fieldLink RX3 18 RX3 "last" "[I") (by decide +kernel)
  have h_2 := (show ∀ w ∈ u_ws RX3 TX3 7, w ∈ wsX3_mayTake by decide +kernel)
  have h_3 := hts (.fieldLink RX3 24 RX3 "inHand" "[I") (by decide +kernel)
  have h_4 := hts (.fieldLink RX3 27 RX3 "inBoxes" "[I") (by decide +kernel)
  have h_5 := (hN.1 _ (List.mem_of_getElem? (i := 0) rfl) : va_Nw (.fieldLinkNest RX3 38 RX6 "MOST_HELD" "[I" RX6) s)
  have h_6 := hts (.fieldLink RX3 9 RX3 "rank" "[I") (by decide +kernel)
  have t_0 : (0 : Int32).toInt = 0 := rfl
  have t_1 : (1 : Int32).toInt = 1 := rfl
  have hB := iI_b hI
  obtain ⟨⟨b1, hZ1⟩, ⟨b2, hZ2⟩, ⟨b3, hZ3⟩⟩ := hN.2
  refine lv_aload_n hx hb dX3_mayTake_0 rfl (lv_at hl 0 rfl) ?_
  refine lv_iload_n hx hb dX3_mayTake_1 rfl (lv_at hl 1 rfl) ?_
  refine w_goI (va_runV (As := [.int x1]) (rest := []) ⟨hx, hb, hml, hown, hts⟩ (mX3_has l G cy a _ q x1) (cwV 1 hts gX3_mayTake_X3_has rfl rfl rfl (by decide +kernel) ⟨Nat.le_of_ble_eq_true rfl, Nat.le_of_ble_eq_true rfl⟩) (w_pre (xOk cy a) (va_recv hK hP (ci := 3) (q0 := 4) rfl rfl) hK hP hD hS hA hN) rfl rfl hl.1 rfl (lv_room (Nat.le_of_ble_eq_true rfl)) dX3_mayTake_2 ⟨Nat.le_of_ble_eq_true rfl, Nat.le_of_ble_eq_true rfl⟩) hD hS hA (fun H locs hP hS => ?_)
  have e_1 := tX3_has q x1
  refine lv_if_eq (tgt := 48) hx hb dX3_mayTake_5 (by decide) (fun c_2 => ?_) (fun c_2 => ?_)
  · have e_3 := i_eq c_2
    refine lv_iconst (v := 0) hx hb dX3_mayTake_48 (by decide) ?_
    exact W.zret (v := 0) hx hb hr rfl (fun t ht hW => ⟨⟨0, q, rfl, ⟨(show (fX3_mayTake q x1 x2) = 0 by (rw [fX3_mayTake, if_pos c_2]); try rfl).symm, rfl⟩, w_ht ht hP⟩, hS.F ht⟩) hS.2.2 dX3_mayTake_49
  · have e_3 := i_ne c_2
    refine lv_aload_n hx hb dX3_mayTake_8 rfl (lv_at hl 0 rfl) ?_
    refine gfX3_18 hx hb hts h_2 hown hK hP h_1 dX3_mayTake_9 ?_
    refine lv_iload_n hx hb dX3_mayTake_12 rfl (lv_at hl 1 rfl) ?_
    have v_4 : vp_in x1 20 := vp_in_iff.mpr (by omega)
    refine ldX_18 (f := (q 18)) hx hb hK hP rfl v_4 dX3_mayTake_13 ?_
    refine lv_iload_n hx hb dX3_mayTake_14 rfl (lv_at hl 2 rfl) ?_
    refine lv_icmp_lt (tgt := 48) hx hb dX3_mayTake_15 (by decide) (fun c_5 => ?_) (fun c_5 => ?_)
    · have e_6 := i_lt c_5
      refine lv_iconst (v := 0) hx hb dX3_mayTake_48 (by decide) ?_
      exact W.zret (v := 0) hx hb hr rfl (fun t ht hW => ⟨⟨0, q, rfl, ⟨(show (fX3_mayTake q x1 x2) = 0 by (rw [fX3_mayTake, if_neg c_2, if_pos c_5]); try rfl).symm, rfl⟩, w_ht ht hP⟩, hS.F ht⟩) hS.2.2 dX3_mayTake_49
    · have e_6 := i_nlt c_5
      refine lv_aload_n hx hb dX3_mayTake_18 rfl (lv_at hl 0 rfl) ?_
      refine gfX3_24 hx hb hts h_2 hown hK hP h_3 dX3_mayTake_19 ?_
      refine lv_iload_n hx hb dX3_mayTake_22 rfl (lv_at hl 1 rfl) ?_
      have v_7 : vp_in x1 20 := vp_in_iff.mpr (by omega)
      refine ldX_20 (f := (q 20)) hx hb hK hP rfl v_7 dX3_mayTake_23 ?_
      refine lv_aload_n hx hb dX3_mayTake_24 rfl (lv_at hl 0 rfl) ?_
      refine gfX3_27 hx hb hts h_2 hown hK hP h_4 dX3_mayTake_25 ?_
      refine lv_iload_n hx hb dX3_mayTake_28 rfl (lv_at hl 1 rfl) ?_
      have v_8 : vp_in x1 20 := vp_in_iff.mpr (by omega)
      refine ldX_21 (f := (q 21)) hx hb hK hP rfl v_8 dX3_mayTake_29 ?_
      refine lv_iadd hx hb dX3_mayTake_30 ?_
      refine va_getsN hx hb (C := "VolumeHouse") (n := "MOST_HELD") (d := "[I") (v := .ref b1) hZ1.1 hS hown (va_Nw.use rfl h_5) (fun _ h9 => h9) dX3_mayTake_31 ?_
      refine lv_aload_n hx hb dX3_mayTake_34 rfl (lv_at hl 0 rfl) ?_
      refine gfX3_9 hx hb hts h_2 hown hK hP h_6 dX3_mayTake_35 ?_
      refine lv_iload_n hx hb dX3_mayTake_38 rfl (lv_at hl 1 rfl) ?_
      have v_9 : vp_in x1 20 := vp_in_iff.mpr (by omega)
      refine ldX_16 (f := (q 16)) hx hb hK hP rfl v_9 dX3_mayTake_39 ?_
      have e_10 := iI_16 hI _ (i_clamp v_9)
      have v_11 : vp_in (q 16 (x1).toNatClampNeg) 3 := vp_in_iff.mpr (by omega)
      refine va_ti (v := .int (tMost (q 16 (x1).toNatClampNeg).toNatClampNeg)) hx hb hZ1.2 hS v_11 rfl dX3_mayTake_40 ?_
      refine lv_icmp_ge (tgt := 48) hx hb dX3_mayTake_41 (by decide) (fun c_12 => ?_) (fun c_12 => ?_)
      · have e_13 := i_le c_12
        refine lv_iconst (v := 0) hx hb dX3_mayTake_48 (by decide) ?_
        exact W.zret (v := 0) hx hb hr rfl (fun t ht hW => ⟨⟨0, q, rfl, ⟨(show (fX3_mayTake q x1 x2) = 0 by (rw [fX3_mayTake, if_neg c_2, if_neg c_5, if_pos c_12]); try rfl).symm, rfl⟩, w_ht ht hP⟩, hS.F ht⟩) hS.2.2 dX3_mayTake_49
      · have e_13 := i_nle c_12
        refine lv_iconst (v := 1) hx hb dX3_mayTake_44 (by decide) ?_
        refine lv_goto (tgt := 49) hx hb dX3_mayTake_45 (by decide) ?_
        exact W.zret (v := 1) hx hb hr rfl (fun t ht hW => ⟨⟨1, q, rfl, ⟨(show (fX3_mayTake q x1 x2) = 1 by (rw [fX3_mayTake, if_neg c_2, if_neg c_5, if_neg c_12]); try rfl).symm, rfl⟩, w_ht ht hP⟩, hS.F ht⟩) hS.2.2 dX3_mayTake_49
