set_option maxHeartbeats 4000000 in
set_option maxRecDepth 100000 in
theorem mX7_canHave (l : Launch) (G : va_G) (cy : ClassId) (a : Nat → Nat) (sz : Nat) (q : wSt) (x1 : Int32) (hI : iI q) (g0 : 0 ≤ (x1).toInt) (g1 : (x1).toInt < 100) : CtI l yX7_canHave wsX7_canHave ({ frames := 2, cells := 0, slots := 0, locals := 43 }) G cy (cM cy a) mN sz q [.ref (a 0), .int x1] (fX7_canHave q x1) q := by
  refine Met.ofW (cc := cX7_canHave) (maxL := 3) (ret := (some .boolean)) (by decide) rfl ?_
  intro p e s m args below meth c s₁ B hml hv
  obtain ⟨rfl, hsz, hP, hK, hD0, hN⟩ := hv
  have hx := B.exec
  have hb := B.bytes
  have hr := B.returns
  have hts := atoms_spec (ws := wsX7_canHave) B.pre
  have hown : s.vm.findClass RX7 = some m.cls := findClass_of_methodNamed B.named
  have hlocks := B.notSynchronized
  subst hsz
  have hD : ∀ z : wSt, va_D (wA (cM cy a) s.heap.size) ((cM cy a) z) := fun z => w_self (mOk cy a).1 hD0 z
  have hA : ∀ z : Nat, s.heap.size ≤ z → wA (cM cy a) s.heap.size z := fun _ h => Or.inr h
  have hS : va_S (wA (cM cy a) s.heap.size) s.heap s.heap [] := va_S.rf
  have hl := lv_entry ([.ref (a 0), .int x1]) (n := 3) (Nat.le_of_ble_eq_true rfl)
  rw [lg_entry_eq]
  generalize (lg_sl ([.ref (a 0), .int x1]) ++ List.replicate (3 - (lg_sl ([.ref (a 0), .int x1])).length) Slot.unset).toArray = ls at hl ⊢
  have hl : lv_has ls 3 [(0, .ref (a 0)), (1, .int x1)] := hl
  have h_1 := hts (.fieldLink RX7 52 RX7 "wisher" "[I") (by decide +kernel)
  have h_2 := (show ∀ w ∈ u_ws RX7 TX7 35, w ∈ wsX7_canHave by decide +kernel)
  have h_3 := hts (.fieldLink RX7 46 RX7 "last" "[I") (by decide +kernel)
  have h_4 := hts (.fieldLink RX7 112 RX7 "now" "I") (by decide +kernel)
  have h_5 := hts (.fieldLink RX7 55 RX7 "wishTitle" "[I") (by decide +kernel)
  have h_6 := hts (.fieldLink RX7 61 RX7 "had" "[I") (by decide +kernel)
  have t_m1 : ((-1) : Int32).toInt = -1 := rfl
  have t_0 : (0 : Int32).toInt = 0 := rfl
  have t_1 : (1 : Int32).toInt = 1 := rfl
  have t_2 : (2 : Int32).toInt = 2 := rfl
  have t_3 : (3 : Int32).toInt = 3 := rfl
  have hB := iI_b hI
  refine lv_aload_n hx hb dX7_canHave_0 rfl (lv_at hl 0 rfl) ?_
  refine gfX7_52 hx hb hts h_2 hown hK hP h_1 dX7_canHave_1 ?_
  refine lv_iload_n hx hb dX7_canHave_4 rfl (lv_at hl 1 rfl) ?_
  have v_1 : vp_in x1 100 := vp_in_iff.mpr (by omega)
  refine ldM_22 (f := (q 22)) hx hb hK hP rfl v_1 dX7_canHave_5 ?_
  have e_2 := iI_22 hI _ (i_clamp v_1)
  refine lv_istore_n (lv' := [(2, .int (q 22 (x1).toNatClampNeg)), (0, .ref (a 0)), (1, .int x1)]) hx hb dX7_canHave_6 rfl hl (by decide) rfl (fun ls hl => ?_)
  refine lv_aload_n hx hb dX7_canHave_7 rfl (lv_at hl 1 rfl) ?_
  refine lv_iload_n hx hb dX7_canHave_8 rfl (lv_at hl 2 rfl) ?_
  refine w_goI (va_runV (As := [.int x1]) (rest := []) ⟨hx, hb, hml, hown, hts⟩ (mX7_waits l G cy a _ q x1 hI (by omega) (by omega)) (cwV 1 hts gX7_canHave_X7_waits rfl rfl rfl (by decide +kernel) ⟨Nat.le_of_ble_eq_true rfl, Nat.le_of_ble_eq_true rfl⟩) (w_pre (mOk cy a) (va_recv hK hP (ci := 7) (q0 := 0) rfl rfl) hK hP hD hS hA hN) rfl rfl hl.1 rfl (lv_room (Nat.le_of_ble_eq_true rfl)) dX7_canHave_9 ⟨Nat.le_of_ble_eq_true rfl, Nat.le_of_ble_eq_true rfl⟩) hD hS hA (fun H locs hP hS => ?_)
  refine lv_if_eq (tgt := 48) hx hb dX7_canHave_12 (by decide) (fun c_3 => ?_) (fun c_3 => ?_)
  · have e_4 := i_eq c_3
    refine lv_iconst (v := 0) hx hb dX7_canHave_48 (by decide) ?_
    exact W.zret (v := 0) hx hb hr rfl (fun t ht hW => ⟨⟨0, q, rfl, ⟨(show (fX7_canHave q x1) = 0 by (rw [fX7_canHave, if_pos c_3]); try rfl).symm, rfl⟩, w_ht ht hP⟩, hS.F ht⟩) hS.2.2 dX7_canHave_49
  · have e_4 := i_ne c_3
    refine lv_aload_n hx hb dX7_canHave_15 rfl (lv_at hl 1 rfl) ?_
    refine gfX7_46 hx hb hts h_2 hown hK hP h_3 dX7_canHave_16 ?_
    refine lv_iload_n hx hb dX7_canHave_19 rfl (lv_at hl 0 rfl) ?_
    have v_5 : vp_in (q 22 (x1).toNatClampNeg) 20 := vp_in_iff.mpr (by omega)
    refine ldM_18 (f := (q 18)) hx hb hK hP rfl v_5 dX7_canHave_20 ?_
    refine lv_aload_n hx hb dX7_canHave_21 rfl (lv_at hl 1 rfl) ?_
    refine gfX7_112 (v := (q 30 0)) hx hb hts h_2 hown hK hP h_4 rfl dX7_canHave_22 ?_
    refine lv_icmp_lt (tgt := 48) hx hb dX7_canHave_25 (by decide) (fun c_6 => ?_) (fun c_6 => ?_)
    · have e_7 := i_lt c_6
      refine lv_iconst (v := 0) hx hb dX7_canHave_48 (by decide) ?_
      exact W.zret (v := 0) hx hb hr rfl (fun t ht hW => ⟨⟨0, q, rfl, ⟨(show (fX7_canHave q x1) = 0 by (rw [fX7_canHave, if_neg c_3, if_pos c_6]); try rfl).symm, rfl⟩, w_ht ht hP⟩, hS.F ht⟩) hS.2.2 dX7_canHave_49
    · have e_7 := i_nlt c_6
      refine lv_aload_n hx hb dX7_canHave_28 rfl (lv_at hl 1 rfl) ?_
      refine lv_aload_n hx hb dX7_canHave_29 rfl (lv_at hl 1 rfl) ?_
      refine gfX7_55 hx hb hts h_2 hown hK hP h_5 dX7_canHave_30 ?_
      refine lv_iload_n hx hb dX7_canHave_33 rfl (lv_at hl 2 rfl) ?_
      have v_8 : vp_in x1 100 := vp_in_iff.mpr (by omega)
      refine ldM_23 (f := (q 23)) hx hb hK hP rfl v_8 dX7_canHave_34 ?_
      have e_9 := iI_23 hI _ (i_clamp v_8)
      refine lv_aload_n hx hb dX7_canHave_35 rfl (lv_at hl 1 rfl) ?_
      refine gfX7_61 hx hb hts h_2 hown hK hP h_6 dX7_canHave_36 ?_
      refine lv_iload_n hx hb dX7_canHave_39 rfl (lv_at hl 2 rfl) ?_
      have v_10 : vp_in x1 100 := vp_in_iff.mpr (by omega)
      refine ldM_25 (f := (q 25)) hx hb hK hP rfl v_10 dX7_canHave_40 ?_
      refine w_goI (va_runV (As := [.int (q 23 (x1).toNatClampNeg), .int (q 25 (x1).toNatClampNeg)]) (rest := []) ⟨hx, hb, hml, hown, hts⟩ (mX7_shelved l G cy a _ q (q 23 (x1).toNatClampNeg) (q 25 (x1).toNatClampNeg) (by omega)) (cwV 2 hts gX7_canHave_X7_shelved rfl rfl rfl (by decide +kernel) ⟨Nat.le_of_ble_eq_true rfl, Nat.le_of_ble_eq_true rfl⟩) (w_pre (mOk cy a) (va_recv hK hP (ci := 7) (q0 := 0) rfl rfl) hK hP hD hS hA hN) rfl rfl hl.1 rfl (lv_room (Nat.le_of_ble_eq_true rfl)) dX7_canHave_41 ⟨Nat.le_of_ble_eq_true rfl, Nat.le_of_ble_eq_true rfl⟩) hD hS hA (fun H locs hP hS => ?_)
      refine lv_iconst (v := (-1)) hx hb dX7_canHave_44 (by decide) ?_
      refine lv_icmp_ne (tgt := 50) hx hb dX7_canHave_45 (by decide) (fun c_11 => ?_) (fun c_11 => ?_)
      · have e_12 := i_ne c_11
        refine lv_aload_n hx hb dX7_canHave_50 rfl (lv_at hl 1 rfl) ?_
        refine lv_iload_n hx hb dX7_canHave_51 rfl (lv_at hl 0 rfl) ?_
        refine lv_iconst (v := 1) hx hb dX7_canHave_52 (by decide) ?_
        refine w_goI (va_runV (As := [.int (q 22 (x1).toNatClampNeg), .int 1]) (rest := []) ⟨hx, hb, hml, hown, hts⟩ (mX7_holds l G cy a _ q (q 22 (x1).toNatClampNeg) 1 (by omega)) (cwV 2 hts gX7_canHave_X7_holds rfl rfl rfl (by decide +kernel) ⟨Nat.le_of_ble_eq_true rfl, Nat.le_of_ble_eq_true rfl⟩) (w_pre (mOk cy a) (va_recv hK hP (ci := 7) (q0 := 0) rfl rfl) hK hP hD hS hA hN) rfl rfl hl.1 rfl (lv_room (Nat.le_of_ble_eq_true rfl)) dX7_canHave_53 ⟨Nat.le_of_ble_eq_true rfl, Nat.le_of_ble_eq_true rfl⟩) hD hS hA (fun H locs hP hS => ?_)
        refine lv_aload_n hx hb dX7_canHave_56 rfl (lv_at hl 1 rfl) ?_
        refine lv_iload_n hx hb dX7_canHave_57 rfl (lv_at hl 0 rfl) ?_
        refine lv_iconst (v := 2) hx hb dX7_canHave_58 (by decide) ?_
        refine w_goI (va_runV (As := [.int (q 22 (x1).toNatClampNeg), .int 2]) (rest := [.int (fX7_holds q (q 22 (x1).toNatClampNeg) 1)]) ⟨hx, hb, hml, hown, hts⟩ (mX7_holds l G cy a _ q (q 22 (x1).toNatClampNeg) 2 (by omega)) (cwV 2 hts gX7_canHave_X7_holds rfl rfl rfl (by decide +kernel) ⟨Nat.le_of_ble_eq_true rfl, Nat.le_of_ble_eq_true rfl⟩) (w_pre (mOk cy a) (va_recv hK hP (ci := 7) (q0 := 0) rfl rfl) hK hP hD hS hA hN) rfl rfl hl.1 rfl (lv_room (Nat.le_of_ble_eq_true rfl)) dX7_canHave_59 ⟨Nat.le_of_ble_eq_true rfl, Nat.le_of_ble_eq_true rfl⟩) hD hS hA (fun H locs hP hS => ?_)
        refine lv_iadd hx hb dX7_canHave_62 ?_
        refine lv_aload_n hx hb dX7_canHave_63 rfl (lv_at hl 1 rfl) ?_
        refine lv_iload_n hx hb dX7_canHave_64 rfl (lv_at hl 0 rfl) ?_
        refine lv_iconst (v := 3) hx hb dX7_canHave_65 (by decide) ?_
        refine w_goI (va_runV (As := [.int (q 22 (x1).toNatClampNeg), .int 3]) (rest := [.int ((fX7_holds q (q 22 (x1).toNatClampNeg) 1) + (fX7_holds q (q 22 (x1).toNatClampNeg) 2))]) ⟨hx, hb, hml, hown, hts⟩ (mX7_holds l G cy a _ q (q 22 (x1).toNatClampNeg) 3 (by omega)) (cwV 2 hts gX7_canHave_X7_holds rfl rfl rfl (by decide +kernel) ⟨Nat.le_of_ble_eq_true rfl, Nat.le_of_ble_eq_true rfl⟩) (w_pre (mOk cy a) (va_recv hK hP (ci := 7) (q0 := 0) rfl rfl) hK hP hD hS hA hN) rfl rfl hl.1 rfl (lv_room (Nat.le_of_ble_eq_true rfl)) dX7_canHave_66 ⟨Nat.le_of_ble_eq_true rfl, Nat.le_of_ble_eq_true rfl⟩) hD hS hA (fun H locs hP hS => ?_)
        refine lv_iadd hx hb dX7_canHave_69 ?_
        refine lv_aload_n hx hb dX7_canHave_70 rfl (lv_at hl 1 rfl) ?_
        refine lv_iload_n hx hb dX7_canHave_71 rfl (lv_at hl 0 rfl) ?_
        refine w_goI (va_runV (As := [.int (q 22 (x1).toNatClampNeg)]) (rest := [.int (((fX7_holds q (q 22 (x1).toNatClampNeg) 1) + (fX7_holds q (q 22 (x1).toNatClampNeg) 2)) + (fX7_holds q (q 22 (x1).toNatClampNeg) 3))]) ⟨hx, hb, hml, hown, hts⟩ (mX7_most l G cy a _ q (q 22 (x1).toNatClampNeg) (by omega) (by omega)) (cwV 1 hts gX7_canHave_X7_most rfl rfl rfl (by decide +kernel) ⟨Nat.le_of_ble_eq_true rfl, Nat.le_of_ble_eq_true rfl⟩) (w_pre (mOk cy a) (va_recv hK hP (ci := 7) (q0 := 0) rfl rfl) hK hP hD hS hA hN) rfl rfl hl.1 rfl (lv_room (Nat.le_of_ble_eq_true rfl)) dX7_canHave_72 ⟨Nat.le_of_ble_eq_true rfl, Nat.le_of_ble_eq_true rfl⟩) hD hS hA (fun H locs hP hS => ?_)
        refine lv_icmp_ge (tgt := 82) hx hb dX7_canHave_75 (by decide) (fun c_13 => ?_) (fun c_13 => ?_)
        · have e_14 := i_le c_13
          refine lv_iconst (v := 0) hx hb dX7_canHave_82 (by decide) ?_
          exact W.zret (v := 0) hx hb hr rfl (fun t ht hW => ⟨⟨0, q, rfl, ⟨(show (fX7_canHave q x1) = 0 by (rw [fX7_canHave, if_neg c_3, if_neg c_6, if_neg c_11, if_pos c_13]); try rfl).symm, rfl⟩, w_ht ht hP⟩, hS.F ht⟩) hS.2.2 dX7_canHave_83
        · have e_14 := i_nle c_13
          refine lv_iconst (v := 1) hx hb dX7_canHave_78 (by decide) ?_
          refine lv_goto (tgt := 83) hx hb dX7_canHave_79 (by decide) ?_
          exact W.zret (v := 1) hx hb hr rfl (fun t ht hW => ⟨⟨1, q, rfl, ⟨(show (fX7_canHave q x1) = 1 by (rw [fX7_canHave, if_neg c_3, if_neg c_6, if_neg c_11, if_neg c_13]); try rfl).symm, rfl⟩, w_ht ht hP⟩, hS.F ht⟩) hS.2.2 dX7_canHave_83
      · have e_12 := i_eq c_11
        refine lv_iconst (v := 0) hx hb dX7_canHave_48 (by decide) ?_
        exact W.zret (v := 0) hx hb hr rfl (fun t ht hW => ⟨⟨0, q, rfl, ⟨(show (fX7_canHave q x1) = 0 by (rw [fX7_canHave, if_neg c_3, if_neg c_6, if_pos c_11]); try rfl).symm, rfl⟩, w_ht ht hP⟩, hS.F ht⟩) hS.2.2 dX7_canHave_49
