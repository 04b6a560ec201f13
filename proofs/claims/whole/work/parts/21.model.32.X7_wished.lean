set_option maxHeartbeats 4000000 in
set_option maxRecDepth 100000 in
theorem mX7_wished (l : Launch) (G : va_G) (cy : ClassId) (a : Nat → Nat) (sz : Nat) (q : wSt) (x1 : Int32) (x2 : Int32) (hI : iI q) : CtI l yX7_wished wsX7_wished ({ frames := 2, cells := 0, slots := 0, locals := 43 }) G cy (cM cy a) mN sz q [.ref (a 0), .int x1, .int x2] (fX7_wished q x1 x2) q := by
  refine Met.ofW (cc := cX7_wished) (maxL := 3) (ret := (some .int)) (by decide) rfl ?_
  intro p e s m args below meth c s₁ B hml hv
  obtain ⟨rfl, hsz, hP, hK, hD0, hN⟩ := hv
  have hx := B.exec
  have hb := B.bytes
  have hr := B.returns
  have hts := atoms_spec (ws := wsX7_wished) B.pre
  have hown : s.vm.findClass RX7 = some m.cls := findClass_of_methodNamed B.named
  have hlocks := B.notSynchronized
  subst hsz
  have hD : ∀ z : wSt, va_D (wA (cM cy a) s.heap.size) ((cM cy a) z) := fun z => w_self (mOk cy a).1 hD0 z
  have hA : ∀ z : Nat, s.heap.size ≤ z → wA (cM cy a) s.heap.size z := fun _ h => Or.inr h
  have hS : va_S (wA (cM cy a) s.heap.size) s.heap s.heap [] := va_S.rf
  have hl := lv_entry ([.ref (a 0), .int x1, .int x2]) (n := 3) (Nat.le_of_ble_eq_true rfl)
  rw [lg_entry_eq]
  generalize (lg_sl ([.ref (a 0), .int x1, .int x2]) ++ List.replicate (3 - (lg_sl ([.ref (a 0), .int x1, .int x2])).length) Slot.unset).toArray = ls at hl ⊢
  have hl : lv_has ls 3 [(0, .ref (a 0)), (1, .int x1), (2, .int x2)] := hl
  have h_1 := hts (.fieldLink RX7 58 RX7 "wishState" "[I") (by decide +kernel)
  have h_2 := (show ∀ w ∈ u_ws RX7 TX7 35, w ∈ wsX7_wished by decide +kernel)
  have h_3 := hts (.fieldLink RX7 61 RX7 "had" "[I") (by decide +kernel)
  have h_4 := hts (.fieldLink RX7 64 RX7 "waitsFrom" "[I") (by decide +kernel)
  have t_m1 : ((-1) : Int32).toInt = -1 := rfl
  have t_0 : (0 : Int32).toInt = 0 := rfl
  have t_1 : (1 : Int32).toInt = 1 := rfl
  have t_2 : (2 : Int32).toInt = 2 := rfl
  have t_3 : (3 : Int32).toInt = 3 := rfl
  have hB := iI_b hI
  refine lv_aload_n hx hb dX7_wished_0 rfl (lv_at hl 0 rfl) ?_
  refine lv_iload_n hx hb dX7_wished_1 rfl (lv_at hl 1 rfl) ?_
  refine w_goI (va_runV (As := [.int x1]) (rest := []) ⟨hx, hb, hml, hown, hts⟩ (mX7_isWish l G cy a _ q x1) (cwV 1 hts gX7_wished_X7_isWish rfl rfl rfl (by decide +kernel) ⟨Nat.le_of_ble_eq_true rfl, Nat.le_of_ble_eq_true rfl⟩) (w_pre (mOk cy a) (va_recv hK hP (ci := 7) (q0 := 0) rfl rfl) hK hP hD hS hA hN) rfl rfl hl.1 rfl (lv_room (Nat.le_of_ble_eq_true rfl)) dX7_wished_2 ⟨Nat.le_of_ble_eq_true rfl, Nat.le_of_ble_eq_true rfl⟩) hD hS hA (fun H locs hP hS => ?_)
  have e_1 := tX7_isWish q x1 (by omega)
  refine lv_if_ne (tgt := 10) hx hb dX7_wished_5 (by decide) (fun c_2 => ?_) (fun c_2 => ?_)
  · have e_3 := i_ne c_2
    refine lv_iload_n hx hb dX7_wished_10 rfl (lv_at hl 2 rfl) ?_
    refine dite (x2 = 0) (fun c_4 => ?_) (fun c_4 => ?_)
    · refine lv_tableIn (off := 29) (tgt := 40) hx hb dX7_wished_11 (by rw [c_4]; decide) (by rw [c_4]; decide) (by rw [c_4]; decide) (by decide) ?_
      refine lv_aload_n hx hb dX7_wished_40 rfl (lv_at hl 0 rfl) ?_
      refine gfX7_58 hx hb hts h_2 hown hK hP h_1 dX7_wished_41 ?_
      refine lv_iload_n hx hb dX7_wished_44 rfl (lv_at hl 1 rfl) ?_
      have v_5 : vp_in x1 100 := vp_in_iff.mpr (by omega)
      refine ldM_24 (f := (q 24)) hx hb hK hP rfl v_5 dX7_wished_45 ?_
      exact W.iret (v := (q 24 (x1).toNatClampNeg)) hx hb hr (fun t ht hW => ⟨⟨(q 24 (x1).toNatClampNeg), q, rfl, ⟨(show (fX7_wished q x1 x2) = (q 24 (x1).toNatClampNeg) by (rw [fX7_wished, if_neg c_2, if_pos c_4]); try rfl).symm, rfl⟩, w_ht ht hP⟩, hS.F ht⟩) hS.2.2 dX7_wished_46
    · have e_13 := i_ne c_4
      refine dite (x2 = 1) (fun c_6 => ?_) (fun c_6 => ?_)
      · refine lv_tableIn (off := 36) (tgt := 47) hx hb dX7_wished_11 (by rw [c_6]; decide) (by rw [c_6]; decide) (by rw [c_6]; decide) (by decide) ?_
        refine lv_aload_n hx hb dX7_wished_47 rfl (lv_at hl 0 rfl) ?_
        refine gfX7_61 hx hb hts h_2 hown hK hP h_3 dX7_wished_48 ?_
        refine lv_iload_n hx hb dX7_wished_51 rfl (lv_at hl 1 rfl) ?_
        have v_7 : vp_in x1 100 := vp_in_iff.mpr (by omega)
        refine ldM_25 (f := (q 25)) hx hb hK hP rfl v_7 dX7_wished_52 ?_
        exact W.iret (v := (q 25 (x1).toNatClampNeg)) hx hb hr (fun t ht hW => ⟨⟨(q 25 (x1).toNatClampNeg), q, rfl, ⟨(show (fX7_wished q x1 x2) = (q 25 (x1).toNatClampNeg) by (rw [fX7_wished, if_neg c_2, if_neg c_4, if_pos c_6]); try rfl).symm, rfl⟩, w_ht ht hP⟩, hS.F ht⟩) hS.2.2 dX7_wished_53
      · have e_14 := i_ne c_6
        refine dite (x2 = 2) (fun c_8 => ?_) (fun c_8 => ?_)
        · refine lv_tableIn (off := 43) (tgt := 54) hx hb dX7_wished_11 (by rw [c_8]; decide) (by rw [c_8]; decide) (by rw [c_8]; decide) (by decide) ?_
          refine lv_aload_n hx hb dX7_wished_54 rfl (lv_at hl 0 rfl) ?_
          refine lv_iload_n hx hb dX7_wished_55 rfl (lv_at hl 1 rfl) ?_
          refine w_goI (va_runV (As := [.int x1]) (rest := []) ⟨hx, hb, hml, hown, hts⟩ (mX7_copyOf l G cy a _ q x1 (by omega)) (cwV 1 hts gX7_wished_X7_copyOf rfl rfl rfl (by decide +kernel) ⟨Nat.le_of_ble_eq_true rfl, Nat.le_of_ble_eq_true rfl⟩) (w_pre (mOk cy a) (va_recv hK hP (ci := 7) (q0 := 0) rfl rfl) hK hP hD hS hA hN) rfl rfl hl.1 rfl (lv_room (Nat.le_of_ble_eq_true rfl)) dX7_wished_56 ⟨Nat.le_of_ble_eq_true rfl, Nat.le_of_ble_eq_true rfl⟩) hD hS hA (fun H locs hP hS => ?_)
          exact W.iret (v := (fX7_copyOf q x1)) hx hb hr (fun t ht hW => ⟨⟨(fX7_copyOf q x1), q, rfl, ⟨(show (fX7_wished q x1 x2) = (fX7_copyOf q x1) by (rw [fX7_wished, if_neg c_2, if_neg c_4, if_neg c_6, if_pos c_8]); try rfl).symm, rfl⟩, w_ht ht hP⟩, hS.F ht⟩) hS.2.2 dX7_wished_59
        · have e_15 := i_ne c_8
          refine dite (x2 = 3) (fun c_9 => ?_) (fun c_9 => ?_)
          · refine lv_tableIn (off := 49) (tgt := 60) hx hb dX7_wished_11 (by rw [c_9]; decide) (by rw [c_9]; decide) (by rw [c_9]; decide) (by decide) ?_
            refine lv_aload_n hx hb dX7_wished_60 rfl (lv_at hl 0 rfl) ?_
            refine lv_iload_n hx hb dX7_wished_61 rfl (lv_at hl 1 rfl) ?_
            refine w_goI (va_runV (As := [.int x1]) (rest := []) ⟨hx, hb, hml, hown, hts⟩ (mX7_waits l G cy a _ q x1 hI (by omega) (by omega)) (cwV 1 hts gX7_wished_X7_waits rfl rfl rfl (by decide +kernel) ⟨Nat.le_of_ble_eq_true rfl, Nat.le_of_ble_eq_true rfl⟩) (w_pre (mOk cy a) (va_recv hK hP (ci := 7) (q0 := 0) rfl rfl) hK hP hD hS hA hN) rfl rfl hl.1 rfl (lv_room (Nat.le_of_ble_eq_true rfl)) dX7_wished_62 ⟨Nat.le_of_ble_eq_true rfl, Nat.le_of_ble_eq_true rfl⟩) hD hS hA (fun H locs hP hS => ?_)
            refine lv_if_eq (tgt := 77) hx hb dX7_wished_65 (by decide) (fun c_10 => ?_) (fun c_10 => ?_)
            · have e_11 := i_eq c_10
              refine lv_iconst (v := (-1)) hx hb dX7_wished_77 (by decide) ?_
              exact W.iret (v := (-1)) hx hb hr (fun t ht hW => ⟨⟨(-1), q, rfl, ⟨(show (fX7_wished q x1 x2) = (-1) by (rw [fX7_wished, if_neg c_2, if_neg c_4, if_neg c_6, if_neg c_8, if_pos c_9, if_pos c_10]); try rfl).symm, rfl⟩, w_ht ht hP⟩, hS.F ht⟩) hS.2.2 dX7_wished_78
            · have e_11 := i_ne c_10
              refine lv_aload_n hx hb dX7_wished_68 rfl (lv_at hl 0 rfl) ?_
              refine gfX7_64 hx hb hts h_2 hown hK hP h_4 dX7_wished_69 ?_
              refine lv_iload_n hx hb dX7_wished_72 rfl (lv_at hl 1 rfl) ?_
              have v_12 : vp_in x1 100 := vp_in_iff.mpr (by omega)
              refine ldM_27 (f := (q 27)) hx hb hK hP rfl v_12 dX7_wished_73 ?_
              refine lv_goto (tgt := 78) hx hb dX7_wished_74 (by decide) ?_
              exact W.iret (v := (q 27 (x1).toNatClampNeg)) hx hb hr (fun t ht hW => ⟨⟨(q 27 (x1).toNatClampNeg), q, rfl, ⟨(show (fX7_wished q x1 x2) = (q 27 (x1).toNatClampNeg) by (rw [fX7_wished, if_neg c_2, if_neg c_4, if_neg c_6, if_neg c_8, if_pos c_9, if_neg c_10]); try rfl).symm, rfl⟩, w_ht ht hP⟩, hS.F ht⟩) hS.2.2 dX7_wished_78
          · have e_16 := i_ne c_9
            refine lv_tableOut (tgt := 79) hx hb dX7_wished_11 (by omega) (by decide) ?_
            refine lv_iconst (v := (-1)) hx hb dX7_wished_79 (by decide) ?_
            exact W.iret (v := (-1)) hx hb hr (fun t ht hW => ⟨⟨(-1), q, rfl, ⟨(show (fX7_wished q x1 x2) = (-1) by (rw [fX7_wished, if_neg c_2, if_neg c_4, if_neg c_6, if_neg c_8, if_neg c_9]); try rfl).symm, rfl⟩, w_ht ht hP⟩, hS.F ht⟩) hS.2.2 dX7_wished_80
  · have e_3 := i_eq c_2
    refine lv_iconst (v := (-1)) hx hb dX7_wished_8 (by decide) ?_
    exact W.iret (v := (-1)) hx hb hr (fun t ht hW => ⟨⟨(-1), q, rfl, ⟨(show (fX7_wished q x1 x2) = (-1) by (rw [fX7_wished, if_pos c_2]); try rfl).symm, rfl⟩, w_ht ht hP⟩, hS.F ht⟩) hS.2.2 dX7_wished_9
