set_option maxHeartbeats 4000000 in
set_option maxRecDepth 100000 in
theorem mX7_reader (l : Launch) (G : va_G) (cy : ClassId) (a : Nat → Nat) (sz : Nat) (q : wSt) (x1 : Int32) (x2 : Int32) (x3 : Int32) (hI : iI q) : CtI l yX7_reader wsX7_reader ({ frames := 1, cells := 0, slots := 0, locals := 22 }) G cy (cM cy a) mN sz q [.ref (a 0), .int x1, .int x2, .int x3] (fX7_reader q x1 x2 x3).1 (fX7_reader q x1 x2 x3).2 := by
  refine Met.ofW (cc := cX7_reader) (maxL := 4) (ret := (some .int)) (by decide) rfl ?_
  intro p e s m args below meth c s₁ B hml hv
  obtain ⟨rfl, hsz, hP, hK, hD0, hN⟩ := hv
  have hx := B.exec
  have hb := B.bytes
  have hr := B.returns
  have hts := atoms_spec (ws := wsX7_reader) B.pre
  have hown : s.vm.findClass RX7 = some m.cls := findClass_of_methodNamed B.named
  have hlocks := B.notSynchronized
  subst hsz
  have hD : ∀ z : wSt, va_D (wA (cM cy a) s.heap.size) ((cM cy a) z) := fun z => w_self (mOk cy a).1 hD0 z
  have hA : ∀ z : Nat, s.heap.size ≤ z → wA (cM cy a) s.heap.size z := fun _ h => Or.inr h
  have hS : va_S (wA (cM cy a) s.heap.size) s.heap s.heap [] := va_S.rf
  have hl := lv_entry ([.ref (a 0), .int x1, .int x2, .int x3]) (n := 4) (Nat.le_of_ble_eq_true rfl)
  rw [lg_entry_eq]
  generalize (lg_sl ([.ref (a 0), .int x1, .int x2, .int x3]) ++ List.replicate (4 - (lg_sl ([.ref (a 0), .int x1, .int x2, .int x3])).length) Slot.unset).toArray = ls at hl ⊢
  have hl : lv_has ls 4 [(0, .ref (a 0)), (1, .int x1), (2, .int x2), (3, .int x3)] := hl
  have h_1 := hts (.fieldLink RX7 96 RX7 "readers" "I") (by decide +kernel)
  have h_2 := (show ∀ w ∈ u_ws RX7 TX7 35, w ∈ wsX7_reader by decide +kernel)
  have h_3 := hts (.fieldLink RX7 40 RX7 "rank" "[I") (by decide +kernel)
  have h_4 := hts (.fieldLink RX7 43 RX7 "boxDays" "[I") (by decide +kernel)
  have h_5 := hts (.fieldLink RX7 46 RX7 "last" "[I") (by decide +kernel)
  have t_m1 : ((-1) : Int32).toInt = -1 := rfl
  have t_0 : (0 : Int32).toInt = 0 := rfl
  have t_1 : (1 : Int32).toInt = 1 := rfl
  have t_2 : (2 : Int32).toInt = 2 := rfl
  have t_9 : (9 : Int32).toInt = 9 := rfl
  have t_20 : (20 : Int32).toInt = 20 := rfl
  have t_5000 : (5000 : Int32).toInt = 5000 := rfl
  have hB := iI_b hI
  refine lv_iload_n hx hb dX7_reader_0 rfl (lv_at hl 1 rfl) ?_
  refine lv_iconst (v := 0) hx hb dX7_reader_1 (by decide) ?_
  refine lv_iconst (v := 2) hx hb dX7_reader_2 (by decide) ?_
  refine w_goI (va_runS (As := [.int x1, .int 0, .int 2]) (rest := []) ⟨hx, hb, hml, hown, hts⟩ (mX7_in l G cy a _ q x1 0 2) (va_cwS 3 hts gX7_reader_X7_in rfl rfl rfl (by decide +kernel) ⟨Nat.le_of_ble_eq_true rfl, Nat.le_of_ble_eq_true rfl⟩) (w_preS (mOk cy a) hK hP hD hS hA hN) rfl rfl hl.1 rfl (lv_room (Nat.le_of_ble_eq_true rfl)) dX7_reader_3 ⟨Nat.le_of_ble_eq_true rfl, Nat.le_of_ble_eq_true rfl⟩) hD hS hA (fun H locs hP hS => ?_)
  have e_1 := tX7_in q x1 0 2
  refine lv_if_eq (tgt := 39) hx hb dX7_reader_6 (by decide) (fun c_2 => ?_) (fun c_2 => ?_)
  · have e_3 := i_eq c_2
    refine lv_iconst (v := (-1)) hx hb dX7_reader_39 (by decide) ?_
    have hF : (fX7_reader q x1 x2 x3) = ((-1), q) := (show (fX7_reader q x1 x2 x3) = ((-1), q) by (rw [fX7_reader, if_pos c_2]); try rfl)
    exact W.iret (v := (-1)) hx hb hr (fun t ht hW => ⟨⟨(-1), q, rfl, ⟨(p_fst hF), (p_snd hF)⟩, w_ht ht hP⟩, hS.F ht⟩) hS.2.2 dX7_reader_40
  · have e_3 := i_ne c_2
    refine lv_iload_n hx hb dX7_reader_9 rfl (lv_at hl 2 rfl) ?_
    refine lv_iconst (v := 0) hx hb dX7_reader_10 (by decide) ?_
    refine lv_bipush (v := 9) hx hb dX7_reader_11 (by decide) ?_
    refine w_goI (va_runS (As := [.int x2, .int 0, .int 9]) (rest := []) ⟨hx, hb, hml, hown, hts⟩ (mX7_in l G cy a _ q x2 0 9) (va_cwS 3 hts gX7_reader_X7_in rfl rfl rfl (by decide +kernel) ⟨Nat.le_of_ble_eq_true rfl, Nat.le_of_ble_eq_true rfl⟩) (w_preS (mOk cy a) hK hP hD hS hA hN) rfl rfl hl.1 rfl (lv_room (Nat.le_of_ble_eq_true rfl)) dX7_reader_13 ⟨Nat.le_of_ble_eq_true rfl, Nat.le_of_ble_eq_true rfl⟩) hD hS hA (fun H locs hP hS => ?_)
    have e_4 := tX7_in q x2 0 9
    refine lv_if_eq (tgt := 39) hx hb dX7_reader_16 (by decide) (fun c_5 => ?_) (fun c_5 => ?_)
    · have e_6 := i_eq c_5
      refine lv_iconst (v := (-1)) hx hb dX7_reader_39 (by decide) ?_
      have hF : (fX7_reader q x1 x2 x3) = ((-1), q) := (show (fX7_reader q x1 x2 x3) = ((-1), q) by (rw [fX7_reader, if_neg c_2, if_pos c_5]); try rfl)
      exact W.iret (v := (-1)) hx hb hr (fun t ht hW => ⟨⟨(-1), q, rfl, ⟨(p_fst hF), (p_snd hF)⟩, w_ht ht hP⟩, hS.F ht⟩) hS.2.2 dX7_reader_40
    · have e_6 := i_ne c_5
      refine lv_iload_n hx hb dX7_reader_19 rfl (lv_at hl 3 rfl) ?_
      refine lv_iconst (v := 0) hx hb dX7_reader_20 (by decide) ?_
      refine lv_sipush (v := 5000) hx hb dX7_reader_21 (by decide) ?_
      refine w_goI (va_runS (As := [.int x3, .int 0, .int 5000]) (rest := []) ⟨hx, hb, hml, hown, hts⟩ (mX7_in l G cy a _ q x3 0 5000) (va_cwS 3 hts gX7_reader_X7_in rfl rfl rfl (by decide +kernel) ⟨Nat.le_of_ble_eq_true rfl, Nat.le_of_ble_eq_true rfl⟩) (w_preS (mOk cy a) hK hP hD hS hA hN) rfl rfl hl.1 rfl (lv_room (Nat.le_of_ble_eq_true rfl)) dX7_reader_24 ⟨Nat.le_of_ble_eq_true rfl, Nat.le_of_ble_eq_true rfl⟩) hD hS hA (fun H locs hP hS => ?_)
      have e_7 := tX7_in q x3 0 5000
      refine lv_if_eq (tgt := 39) hx hb dX7_reader_27 (by decide) (fun c_8 => ?_) (fun c_8 => ?_)
      · have e_9 := i_eq c_8
        refine lv_iconst (v := (-1)) hx hb dX7_reader_39 (by decide) ?_
        have hF : (fX7_reader q x1 x2 x3) = ((-1), q) := (show (fX7_reader q x1 x2 x3) = ((-1), q) by (rw [fX7_reader, if_neg c_2, if_neg c_5, if_pos c_8]); try rfl)
        exact W.iret (v := (-1)) hx hb hr (fun t ht hW => ⟨⟨(-1), q, rfl, ⟨(p_fst hF), (p_snd hF)⟩, w_ht ht hP⟩, hS.F ht⟩) hS.2.2 dX7_reader_40
      · have e_9 := i_ne c_8
        refine lv_aload_n hx hb dX7_reader_30 rfl (lv_at hl 0 rfl) ?_
        refine gfX7_96 (v := (q 39 0)) hx hb hts h_2 hown hK hP h_1 rfl dX7_reader_31 ?_
        refine lv_bipush (v := 20) hx hb dX7_reader_34 (by decide) ?_
        refine lv_icmp_ne (tgt := 41) hx hb dX7_reader_36 (by decide) (fun c_10 => ?_) (fun c_10 => ?_)
        · have e_11 := i_ne c_10
          refine lv_aload_n hx hb dX7_reader_41 rfl (lv_at hl 0 rfl) ?_
          refine gfX7_40 hx hb hts h_2 hown hK hP h_3 dX7_reader_42 ?_
          refine lv_aload_n hx hb dX7_reader_45 rfl (lv_at hl 0 rfl) ?_
          refine gfX7_96 (v := (q 39 0)) hx hb hts h_2 hown hK hP h_1 rfl dX7_reader_46 ?_
          refine lv_iload_n hx hb dX7_reader_49 rfl (lv_at hl 1 rfl) ?_
          have v_12 : vp_in (q 39 0) 20 := vp_in_iff.mpr (by omega)
          refine stM_16 (f := (q 16)) hx hb hK hP hD hS rfl v_12 dX7_reader_50 (fun H locs hP hS => ?_)
          refine lv_aload_n hx hb dX7_reader_51 rfl (lv_at hl 0 rfl) ?_
          refine gfX7_43 hx hb hts h_2 hown hK hP h_4 dX7_reader_52 ?_
          refine lv_aload_n hx hb dX7_reader_55 rfl (lv_at hl 0 rfl) ?_
          refine gfX7_96 (v := (q 39 0)) hx hb hts h_2 hown hK hP h_1 (congrFun (rset_ne (by decide)) 0) dX7_reader_56 ?_
          refine lv_iload_n hx hb dX7_reader_59 rfl (lv_at hl 2 rfl) ?_
          have v_13 : vp_in (q 39 0) 20 := vp_in_iff.mpr (by omega)
          refine stM_17 (f := (q 17)) hx hb hK hP hD hS (rset_ne (by decide)) v_13 dX7_reader_60 (fun H locs hP hS => ?_)
          refine lv_aload_n hx hb dX7_reader_61 rfl (lv_at hl 0 rfl) ?_
          refine gfX7_46 hx hb hts h_2 hown hK hP h_5 dX7_reader_62 ?_
          refine lv_aload_n hx hb dX7_reader_65 rfl (lv_at hl 0 rfl) ?_
          refine gfX7_96 (v := (q 39 0)) hx hb hts h_2 hown hK hP h_1 (congrFun ((rset_ne (by decide)).trans (rset_ne (by decide))) 0) dX7_reader_66 ?_
          refine lv_iload_n hx hb dX7_reader_69 rfl (lv_at hl 3 rfl) ?_
          have v_14 : vp_in (q 39 0) 20 := vp_in_iff.mpr (by omega)
          refine stM_18 (f := (q 18)) hx hb hK hP hD hS ((rset_ne (by decide)).trans (rset_ne (by decide))) v_14 dX7_reader_70 (fun H locs hP hS => ?_)
          refine lv_aload_n hx hb dX7_reader_71 rfl (lv_at hl 0 rfl) ?_
          refine lv_dup hx hb dX7_reader_72 rfl ?_
          refine gfX7_96 (v := (q 39 0)) hx hb hts h_2 hown hK hP h_1 (congrFun ((rset_ne (by decide)).trans ((rset_ne (by decide)).trans (rset_ne (by decide)))) 0) dX7_reader_73 ?_
          refine lv_iconst (v := 1) hx hb dX7_reader_76 (by decide) ?_
          refine lv_iadd hx hb dX7_reader_77 ?_
          refine pfX7_96 hx hb hts h_2 hown hK hP hD hS h_1 dX7_reader_78 (fun H locs hP hS => ?_)
          refine lv_aload_n hx hb dX7_reader_81 rfl (lv_at hl 0 rfl) ?_
          refine gfX7_96 (v := ((q 39 0) + 1)) hx hb hts h_2 hown hK hP h_1 (congrFun rset_eq 0) dX7_reader_82 ?_
          refine lv_iconst (v := 1) hx hb dX7_reader_85 (by decide) ?_
          refine lv_isub hx hb dX7_reader_86 ?_
          have hF : (fX7_reader q x1 x2 x3) = ((((q 39 0) + 1) - 1), (rset (rset (rset (rset q 16 (upd (q 16) (q 39 0).toNatClampNeg x1)) 17 (upd (q 17) (q 39 0).toNatClampNeg x2)) 18 (upd (q 18) (q 39 0).toNatClampNeg x3)) 39 (fun _ => ((q 39 0) + 1)))) := (show (fX7_reader q x1 x2 x3) = ((((q 39 0) + 1) - 1), (rset (rset (rset (rset q 16 (upd (q 16) (q 39 0).toNatClampNeg x1)) 17 (upd (q 17) (q 39 0).toNatClampNeg x2)) 18 (upd (q 18) (q 39 0).toNatClampNeg x3)) 39 (fun _ => ((q 39 0) + 1)))) by (rw [fX7_reader, if_neg c_2, if_neg c_5, if_neg c_8, if_neg c_10]); try rfl)
          exact W.iret (v := (((q 39 0) + 1) - 1)) hx hb hr (fun t ht hW => ⟨⟨(((q 39 0) + 1) - 1), (rset (rset (rset (rset q 16 (upd (q 16) (q 39 0).toNatClampNeg x1)) 17 (upd (q 17) (q 39 0).toNatClampNeg x2)) 18 (upd (q 18) (q 39 0).toNatClampNeg x3)) 39 (fun _ => ((q 39 0) + 1))), rfl, ⟨(p_fst hF), (p_snd hF)⟩, w_ht ht hP⟩, hS.F ht⟩) hS.2.2 dX7_reader_87
        · have e_11 := i_eq c_10
          refine lv_iconst (v := (-1)) hx hb dX7_reader_39 (by decide) ?_
          have hF : (fX7_reader q x1 x2 x3) = ((-1), q) := (show (fX7_reader q x1 x2 x3) = ((-1), q) by (rw [fX7_reader, if_neg c_2, if_neg c_5, if_neg c_8, if_pos c_10]); try rfl)
          exact W.iret (v := (-1)) hx hb hr (fun t ht hW => ⟨⟨(-1), q, rfl, ⟨(p_fst hF), (p_snd hF)⟩, w_ht ht hP⟩, hS.F ht⟩) hS.2.2 dX7_reader_40
