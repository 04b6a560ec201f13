set_option maxHeartbeats 4000000 in
set_option maxRecDepth 100000 in
theorem mX6_wished (l : Launch) (G : va_G) (cy : ClassId) (a : Nat → Nat) (sz : Nat) (q : wSt) (x1 : Int32) (x2 : Int32) (hI : iI q) : CtI l yX6_wished wsX6_wished ({ frames := 3, cells := 0, slots := 0, locals := 63 }) G cy (cX cy a) xN sz q [.ref (a 0), .int x1, .int x2] (fX6_wished q x1 x2) q := by
  refine Met.ofW (cc := cX6_wished) (maxL := 3) (ret := (some .int)) (by decide) rfl ?_
  intro p e s m args below meth c s₁ B hml hv
  obtain ⟨rfl, hsz, hP, hK, hD0, hN⟩ := hv
  have hx := B.exec
  have hb := B.bytes
  have hr := B.returns
  have hts := atoms_spec (ws := wsX6_wished) B.pre
  have hown : s.vm.findClass RX6 = some m.cls := findClass_of_methodNamed B.named
  have hlocks := B.notSynchronized
  subst hsz
  have hD : ∀ z : wSt, va_D (wA (cX cy a) s.heap.size) ((cX cy a) z) := fun z => w_self (xOk cy a).1 hD0 z
  have hA : ∀ z : Nat, s.heap.size ≤ z → wA (cX cy a) s.heap.size z := fun _ h => Or.inr h
  have hS : va_S (wA (cX cy a) s.heap.size) s.heap s.heap [] := va_S.rf
  have hl := lv_entry ([.ref (a 0), .int x1, .int x2]) (n := 3) (Nat.le_of_ble_eq_true rfl)
  rw [lg_entry_eq]
  generalize (lg_sl ([.ref (a 0), .int x1, .int x2]) ++ List.replicate (3 - (lg_sl ([.ref (a 0), .int x1, .int x2])).length) Slot.unset).toArray = ls at hl ⊢
  have hl : lv_has ls 3 [(0, .ref (a 0)), (1, .int x1), (2, .int x2)] := hl
  have h_1 := hts (.fieldLink RX6 40 RX6 "wishes" "LVolumeHouse$Wishes;") (by decide +kernel)
  have h_2 := (show ∀ w ∈ u_ws RX6 TX6 10, w ∈ wsX6_wished by decide +kernel)
  have h_3 := (hN.1 _ (List.mem_of_getElem? (i := 57) rfl) : va_Nw (.methodLinkNest RX6 199 yX5_has RX6) s)
  have h_4 := hts (.initialized RX5) (by decide +kernel)
  have h_5 := hts (.instanceMethod yX5_has) (by decide +kernel)
  have h_6 := hts (.selects RX5 yX5_has yX5_has) (by decide +kernel)
  have h_7 := (hN.1 _ (List.mem_of_getElem? (i := 9) rfl) : va_Nw (.fieldLinkNest RX6 122 RX5 "state" "[I" RX6) s)
  have h_8 := (show ∀ w ∈ u_ws RX5 TX5 7, w ∈ wsX6_wished by decide +kernel)
  have h_9 := (hN.1 _ (List.mem_of_getElem? (i := 24) rfl) : va_Nw (.fieldLinkNest RX6 200 RX5 "had" "[I" RX6) s)
  have h_10 := (hN.1 _ (List.mem_of_getElem? (i := 25) rfl) : va_Nw (.fieldLinkNest RX6 203 RX5 "held" "[I" RX6) s)
  have h_11 := (hN.1 _ (List.mem_of_getElem? (i := 58) rfl) : va_Nw (.methodLinkNest RX6 206 yX5_waits RX6) s)
  have h_12 := hts (.instanceMethod yX5_waits) (by decide +kernel)
  have h_13 := hts (.selects RX5 yX5_waits yX5_waits) (by decide +kernel)
  have h_14 := (hN.1 _ (List.mem_of_getElem? (i := 26) rfl) : va_Nw (.fieldLinkNest RX6 209 RX5 "since" "[I" RX6) s)
  have t_m1 : ((-1) : Int32).toInt = -1 := rfl
  have t_0 : (0 : Int32).toInt = 0 := rfl
  have t_1 : (1 : Int32).toInt = 1 := rfl
  have t_2 : (2 : Int32).toInt = 2 := rfl
  have t_3 : (3 : Int32).toInt = 3 := rfl
  have hB := iI_b hI
  refine lv_aload_n hx hb dX6_wished_0 rfl (lv_at hl 0 rfl) ?_
  refine gfX6_40 hx hb hts h_2 hown hK hP h_1 dX6_wished_1 ?_
  refine lv_iload_n hx hb dX6_wished_4 rfl (lv_at hl 1 rfl) ?_
  refine w_goI (va_runVN (As := [.int x1]) (rest := []) ⟨hx, hb, hml, hown, hts⟩ (mX5_has l G cy a _ q x1) ⟨va_cnB 1 hts gX6_wished_X5_has_n199 rfl rfl rfl h_3 h_4 (by decide +kernel) ⟨Nat.le_of_ble_eq_true rfl, Nat.le_of_ble_eq_true rfl⟩, h_5, h_6⟩ (w_pre (xOk cy a) (va_recv hK hP (ci := 5) (q0 := 5) rfl rfl) hK hP hD hS hA hN) rfl rfl hl.1 rfl (lv_room (Nat.le_of_ble_eq_true rfl)) dX6_wished_5 ⟨Nat.le_of_ble_eq_true rfl, Nat.le_of_ble_eq_true rfl⟩) hD hS hA (fun H locs hP hS => ?_)
  have e_1 := tX5_has q x1
  refine lv_if_ne (tgt := 13) hx hb dX6_wished_8 (by decide) (fun c_2 => ?_) (fun c_2 => ?_)
  · have e_3 := i_ne c_2
    refine lv_iload_n hx hb dX6_wished_13 rfl (lv_at hl 2 rfl) ?_
    refine dite (x2 = 0) (fun c_4 => ?_) (fun c_4 => ?_)
    · refine lv_tableIn (off := 30) (tgt := 44) hx hb dX6_wished_14 (by rw [c_4]; decide) (by rw [c_4]; decide) (by rw [c_4]; decide) (by decide) ?_
      refine lv_aload_n hx hb dX6_wished_44 rfl (lv_at hl 0 rfl) ?_
      refine gfX6_40 hx hb hts h_2 hown hK hP h_1 dX6_wished_45 ?_
      refine gfX6_122 hx hb hts h_8 hown hK hP h_7 dX6_wished_48 ?_
      refine lv_iload_n hx hb dX6_wished_51 rfl (lv_at hl 1 rfl) ?_
      have v_5 : vp_in x1 100 := vp_in_iff.mpr (by omega)
      refine ldX_24 (f := (q 24)) hx hb hK hP rfl v_5 dX6_wished_52 ?_
      exact W.iret (v := (q 24 (x1).toNatClampNeg)) hx hb hr (fun t ht hW => ⟨⟨(q 24 (x1).toNatClampNeg), q, rfl, ⟨(show (fX6_wished q x1 x2) = (q 24 (x1).toNatClampNeg) by (rw [fX6_wished, if_neg c_2, if_pos c_4]); try rfl).symm, rfl⟩, w_ht ht hP⟩, hS.F ht⟩) hS.2.2 dX6_wished_53
    · have e_15 := i_ne c_4
      refine dite (x2 = 1) (fun c_6 => ?_) (fun c_6 => ?_)
      · refine lv_tableIn (off := 40) (tgt := 54) hx hb dX6_wished_14 (by rw [c_6]; decide) (by rw [c_6]; decide) (by rw [c_6]; decide) (by decide) ?_
        refine lv_aload_n hx hb dX6_wished_54 rfl (lv_at hl 0 rfl) ?_
        refine gfX6_40 hx hb hts h_2 hown hK hP h_1 dX6_wished_55 ?_
        refine gfX6_200 hx hb hts h_8 hown hK hP h_9 dX6_wished_58 ?_
        refine lv_iload_n hx hb dX6_wished_61 rfl (lv_at hl 1 rfl) ?_
        have v_7 : vp_in x1 100 := vp_in_iff.mpr (by omega)
        refine ldX_25 (f := (q 25)) hx hb hK hP rfl v_7 dX6_wished_62 ?_
        exact W.iret (v := (q 25 (x1).toNatClampNeg)) hx hb hr (fun t ht hW => ⟨⟨(q 25 (x1).toNatClampNeg), q, rfl, ⟨(show (fX6_wished q x1 x2) = (q 25 (x1).toNatClampNeg) by (rw [fX6_wished, if_neg c_2, if_neg c_4, if_pos c_6]); try rfl).symm, rfl⟩, w_ht ht hP⟩, hS.F ht⟩) hS.2.2 dX6_wished_63
      · have e_16 := i_ne c_6
        refine dite (x2 = 2) (fun c_8 => ?_) (fun c_8 => ?_)
        · refine lv_tableIn (off := 50) (tgt := 64) hx hb dX6_wished_14 (by rw [c_8]; decide) (by rw [c_8]; decide) (by rw [c_8]; decide) (by decide) ?_
          refine lv_aload_n hx hb dX6_wished_64 rfl (lv_at hl 0 rfl) ?_
          refine gfX6_40 hx hb hts h_2 hown hK hP h_1 dX6_wished_65 ?_
          refine gfX6_203 hx hb hts h_8 hown hK hP h_10 dX6_wished_68 ?_
          refine lv_iload_n hx hb dX6_wished_71 rfl (lv_at hl 1 rfl) ?_
          have v_9 : vp_in x1 100 := vp_in_iff.mpr (by omega)
          refine ldX_26 (f := (q 26)) hx hb hK hP rfl v_9 dX6_wished_72 ?_
          exact W.iret (v := (q 26 (x1).toNatClampNeg)) hx hb hr (fun t ht hW => ⟨⟨(q 26 (x1).toNatClampNeg), q, rfl, ⟨(show (fX6_wished q x1 x2) = (q 26 (x1).toNatClampNeg) by (rw [fX6_wished, if_neg c_2, if_neg c_4, if_neg c_6, if_pos c_8]); try rfl).symm, rfl⟩, w_ht ht hP⟩, hS.F ht⟩) hS.2.2 dX6_wished_73
        · have e_17 := i_ne c_8
          refine dite (x2 = 3) (fun c_10 => ?_) (fun c_10 => ?_)
          · refine lv_tableIn (off := 60) (tgt := 74) hx hb dX6_wished_14 (by rw [c_10]; decide) (by rw [c_10]; decide) (by rw [c_10]; decide) (by decide) ?_
            refine lv_aload_n hx hb dX6_wished_74 rfl (lv_at hl 0 rfl) ?_
            refine gfX6_40 hx hb hts h_2 hown hK hP h_1 dX6_wished_75 ?_
            refine lv_iload_n hx hb dX6_wished_78 rfl (lv_at hl 1 rfl) ?_
            refine w_goI (va_runVN (As := [.int x1]) (rest := []) ⟨hx, hb, hml, hown, hts⟩ (mX5_waits l G cy a _ q x1 (by omega)) ⟨va_cnB 1 hts gX6_wished_X5_waits_n206 rfl rfl rfl h_11 h_4 (by decide +kernel) ⟨Nat.le_of_ble_eq_true rfl, Nat.le_of_ble_eq_true rfl⟩, h_12, h_13⟩ (w_pre (xOk cy a) (va_recv hK hP (ci := 5) (q0 := 5) rfl rfl) hK hP hD hS hA hN) rfl rfl hl.1 rfl (lv_room (Nat.le_of_ble_eq_true rfl)) dX6_wished_79 ⟨Nat.le_of_ble_eq_true rfl, Nat.le_of_ble_eq_true rfl⟩) hD hS hA (fun H locs hP hS => ?_)
            have e_11 := tX5_waits q x1
            refine lv_if_eq (tgt := 97) hx hb dX6_wished_82 (by decide) (fun c_12 => ?_) (fun c_12 => ?_)
            · have e_13 := i_eq c_12
              refine lv_iconst (v := (-1)) hx hb dX6_wished_97 (by decide) ?_
              exact W.iret (v := (-1)) hx hb hr (fun t ht hW => ⟨⟨(-1), q, rfl, ⟨(show (fX6_wished q x1 x2) = (-1) by (rw [fX6_wished, if_neg c_2, if_neg c_4, if_neg c_6, if_neg c_8, if_pos c_10, if_pos c_12]); try rfl).symm, rfl⟩, w_ht ht hP⟩, hS.F ht⟩) hS.2.2 dX6_wished_98
            · have e_13 := i_ne c_12
              refine lv_aload_n hx hb dX6_wished_85 rfl (lv_at hl 0 rfl) ?_
              refine gfX6_40 hx hb hts h_2 hown hK hP h_1 dX6_wished_86 ?_
              refine gfX6_209 hx hb hts h_8 hown hK hP h_14 dX6_wished_89 ?_
              refine lv_iload_n hx hb dX6_wished_92 rfl (lv_at hl 1 rfl) ?_
              have v_14 : vp_in x1 100 := vp_in_iff.mpr (by omega)
              refine ldX_27 (f := (q 27)) hx hb hK hP rfl v_14 dX6_wished_93 ?_
              refine lv_goto (tgt := 98) hx hb dX6_wished_94 (by decide) ?_
              exact W.iret (v := (q 27 (x1).toNatClampNeg)) hx hb hr (fun t ht hW => ⟨⟨(q 27 (x1).toNatClampNeg), q, rfl, ⟨(show (fX6_wished q x1 x2) = (q 27 (x1).toNatClampNeg) by (rw [fX6_wished, if_neg c_2, if_neg c_4, if_neg c_6, if_neg c_8, if_pos c_10, if_neg c_12]); try rfl).symm, rfl⟩, w_ht ht hP⟩, hS.F ht⟩) hS.2.2 dX6_wished_98
          · have e_18 := i_ne c_10
            refine lv_tableOut (tgt := 99) hx hb dX6_wished_14 (by omega) (by decide) ?_
            refine lv_iconst (v := (-1)) hx hb dX6_wished_99 (by decide) ?_
            exact W.iret (v := (-1)) hx hb hr (fun t ht hW => ⟨⟨(-1), q, rfl, ⟨(show (fX6_wished q x1 x2) = (-1) by (rw [fX6_wished, if_neg c_2, if_neg c_4, if_neg c_6, if_neg c_8, if_neg c_10]); try rfl).symm, rfl⟩, w_ht ht hP⟩, hS.F ht⟩) hS.2.2 dX6_wished_100
  · have e_3 := i_eq c_2
    refine lv_iconst (v := (-1)) hx hb dX6_wished_11 (by decide) ?_
    exact W.iret (v := (-1)) hx hb hr (fun t ht hW => ⟨⟨(-1), q, rfl, ⟨(show (fX6_wished q x1 x2) = (-1) by (rw [fX6_wished, if_pos c_2]); try rfl).symm, rfl⟩, w_ht ht hP⟩, hS.F ht⟩) hS.2.2 dX6_wished_12
