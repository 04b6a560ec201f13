set_option maxHeartbeats 4000000 in
set_option maxRecDepth 100000 in
theorem mX7_back (l : Launch) (G : va_G) (cy : ClassId) (a : Nat → Nat) (sz : Nat) (q : wSt) (x1 : Int32) (hI : iI q) (hC : iC q) : CtI l yX7_back wsX7_back ({ frames := 2, cells := 0, slots := 0, locals := 43 }) G cy (cM cy a) mN sz q [.ref (a 0), .int x1] (fX7_back q x1).1 (fX7_back q x1).2 := by
  refine Met.ofW (cc := cX7_back) (maxL := 4) (ret := (some .int)) (by decide) rfl ?_
  intro p e s m args below meth c s₁ B hml hv
  obtain ⟨rfl, hsz, hP, hK, hD0, hN⟩ := hv
  have hx := B.exec
  have hb := B.bytes
  have hr := B.returns
  have hts := atoms_spec (ws := wsX7_back) B.pre
  have hown : s.vm.findClass RX7 = some m.cls := findClass_of_methodNamed B.named
  have hlocks := B.notSynchronized
  subst hsz
  have hD : ∀ z : wSt, va_D (wA (cM cy a) s.heap.size) ((cM cy a) z) := fun z => w_self (mOk cy a).1 hD0 z
  have hA : ∀ z : Nat, s.heap.size ≤ z → wA (cM cy a) s.heap.size z := fun _ h => Or.inr h
  have hS : va_S (wA (cM cy a) s.heap.size) s.heap s.heap [] := va_S.rf
  have hl := lv_entry ([.ref (a 0), .int x1]) (n := 4) (Nat.le_of_ble_eq_true rfl)
  rw [lg_entry_eq]
  generalize (lg_sl ([.ref (a 0), .int x1]) ++ List.replicate (4 - (lg_sl ([.ref (a 0), .int x1])).length) Slot.unset).toArray = ls at hl ⊢
  have hl : lv_has ls 4 [(0, .ref (a 0)), (1, .int x1)] := hl
  have h_1 := hts (.fieldLink RX7 22 RX7 "state" "[I") (by decide +kernel)
  have h_2 := (show ∀ w ∈ u_ws RX7 TX7 35, w ∈ wsX7_back by decide +kernel)
  have h_3 := hts (.fieldLink RX7 25 RX7 "readerOf" "[I") (by decide +kernel)
  have h_4 := hts (.fieldLink RX7 49 RX7 "owed" "[I") (by decide +kernel)
  have h_5 := hts (.fieldLink RX7 31 RX7 "since" "[I") (by decide +kernel)
  have h_6 := hts (.fieldLink RX7 34 RX7 "toGo" "[I") (by decide +kernel)
  have h_7 := hts (.fieldLink RX7 43 RX7 "boxDays" "[I") (by decide +kernel)
  have t_m1 : ((-1) : Int32).toInt = -1 := rfl
  have t_0 : (0 : Int32).toInt = 0 := rfl
  have t_1 : (1 : Int32).toInt = 1 := rfl
  have t_3 : (3 : Int32).toInt = 3 := rfl
  have hB := iI_b hI
  refine lv_aload_n hx hb dX7_back_0 rfl (lv_at hl 0 rfl) ?_
  refine lv_iload_n hx hb dX7_back_1 rfl (lv_at hl 1 rfl) ?_
  refine w_goI (va_runV (As := [.int x1]) (rest := []) ⟨hx, hb, hml, hown, hts⟩ (mX7_isCopy l G cy a _ q x1) (cwV 1 hts gX7_back_X7_isCopy rfl rfl rfl (by decide +kernel) ⟨Nat.le_of_ble_eq_true rfl, Nat.le_of_ble_eq_true rfl⟩) (w_pre (mOk cy a) (va_recv hK hP (ci := 7) (q0 := 0) rfl rfl) hK hP hD hS hA hN) rfl rfl hl.1 rfl (lv_room (Nat.le_of_ble_eq_true rfl)) dX7_back_2 ⟨Nat.le_of_ble_eq_true rfl, Nat.le_of_ble_eq_true rfl⟩) hD hS hA (fun H locs hP hS => ?_)
  have e_1 := tX7_isCopy q x1 (by omega)
  refine lv_if_eq (tgt := 18) hx hb dX7_back_5 (by decide) (fun c_2 => ?_) (fun c_2 => ?_)
  · have e_3 := i_eq c_2
    refine lv_iconst (v := (-1)) hx hb dX7_back_18 (by decide) ?_
    have hF : (fX7_back q x1) = ((-1), q) := (show (fX7_back q x1) = ((-1), q) by (rw [fX7_back, if_pos c_2]); try rfl)
    exact W.iret (v := (-1)) hx hb hr (fun t ht hW => ⟨⟨(-1), q, rfl, ⟨(p_fst hF), (p_snd hF)⟩, w_ht ht hP⟩, hS.F ht⟩) hS.2.2 dX7_back_19
  · have e_3 := i_ne c_2
    refine lv_aload_n hx hb dX7_back_8 rfl (lv_at hl 0 rfl) ?_
    refine gfX7_22 hx hb hts h_2 hown hK hP h_1 dX7_back_9 ?_
    refine lv_iload_n hx hb dX7_back_12 rfl (lv_at hl 1 rfl) ?_
    have v_4 : vp_in x1 200 := vp_in_iff.mpr (by omega)
    refine ldM_6 (f := (q 6)) hx hb hK hP rfl v_4 dX7_back_13 ?_
    refine lv_iconst (v := 1) hx hb dX7_back_14 (by decide) ?_
    refine lv_icmp_eq (tgt := 20) hx hb dX7_back_15 (by decide) (fun c_5 => ?_) (fun c_5 => ?_)
    · have e_6 := i_eq c_5
      refine lv_aload_n hx hb dX7_back_20 rfl (lv_at hl 0 rfl) ?_
      refine gfX7_25 hx hb hts h_2 hown hK hP h_3 dX7_back_21 ?_
      refine lv_iload_n hx hb dX7_back_24 rfl (lv_at hl 1 rfl) ?_
      have v_7 : vp_in x1 200 := vp_in_iff.mpr (by omega)
      refine ldM_10 (f := (q 10)) hx hb hK hP rfl v_7 dX7_back_25 ?_
      have e_8 := iC_r hC x1 (by omega) (by omega)
      refine lv_istore_n (lv' := [(2, .int (q 10 (x1).toNatClampNeg)), (0, .ref (a 0)), (1, .int x1)]) hx hb dX7_back_26 rfl hl (by decide) rfl (fun ls hl => ?_)
      refine lv_aload_n hx hb dX7_back_27 rfl (lv_at hl 1 rfl) ?_
      refine lv_iload_n hx hb dX7_back_28 rfl (lv_at hl 2 rfl) ?_
      refine w_goI (va_runV (As := [.int x1]) (rest := []) ⟨hx, hb, hml, hown, hts⟩ (mX7_late l G cy a _ q x1 (by omega) (by omega) (by omega) (by omega)) (cwV 1 hts gX7_back_X7_late rfl rfl rfl (by decide +kernel) ⟨Nat.le_of_ble_eq_true rfl, Nat.le_of_ble_eq_true rfl⟩) (w_pre (mOk cy a) (va_recv hK hP (ci := 7) (q0 := 0) rfl rfl) hK hP hD hS hA hN) rfl rfl hl.1 rfl (lv_room (Nat.le_of_ble_eq_true rfl)) dX7_back_29 ⟨Nat.le_of_ble_eq_true rfl, Nat.le_of_ble_eq_true rfl⟩) hD hS hA (fun H locs hP hS => ?_)
      refine lv_istore_n (lv' := [(3, .int (fX7_late q x1)), (2, .int (q 10 (x1).toNatClampNeg)), (0, .ref (a 0)), (1, .int x1)]) hx hb dX7_back_32 rfl hl (by decide) rfl (fun ls hl => ?_)
      refine lv_aload_n hx hb dX7_back_33 rfl (lv_at hl 2 rfl) ?_
      refine gfX7_49 hx hb hts h_2 hown hK hP h_4 dX7_back_34 ?_
      refine lv_iload_n hx hb dX7_back_37 rfl (lv_at hl 1 rfl) ?_
      refine lv_dup2_11 hx hb dX7_back_38 rfl rfl ?_
      have v_9 : vp_in (q 10 (x1).toNatClampNeg) 20 := vp_in_iff.mpr (by omega)
      refine ldM_19 (f := (q 19)) hx hb hK hP rfl v_9 dX7_back_39 ?_
      refine lv_iload_n hx hb dX7_back_40 rfl (lv_at hl 0 rfl) ?_
      refine lv_iadd hx hb dX7_back_41 ?_
      have v_10 : vp_in (q 10 (x1).toNatClampNeg) 20 := vp_in_iff.mpr (by omega)
      refine stM_19 (f := (q 19)) hx hb hK hP hD hS rfl v_10 dX7_back_42 (fun H locs hP hS => ?_)
      refine lv_aload_n hx hb dX7_back_43 rfl (lv_at hl 2 rfl) ?_
      refine lv_iload_n hx hb dX7_back_44 rfl (lv_at hl 3 rfl) ?_
      refine w_goV (va_runV (As := [.int x1]) (rest := []) ⟨hx, hb, hml, hown, hts⟩ (mX7_had l G cy a _ (rset q 19 (upd (q 19) (q 10 (x1).toNatClampNeg).toNatClampNeg ((q 19 (q 10 (x1).toNatClampNeg).toNatClampNeg) + (fX7_late q x1)))) x1 (iI_rset (k := 19) (f := (upd (q 19) (q 10 (x1).toNatClampNeg).toNatClampNeg ((q 19 (q 10 (x1).toNatClampNeg).toNatClampNeg) + (fX7_late q x1)))) (by decide) hI) (by have hB9 := iI_b (iI_rset (k := 19) (f := (upd (q 19) (q 10 (x1).toNatClampNeg).toNatClampNeg ((q 19 (q 10 (x1).toNatClampNeg).toNatClampNeg) + (fX7_late q x1)))) (by decide) hI); omega) (by have hB9 := iI_b (iI_rset (k := 19) (f := (upd (q 19) (q 10 (x1).toNatClampNeg).toNatClampNeg ((q 19 (q 10 (x1).toNatClampNeg).toNatClampNeg) + (fX7_late q x1)))) (by decide) hI); omega) (iC_w hC x1 (by omega) (by omega))) (cwV 1 hts gX7_back_X7_had rfl rfl rfl (by decide +kernel) ⟨Nat.le_of_ble_eq_true rfl, Nat.le_of_ble_eq_true rfl⟩) (w_pre (mOk cy a) (va_recv hK hP (ci := 7) (q0 := 0) rfl rfl) hK hP hD hS hA hN) rfl rfl hl.1 rfl (lv_room (Nat.le_of_ble_eq_true rfl)) dX7_back_45 ⟨Nat.le_of_ble_eq_true rfl, Nat.le_of_ble_eq_true rfl⟩) hD hS hA (fun H locs hP hS => ?_)
      refine lv_aload_n hx hb dX7_back_48 rfl (lv_at hl 2 rfl) ?_
      refine gfX7_31 hx hb hts h_2 hown hK hP h_5 dX7_back_49 ?_
      refine lv_iload_n hx hb dX7_back_52 rfl (lv_at hl 3 rfl) ?_
      refine lv_iconst (v := (-1)) hx hb dX7_back_53 (by decide) ?_
      have v_11 : vp_in x1 200 := vp_in_iff.mpr (by omega)
      refine stM_12 (f := ((fX7_had (rset q 19 (upd (q 19) (q 10 (x1).toNatClampNeg).toNatClampNeg ((q 19 (q 10 (x1).toNatClampNeg).toNatClampNeg) + (fX7_late q x1)))) x1) 12)) hx hb hK hP hD hS rfl v_11 dX7_back_54 (fun H locs hP hS => ?_)
      refine lv_aload_n hx hb dX7_back_55 rfl (lv_at hl 2 rfl) ?_
      refine gfX7_34 hx hb hts h_2 hown hK hP h_6 dX7_back_56 ?_
      refine lv_iload_n hx hb dX7_back_59 rfl (lv_at hl 3 rfl) ?_
      refine lv_aload_n hx hb dX7_back_60 rfl (lv_at hl 2 rfl) ?_
      refine gfX7_43 hx hb hts h_2 hown hK hP h_7 dX7_back_61 ?_
      refine lv_iload_n hx hb dX7_back_64 rfl (lv_at hl 1 rfl) ?_
      have v_12 : vp_in (q 10 (x1).toNatClampNeg) 20 := vp_in_iff.mpr (by omega)
      refine ldM_17 (f := ((fX7_had (rset q 19 (upd (q 19) (q 10 (x1).toNatClampNeg).toNatClampNeg ((q 19 (q 10 (x1).toNatClampNeg).toNatClampNeg) + (fX7_late q x1)))) x1) 17)) hx hb hK hP (rset_ne (by decide)) v_12 dX7_back_65 ?_
      have v_13 : vp_in x1 200 := vp_in_iff.mpr (by omega)
      refine stM_13 (f := ((fX7_had (rset q 19 (upd (q 19) (q 10 (x1).toNatClampNeg).toNatClampNeg ((q 19 (q 10 (x1).toNatClampNeg).toNatClampNeg) + (fX7_late q x1)))) x1) 13)) hx hb hK hP hD hS (rset_ne (by decide)) v_13 dX7_back_66 (fun H locs hP hS => ?_)
      refine lv_aload_n hx hb dX7_back_67 rfl (lv_at hl 2 rfl) ?_
      refine gfX7_22 hx hb hts h_2 hown hK hP h_1 dX7_back_68 ?_
      refine lv_iload_n hx hb dX7_back_71 rfl (lv_at hl 3 rfl) ?_
      refine lv_aload_n hx hb dX7_back_72 rfl (lv_at hl 2 rfl) ?_
      refine gfX7_43 hx hb hts h_2 hown hK hP h_7 dX7_back_73 ?_
      refine lv_iload_n hx hb dX7_back_76 rfl (lv_at hl 1 rfl) ?_
      have v_14 : vp_in (q 10 (x1).toNatClampNeg) 20 := vp_in_iff.mpr (by omega)
      refine ldM_17 (f := ((fX7_had (rset q 19 (upd (q 19) (q 10 (x1).toNatClampNeg).toNatClampNeg ((q 19 (q 10 (x1).toNatClampNeg).toNatClampNeg) + (fX7_late q x1)))) x1) 17)) hx hb hK hP ((rset_ne (by decide)).trans (rset_ne (by decide))) v_14 dX7_back_77 ?_
      have J_1 : ∀ (v1 : Int32) (H : Heap) (ls : Array Slot) (locs : List Loc), (fX7_back_j1 q x1) = v1 → ((v1).toInt = 0 ∨ (v1).toInt = 3) → va_P G vwCl ((cM cy a) (rset (rset (fX7_had (rset q 19 (upd (q 19) (q 10 (x1).toNatClampNeg).toNatClampNeg ((q 19 (q 10 (x1).toNatClampNeg).toNatClampNeg) + (fX7_late q x1)))) x1) 12 (upd ((fX7_had (rset q 19 (upd (q 19) (q 10 (x1).toNatClampNeg).toNatClampNeg ((q 19 (q 10 (x1).toNatClampNeg).toNatClampNeg) + (fX7_late q x1)))) x1) 12) (x1).toNatClampNeg (-1))) 13 (upd ((fX7_had (rset q 19 (upd (q 19) (q 10 (x1).toNatClampNeg).toNatClampNeg ((q 19 (q 10 (x1).toNatClampNeg).toNatClampNeg) + (fX7_late q x1)))) x1) 13) (x1).toNatClampNeg ((fX7_had (rset q 19 (upd (q 19) (q 10 (x1).toNatClampNeg).toNatClampNeg ((q 19 (q 10 (x1).toNatClampNeg).toNatClampNeg) + (fX7_late q x1)))) x1) 17 (q 10 (x1).toNatClampNeg).toNatClampNeg)))) H → va_S (wA (cM cy a) s.heap.size) s.heap H locs → lv_has ls 4 [(0, .ref (a 0)), (1, .int x1), (2, .int (q 10 (x1).toNatClampNeg)), (3, .int (fX7_late q x1))] → W p l e ({ frames := 2, cells := 0, slots := 0, locals := 43 }) s m [.ref (a 0), .int x1].toArray below meth c H locs 0 0 (MQ below (wQi G (cM cy a) s.heap.size (fX7_back q x1).1 (fX7_back q x1).2) [.ref (a 0), .int x1].toArray s 0 0 (wA (cM cy a) s.heap.size)) (F0 m 86 ls [.int v1, .int x1, .ref (a 5)]) := by
        intro v1 H ls locs hv bl_1_0 hP hS hl
        subst hv
        have v_17 : vp_in x1 200 := vp_in_iff.mpr (by omega)
        refine stM_6 (f := ((fX7_had (rset q 19 (upd (q 19) (q 10 (x1).toNatClampNeg).toNatClampNeg ((q 19 (q 10 (x1).toNatClampNeg).toNatClampNeg) + (fX7_late q x1)))) x1) 6)) hx hb hK hP hD hS ((rset_ne (by decide)).trans (rset_ne (by decide))) v_17 dX7_back_86 (fun H locs hP hS => ?_)
        refine lv_aload_n hx hb dX7_back_87 rfl (lv_at hl 0 rfl) ?_
        refine gfX7_43 hx hb hts h_2 hown hK hP h_7 dX7_back_88 ?_
        refine lv_iload_n hx hb dX7_back_91 rfl (lv_at hl 2 rfl) ?_
        have v_18 : vp_in (q 10 (x1).toNatClampNeg) 20 := vp_in_iff.mpr (by omega)
        refine ldM_17 (f := ((fX7_had (rset q 19 (upd (q 19) (q 10 (x1).toNatClampNeg).toNatClampNeg ((q 19 (q 10 (x1).toNatClampNeg).toNatClampNeg) + (fX7_late q x1)))) x1) 17)) hx hb hK hP ((rset_ne (by decide)).trans ((rset_ne (by decide)).trans (rset_ne (by decide)))) v_18 dX7_back_92 ?_
        have J_2 : ∀ (v1 : wSt) (H : Heap) (ls : Array Slot) (locs : List Loc), (fX7_back_j2 q x1) = v1 → iI v1 → va_P G vwCl ((cM cy a) v1) H → va_S (wA (cM cy a) s.heap.size) s.heap H locs → lv_has ls 4 [(3, .int (fX7_late q x1))] → W p l e ({ frames := 2, cells := 0, slots := 0, locals := 43 }) s m [.ref (a 0), .int x1].toArray below meth c H locs 0 0 (MQ below (wQi G (cM cy a) s.heap.size (fX7_back q x1).1 (fX7_back q x1).2) [.ref (a 0), .int x1].toArray s 0 0 (wA (cM cy a) s.heap.size)) (F0 m 103 ls []) := by
          intro v1 H ls locs hv hI_j2 hP hS hl
          subst hv
          refine lv_iload_n hx hb dX7_back_103 rfl (lv_at hl 0 rfl) ?_
          have hF : (fX7_back q x1) = ((fX7_late q x1), (fX7_back_j2 q x1)) := (show (fX7_back q x1) = ((fX7_late q x1), (fX7_back_j2 q x1)) by (rw [fX7_back, if_neg c_2, if_pos c_5]); try rfl)
          exact W.iret (v := (fX7_late q x1)) hx hb hr (fun t ht hW => ⟨⟨(fX7_late q x1), (fX7_back_j2 q x1), rfl, ⟨(p_fst hF), (p_snd hF)⟩, w_ht ht hP⟩, hS.F ht⟩) hS.2.2 dX7_back_104
        refine lv_if_ne (tgt := 103) hx hb dX7_back_93 (by decide) (fun c_19 => ?_) (fun c_19 => ?_)
        · have e_20 := i_ne c_19
          exact J_2 (rset (rset (rset (fX7_had (rset q 19 (upd (q 19) (q 10 (x1).toNatClampNeg).toNatClampNeg ((q 19 (q 10 (x1).toNatClampNeg).toNatClampNeg) + (fX7_late q x1)))) x1) 12 (upd ((fX7_had (rset q 19 (upd (q 19) (q 10 (x1).toNatClampNeg).toNatClampNeg ((q 19 (q 10 (x1).toNatClampNeg).toNatClampNeg) + (fX7_late q x1)))) x1) 12) (x1).toNatClampNeg (-1))) 13 (upd ((fX7_had (rset q 19 (upd (q 19) (q 10 (x1).toNatClampNeg).toNatClampNeg ((q 19 (q 10 (x1).toNatClampNeg).toNatClampNeg) + (fX7_late q x1)))) x1) 13) (x1).toNatClampNeg ((fX7_had (rset q 19 (upd (q 19) (q 10 (x1).toNatClampNeg).toNatClampNeg ((q 19 (q 10 (x1).toNatClampNeg).toNatClampNeg) + (fX7_late q x1)))) x1) 17 (q 10 (x1).toNatClampNeg).toNatClampNeg))) 6 (upd ((fX7_had (rset q 19 (upd (q 19) (q 10 (x1).toNatClampNeg).toNatClampNeg ((q 19 (q 10 (x1).toNatClampNeg).toNatClampNeg) + (fX7_late q x1)))) x1) 6) (x1).toNatClampNeg (fX7_back_j1 q x1))) _ _ _ (by (rw [fX7_back_j2, if_neg c_19]); try rfl) (iI_rset (k := 6) (f := (upd ((fX7_had (rset q 19 (upd (q 19) (q 10 (x1).toNatClampNeg).toNatClampNeg ((q 19 (q 10 (x1).toNatClampNeg).toNatClampNeg) + (fX7_late q x1)))) x1) 6) (x1).toNatClampNeg (fX7_back_j1 q x1))) (by decide) (iI_rset (k := 13) (f := (upd ((fX7_had (rset q 19 (upd (q 19) (q 10 (x1).toNatClampNeg).toNatClampNeg ((q 19 (q 10 (x1).toNatClampNeg).toNatClampNeg) + (fX7_late q x1)))) x1) 13) (x1).toNatClampNeg ((fX7_had (rset q 19 (upd (q 19) (q 10 (x1).toNatClampNeg).toNatClampNeg ((q 19 (q 10 (x1).toNatClampNeg).toNatClampNeg) + (fX7_late q x1)))) x1) 17 (q 10 (x1).toNatClampNeg).toNatClampNeg))) (by decide) (iI_rset (k := 12) (f := (upd ((fX7_had (rset q 19 (upd (q 19) (q 10 (x1).toNatClampNeg).toNatClampNeg ((q 19 (q 10 (x1).toNatClampNeg).toNatClampNeg) + (fX7_late q x1)))) x1) 12) (x1).toNatClampNeg (-1))) (by decide) (iIX7_had (rset q 19 (upd (q 19) (q 10 (x1).toNatClampNeg).toNatClampNeg ((q 19 (q 10 (x1).toNatClampNeg).toNatClampNeg) + (fX7_late q x1)))) x1 (iI_rset (k := 19) (f := (upd (q 19) (q 10 (x1).toNatClampNeg).toNatClampNeg ((q 19 (q 10 (x1).toNatClampNeg).toNatClampNeg) + (fX7_late q x1)))) (by decide) hI))))) hP hS (lv_sub hl [3] rfl)
        · have e_20 := i_eq c_19
          refine lv_aload_n hx hb dX7_back_96 rfl (lv_at hl 0 rfl) ?_
          refine gfX7_25 hx hb hts h_2 hown hK hP h_3 dX7_back_97 ?_
          refine lv_iload_n hx hb dX7_back_100 rfl (lv_at hl 1 rfl) ?_
          refine lv_iconst (v := (-1)) hx hb dX7_back_101 (by decide) ?_
          have v_21 : vp_in x1 200 := vp_in_iff.mpr (by omega)
          refine stM_10 (f := ((fX7_had (rset q 19 (upd (q 19) (q 10 (x1).toNatClampNeg).toNatClampNeg ((q 19 (q 10 (x1).toNatClampNeg).toNatClampNeg) + (fX7_late q x1)))) x1) 10)) hx hb hK hP hD hS ((rset_ne (by decide)).trans ((rset_ne (by decide)).trans (rset_ne (by decide)))) v_21 dX7_back_102 (fun H locs hP hS => ?_)
          exact J_2 (rset (rset (rset (rset (fX7_had (rset q 19 (upd (q 19) (q 10 (x1).toNatClampNeg).toNatClampNeg ((q 19 (q 10 (x1).toNatClampNeg).toNatClampNeg) + (fX7_late q x1)))) x1) 12 (upd ((fX7_had (rset q 19 (upd (q 19) (q 10 (x1).toNatClampNeg).toNatClampNeg ((q 19 (q 10 (x1).toNatClampNeg).toNatClampNeg) + (fX7_late q x1)))) x1) 12) (x1).toNatClampNeg (-1))) 13 (upd ((fX7_had (rset q 19 (upd (q 19) (q 10 (x1).toNatClampNeg).toNatClampNeg ((q 19 (q 10 (x1).toNatClampNeg).toNatClampNeg) + (fX7_late q x1)))) x1) 13) (x1).toNatClampNeg ((fX7_had (rset q 19 (upd (q 19) (q 10 (x1).toNatClampNeg).toNatClampNeg ((q 19 (q 10 (x1).toNatClampNeg).toNatClampNeg) + (fX7_late q x1)))) x1) 17 (q 10 (x1).toNatClampNeg).toNatClampNeg))) 6 (upd ((fX7_had (rset q 19 (upd (q 19) (q 10 (x1).toNatClampNeg).toNatClampNeg ((q 19 (q 10 (x1).toNatClampNeg).toNatClampNeg) + (fX7_late q x1)))) x1) 6) (x1).toNatClampNeg (fX7_back_j1 q x1))) 10 (upd ((fX7_had (rset q 19 (upd (q 19) (q 10 (x1).toNatClampNeg).toNatClampNeg ((q 19 (q 10 (x1).toNatClampNeg).toNatClampNeg) + (fX7_late q x1)))) x1) 10) (x1).toNatClampNeg (-1))) _ _ _ (by (rw [fX7_back_j2, if_pos c_19]); try rfl) (iI_rset (k := 10) (f := (upd ((fX7_had (rset q 19 (upd (q 19) (q 10 (x1).toNatClampNeg).toNatClampNeg ((q 19 (q 10 (x1).toNatClampNeg).toNatClampNeg) + (fX7_late q x1)))) x1) 10) (x1).toNatClampNeg (-1))) (by decide) (iI_rset (k := 6) (f := (upd ((fX7_had (rset q 19 (upd (q 19) (q 10 (x1).toNatClampNeg).toNatClampNeg ((q 19 (q 10 (x1).toNatClampNeg).toNatClampNeg) + (fX7_late q x1)))) x1) 6) (x1).toNatClampNeg (fX7_back_j1 q x1))) (by decide) (iI_rset (k := 13) (f := (upd ((fX7_had (rset q 19 (upd (q 19) (q 10 (x1).toNatClampNeg).toNatClampNeg ((q 19 (q 10 (x1).toNatClampNeg).toNatClampNeg) + (fX7_late q x1)))) x1) 13) (x1).toNatClampNeg ((fX7_had (rset q 19 (upd (q 19) (q 10 (x1).toNatClampNeg).toNatClampNeg ((q 19 (q 10 (x1).toNatClampNeg).toNatClampNeg) + (fX7_late q x1)))) x1) 17 (q 10 (x1).toNatClampNeg).toNatClampNeg))) (by decide) (iI_rset (k := 12) (f := (upd ((fX7_had (rset q 19 (upd (q 19) (q 10 (x1).toNatClampNeg).toNatClampNeg ((q 19 (q 10 (x1).toNatClampNeg).toNatClampNeg) + (fX7_late q x1)))) x1) 12) (x1).toNatClampNeg (-1))) (by decide) (iIX7_had (rset q 19 (upd (q 19) (q 10 (x1).toNatClampNeg).toNatClampNeg ((q 19 (q 10 (x1).toNatClampNeg).toNatClampNeg) + (fX7_late q x1)))) x1 (iI_rset (k := 19) (f := (upd (q 19) (q 10 (x1).toNatClampNeg).toNatClampNeg ((q 19 (q 10 (x1).toNatClampNeg).toNatClampNeg) + (fX7_late q x1)))) (by decide) hI)))))) hP hS (lv_sub hl [3] rfl)
      refine lv_if_le (tgt := 85) hx hb dX7_back_78 (by decide) (fun c_15 => ?_) (fun c_15 => ?_)
      · have e_16 := i_le c_15
        refine lv_iconst (v := 0) hx hb dX7_back_85 (by decide) ?_
        exact J_1 0 _ _ _ (by (rw [fX7_back_j1, if_pos c_15]); try rfl) (show (0 : Int32).toInt = 0 ∨ (0 : Int32).toInt = 3 by omega) hP hS (lv_sub hl [2, 3, 1, 0] rfl)
      · have e_16 := i_nle c_15
        refine lv_iconst (v := 3) hx hb dX7_back_81 (by decide) ?_
        refine lv_goto (tgt := 86) hx hb dX7_back_82 (by decide) ?_
        exact J_1 3 _ _ _ (by (rw [fX7_back_j1, if_neg c_15]); try rfl) (show (3 : Int32).toInt = 0 ∨ (3 : Int32).toInt = 3 by omega) hP hS (lv_sub hl [2, 3, 1, 0] rfl)
    · have e_6 := i_ne c_5
      refine lv_iconst (v := (-1)) hx hb dX7_back_18 (by decide) ?_
      have hF : (fX7_back q x1) = ((-1), q) := (show (fX7_back q x1) = ((-1), q) by (rw [fX7_back, if_neg c_2, if_neg c_5]); try rfl)
      exact W.iret (v := (-1)) hx hb hr (fun t ht hW => ⟨⟨(-1), q, rfl, ⟨(p_fst hF), (p_snd hF)⟩, w_ht ht hP⟩, hS.F ht⟩) hS.2.2 dX7_back_19
