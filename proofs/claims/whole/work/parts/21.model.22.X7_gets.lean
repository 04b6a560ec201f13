set_option maxHeartbeats 4000000 in
set_option maxRecDepth 100000 in
theorem mX7_gets (l : Launch) (G : va_G) (cy : ClassId) (a : Nat → Nat) (sz : Nat) (q : wSt) (x1 : Int32) (hI : iI q) (g0 : 0 ≤ (x1).toInt) (g1 : (x1).toInt < 100) (k0 : 0 ≤ (fX7_shelved q (q 23 (x1).toNatClampNeg) (q 25 (x1).toNatClampNeg)).toInt) (k1 : (fX7_shelved q (q 23 (x1).toNatClampNeg) (q 25 (x1).toNatClampNeg)).toInt < 200) : CtV l yX7_gets wsX7_gets ({ frames := 1, cells := 0, slots := 0, locals := 23 }) G cy (cM cy a) mN sz q [.ref (a 0), .int x1] (fX7_gets q x1) := by
  refine Met.ofW (cc := cX7_gets) (maxL := 4) (ret := none) (by decide) rfl ?_
  intro p e s m args below meth c s₁ B hml hv
  obtain ⟨rfl, hsz, hP, hK, hD0, hN⟩ := hv
  have hx := B.exec
  have hb := B.bytes
  have hr := B.returns
  have hts := atoms_spec (ws := wsX7_gets) B.pre
  have hown : s.vm.findClass RX7 = some m.cls := findClass_of_methodNamed B.named
  have hlocks := B.notSynchronized
  subst hsz
  have hD : ∀ z : wSt, va_D (wA (cM cy a) s.heap.size) ((cM cy a) z) := fun z => w_self (mOk cy a).1 hD0 z
  have hA : ∀ z : Nat, s.heap.size ≤ z → wA (cM cy a) s.heap.size z := fun _ h => Or.inr h
  have hS : va_S (wA (cM cy a) s.heap.size) s.heap s.heap [] := va_S.rf
  have hl := lv_entry ([.ref (a 0), .int x1]) (n := 4) (Nat.le_of_ble_eq_true rfl)
  rw [lg_entry_eq]
  generalize (lg_sl ([.ref (a 0), .int x1]) ++ List.replicate (4 - (lg_sl ([.ref (a 0), .int x1])).length) Slot.unset).toArray = ls at hl ⊢
  have hl : lv_has ls 4 [(0, .ref (a 0)), (1, .int x1)] := hl
  have h_1 := hts (.fieldLink RX7 52 RX7 "wisher" "[I") (by decide +kernel)
  have h_2 := (show ∀ w ∈ u_ws RX7 TX7 35, w ∈ wsX7_gets by decide +kernel)
  have h_3 := hts (.fieldLink RX7 55 RX7 "wishTitle" "[I") (by decide +kernel)
  have h_4 := hts (.fieldLink RX7 61 RX7 "had" "[I") (by decide +kernel)
  have h_5 := hts (.fieldLink RX7 25 RX7 "readerOf" "[I") (by decide +kernel)
  have h_6 := hts (.fieldLink RX7 28 RX7 "wishOf" "[I") (by decide +kernel)
  have h_7 := hts (.fieldLink RX7 37 RX7 "lent" "[I") (by decide +kernel)
  have h_8 := hts (.fieldLink RX7 34 RX7 "toGo" "[I") (by decide +kernel)
  have h_9 := hts (.fieldLink RX7 43 RX7 "boxDays" "[I") (by decide +kernel)
  have h_10 := hts (.fieldLink RX7 22 RX7 "state" "[I") (by decide +kernel)
  have h_11 := hts (.fieldLink RX7 31 RX7 "since" "[I") (by decide +kernel)
  have h_12 := hts (.fieldLink RX7 112 RX7 "now" "I") (by decide +kernel)
  have t_m1 : ((-1) : Int32).toInt = -1 := rfl
  have t_0 : (0 : Int32).toInt = 0 := rfl
  have t_1 : (1 : Int32).toInt = 1 := rfl
  have t_2 : (2 : Int32).toInt = 2 := rfl
  have hB := iI_b hI
  refine lv_aload_n hx hb dX7_gets_0 rfl (lv_at hl 0 rfl) ?_
  refine gfX7_52 hx hb hts h_2 hown hK hP h_1 dX7_gets_1 ?_
  refine lv_iload_n hx hb dX7_gets_4 rfl (lv_at hl 1 rfl) ?_
  have v_1 : vp_in x1 100 := vp_in_iff.mpr (by omega)
  refine ldM_22 (f := (q 22)) hx hb hK hP rfl v_1 dX7_gets_5 ?_
  have e_2 := iI_22 hI _ (i_clamp v_1)
  refine lv_istore_n (lv' := [(2, .int (q 22 (x1).toNatClampNeg)), (0, .ref (a 0)), (1, .int x1)]) hx hb dX7_gets_6 rfl hl (by decide) rfl (fun ls hl => ?_)
  refine lv_aload_n hx hb dX7_gets_7 rfl (lv_at hl 1 rfl) ?_
  refine lv_aload_n hx hb dX7_gets_8 rfl (lv_at hl 1 rfl) ?_
  refine gfX7_55 hx hb hts h_2 hown hK hP h_3 dX7_gets_9 ?_
  refine lv_iload_n hx hb dX7_gets_12 rfl (lv_at hl 2 rfl) ?_
  have v_3 : vp_in x1 100 := vp_in_iff.mpr (by omega)
  refine ldM_23 (f := (q 23)) hx hb hK hP rfl v_3 dX7_gets_13 ?_
  have e_4 := iI_23 hI _ (i_clamp v_3)
  refine lv_aload_n hx hb dX7_gets_14 rfl (lv_at hl 1 rfl) ?_
  refine gfX7_61 hx hb hts h_2 hown hK hP h_4 dX7_gets_15 ?_
  refine lv_iload_n hx hb dX7_gets_18 rfl (lv_at hl 2 rfl) ?_
  have v_5 : vp_in x1 100 := vp_in_iff.mpr (by omega)
  refine ldM_25 (f := (q 25)) hx hb hK hP rfl v_5 dX7_gets_19 ?_
  refine w_goI (va_runV (As := [.int (q 23 (x1).toNatClampNeg), .int (q 25 (x1).toNatClampNeg)]) (rest := []) ⟨hx, hb, hml, hown, hts⟩ (mX7_shelved l G cy a _ q (q 23 (x1).toNatClampNeg) (q 25 (x1).toNatClampNeg) (by omega)) (cwV 2 hts gX7_gets_X7_shelved rfl rfl rfl (by decide +kernel) ⟨Nat.le_of_ble_eq_true rfl, Nat.le_of_ble_eq_true rfl⟩) (w_pre (mOk cy a) (va_recv hK hP (ci := 7) (q0 := 0) rfl rfl) hK hP hD hS hA hN) rfl rfl hl.1 rfl (lv_room (Nat.le_of_ble_eq_true rfl)) dX7_gets_20 ⟨Nat.le_of_ble_eq_true rfl, Nat.le_of_ble_eq_true rfl⟩) hD hS hA (fun H locs hP hS => ?_)
  refine lv_istore_n (lv' := [(3, .int (fX7_shelved q (q 23 (x1).toNatClampNeg) (q 25 (x1).toNatClampNeg))), (2, .int (q 22 (x1).toNatClampNeg)), (0, .ref (a 0)), (1, .int x1)]) hx hb dX7_gets_23 rfl hl (by decide) rfl (fun ls hl => ?_)
  refine lv_aload_n hx hb dX7_gets_24 rfl (lv_at hl 2 rfl) ?_
  refine gfX7_25 hx hb hts h_2 hown hK hP h_5 dX7_gets_25 ?_
  refine lv_iload_n hx hb dX7_gets_28 rfl (lv_at hl 0 rfl) ?_
  refine lv_iload_n hx hb dX7_gets_29 rfl (lv_at hl 1 rfl) ?_
  have v_6 : vp_in (fX7_shelved q (q 23 (x1).toNatClampNeg) (q 25 (x1).toNatClampNeg)) 200 := vp_in_iff.mpr (by omega)
  refine stM_10 (f := (q 10)) hx hb hK hP hD hS rfl v_6 dX7_gets_30 (fun H locs hP hS => ?_)
  refine lv_aload_n hx hb dX7_gets_31 rfl (lv_at hl 2 rfl) ?_
  refine gfX7_28 hx hb hts h_2 hown hK hP h_6 dX7_gets_32 ?_
  refine lv_iload_n hx hb dX7_gets_35 rfl (lv_at hl 0 rfl) ?_
  refine lv_iload_n hx hb dX7_gets_36 rfl (lv_at hl 3 rfl) ?_
  have v_7 : vp_in (fX7_shelved q (q 23 (x1).toNatClampNeg) (q 25 (x1).toNatClampNeg)) 200 := vp_in_iff.mpr (by omega)
  refine stM_11 (f := (q 11)) hx hb hK hP hD hS (rset_ne (by decide)) v_7 dX7_gets_37 (fun H locs hP hS => ?_)
  refine lv_aload_n hx hb dX7_gets_38 rfl (lv_at hl 2 rfl) ?_
  refine gfX7_37 hx hb hts h_2 hown hK hP h_7 dX7_gets_39 ?_
  refine lv_iload_n hx hb dX7_gets_42 rfl (lv_at hl 0 rfl) ?_
  refine lv_dup2_11 hx hb dX7_gets_43 rfl rfl ?_
  have v_8 : vp_in (fX7_shelved q (q 23 (x1).toNatClampNeg) (q 25 (x1).toNatClampNeg)) 200 := vp_in_iff.mpr (by omega)
  refine ldM_14 (f := (q 14)) hx hb hK hP ((rset_ne (by decide)).trans (rset_ne (by decide))) v_8 dX7_gets_44 ?_
  refine lv_iconst (v := 1) hx hb dX7_gets_45 (by decide) ?_
  refine lv_iadd hx hb dX7_gets_46 ?_
  have v_9 : vp_in (fX7_shelved q (q 23 (x1).toNatClampNeg) (q 25 (x1).toNatClampNeg)) 200 := vp_in_iff.mpr (by omega)
  refine stM_14 (f := (q 14)) hx hb hK hP hD hS ((rset_ne (by decide)).trans (rset_ne (by decide))) v_9 dX7_gets_47 (fun H locs hP hS => ?_)
  refine lv_aload_n hx hb dX7_gets_48 rfl (lv_at hl 2 rfl) ?_
  refine gfX7_34 hx hb hts h_2 hown hK hP h_8 dX7_gets_49 ?_
  refine lv_iload_n hx hb dX7_gets_52 rfl (lv_at hl 0 rfl) ?_
  refine lv_aload_n hx hb dX7_gets_53 rfl (lv_at hl 2 rfl) ?_
  refine gfX7_43 hx hb hts h_2 hown hK hP h_9 dX7_gets_54 ?_
  refine lv_iload_n hx hb dX7_gets_57 rfl (lv_at hl 1 rfl) ?_
  have v_10 : vp_in (q 22 (x1).toNatClampNeg) 20 := vp_in_iff.mpr (by omega)
  refine ldM_17 (f := (q 17)) hx hb hK hP ((rset_ne (by decide)).trans ((rset_ne (by decide)).trans (rset_ne (by decide)))) v_10 dX7_gets_58 ?_
  have v_11 : vp_in (fX7_shelved q (q 23 (x1).toNatClampNeg) (q 25 (x1).toNatClampNeg)) 200 := vp_in_iff.mpr (by omega)
  refine stM_13 (f := (q 13)) hx hb hK hP hD hS ((rset_ne (by decide)).trans ((rset_ne (by decide)).trans (rset_ne (by decide)))) v_11 dX7_gets_59 (fun H locs hP hS => ?_)
  refine lv_aload_n hx hb dX7_gets_60 rfl (lv_at hl 2 rfl) ?_
  refine gfX7_22 hx hb hts h_2 hown hK hP h_10 dX7_gets_61 ?_
  refine lv_iload_n hx hb dX7_gets_64 rfl (lv_at hl 0 rfl) ?_
  refine lv_aload_n hx hb dX7_gets_65 rfl (lv_at hl 2 rfl) ?_
  refine gfX7_43 hx hb hts h_2 hown hK hP h_9 dX7_gets_66 ?_
  refine lv_iload_n hx hb dX7_gets_69 rfl (lv_at hl 1 rfl) ?_
  have v_12 : vp_in (q 22 (x1).toNatClampNeg) 20 := vp_in_iff.mpr (by omega)
  refine ldM_17 (f := (q 17)) hx hb hK hP ((rset_ne (by decide)).trans ((rset_ne (by decide)).trans ((rset_ne (by decide)).trans (rset_ne (by decide))))) v_12 dX7_gets_70 ?_
  have J_1 : ∀ (v1 : Int32) (H : Heap) (ls : Array Slot) (locs : List Loc), (fX7_gets_j1 q x1) = v1 → ((v1).toInt = 1 ∨ (v1).toInt = 2) → va_P G vwCl ((cM cy a) (rset (rset (rset (rset q 10 (upd (q 10) (fX7_shelved q (q 23 (x1).toNatClampNeg) (q 25 (x1).toNatClampNeg)).toNatClampNeg (q 22 (x1).toNatClampNeg))) 11 (upd (q 11) (fX7_shelved q (q 23 (x1).toNatClampNeg) (q 25 (x1).toNatClampNeg)).toNatClampNeg x1)) 14 (upd (q 14) (fX7_shelved q (q 23 (x1).toNatClampNeg) (q 25 (x1).toNatClampNeg)).toNatClampNeg ((q 14 (fX7_shelved q (q 23 (x1).toNatClampNeg) (q 25 (x1).toNatClampNeg)).toNatClampNeg) + 1))) 13 (upd (q 13) (fX7_shelved q (q 23 (x1).toNatClampNeg) (q 25 (x1).toNatClampNeg)).toNatClampNeg (q 17 (q 22 (x1).toNatClampNeg).toNatClampNeg)))) H → va_S (wA (cM cy a) s.heap.size) s.heap H locs → lv_has ls 4 [(0, .ref (a 0)), (2, .int (q 22 (x1).toNatClampNeg)), (3, .int (fX7_shelved q (q 23 (x1).toNatClampNeg) (q 25 (x1).toNatClampNeg)))] → W p l e ({ frames := 1, cells := 0, slots := 0, locals := 23 }) s m [.ref (a 0), .int x1].toArray below meth c H locs 0 0 (MQ below (wQv G (cM cy a) s.heap.size (fX7_gets q x1)) [.ref (a 0), .int x1].toArray s 0 0 (wA (cM cy a) s.heap.size)) (F0 m 79 ls [.int v1, .int (fX7_shelved q (q 23 (x1).toNatClampNeg) (q 25 (x1).toNatClampNeg)), .ref (a 5)]) := by
    intro v1 H ls locs hv bl_1_0 hP hS hl
    subst hv
    have v_15 : vp_in (fX7_shelved q (q 23 (x1).toNatClampNeg) (q 25 (x1).toNatClampNeg)) 200 := vp_in_iff.mpr (by omega)
    refine stM_6 (f := (q 6)) hx hb hK hP hD hS ((rset_ne (by decide)).trans ((rset_ne (by decide)).trans ((rset_ne (by decide)).trans (rset_ne (by decide))))) v_15 dX7_gets_79 (fun H locs hP hS => ?_)
    refine lv_aload_n hx hb dX7_gets_80 rfl (lv_at hl 0 rfl) ?_
    refine gfX7_31 hx hb hts h_2 hown hK hP h_11 dX7_gets_81 ?_
    refine lv_iload_n hx hb dX7_gets_84 rfl (lv_at hl 2 rfl) ?_
    refine lv_aload_n hx hb dX7_gets_85 rfl (lv_at hl 0 rfl) ?_
    refine gfX7_43 hx hb hts h_2 hown hK hP h_9 dX7_gets_86 ?_
    refine lv_iload_n hx hb dX7_gets_89 rfl (lv_at hl 1 rfl) ?_
    have v_16 : vp_in (q 22 (x1).toNatClampNeg) 20 := vp_in_iff.mpr (by omega)
    refine ldM_17 (f := (q 17)) hx hb hK hP ((rset_ne (by decide)).trans ((rset_ne (by decide)).trans ((rset_ne (by decide)).trans ((rset_ne (by decide)).trans (rset_ne (by decide)))))) v_16 dX7_gets_90 ?_
    have J_2 : ∀ (v1 : Int32) (H : Heap) (ls : Array Slot) (locs : List Loc), (fX7_gets_j2 q x1) = v1 → va_P G vwCl ((cM cy a) (rset (rset (rset (rset (rset q 10 (upd (q 10) (fX7_shelved q (q 23 (x1).toNatClampNeg) (q 25 (x1).toNatClampNeg)).toNatClampNeg (q 22 (x1).toNatClampNeg))) 11 (upd (q 11) (fX7_shelved q (q 23 (x1).toNatClampNeg) (q 25 (x1).toNatClampNeg)).toNatClampNeg x1)) 14 (upd (q 14) (fX7_shelved q (q 23 (x1).toNatClampNeg) (q 25 (x1).toNatClampNeg)).toNatClampNeg ((q 14 (fX7_shelved q (q 23 (x1).toNatClampNeg) (q 25 (x1).toNatClampNeg)).toNatClampNeg) + 1))) 13 (upd (q 13) (fX7_shelved q (q 23 (x1).toNatClampNeg) (q 25 (x1).toNatClampNeg)).toNatClampNeg (q 17 (q 22 (x1).toNatClampNeg).toNatClampNeg))) 6 (upd (q 6) (fX7_shelved q (q 23 (x1).toNatClampNeg) (q 25 (x1).toNatClampNeg)).toNatClampNeg (fX7_gets_j1 q x1)))) H → va_S (wA (cM cy a) s.heap.size) s.heap H locs → lv_has ls 4 [] → W p l e ({ frames := 1, cells := 0, slots := 0, locals := 23 }) s m [.ref (a 0), .int x1].toArray below meth c H locs 0 0 (MQ below (wQv G (cM cy a) s.heap.size (fX7_gets q x1)) [.ref (a 0), .int x1].toArray s 0 0 (wA (cM cy a) s.heap.size)) (F0 m 102 ls [.int v1, .int (fX7_shelved q (q 23 (x1).toNatClampNeg) (q 25 (x1).toNatClampNeg)), .ref (a 8)]) := by
      intro v1 H ls locs hv hP hS hl
      subst hv
      have v_19 : vp_in (fX7_shelved q (q 23 (x1).toNatClampNeg) (q 25 (x1).toNatClampNeg)) 200 := vp_in_iff.mpr (by omega)
      refine stM_12 (f := (q 12)) hx hb hK hP hD hS ((rset_ne (by decide)).trans ((rset_ne (by decide)).trans ((rset_ne (by decide)).trans ((rset_ne (by decide)).trans (rset_ne (by decide)))))) v_19 dX7_gets_102 (fun H locs hP hS => ?_)
      exact W.vret hx hb hr (fun t ht hW => ⟨⟨(rset (rset (rset (rset (rset (rset q 10 (upd (q 10) (fX7_shelved q (q 23 (x1).toNatClampNeg) (q 25 (x1).toNatClampNeg)).toNatClampNeg (q 22 (x1).toNatClampNeg))) 11 (upd (q 11) (fX7_shelved q (q 23 (x1).toNatClampNeg) (q 25 (x1).toNatClampNeg)).toNatClampNeg x1)) 14 (upd (q 14) (fX7_shelved q (q 23 (x1).toNatClampNeg) (q 25 (x1).toNatClampNeg)).toNatClampNeg ((q 14 (fX7_shelved q (q 23 (x1).toNatClampNeg) (q 25 (x1).toNatClampNeg)).toNatClampNeg) + 1))) 13 (upd (q 13) (fX7_shelved q (q 23 (x1).toNatClampNeg) (q 25 (x1).toNatClampNeg)).toNatClampNeg (q 17 (q 22 (x1).toNatClampNeg).toNatClampNeg))) 6 (upd (q 6) (fX7_shelved q (q 23 (x1).toNatClampNeg) (q 25 (x1).toNatClampNeg)).toNatClampNeg (fX7_gets_j1 q x1))) 12 (upd (q 12) (fX7_shelved q (q 23 (x1).toNatClampNeg) (q 25 (x1).toNatClampNeg)).toNatClampNeg (fX7_gets_j2 q x1))), rfl, (show (fX7_gets q x1) = (rset (rset (rset (rset (rset (rset q 10 (upd (q 10) (fX7_shelved q (q 23 (x1).toNatClampNeg) (q 25 (x1).toNatClampNeg)).toNatClampNeg (q 22 (x1).toNatClampNeg))) 11 (upd (q 11) (fX7_shelved q (q 23 (x1).toNatClampNeg) (q 25 (x1).toNatClampNeg)).toNatClampNeg x1)) 14 (upd (q 14) (fX7_shelved q (q 23 (x1).toNatClampNeg) (q 25 (x1).toNatClampNeg)).toNatClampNeg ((q 14 (fX7_shelved q (q 23 (x1).toNatClampNeg) (q 25 (x1).toNatClampNeg)).toNatClampNeg) + 1))) 13 (upd (q 13) (fX7_shelved q (q 23 (x1).toNatClampNeg) (q 25 (x1).toNatClampNeg)).toNatClampNeg (q 17 (q 22 (x1).toNatClampNeg).toNatClampNeg))) 6 (upd (q 6) (fX7_shelved q (q 23 (x1).toNatClampNeg) (q 25 (x1).toNatClampNeg)).toNatClampNeg (fX7_gets_j1 q x1))) 12 (upd (q 12) (fX7_shelved q (q 23 (x1).toNatClampNeg) (q 25 (x1).toNatClampNeg)).toNatClampNeg (fX7_gets_j2 q x1))) by (rw [fX7_gets]); try rfl).symm, w_ht ht hP⟩, hS.F ht⟩) hS.2.2 dX7_gets_103
    refine lv_if_le (tgt := 98) hx hb dX7_gets_91 (by decide) (fun c_17 => ?_) (fun c_17 => ?_)
    · have e_18 := i_le c_17
      refine lv_aload_n hx hb dX7_gets_98 rfl (lv_at hl 0 rfl) ?_
      refine gfX7_112 (v := (q 30 0)) hx hb hts h_2 hown hK hP h_12 (congrFun ((rset_ne (by decide)).trans ((rset_ne (by decide)).trans ((rset_ne (by decide)).trans ((rset_ne (by decide)).trans (rset_ne (by decide)))))) 0) dX7_gets_99 ?_
      exact J_2 (q 30 0) _ _ _ (by (rw [fX7_gets_j2, if_pos c_17]); try rfl) hP hS (lv_sub hl [] rfl)
    · have e_18 := i_nle c_17
      refine lv_iconst (v := (-1)) hx hb dX7_gets_94 (by decide) ?_
      refine lv_goto (tgt := 102) hx hb dX7_gets_95 (by decide) ?_
      exact J_2 (-1) _ _ _ (by (rw [fX7_gets_j2, if_neg c_17]); try rfl) hP hS (lv_sub hl [] rfl)
  refine lv_if_le (tgt := 78) hx hb dX7_gets_71 (by decide) (fun c_13 => ?_) (fun c_13 => ?_)
  · have e_14 := i_le c_13
    refine lv_iconst (v := 1) hx hb dX7_gets_78 (by decide) ?_
    exact J_1 1 _ _ _ (by (rw [fX7_gets_j1, if_pos c_13]); try rfl) (show (1 : Int32).toInt = 1 ∨ (1 : Int32).toInt = 2 by omega) hP hS (lv_sub hl [2, 1, 0] rfl)
  · have e_14 := i_nle c_13
    refine lv_iconst (v := 2) hx hb dX7_gets_74 (by decide) ?_
    refine lv_goto (tgt := 79) hx hb dX7_gets_75 (by decide) ?_
    exact J_1 2 _ _ _ (by (rw [fX7_gets_j1, if_neg c_13]); try rfl) (show (2 : Int32).toInt = 1 ∨ (2 : Int32).toInt = 2 by omega) hP hS (lv_sub hl [2, 1, 0] rfl)
