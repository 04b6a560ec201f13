set_option maxHeartbeats 4000000 in
set_option maxRecDepth 100000 in
theorem mX7_had (l : Launch) (G : va_G) (cy : ClassId) (a : Nat → Nat) (sz : Nat) (q : wSt) (x1 : Int32) (hI : iI q) (g0 : 0 ≤ (x1).toInt) (g1 : (x1).toInt < 200) (k0 : (q 11 (x1).toNatClampNeg).toInt = -1 ∨ (0 ≤ (q 11 (x1).toNatClampNeg).toInt ∧ (q 11 (x1).toNatClampNeg).toInt < 100)) : CtV l yX7_had wsX7_had ({ frames := 0, cells := 0, slots := 0, locals := 0 }) G cy (cM cy a) mN sz q [.ref (a 0), .int x1] (fX7_had q x1) := by
  refine Met.ofW (cc := cX7_had) (maxL := 3) (ret := none) (by decide) rfl ?_
  intro p e s m args below meth c s₁ B hml hv
  obtain ⟨rfl, hsz, hP, hK, hD0, hN⟩ := hv
  have hx := B.exec
  have hb := B.bytes
  have hr := B.returns
  have hts := atoms_spec (ws := wsX7_had) B.pre
  have hown : s.vm.findClass RX7 = some m.cls := findClass_of_methodNamed B.named
  have hlocks := B.notSynchronized
  subst hsz
  have hD : ∀ z : wSt, va_D (wA (cM cy a) s.heap.size) ((cM cy a) z) := fun z => w_self (mOk cy a).1 hD0 z
  have hA : ∀ z : Nat, s.heap.size ≤ z → wA (cM cy a) s.heap.size z := fun _ h => Or.inr h
  have hS : va_S (wA (cM cy a) s.heap.size) s.heap s.heap [] := va_S.rf
  have hl := lv_entry ([.ref (a 0), .int x1]) (n := 3) (Nat.le_of_ble_eq_true rfl)
  rw [lg_entry_eq]
  generalize (lg_sl ([.ref (a 0), .int x1]) ++ List.replicate (3 - (lg_sl ([.ref (a 0), .int x1])).length) Slot.unset).toArray = ls at hl ⊢
  have hl : lv_has ls 3 [(0, .ref (a 0)), (1, .int x1)] := hl
  have h_1 := hts (.fieldLink RX7 28 RX7 "wishOf" "[I") (by decide +kernel)
  have h_2 := (show ∀ w ∈ u_ws RX7 TX7 35, w ∈ wsX7_had by decide +kernel)
  have h_3 := hts (.fieldLink RX7 61 RX7 "had" "[I") (by decide +kernel)
  have h_4 := hts (.fieldLink RX7 64 RX7 "waitsFrom" "[I") (by decide +kernel)
  have h_5 := hts (.fieldLink RX7 112 RX7 "now" "I") (by decide +kernel)
  have h_6 := hts (.fieldLink RX7 58 RX7 "wishState" "[I") (by decide +kernel)
  have h_7 := hts (.fieldLink RX7 9 RX7 "volumes" "[I") (by decide +kernel)
  have h_8 := hts (.fieldLink RX7 55 RX7 "wishTitle" "[I") (by decide +kernel)
  have t_m1 : ((-1) : Int32).toInt = -1 := rfl
  have t_0 : (0 : Int32).toInt = 0 := rfl
  have t_1 : (1 : Int32).toInt = 1 := rfl
  have hB := iI_b hI
  refine lv_aload_n hx hb dX7_had_0 rfl (lv_at hl 0 rfl) ?_
  refine gfX7_28 hx hb hts h_2 hown hK hP h_1 dX7_had_1 ?_
  refine lv_iload_n hx hb dX7_had_4 rfl (lv_at hl 1 rfl) ?_
  have v_1 : vp_in x1 200 := vp_in_iff.mpr (by omega)
  refine ldM_11 (f := (q 11)) hx hb hK hP rfl v_1 dX7_had_5 ?_
  refine lv_istore_n (lv' := [(2, .int (q 11 (x1).toNatClampNeg)), (0, .ref (a 0)), (1, .int x1)]) hx hb dX7_had_6 rfl hl (by decide) rfl (fun ls hl => ?_)
  refine lv_aload_n hx hb dX7_had_7 rfl (lv_at hl 1 rfl) ?_
  refine gfX7_28 hx hb hts h_2 hown hK hP h_1 dX7_had_8 ?_
  refine lv_iload_n hx hb dX7_had_11 rfl (lv_at hl 2 rfl) ?_
  refine lv_iconst (v := (-1)) hx hb dX7_had_12 (by decide) ?_
  have v_2 : vp_in x1 200 := vp_in_iff.mpr (by omega)
  refine stM_11 (f := (q 11)) hx hb hK hP hD hS rfl v_2 dX7_had_13 (fun H locs hP hS => ?_)
  refine lv_iload_n hx hb dX7_had_14 rfl (lv_at hl 0 rfl) ?_
  refine lv_iconst (v := (-1)) hx hb dX7_had_15 (by decide) ?_
  refine lv_icmp_ne (tgt := 20) hx hb dX7_had_16 (by decide) (fun c_3 => ?_) (fun c_3 => ?_)
  · have e_4 := i_ne c_3
    refine lv_aload_n hx hb dX7_had_20 rfl (lv_at hl 1 rfl) ?_
    refine gfX7_61 hx hb hts h_2 hown hK hP h_3 dX7_had_21 ?_
    refine lv_iload_n hx hb dX7_had_24 rfl (lv_at hl 0 rfl) ?_
    refine lv_dup2_11 hx hb dX7_had_25 rfl rfl ?_
    have v_5 : vp_in (q 11 (x1).toNatClampNeg) 100 := vp_in_iff.mpr (by omega)
    refine ldM_25 (f := (q 25)) hx hb hK hP (rset_ne (by decide)) v_5 dX7_had_26 ?_
    refine lv_iconst (v := 1) hx hb dX7_had_27 (by decide) ?_
    refine lv_iadd hx hb dX7_had_28 ?_
    have v_6 : vp_in (q 11 (x1).toNatClampNeg) 100 := vp_in_iff.mpr (by omega)
    refine stM_25 (f := (q 25)) hx hb hK hP hD hS (rset_ne (by decide)) v_6 dX7_had_29 (fun H locs hP hS => ?_)
    refine lv_aload_n hx hb dX7_had_30 rfl (lv_at hl 1 rfl) ?_
    refine gfX7_64 hx hb hts h_2 hown hK hP h_4 dX7_had_31 ?_
    refine lv_iload_n hx hb dX7_had_34 rfl (lv_at hl 0 rfl) ?_
    refine lv_aload_n hx hb dX7_had_35 rfl (lv_at hl 1 rfl) ?_
    refine gfX7_112 (v := (q 30 0)) hx hb hts h_2 hown hK hP h_5 (congrFun ((rset_ne (by decide)).trans (rset_ne (by decide))) 0) dX7_had_36 ?_
    have v_7 : vp_in (q 11 (x1).toNatClampNeg) 100 := vp_in_iff.mpr (by omega)
    refine stM_27 (f := (q 27)) hx hb hK hP hD hS ((rset_ne (by decide)).trans (rset_ne (by decide))) v_7 dX7_had_39 (fun H locs hP hS => ?_)
    refine lv_aload_n hx hb dX7_had_40 rfl (lv_at hl 1 rfl) ?_
    refine gfX7_58 hx hb hts h_2 hown hK hP h_6 dX7_had_41 ?_
    refine lv_iload_n hx hb dX7_had_44 rfl (lv_at hl 0 rfl) ?_
    have v_8 : vp_in (q 11 (x1).toNatClampNeg) 100 := vp_in_iff.mpr (by omega)
    refine ldM_24 (f := (q 24)) hx hb hK hP ((rset_ne (by decide)).trans ((rset_ne (by decide)).trans (rset_ne (by decide)))) v_8 dX7_had_45 ?_
    refine lv_if_ne (tgt := 76) hx hb dX7_had_46 (by decide) (fun c_9 => ?_) (fun c_9 => ?_)
    · have e_10 := i_ne c_9
      exact W.vret hx hb hr (fun t ht hW => ⟨⟨(rset (rset (rset q 11 (upd (q 11) (x1).toNatClampNeg (-1))) 25 (upd (q 25) (q 11 (x1).toNatClampNeg).toNatClampNeg ((q 25 (q 11 (x1).toNatClampNeg).toNatClampNeg) + 1))) 27 (upd (q 27) (q 11 (x1).toNatClampNeg).toNatClampNeg (q 30 0))), rfl, (show (fX7_had q x1) = (rset (rset (rset q 11 (upd (q 11) (x1).toNatClampNeg (-1))) 25 (upd (q 25) (q 11 (x1).toNatClampNeg).toNatClampNeg ((q 25 (q 11 (x1).toNatClampNeg).toNatClampNeg) + 1))) 27 (upd (q 27) (q 11 (x1).toNatClampNeg).toNatClampNeg (q 30 0))) by (rw [fX7_had, if_neg c_3, if_neg c_9]); try rfl).symm, w_ht ht hP⟩, hS.F ht⟩) hS.2.2 dX7_had_76
    · have e_10 := i_eq c_9
      refine lv_aload_n hx hb dX7_had_49 rfl (lv_at hl 1 rfl) ?_
      refine gfX7_61 hx hb hts h_2 hown hK hP h_3 dX7_had_50 ?_
      refine lv_iload_n hx hb dX7_had_53 rfl (lv_at hl 0 rfl) ?_
      have v_11 : vp_in (q 11 (x1).toNatClampNeg) 100 := vp_in_iff.mpr (by omega)
      refine ldM_25 (f := (upd (q 25) (q 11 (x1).toNatClampNeg).toNatClampNeg ((q 25 (q 11 (x1).toNatClampNeg).toNatClampNeg) + 1))) hx hb hK hP ((rset_ne (by decide)).trans rset_eq) v_11 dX7_had_54 ?_
      refine lv_aload_n hx hb dX7_had_55 rfl (lv_at hl 1 rfl) ?_
      refine gfX7_9 hx hb hts h_2 hown hK hP h_7 dX7_had_56 ?_
      refine lv_aload_n hx hb dX7_had_59 rfl (lv_at hl 1 rfl) ?_
      refine gfX7_55 hx hb hts h_2 hown hK hP h_8 dX7_had_60 ?_
      refine lv_iload_n hx hb dX7_had_63 rfl (lv_at hl 0 rfl) ?_
      have v_12 : vp_in (q 11 (x1).toNatClampNeg) 100 := vp_in_iff.mpr (by omega)
      refine ldM_23 (f := (q 23)) hx hb hK hP ((rset_ne (by decide)).trans ((rset_ne (by decide)).trans (rset_ne (by decide)))) v_12 dX7_had_64 ?_
      have e_13 := iI_23 (iI_rset (k := 27) (f := (upd (q 27) (q 11 (x1).toNatClampNeg).toNatClampNeg (q 30 0))) (by decide) (iI_rset (k := 25) (f := (upd (q 25) (q 11 (x1).toNatClampNeg).toNatClampNeg ((q 25 (q 11 (x1).toNatClampNeg).toNatClampNeg) + 1))) (by decide) (iI_rset (k := 11) (f := (upd (q 11) (x1).toNatClampNeg (-1))) (by decide) hI))) _ (i_clamp v_12)
      rw [show (rset (rset (rset q 11 (upd (q 11) (x1).toNatClampNeg (-1))) 25 (upd (q 25) (q 11 (x1).toNatClampNeg).toNatClampNeg ((q 25 (q 11 (x1).toNatClampNeg).toNatClampNeg) + 1))) 27 (upd (q 27) (q 11 (x1).toNatClampNeg).toNatClampNeg (q 30 0))) 23 = (q 23) from ((rset_ne (by decide)).trans ((rset_ne (by decide)).trans (rset_ne (by decide))))] at e_13
      have v_14 : vp_in (q 23 (q 11 (x1).toNatClampNeg).toNatClampNeg) 12 := vp_in_iff.mpr (by omega)
      refine ldM_0 (f := (q 0)) hx hb hK hP ((rset_ne (by decide)).trans ((rset_ne (by decide)).trans (rset_ne (by decide)))) v_14 dX7_had_65 ?_
      have e_15 := iI_0 (iI_rset (k := 27) (f := (upd (q 27) (q 11 (x1).toNatClampNeg).toNatClampNeg (q 30 0))) (by decide) (iI_rset (k := 25) (f := (upd (q 25) (q 11 (x1).toNatClampNeg).toNatClampNeg ((q 25 (q 11 (x1).toNatClampNeg).toNatClampNeg) + 1))) (by decide) (iI_rset (k := 11) (f := (upd (q 11) (x1).toNatClampNeg (-1))) (by decide) hI))) _ (i_clamp v_14)
      rw [show (rset (rset (rset q 11 (upd (q 11) (x1).toNatClampNeg (-1))) 25 (upd (q 25) (q 11 (x1).toNatClampNeg).toNatClampNeg ((q 25 (q 11 (x1).toNatClampNeg).toNatClampNeg) + 1))) 27 (upd (q 27) (q 11 (x1).toNatClampNeg).toNatClampNeg (q 30 0))) 0 = (q 0) from ((rset_ne (by decide)).trans ((rset_ne (by decide)).trans (rset_ne (by decide))))] at e_15
      refine lv_icmp_ne (tgt := 76) hx hb dX7_had_66 (by decide) (fun c_16 => ?_) (fun c_16 => ?_)
      · have e_17 := i_ne c_16
        exact W.vret hx hb hr (fun t ht hW => ⟨⟨(rset (rset (rset q 11 (upd (q 11) (x1).toNatClampNeg (-1))) 25 (upd (q 25) (q 11 (x1).toNatClampNeg).toNatClampNeg ((q 25 (q 11 (x1).toNatClampNeg).toNatClampNeg) + 1))) 27 (upd (q 27) (q 11 (x1).toNatClampNeg).toNatClampNeg (q 30 0))), rfl, (show (fX7_had q x1) = (rset (rset (rset q 11 (upd (q 11) (x1).toNatClampNeg (-1))) 25 (upd (q 25) (q 11 (x1).toNatClampNeg).toNatClampNeg ((q 25 (q 11 (x1).toNatClampNeg).toNatClampNeg) + 1))) 27 (upd (q 27) (q 11 (x1).toNatClampNeg).toNatClampNeg (q 30 0))) by (rw [fX7_had, if_neg c_3, if_pos c_9, if_neg c_16]); try rfl).symm, w_ht ht hP⟩, hS.F ht⟩) hS.2.2 dX7_had_76
      · have e_17 := i_eq c_16
        refine lv_aload_n hx hb dX7_had_69 rfl (lv_at hl 1 rfl) ?_
        refine gfX7_58 hx hb hts h_2 hown hK hP h_6 dX7_had_70 ?_
        refine lv_iload_n hx hb dX7_had_73 rfl (lv_at hl 0 rfl) ?_
        refine lv_iconst (v := 1) hx hb dX7_had_74 (by decide) ?_
        have v_18 : vp_in (q 11 (x1).toNatClampNeg) 100 := vp_in_iff.mpr (by omega)
        refine stM_24 (f := (q 24)) hx hb hK hP hD hS ((rset_ne (by decide)).trans ((rset_ne (by decide)).trans (rset_ne (by decide)))) v_18 dX7_had_75 (fun H locs hP hS => ?_)
        exact W.vret hx hb hr (fun t ht hW => ⟨⟨(rset (rset (rset (rset q 11 (upd (q 11) (x1).toNatClampNeg (-1))) 25 (upd (q 25) (q 11 (x1).toNatClampNeg).toNatClampNeg ((q 25 (q 11 (x1).toNatClampNeg).toNatClampNeg) + 1))) 27 (upd (q 27) (q 11 (x1).toNatClampNeg).toNatClampNeg (q 30 0))) 24 (upd (q 24) (q 11 (x1).toNatClampNeg).toNatClampNeg 1)), rfl, (show (fX7_had q x1) = (rset (rset (rset (rset q 11 (upd (q 11) (x1).toNatClampNeg (-1))) 25 (upd (q 25) (q 11 (x1).toNatClampNeg).toNatClampNeg ((q 25 (q 11 (x1).toNatClampNeg).toNatClampNeg) + 1))) 27 (upd (q 27) (q 11 (x1).toNatClampNeg).toNatClampNeg (q 30 0))) 24 (upd (q 24) (q 11 (x1).toNatClampNeg).toNatClampNeg 1)) by (rw [fX7_had, if_neg c_3, if_pos c_9, if_pos c_16]); try rfl).symm, w_ht ht hP⟩, hS.F ht⟩) hS.2.2 dX7_had_76
  · have e_4 := i_eq c_3
    exact W.vret hx hb hr (fun t ht hW => ⟨⟨(rset q 11 (upd (q 11) (x1).toNatClampNeg (-1))), rfl, (show (fX7_had q x1) = (rset q 11 (upd (q 11) (x1).toNatClampNeg (-1))) by (rw [fX7_had, if_pos c_3]); try rfl).symm, w_ht ht hP⟩, hS.F ht⟩) hS.2.2 dX7_had_19
