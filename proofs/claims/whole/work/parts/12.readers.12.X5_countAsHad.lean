set_option maxHeartbeats 4000000 in
set_option maxRecDepth 100000 in
theorem mX5_countAsHad (l : Launch) (G : va_G) (cy : ClassId) (a : Nat → Nat) (sz : Nat) (q : wSt) (x1 : Int32) (x2 : Int32) (x3 : Int32) (g0 : 0 ≤ (x1).toInt) (g1 : (x1).toInt < 100) : CtV l yX5_countAsHad wsX5_countAsHad ({ frames := 0, cells := 0, slots := 0, locals := 0 }) G cy (cX cy a) xN sz q [.ref (a 5), .int x1, .int x2, .int x3] (fX5_countAsHad q x1 x2 x3) := by
  refine Met.ofW (cc := cX5_countAsHad) (maxL := 4) (ret := none) (by decide) rfl ?_
  intro p e s m args below meth c s₁ B hml hv
  obtain ⟨rfl, hsz, hP, hK, hD0, hN⟩ := hv
  have hx := B.exec
  have hb := B.bytes
  have hr := B.returns
  have hts := atoms_spec (ws := wsX5_countAsHad) B.pre
  have hown : s.vm.findClass RX5 = some m.cls := findClass_of_methodNamed B.named
  have hlocks := B.notSynchronized
  subst hsz
  have hD : ∀ z : wSt, va_D (wA (cX cy a) s.heap.size) ((cX cy a) z) := fun z => w_self (xOk cy a).1 hD0 z
  have hA : ∀ z : Nat, s.heap.size ≤ z → wA (cX cy a) s.heap.size z := fun _ h => Or.inr h
  have hS : va_S (wA (cX cy a) s.heap.size) s.heap s.heap [] := va_S.rf
  have hl := lv_entry ([.ref (a 5), .int x1, .int x2, .int x3]) (n := 4) (Nat.le_of_ble_eq_true rfl)
  rw [lg_entry_eq]
  generalize (lg_sl ([.ref (a 5), .int x1, .int x2, .int x3]) ++ List.replicate (4 - (lg_sl ([.ref (a 5), .int x1, .int x2, .int x3])).length) Slot.unset).toArray = ls at hl ⊢
  have hl : lv_has ls 4 [(0, .ref (a 5)), (1, .int x1), (2, .int x2), (3, .int x3)] := hl
  have h_1 := hts (.fieldLink RX5 24 RX5 "held" "[I") (by decide +kernel)
  have h_2 := (show ∀ w ∈ u_ws RX5 TX5 7, w ∈ wsX5_countAsHad by decide +kernel)
  have h_3 := hts (.fieldLink RX5 21 RX5 "had" "[I") (by decide +kernel)
  have h_4 := hts (.fieldLink RX5 27 RX5 "since" "[I") (by decide +kernel)
  have h_5 := hts (.fieldLink RX5 18 RX5 "state" "[I") (by decide +kernel)
  have t_m1 : ((-1) : Int32).toInt = -1 := rfl
  have t_0 : (0 : Int32).toInt = 0 := rfl
  have t_1 : (1 : Int32).toInt = 1 := rfl
  refine lv_aload_n hx hb dX5_countAsHad_0 rfl (lv_at hl 0 rfl) ?_
  refine gfX5_24 hx hb hts h_2 hown hK hP h_1 dX5_countAsHad_1 ?_
  refine lv_iload_n hx hb dX5_countAsHad_4 rfl (lv_at hl 1 rfl) ?_
  refine lv_iconst (v := (-1)) hx hb dX5_countAsHad_5 (by decide) ?_
  have v_1 : vp_in x1 100 := vp_in_iff.mpr (by omega)
  refine stX_26 (f := (q 26)) hx hb hK hP hD hS rfl v_1 dX5_countAsHad_6 (fun H locs hP hS => ?_)
  refine lv_aload_n hx hb dX5_countAsHad_7 rfl (lv_at hl 0 rfl) ?_
  refine gfX5_21 hx hb hts h_2 hown hK hP h_3 dX5_countAsHad_8 ?_
  refine lv_iload_n hx hb dX5_countAsHad_11 rfl (lv_at hl 1 rfl) ?_
  refine lv_dup2_11 hx hb dX5_countAsHad_12 rfl rfl ?_
  have v_2 : vp_in x1 100 := vp_in_iff.mpr (by omega)
  refine ldX_25 (f := (q 25)) hx hb hK hP (rset_ne (by decide)) v_2 dX5_countAsHad_13 ?_
  refine lv_iconst (v := 1) hx hb dX5_countAsHad_14 (by decide) ?_
  refine lv_iadd hx hb dX5_countAsHad_15 ?_
  have v_3 : vp_in x1 100 := vp_in_iff.mpr (by omega)
  refine stX_25 (f := (q 25)) hx hb hK hP hD hS (rset_ne (by decide)) v_3 dX5_countAsHad_16 (fun H locs hP hS => ?_)
  refine lv_aload_n hx hb dX5_countAsHad_17 rfl (lv_at hl 0 rfl) ?_
  refine gfX5_27 hx hb hts h_2 hown hK hP h_4 dX5_countAsHad_18 ?_
  refine lv_iload_n hx hb dX5_countAsHad_21 rfl (lv_at hl 1 rfl) ?_
  refine lv_iload_n hx hb dX5_countAsHad_22 rfl (lv_at hl 3 rfl) ?_
  have v_4 : vp_in x1 100 := vp_in_iff.mpr (by omega)
  refine stX_27 (f := (q 27)) hx hb hK hP hD hS ((rset_ne (by decide)).trans (rset_ne (by decide))) v_4 dX5_countAsHad_23 (fun H locs hP hS => ?_)
  refine lv_aload_n hx hb dX5_countAsHad_24 rfl (lv_at hl 0 rfl) ?_
  refine gfX5_18 hx hb hts h_2 hown hK hP h_5 dX5_countAsHad_25 ?_
  refine lv_iload_n hx hb dX5_countAsHad_28 rfl (lv_at hl 1 rfl) ?_
  have v_5 : vp_in x1 100 := vp_in_iff.mpr (by omega)
  refine ldX_24 (f := (q 24)) hx hb hK hP ((rset_ne (by decide)).trans ((rset_ne (by decide)).trans (rset_ne (by decide)))) v_5 dX5_countAsHad_29 ?_
  refine lv_if_ne (tgt := 50) hx hb dX5_countAsHad_30 (by decide) (fun c_6 => ?_) (fun c_6 => ?_)
  · have e_7 := i_ne c_6
    exact W.vret hx hb hr (fun t ht hW => ⟨⟨(rset (rset (rset q 26 (upd (q 26) (x1).toNatClampNeg (-1))) 25 (upd (q 25) (x1).toNatClampNeg ((q 25 (x1).toNatClampNeg) + 1))) 27 (upd (q 27) (x1).toNatClampNeg x3)), rfl, (show (fX5_countAsHad q x1 x2 x3) = (rset (rset (rset q 26 (upd (q 26) (x1).toNatClampNeg (-1))) 25 (upd (q 25) (x1).toNatClampNeg ((q 25 (x1).toNatClampNeg) + 1))) 27 (upd (q 27) (x1).toNatClampNeg x3)) by (rw [fX5_countAsHad, if_neg c_6]); try rfl).symm, w_ht ht hP⟩, hS.F ht⟩) hS.2.2 dX5_countAsHad_50
  · have e_7 := i_eq c_6
    refine lv_aload_n hx hb dX5_countAsHad_33 rfl (lv_at hl 0 rfl) ?_
    refine gfX5_21 hx hb hts h_2 hown hK hP h_3 dX5_countAsHad_34 ?_
    refine lv_iload_n hx hb dX5_countAsHad_37 rfl (lv_at hl 1 rfl) ?_
    have v_8 : vp_in x1 100 := vp_in_iff.mpr (by omega)
    refine ldX_25 (f := (upd (q 25) (x1).toNatClampNeg ((q 25 (x1).toNatClampNeg) + 1))) hx hb hK hP ((rset_ne (by decide)).trans rset_eq) v_8 dX5_countAsHad_38 ?_
    refine lv_iload_n hx hb dX5_countAsHad_39 rfl (lv_at hl 2 rfl) ?_
    refine lv_icmp_lt (tgt := 50) hx hb dX5_countAsHad_40 (by decide) (fun c_9 => ?_) (fun c_9 => ?_)
    · have e_10 := i_lt c_9
      exact W.vret hx hb hr (fun t ht hW => ⟨⟨(rset (rset (rset q 26 (upd (q 26) (x1).toNatClampNeg (-1))) 25 (upd (q 25) (x1).toNatClampNeg ((q 25 (x1).toNatClampNeg) + 1))) 27 (upd (q 27) (x1).toNatClampNeg x3)), rfl, (show (fX5_countAsHad q x1 x2 x3) = (rset (rset (rset q 26 (upd (q 26) (x1).toNatClampNeg (-1))) 25 (upd (q 25) (x1).toNatClampNeg ((q 25 (x1).toNatClampNeg) + 1))) 27 (upd (q 27) (x1).toNatClampNeg x3)) by (rw [fX5_countAsHad, if_pos c_6, if_pos c_9]); try rfl).symm, w_ht ht hP⟩, hS.F ht⟩) hS.2.2 dX5_countAsHad_50
    · have e_10 := i_nlt c_9
      refine lv_aload_n hx hb dX5_countAsHad_43 rfl (lv_at hl 0 rfl) ?_
      refine gfX5_18 hx hb hts h_2 hown hK hP h_5 dX5_countAsHad_44 ?_
      refine lv_iload_n hx hb dX5_countAsHad_47 rfl (lv_at hl 1 rfl) ?_
      refine lv_iconst (v := 1) hx hb dX5_countAsHad_48 (by decide) ?_
      have v_11 : vp_in x1 100 := vp_in_iff.mpr (by omega)
      refine stX_24 (f := (q 24)) hx hb hK hP hD hS ((rset_ne (by decide)).trans ((rset_ne (by decide)).trans (rset_ne (by decide)))) v_11 dX5_countAsHad_49 (fun H locs hP hS => ?_)
      exact W.vret hx hb hr (fun t ht hW => ⟨⟨(rset (rset (rset (rset q 26 (upd (q 26) (x1).toNatClampNeg (-1))) 25 (upd (q 25) (x1).toNatClampNeg ((q 25 (x1).toNatClampNeg) + 1))) 27 (upd (q 27) (x1).toNatClampNeg x3)) 24 (upd (q 24) (x1).toNatClampNeg 1)), rfl, (show (fX5_countAsHad q x1 x2 x3) = (rset (rset (rset (rset q 26 (upd (q 26) (x1).toNatClampNeg (-1))) 25 (upd (q 25) (x1).toNatClampNeg ((q 25 (x1).toNatClampNeg) + 1))) 27 (upd (q 27) (x1).toNatClampNeg x3)) 24 (upd (q 24) (x1).toNatClampNeg 1)) by (rw [fX5_countAsHad, if_pos c_6, if_neg c_9]); try rfl).symm, w_ht ht hP⟩, hS.F ht⟩) hS.2.2 dX5_countAsHad_50
