set_option maxHeartbeats 4000000 in
set_option maxRecDepth 100000 in
theorem mX0_add (l : Launch) (G : va_G) (cy : ClassId) (a : Nat → Nat) (sz : Nat) (q : wSt) (x1 : Int32) (x2 : Int32) (x3 : Int32) (x4 : Int32) (x5 : Int32) (g0 : 0 ≤ (q 35 0).toInt) (g1 : (q 35 0).toInt < 40) : CtV l yX0_add wsX0_add ({ frames := 0, cells := 0, slots := 0, locals := 0 }) G cy (cX cy a) xN sz q [.ref (a 2), .int x1, .int x2, .int x3, .int x4, .int x5] (fX0_add q x1 x2 x3 x4 x5) := by
  refine Met.ofW (cc := cX0_add) (maxL := 6) (ret := none) (by decide) rfl ?_
  intro p e s m args below meth c s₁ B hml hv
  obtain ⟨rfl, hsz, hP, hK, hD0, hN⟩ := hv
  have hx := B.exec
  have hb := B.bytes
  have hr := B.returns
  have hts := atoms_spec (ws := wsX0_add) B.pre
  have hown : s.vm.findClass RX0 = some m.cls := findClass_of_methodNamed B.named
  have hlocks := B.notSynchronized
  subst hsz
  have hD : ∀ z : wSt, va_D (wA (cX cy a) s.heap.size) ((cX cy a) z) := fun z => w_self (xOk cy a).1 hD0 z
  have hA : ∀ z : Nat, s.heap.size ≤ z → wA (cX cy a) s.heap.size z := fun _ h => Or.inr h
  have hS : va_S (wA (cX cy a) s.heap.size) s.heap s.heap [] := va_S.rf
  have hl := lv_entry ([.ref (a 2), .int x1, .int x2, .int x3, .int x4, .int x5]) (n := 6) (Nat.le_of_ble_eq_true rfl)
  rw [lg_entry_eq]
  generalize (lg_sl ([.ref (a 2), .int x1, .int x2, .int x3, .int x4, .int x5]) ++ List.replicate (6 - (lg_sl ([.ref (a 2), .int x1, .int x2, .int x3, .int x4, .int x5])).length) Slot.unset).toArray = ls at hl ⊢
  have hl : lv_has ls 6 [(0, .ref (a 2)), (1, .int x1), (2, .int x2), (3, .int x3), (4, .int x4), (5, .int x5)] := hl
  have h_1 := hts (.fieldLink RX0 9 RX0 "title" "[I") (by decide +kernel)
  have h_2 := (show ∀ w ∈ u_ws RX0 TX0 6, w ∈ wsX0_add by decide +kernel)
  have h_3 := hts (.fieldLink RX0 27 RX0 "came" "I") (by decide +kernel)
  have h_4 := hts (.fieldLink RX0 15 RX0 "day" "[I") (by decide +kernel)
  have h_5 := hts (.fieldLink RX0 18 RX0 "atFirstPrice" "[I") (by decide +kernel)
  have h_6 := hts (.fieldLink RX0 21 RX0 "price" "[I") (by decide +kernel)
  have h_7 := hts (.fieldLink RX0 24 RX0 "priceBeyond" "[I") (by decide +kernel)
  have t_1 : (1 : Int32).toInt = 1 := rfl
  refine lv_aload_n hx hb dX0_add_0 rfl (lv_at hl 0 rfl) ?_
  refine gfX0_9 hx hb hts h_2 hown hK hP h_1 dX0_add_1 ?_
  refine lv_aload_n hx hb dX0_add_4 rfl (lv_at hl 0 rfl) ?_
  refine gfX0_27 (v := (q 35 0)) hx hb hts h_2 hown hK hP h_3 rfl dX0_add_5 ?_
  refine lv_iload_n hx hb dX0_add_8 rfl (lv_at hl 1 rfl) ?_
  have v_1 : vp_in (q 35 0) 40 := vp_in_iff.mpr (by omega)
  refine stX_1 (f := (q 1)) hx hb hK hP hD hS rfl v_1 dX0_add_9 (fun H locs hP hS => ?_)
  refine lv_aload_n hx hb dX0_add_10 rfl (lv_at hl 0 rfl) ?_
  refine gfX0_15 hx hb hts h_2 hown hK hP h_4 dX0_add_11 ?_
  refine lv_aload_n hx hb dX0_add_14 rfl (lv_at hl 0 rfl) ?_
  refine gfX0_27 (v := (q 35 0)) hx hb hts h_2 hown hK hP h_3 (congrFun (rset_ne (by decide)) 0) dX0_add_15 ?_
  refine lv_iload_n hx hb dX0_add_18 rfl (lv_at hl 2 rfl) ?_
  have v_2 : vp_in (q 35 0) 40 := vp_in_iff.mpr (by omega)
  refine stX_2 (f := (q 2)) hx hb hK hP hD hS (rset_ne (by decide)) v_2 dX0_add_19 (fun H locs hP hS => ?_)
  refine lv_aload_n hx hb dX0_add_20 rfl (lv_at hl 0 rfl) ?_
  refine gfX0_18 hx hb hts h_2 hown hK hP h_5 dX0_add_21 ?_
  refine lv_aload_n hx hb dX0_add_24 rfl (lv_at hl 0 rfl) ?_
  refine gfX0_27 (v := (q 35 0)) hx hb hts h_2 hown hK hP h_3 (congrFun ((rset_ne (by decide)).trans (rset_ne (by decide))) 0) dX0_add_25 ?_
  refine lv_iload_n hx hb dX0_add_28 rfl (lv_at hl 3 rfl) ?_
  have v_3 : vp_in (q 35 0) 40 := vp_in_iff.mpr (by omega)
  refine stX_3 (f := (q 3)) hx hb hK hP hD hS ((rset_ne (by decide)).trans (rset_ne (by decide))) v_3 dX0_add_29 (fun H locs hP hS => ?_)
  refine lv_aload_n hx hb dX0_add_30 rfl (lv_at hl 0 rfl) ?_
  refine gfX0_21 hx hb hts h_2 hown hK hP h_6 dX0_add_31 ?_
  refine lv_aload_n hx hb dX0_add_34 rfl (lv_at hl 0 rfl) ?_
  refine gfX0_27 (v := (q 35 0)) hx hb hts h_2 hown hK hP h_3 (congrFun ((rset_ne (by decide)).trans ((rset_ne (by decide)).trans (rset_ne (by decide)))) 0) dX0_add_35 ?_
  refine lv_iload hx hb dX0_add_38 (lv_at hl 4 rfl) ?_
  have v_4 : vp_in (q 35 0) 40 := vp_in_iff.mpr (by omega)
  refine stX_4 (f := (q 4)) hx hb hK hP hD hS ((rset_ne (by decide)).trans ((rset_ne (by decide)).trans (rset_ne (by decide)))) v_4 dX0_add_40 (fun H locs hP hS => ?_)
  refine lv_aload_n hx hb dX0_add_41 rfl (lv_at hl 0 rfl) ?_
  refine gfX0_24 hx hb hts h_2 hown hK hP h_7 dX0_add_42 ?_
  refine lv_aload_n hx hb dX0_add_45 rfl (lv_at hl 0 rfl) ?_
  refine gfX0_27 (v := (q 35 0)) hx hb hts h_2 hown hK hP h_3 (congrFun ((rset_ne (by decide)).trans ((rset_ne (by decide)).trans ((rset_ne (by decide)).trans (rset_ne (by decide))))) 0) dX0_add_46 ?_
  refine lv_iload hx hb dX0_add_49 (lv_at hl 5 rfl) ?_
  have v_5 : vp_in (q 35 0) 40 := vp_in_iff.mpr (by omega)
  refine stX_5 (f := (q 5)) hx hb hK hP hD hS ((rset_ne (by decide)).trans ((rset_ne (by decide)).trans ((rset_ne (by decide)).trans (rset_ne (by decide))))) v_5 dX0_add_51 (fun H locs hP hS => ?_)
  refine lv_aload_n hx hb dX0_add_52 rfl (lv_at hl 0 rfl) ?_
  refine lv_dup hx hb dX0_add_53 rfl ?_
  refine gfX0_27 (v := (q 35 0)) hx hb hts h_2 hown hK hP h_3 (congrFun ((rset_ne (by decide)).trans ((rset_ne (by decide)).trans ((rset_ne (by decide)).trans ((rset_ne (by decide)).trans (rset_ne (by decide)))))) 0) dX0_add_54 ?_
  refine lv_iconst (v := 1) hx hb dX0_add_57 (by decide) ?_
  refine lv_iadd hx hb dX0_add_58 ?_
  refine pfX0_27 hx hb hts h_2 hown hK hP hD hS h_3 dX0_add_59 (fun H locs hP hS => ?_)
  exact W.vret hx hb hr (fun t ht hW => ⟨⟨(rset (rset (rset (rset (rset (rset q 1 (upd (q 1) (q 35 0).toNatClampNeg x1)) 2 (upd (q 2) (q 35 0).toNatClampNeg x2)) 3 (upd (q 3) (q 35 0).toNatClampNeg x3)) 4 (upd (q 4) (q 35 0).toNatClampNeg x4)) 5 (upd (q 5) (q 35 0).toNatClampNeg x5)) 35 (fun _ => ((q 35 0) + 1))), rfl, (show (fX0_add q x1 x2 x3 x4 x5) = (rset (rset (rset (rset (rset (rset q 1 (upd (q 1) (q 35 0).toNatClampNeg x1)) 2 (upd (q 2) (q 35 0).toNatClampNeg x2)) 3 (upd (q 3) (q 35 0).toNatClampNeg x3)) 4 (upd (q 4) (q 35 0).toNatClampNeg x4)) 5 (upd (q 5) (q 35 0).toNatClampNeg x5)) 35 (fun _ => ((q 35 0) + 1))) by (rw [fX0_add]); try rfl).symm, w_ht ht hP⟩, hS.F ht⟩) hS.2.2 dX0_add_62
