set_option maxHeartbeats 4000000 in
set_option maxRecDepth 100000 in
theorem mX5_add (l : Launch) (G : va_G) (cy : ClassId) (a : Nat → Nat) (sz : Nat) (q : wSt) (x1 : Int32) (x2 : Int32) (x3 : Int32) (g0 : 0 ≤ (q 40 0).toInt) (g1 : (q 40 0).toInt < 100) : CtI l yX5_add wsX5_add ({ frames := 0, cells := 0, slots := 0, locals := 0 }) G cy (cX cy a) xN sz q [.ref (a 5), .int x1, .int x2, .int x3] (fX5_add q x1 x2 x3).1 (fX5_add q x1 x2 x3).2 := by
  refine Met.ofW (cc := cX5_add) (maxL := 5) (ret := (some .int)) (by decide) rfl ?_
  intro p e s m args below meth c s₁ B hml hv
  obtain ⟨rfl, hsz, hP, hK, hD0, hN⟩ := hv
  have hx := B.exec
  have hb := B.bytes
  have hr := B.returns
  have hts := atoms_spec (ws := wsX5_add) B.pre
  have hown : s.vm.findClass RX5 = some m.cls := findClass_of_methodNamed B.named
  have hlocks := B.notSynchronized
  subst hsz
  have hD : ∀ z : wSt, va_D (wA (cX cy a) s.heap.size) ((cX cy a) z) := fun z => w_self (xOk cy a).1 hD0 z
  have hA : ∀ z : Nat, s.heap.size ≤ z → wA (cX cy a) s.heap.size z := fun _ h => Or.inr h
  have hS : va_S (wA (cX cy a) s.heap.size) s.heap s.heap [] := va_S.rf
  have hl := lv_entry ([.ref (a 5), .int x1, .int x2, .int x3]) (n := 5) (Nat.le_of_ble_eq_true rfl)
  rw [lg_entry_eq]
  generalize (lg_sl ([.ref (a 5), .int x1, .int x2, .int x3]) ++ List.replicate (5 - (lg_sl ([.ref (a 5), .int x1, .int x2, .int x3])).length) Slot.unset).toArray = ls at hl ⊢
  have hl : lv_has ls 5 [(0, .ref (a 5)), (1, .int x1), (2, .int x2), (3, .int x3)] := hl
  have h_1 := hts (.fieldLink RX5 30 RX5 "came" "I") (by decide +kernel)
  have h_2 := (show ∀ w ∈ u_ws RX5 TX5 7, w ∈ wsX5_add by decide +kernel)
  have h_3 := hts (.fieldLink RX5 9 RX5 "reader" "[I") (by decide +kernel)
  have h_4 := hts (.fieldLink RX5 15 RX5 "title" "[I") (by decide +kernel)
  have h_5 := hts (.fieldLink RX5 18 RX5 "state" "[I") (by decide +kernel)
  have h_6 := hts (.fieldLink RX5 21 RX5 "had" "[I") (by decide +kernel)
  have h_7 := hts (.fieldLink RX5 24 RX5 "held" "[I") (by decide +kernel)
  have h_8 := hts (.fieldLink RX5 27 RX5 "since" "[I") (by decide +kernel)
  have t_m1 : ((-1) : Int32).toInt = -1 := rfl
  have t_0 : (0 : Int32).toInt = 0 := rfl
  have t_1 : (1 : Int32).toInt = 1 := rfl
  refine lv_aload_n hx hb dX5_add_0 rfl (lv_at hl 0 rfl) ?_
  refine gfX5_30 (v := (q 40 0)) hx hb hts h_2 hown hK hP h_1 rfl dX5_add_1 ?_
  refine lv_istore (lv' := [(4, .int (q 40 0)), (0, .ref (a 5)), (1, .int x1), (2, .int x2), (3, .int x3)]) hx hb dX5_add_4 hl (by decide) rfl (fun ls hl => ?_)
  refine lv_aload_n hx hb dX5_add_6 rfl (lv_at hl 1 rfl) ?_
  refine lv_dup hx hb dX5_add_7 rfl ?_
  refine gfX5_30 (v := (q 40 0)) hx hb hts h_2 hown hK hP h_1 rfl dX5_add_8 ?_
  refine lv_iconst (v := 1) hx hb dX5_add_11 (by decide) ?_
  refine lv_iadd hx hb dX5_add_12 ?_
  refine pfX5_30 hx hb hts h_2 hown hK hP hD hS h_1 dX5_add_13 (fun H locs hP hS => ?_)
  refine lv_aload_n hx hb dX5_add_16 rfl (lv_at hl 1 rfl) ?_
  refine gfX5_9 hx hb hts h_2 hown hK hP h_3 dX5_add_17 ?_
  refine lv_iload hx hb dX5_add_20 (lv_at hl 0 rfl) ?_
  refine lv_iload_n hx hb dX5_add_22 rfl (lv_at hl 2 rfl) ?_
  have v_1 : vp_in (q 40 0) 100 := vp_in_iff.mpr (by omega)
  refine stX_22 (f := (q 22)) hx hb hK hP hD hS (rset_ne (by decide)) v_1 dX5_add_23 (fun H locs hP hS => ?_)
  refine lv_aload_n hx hb dX5_add_24 rfl (lv_at hl 1 rfl) ?_
  refine gfX5_15 hx hb hts h_2 hown hK hP h_4 dX5_add_25 ?_
  refine lv_iload hx hb dX5_add_28 (lv_at hl 0 rfl) ?_
  refine lv_iload_n hx hb dX5_add_30 rfl (lv_at hl 3 rfl) ?_
  have v_2 : vp_in (q 40 0) 100 := vp_in_iff.mpr (by omega)
  refine stX_23 (f := (q 23)) hx hb hK hP hD hS ((rset_ne (by decide)).trans (rset_ne (by decide))) v_2 dX5_add_31 (fun H locs hP hS => ?_)
  refine lv_aload_n hx hb dX5_add_32 rfl (lv_at hl 1 rfl) ?_
  refine gfX5_18 hx hb hts h_2 hown hK hP h_5 dX5_add_33 ?_
  refine lv_iload hx hb dX5_add_36 (lv_at hl 0 rfl) ?_
  refine lv_iconst (v := 0) hx hb dX5_add_38 (by decide) ?_
  have v_3 : vp_in (q 40 0) 100 := vp_in_iff.mpr (by omega)
  refine stX_24 (f := (q 24)) hx hb hK hP hD hS ((rset_ne (by decide)).trans ((rset_ne (by decide)).trans (rset_ne (by decide)))) v_3 dX5_add_39 (fun H locs hP hS => ?_)
  refine lv_aload_n hx hb dX5_add_40 rfl (lv_at hl 1 rfl) ?_
  refine gfX5_21 hx hb hts h_2 hown hK hP h_6 dX5_add_41 ?_
  refine lv_iload hx hb dX5_add_44 (lv_at hl 0 rfl) ?_
  refine lv_iconst (v := 0) hx hb dX5_add_46 (by decide) ?_
  have v_4 : vp_in (q 40 0) 100 := vp_in_iff.mpr (by omega)
  refine stX_25 (f := (q 25)) hx hb hK hP hD hS ((rset_ne (by decide)).trans ((rset_ne (by decide)).trans ((rset_ne (by decide)).trans (rset_ne (by decide))))) v_4 dX5_add_47 (fun H locs hP hS => ?_)
  refine lv_aload_n hx hb dX5_add_48 rfl (lv_at hl 1 rfl) ?_
  refine gfX5_24 hx hb hts h_2 hown hK hP h_7 dX5_add_49 ?_
  refine lv_iload hx hb dX5_add_52 (lv_at hl 0 rfl) ?_
  refine lv_iconst (v := (-1)) hx hb dX5_add_54 (by decide) ?_
  have v_5 : vp_in (q 40 0) 100 := vp_in_iff.mpr (by omega)
  refine stX_26 (f := (q 26)) hx hb hK hP hD hS ((rset_ne (by decide)).trans ((rset_ne (by decide)).trans ((rset_ne (by decide)).trans ((rset_ne (by decide)).trans (rset_ne (by decide)))))) v_5 dX5_add_55 (fun H locs hP hS => ?_)
  refine lv_aload_n hx hb dX5_add_56 rfl (lv_at hl 1 rfl) ?_
  refine gfX5_27 hx hb hts h_2 hown hK hP h_8 dX5_add_57 ?_
  refine lv_iload hx hb dX5_add_60 (lv_at hl 0 rfl) ?_
  refine lv_iload_n hx hb dX5_add_62 rfl (lv_at hl 4 rfl) ?_
  have v_6 : vp_in (q 40 0) 100 := vp_in_iff.mpr (by omega)
  refine stX_27 (f := (q 27)) hx hb hK hP hD hS ((rset_ne (by decide)).trans ((rset_ne (by decide)).trans ((rset_ne (by decide)).trans ((rset_ne (by decide)).trans ((rset_ne (by decide)).trans (rset_ne (by decide))))))) v_6 dX5_add_63 (fun H locs hP hS => ?_)
  refine lv_iload hx hb dX5_add_64 (lv_at hl 0 rfl) ?_
  have hF : (fX5_add q x1 x2 x3) = ((q 40 0), (rset (rset (rset (rset (rset (rset (rset q 40 (fun _ => ((q 40 0) + 1))) 22 (upd (q 22) (q 40 0).toNatClampNeg x1)) 23 (upd (q 23) (q 40 0).toNatClampNeg x2)) 24 (upd (q 24) (q 40 0).toNatClampNeg 0)) 25 (upd (q 25) (q 40 0).toNatClampNeg 0)) 26 (upd (q 26) (q 40 0).toNatClampNeg (-1))) 27 (upd (q 27) (q 40 0).toNatClampNeg x3))) := (show (fX5_add q x1 x2 x3) = ((q 40 0), (rset (rset (rset (rset (rset (rset (rset q 40 (fun _ => ((q 40 0) + 1))) 22 (upd (q 22) (q 40 0).toNatClampNeg x1)) 23 (upd (q 23) (q 40 0).toNatClampNeg x2)) 24 (upd (q 24) (q 40 0).toNatClampNeg 0)) 25 (upd (q 25) (q 40 0).toNatClampNeg 0)) 26 (upd (q 26) (q 40 0).toNatClampNeg (-1))) 27 (upd (q 27) (q 40 0).toNatClampNeg x3))) by (rw [fX5_add]); try rfl)
  exact W.iret (v := (q 40 0)) hx hb hr (fun t ht hW => ⟨⟨(q 40 0), (rset (rset (rset (rset (rset (rset (rset q 40 (fun _ => ((q 40 0) + 1))) 22 (upd (q 22) (q 40 0).toNatClampNeg x1)) 23 (upd (q 23) (q 40 0).toNatClampNeg x2)) 24 (upd (q 24) (q 40 0).toNatClampNeg 0)) 25 (upd (q 25) (q 40 0).toNatClampNeg 0)) 26 (upd (q 26) (q 40 0).toNatClampNeg (-1))) 27 (upd (q 27) (q 40 0).toNatClampNeg x3)), rfl, ⟨(p_fst hF), (p_snd hF)⟩, w_ht ht hP⟩, hS.F ht⟩) hS.2.2 dX5_add_66
