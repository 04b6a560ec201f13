set_option maxHeartbeats 4000000 in
set_option maxRecDepth 100000 in
theorem mX1_add (l : Launch) (G : va_G) (cy : ClassId) (a : Nat → Nat) (sz : Nat) (q : wSt) (x1 : Int32) (x2 : Int32) (x3 : Int32) (g0 : 0 ≤ (q 36 0).toInt) (g1 : (q 36 0).toInt < 200) : CtV l yX1_add wsX1_add ({ frames := 4, cells := 0, slots := 0, locals := 88 }) G cy (cX cy a) xN sz q [.ref (a 3), .int x1, .int x2, .int x3] (fX1_add q x1 x2 x3) := by
  refine Met.ofW (cc := cX1_add) (maxL := 5) (ret := none) (by decide) rfl ?_
  intro p e s m args below meth c s₁ B hml hv
  obtain ⟨rfl, hsz, hP, hK, hD0, hN⟩ := hv
  have hx := B.exec
  have hb := B.bytes
  have hr := B.returns
  have hts := atoms_spec (ws := wsX1_add) B.pre
  have hown : s.vm.findClass RX1 = some m.cls := findClass_of_methodNamed B.named
  have hlocks := B.notSynchronized
  subst hsz
  have hD : ∀ z : wSt, va_D (wA (cX cy a) s.heap.size) ((cX cy a) z) := fun z => w_self (xOk cy a).1 hD0 z
  have hA : ∀ z : Nat, s.heap.size ≤ z → wA (cX cy a) s.heap.size z := fun _ h => Or.inr h
  have hS : va_S (wA (cX cy a) s.heap.size) s.heap s.heap [] := va_S.rf
  have hl := lv_entry ([.ref (a 3), .int x1, .int x2, .int x3]) (n := 5) (Nat.le_of_ble_eq_true rfl)
  rw [lg_entry_eq]
  generalize (lg_sl ([.ref (a 3), .int x1, .int x2, .int x3]) ++ List.replicate (5 - (lg_sl ([.ref (a 3), .int x1, .int x2, .int x3])).length) Slot.unset).toArray = ls at hl ⊢
  have hl : lv_has ls 5 [(0, .ref (a 3)), (1, .int x1), (2, .int x2), (3, .int x3)] := hl
  have h_1 := hts (.fieldLink RX1 42 RX1 "came" "I") (by decide +kernel)
  have h_2 := (show ∀ w ∈ u_ws RX1 TX1 13, w ∈ wsX1_add by decide +kernel)
  have h_3 := hts (.fieldLink RX1 15 RX1 "title" "[I") (by decide +kernel)
  have h_4 := hts (.fieldLink RX1 18 RX1 "volume" "[I") (by decide +kernel)
  have h_5 := hts (.fieldLink RX1 21 RX1 "cost" "[I") (by decide +kernel)
  have h_6 := hts (.fieldLink RX1 9 RX1 "where" "[I") (by decide +kernel)
  have h_7 := hts (.fieldLink RX1 36 RX1 "timesLent" "[I") (by decide +kernel)
  have t_m1 : ((-1) : Int32).toInt = -1 := rfl
  have t_0 : (0 : Int32).toInt = 0 := rfl
  have t_1 : (1 : Int32).toInt = 1 := rfl
  refine lv_aload_n hx hb dX1_add_0 rfl (lv_at hl 0 rfl) ?_
  refine gfX1_42 (v := (q 36 0)) hx hb hts h_2 hown hK hP h_1 rfl dX1_add_1 ?_
  refine lv_istore (lv' := [(4, .int (q 36 0)), (0, .ref (a 3)), (1, .int x1), (2, .int x2), (3, .int x3)]) hx hb dX1_add_4 hl (by decide) rfl (fun ls hl => ?_)
  refine lv_aload_n hx hb dX1_add_6 rfl (lv_at hl 1 rfl) ?_
  refine lv_dup hx hb dX1_add_7 rfl ?_
  refine gfX1_42 (v := (q 36 0)) hx hb hts h_2 hown hK hP h_1 rfl dX1_add_8 ?_
  refine lv_iconst (v := 1) hx hb dX1_add_11 (by decide) ?_
  refine lv_iadd hx hb dX1_add_12 ?_
  refine pfX1_42 hx hb hts h_2 hown hK hP hD hS h_1 dX1_add_13 (fun H locs hP hS => ?_)
  refine lv_aload_n hx hb dX1_add_16 rfl (lv_at hl 1 rfl) ?_
  refine gfX1_15 hx hb hts h_2 hown hK hP h_3 dX1_add_17 ?_
  refine lv_iload hx hb dX1_add_20 (lv_at hl 0 rfl) ?_
  refine lv_iload_n hx hb dX1_add_22 rfl (lv_at hl 2 rfl) ?_
  have v_1 : vp_in (q 36 0) 200 := vp_in_iff.mpr (by omega)
  refine stX_7 (f := (q 7)) hx hb hK hP hD hS (rset_ne (by decide)) v_1 dX1_add_23 (fun H locs hP hS => ?_)
  refine lv_aload_n hx hb dX1_add_24 rfl (lv_at hl 1 rfl) ?_
  refine gfX1_18 hx hb hts h_2 hown hK hP h_4 dX1_add_25 ?_
  refine lv_iload hx hb dX1_add_28 (lv_at hl 0 rfl) ?_
  refine lv_iload_n hx hb dX1_add_30 rfl (lv_at hl 3 rfl) ?_
  have v_2 : vp_in (q 36 0) 200 := vp_in_iff.mpr (by omega)
  refine stX_8 (f := (q 8)) hx hb hK hP hD hS ((rset_ne (by decide)).trans (rset_ne (by decide))) v_2 dX1_add_31 (fun H locs hP hS => ?_)
  refine lv_aload_n hx hb dX1_add_32 rfl (lv_at hl 1 rfl) ?_
  refine gfX1_21 hx hb hts h_2 hown hK hP h_5 dX1_add_33 ?_
  refine lv_iload hx hb dX1_add_36 (lv_at hl 0 rfl) ?_
  refine lv_iload_n hx hb dX1_add_38 rfl (lv_at hl 4 rfl) ?_
  have v_3 : vp_in (q 36 0) 200 := vp_in_iff.mpr (by omega)
  refine stX_9 (f := (q 9)) hx hb hK hP hD hS ((rset_ne (by decide)).trans ((rset_ne (by decide)).trans (rset_ne (by decide)))) v_3 dX1_add_39 (fun H locs hP hS => ?_)
  refine lv_aload_n hx hb dX1_add_40 rfl (lv_at hl 1 rfl) ?_
  refine gfX1_9 hx hb hts h_2 hown hK hP h_6 dX1_add_41 ?_
  refine lv_iload hx hb dX1_add_44 (lv_at hl 0 rfl) ?_
  refine lv_iconst (v := (-1)) hx hb dX1_add_46 (by decide) ?_
  have v_4 : vp_in (q 36 0) 200 := vp_in_iff.mpr (by omega)
  refine stX_6 (f := (q 6)) hx hb hK hP hD hS ((rset_ne (by decide)).trans ((rset_ne (by decide)).trans ((rset_ne (by decide)).trans (rset_ne (by decide))))) v_4 dX1_add_47 (fun H locs hP hS => ?_)
  refine lv_aload_n hx hb dX1_add_48 rfl (lv_at hl 1 rfl) ?_
  refine gfX1_36 hx hb hts h_2 hown hK hP h_7 dX1_add_49 ?_
  refine lv_iload hx hb dX1_add_52 (lv_at hl 0 rfl) ?_
  refine lv_iconst (v := 0) hx hb dX1_add_54 (by decide) ?_
  have v_5 : vp_in (q 36 0) 200 := vp_in_iff.mpr (by omega)
  refine stX_14 (f := (q 14)) hx hb hK hP hD hS ((rset_ne (by decide)).trans ((rset_ne (by decide)).trans ((rset_ne (by decide)).trans ((rset_ne (by decide)).trans (rset_ne (by decide)))))) v_5 dX1_add_55 (fun H locs hP hS => ?_)
  refine lv_aload_n hx hb dX1_add_56 rfl (lv_at hl 1 rfl) ?_
  refine lv_iload hx hb dX1_add_57 (lv_at hl 0 rfl) ?_
  refine w_goV (va_runV (As := [.int (q 36 0)]) (rest := []) ⟨hx, hb, hml, hown, hts⟩ (mX1_shelve l G cy a _ (rset (rset (rset (rset (rset (rset q 36 (fun _ => ((q 36 0) + 1))) 7 (upd (q 7) (q 36 0).toNatClampNeg x1)) 8 (upd (q 8) (q 36 0).toNatClampNeg x2)) 9 (upd (q 9) (q 36 0).toNatClampNeg x3)) 6 (upd (q 6) (q 36 0).toNatClampNeg (-1))) 14 (upd (q 14) (q 36 0).toNatClampNeg 0)) (q 36 0) (by omega) (by omega)) (cwV 1 hts gX1_add_X1_shelve rfl rfl rfl (by decide +kernel) ⟨Nat.le_of_ble_eq_true rfl, Nat.le_of_ble_eq_true rfl⟩) (w_pre (xOk cy a) (va_recv hK hP (ci := 1) (q0 := 3) rfl rfl) hK hP hD hS hA hN) rfl rfl hl.1 rfl (lv_room (Nat.le_of_ble_eq_true rfl)) dX1_add_59 ⟨Nat.le_of_ble_eq_true rfl, Nat.le_of_ble_eq_true rfl⟩) hD hS hA (fun H locs hP hS => ?_)
  exact W.vret hx hb hr (fun t ht hW => ⟨⟨(fX1_shelve (rset (rset (rset (rset (rset (rset q 36 (fun _ => ((q 36 0) + 1))) 7 (upd (q 7) (q 36 0).toNatClampNeg x1)) 8 (upd (q 8) (q 36 0).toNatClampNeg x2)) 9 (upd (q 9) (q 36 0).toNatClampNeg x3)) 6 (upd (q 6) (q 36 0).toNatClampNeg (-1))) 14 (upd (q 14) (q 36 0).toNatClampNeg 0)) (q 36 0)), rfl, (show (fX1_add q x1 x2 x3) = (fX1_shelve (rset (rset (rset (rset (rset (rset q 36 (fun _ => ((q 36 0) + 1))) 7 (upd (q 7) (q 36 0).toNatClampNeg x1)) 8 (upd (q 8) (q 36 0).toNatClampNeg x2)) 9 (upd (q 9) (q 36 0).toNatClampNeg x3)) 6 (upd (q 6) (q 36 0).toNatClampNeg (-1))) 14 (upd (q 14) (q 36 0).toNatClampNeg 0)) (q 36 0)) by (rw [fX1_add]); try rfl).symm, w_ht ht hP⟩, hS.F ht⟩) hS.2.2 dX1_add_62
