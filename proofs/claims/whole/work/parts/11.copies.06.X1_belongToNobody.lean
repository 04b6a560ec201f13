set_option maxHeartbeats 4000000 in
set_option maxRecDepth 100000 in
theorem mX1_belongToNobody (l : Launch) (G : va_G) (cy : ClassId) (a : Nat → Nat) (sz : Nat) (q : wSt) (x1 : Int32) (g0 : 0 ≤ (x1).toInt) (g1 : (x1).toInt < 200) : CtV l yX1_belongToNobody wsX1_belongToNobody ({ frames := 0, cells := 0, slots := 0, locals := 0 }) G cy (cX cy a) xN sz q [.ref (a 3), .int x1] (fX1_belongToNobody q x1) := by
  refine Met.ofW (cc := cX1_belongToNobody) (maxL := 2) (ret := none) (by decide) rfl ?_
  intro p e s m args below meth c s₁ B hml hv
  obtain ⟨rfl, hsz, hP, hK, hD0, hN⟩ := hv
  have hx := B.exec
  have hb := B.bytes
  have hr := B.returns
  have hts := atoms_spec (ws := wsX1_belongToNobody) B.pre
  have hown : s.vm.findClass RX1 = some m.cls := findClass_of_methodNamed B.named
  have hlocks := B.notSynchronized
  subst hsz
  have hD : ∀ z : wSt, va_D (wA (cX cy a) s.heap.size) ((cX cy a) z) := fun z => w_self (xOk cy a).1 hD0 z
  have hA : ∀ z : Nat, s.heap.size ≤ z → wA (cX cy a) s.heap.size z := fun _ h => Or.inr h
  have hS : va_S (wA (cX cy a) s.heap.size) s.heap s.heap [] := va_S.rf
  have hl := lv_entry ([.ref (a 3), .int x1]) (n := 2) (Nat.le_of_ble_eq_true rfl)
  rw [lg_entry_eq]
  generalize (lg_sl ([.ref (a 3), .int x1]) ++ List.replicate (2 - (lg_sl ([.ref (a 3), .int x1])).length) Slot.unset).toArray = ls at hl ⊢
  have hl : lv_has ls 2 [(0, .ref (a 3)), (1, .int x1)] := hl
  have h_1 := hts (.fieldLink RX1 24 RX1 "reader" "[I") (by decide +kernel)
  have h_2 := (show ∀ w ∈ u_ws RX1 TX1 13, w ∈ wsX1_belongToNobody by decide +kernel)
  have h_3 := hts (.fieldLink RX1 27 RX1 "wish" "[I") (by decide +kernel)
  have h_4 := hts (.fieldLink RX1 30 RX1 "since" "[I") (by decide +kernel)
  have h_5 := hts (.fieldLink RX1 33 RX1 "daysToGo" "[I") (by decide +kernel)
  have t_m1 : ((-1) : Int32).toInt = -1 := rfl
  have t_0 : (0 : Int32).toInt = 0 := rfl
  refine lv_aload_n hx hb dX1_belongToNobody_0 rfl (lv_at hl 0 rfl) ?_
  refine gfX1_24 hx hb hts h_2 hown hK hP h_1 dX1_belongToNobody_1 ?_
  refine lv_iload_n hx hb dX1_belongToNobody_4 rfl (lv_at hl 1 rfl) ?_
  refine lv_iconst (v := (-1)) hx hb dX1_belongToNobody_5 (by decide) ?_
  have v_1 : vp_in x1 200 := vp_in_iff.mpr (by omega)
  refine stX_10 (f := (q 10)) hx hb hK hP hD hS rfl v_1 dX1_belongToNobody_6 (fun H locs hP hS => ?_)
  refine lv_aload_n hx hb dX1_belongToNobody_7 rfl (lv_at hl 0 rfl) ?_
  refine gfX1_27 hx hb hts h_2 hown hK hP h_3 dX1_belongToNobody_8 ?_
  refine lv_iload_n hx hb dX1_belongToNobody_11 rfl (lv_at hl 1 rfl) ?_
  refine lv_iconst (v := (-1)) hx hb dX1_belongToNobody_12 (by decide) ?_
  have v_2 : vp_in x1 200 := vp_in_iff.mpr (by omega)
  refine stX_11 (f := (q 11)) hx hb hK hP hD hS (rset_ne (by decide)) v_2 dX1_belongToNobody_13 (fun H locs hP hS => ?_)
  refine lv_aload_n hx hb dX1_belongToNobody_14 rfl (lv_at hl 0 rfl) ?_
  refine gfX1_30 hx hb hts h_2 hown hK hP h_4 dX1_belongToNobody_15 ?_
  refine lv_iload_n hx hb dX1_belongToNobody_18 rfl (lv_at hl 1 rfl) ?_
  refine lv_iconst (v := (-1)) hx hb dX1_belongToNobody_19 (by decide) ?_
  have v_3 : vp_in x1 200 := vp_in_iff.mpr (by omega)
  refine stX_12 (f := (q 12)) hx hb hK hP hD hS ((rset_ne (by decide)).trans (rset_ne (by decide))) v_3 dX1_belongToNobody_20 (fun H locs hP hS => ?_)
  refine lv_aload_n hx hb dX1_belongToNobody_21 rfl (lv_at hl 0 rfl) ?_
  refine gfX1_33 hx hb hts h_2 hown hK hP h_5 dX1_belongToNobody_22 ?_
  refine lv_iload_n hx hb dX1_belongToNobody_25 rfl (lv_at hl 1 rfl) ?_
  refine lv_iconst (v := 0) hx hb dX1_belongToNobody_26 (by decide) ?_
  have v_4 : vp_in x1 200 := vp_in_iff.mpr (by omega)
  refine stX_13 (f := (q 13)) hx hb hK hP hD hS ((rset_ne (by decide)).trans ((rset_ne (by decide)).trans (rset_ne (by decide)))) v_4 dX1_belongToNobody_27 (fun H locs hP hS => ?_)
  exact W.vret hx hb hr (fun t ht hW => ⟨⟨(rset (rset (rset (rset q 10 (upd (q 10) (x1).toNatClampNeg (-1))) 11 (upd (q 11) (x1).toNatClampNeg (-1))) 12 (upd (q 12) (x1).toNatClampNeg (-1))) 13 (upd (q 13) (x1).toNatClampNeg 0)), rfl, (show (fX1_belongToNobody q x1) = (rset (rset (rset (rset q 10 (upd (q 10) (x1).toNatClampNeg (-1))) 11 (upd (q 11) (x1).toNatClampNeg (-1))) 12 (upd (q 12) (x1).toNatClampNeg (-1))) 13 (upd (q 13) (x1).toNatClampNeg 0)) by (rw [fX1_belongToNobody]); try rfl).symm, w_ht ht hP⟩, hS.F ht⟩) hS.2.2 dX1_belongToNobody_28
