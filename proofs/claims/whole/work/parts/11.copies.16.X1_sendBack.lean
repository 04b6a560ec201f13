set_option maxHeartbeats 4000000 in
set_option maxRecDepth 100000 in
theorem mX1_sendBack (l : Launch) (G : va_G) (cy : ClassId) (a : Nat → Nat) (sz : Nat) (q : wSt) (x1 : Int32) (x2 : Int32) (g0 : 0 ≤ (x1).toInt) (g1 : (x1).toInt < 200) : CtV l yX1_sendBack wsX1_sendBack ({ frames := 3, cells := 0, slots := 0, locals := 67 }) G cy (cX cy a) xN sz q [.ref (a 3), .int x1, .int x2] (fX1_sendBack q x1 x2) := by
  refine Met.ofW (cc := cX1_sendBack) (maxL := 3) (ret := none) (by decide) rfl ?_
  intro p e s m args below meth c s₁ B hml hv
  obtain ⟨rfl, hsz, hP, hK, hD0, hN⟩ := hv
  have hx := B.exec
  have hb := B.bytes
  have hr := B.returns
  have hts := atoms_spec (ws := wsX1_sendBack) B.pre
  have hown : s.vm.findClass RX1 = some m.cls := findClass_of_methodNamed B.named
  have hlocks := B.notSynchronized
  subst hsz
  have hD : ∀ z : wSt, va_D (wA (cX cy a) s.heap.size) ((cX cy a) z) := fun z => w_self (xOk cy a).1 hD0 z
  have hA : ∀ z : Nat, s.heap.size ≤ z → wA (cX cy a) s.heap.size z := fun _ h => Or.inr h
  have hS : va_S (wA (cX cy a) s.heap.size) s.heap s.heap [] := va_S.rf
  have hl := lv_entry ([.ref (a 3), .int x1, .int x2]) (n := 3) (Nat.le_of_ble_eq_true rfl)
  rw [lg_entry_eq]
  generalize (lg_sl ([.ref (a 3), .int x1, .int x2]) ++ List.replicate (3 - (lg_sl ([.ref (a 3), .int x1, .int x2])).length) Slot.unset).toArray = ls at hl ⊢
  have hl : lv_has ls 3 [(0, .ref (a 3)), (1, .int x1), (2, .int x2)] := hl
  have h_1 := hts (.fieldLink RX1 27 RX1 "wish" "[I") (by decide +kernel)
  have h_2 := (show ∀ w ∈ u_ws RX1 TX1 13, w ∈ wsX1_sendBack by decide +kernel)
  have h_3 := hts (.fieldLink RX1 30 RX1 "since" "[I") (by decide +kernel)
  have h_4 := hts (.fieldLink RX1 33 RX1 "daysToGo" "[I") (by decide +kernel)
  have t_m1 : ((-1) : Int32).toInt = -1 := rfl
  have t_3 : (3 : Int32).toInt = 3 := rfl
  refine lv_aload_n hx hb dX1_sendBack_0 rfl (lv_at hl 0 rfl) ?_
  refine lv_iload_n hx hb dX1_sendBack_1 rfl (lv_at hl 1 rfl) ?_
  refine lv_iconst (v := 3) hx hb dX1_sendBack_2 (by decide) ?_
  refine w_goV (va_runV (As := [.int x1, .int 3]) (rest := []) ⟨hx, hb, hml, hown, hts⟩ (mX1_moveTo l G cy a _ q x1 3 (by omega) (by omega)) (cwV 2 hts gX1_sendBack_X1_moveTo rfl rfl rfl (by decide +kernel) ⟨Nat.le_of_ble_eq_true rfl, Nat.le_of_ble_eq_true rfl⟩) (w_pre (xOk cy a) (va_recv hK hP (ci := 1) (q0 := 3) rfl rfl) hK hP hD hS hA hN) rfl rfl hl.1 rfl (lv_room (Nat.le_of_ble_eq_true rfl)) dX1_sendBack_3 ⟨Nat.le_of_ble_eq_true rfl, Nat.le_of_ble_eq_true rfl⟩) hD hS hA (fun H locs hP hS => ?_)
  refine lv_aload_n hx hb dX1_sendBack_6 rfl (lv_at hl 0 rfl) ?_
  refine gfX1_27 hx hb hts h_2 hown hK hP h_1 dX1_sendBack_7 ?_
  refine lv_iload_n hx hb dX1_sendBack_10 rfl (lv_at hl 1 rfl) ?_
  refine lv_iconst (v := (-1)) hx hb dX1_sendBack_11 (by decide) ?_
  have v_1 : vp_in x1 200 := vp_in_iff.mpr (by omega)
  refine stX_11 (f := ((fX1_moveTo q x1 3) 11)) hx hb hK hP hD hS rfl v_1 dX1_sendBack_12 (fun H locs hP hS => ?_)
  refine lv_aload_n hx hb dX1_sendBack_13 rfl (lv_at hl 0 rfl) ?_
  refine gfX1_30 hx hb hts h_2 hown hK hP h_3 dX1_sendBack_14 ?_
  refine lv_iload_n hx hb dX1_sendBack_17 rfl (lv_at hl 1 rfl) ?_
  refine lv_iconst (v := (-1)) hx hb dX1_sendBack_18 (by decide) ?_
  have v_2 : vp_in x1 200 := vp_in_iff.mpr (by omega)
  refine stX_12 (f := ((fX1_moveTo q x1 3) 12)) hx hb hK hP hD hS (rset_ne (by decide)) v_2 dX1_sendBack_19 (fun H locs hP hS => ?_)
  refine lv_aload_n hx hb dX1_sendBack_20 rfl (lv_at hl 0 rfl) ?_
  refine gfX1_33 hx hb hts h_2 hown hK hP h_4 dX1_sendBack_21 ?_
  refine lv_iload_n hx hb dX1_sendBack_24 rfl (lv_at hl 1 rfl) ?_
  refine lv_iload_n hx hb dX1_sendBack_25 rfl (lv_at hl 2 rfl) ?_
  have v_3 : vp_in x1 200 := vp_in_iff.mpr (by omega)
  refine stX_13 (f := ((fX1_moveTo q x1 3) 13)) hx hb hK hP hD hS ((rset_ne (by decide)).trans (rset_ne (by decide))) v_3 dX1_sendBack_26 (fun H locs hP hS => ?_)
  exact W.vret hx hb hr (fun t ht hW => ⟨⟨(rset (rset (rset (fX1_moveTo q x1 3) 11 (upd ((fX1_moveTo q x1 3) 11) (x1).toNatClampNeg (-1))) 12 (upd ((fX1_moveTo q x1 3) 12) (x1).toNatClampNeg (-1))) 13 (upd ((fX1_moveTo q x1 3) 13) (x1).toNatClampNeg x2)), rfl, (show (fX1_sendBack q x1 x2) = (rset (rset (rset (fX1_moveTo q x1 3) 11 (upd ((fX1_moveTo q x1 3) 11) (x1).toNatClampNeg (-1))) 12 (upd ((fX1_moveTo q x1 3) 12) (x1).toNatClampNeg (-1))) 13 (upd ((fX1_moveTo q x1 3) 13) (x1).toNatClampNeg x2)) by (rw [fX1_sendBack]); try rfl).symm, w_ht ht hP⟩, hS.F ht⟩) hS.2.2 dX1_sendBack_27
