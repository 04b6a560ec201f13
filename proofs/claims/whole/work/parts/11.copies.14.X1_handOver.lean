set_option maxHeartbeats 4000000 in
set_option maxRecDepth 100000 in
theorem mX1_handOver (l : Launch) (G : va_G) (cy : ClassId) (a : Nat → Nat) (sz : Nat) (q : wSt) (x1 : Int32) (x2 : Int32) (g0 : 0 ≤ (x1).toInt) (g1 : (x1).toInt < 200) : CtV l yX1_handOver wsX1_handOver ({ frames := 3, cells := 0, slots := 0, locals := 67 }) G cy (cX cy a) xN sz q [.ref (a 3), .int x1, .int x2] (fX1_handOver q x1 x2) := by
  refine Met.ofW (cc := cX1_handOver) (maxL := 3) (ret := none) (by decide) rfl ?_
  intro p e s m args below meth c s₁ B hml hv
  obtain ⟨rfl, hsz, hP, hK, hD0, hN⟩ := hv
  have hx := B.exec
  have hb := B.bytes
  have hr := B.returns
  have hts := atoms_spec (ws := wsX1_handOver) B.pre
  have hown : s.vm.findClass RX1 = some m.cls := findClass_of_methodNamed B.named
  have hlocks := B.notSynchronized
  subst hsz
  have hD : ∀ z : wSt, va_D (wA (cX cy a) s.heap.size) ((cX cy a) z) := fun z => w_self (xOk cy a).1 hD0 z
  have hA : ∀ z : Nat, s.heap.size ≤ z → wA (cX cy a) s.heap.size z := fun _ h => Or.inr h
  have hS : va_S (wA (cX cy a) s.heap.size) s.heap s.heap [] := va_S.rf
  have hl := lv_entry ([.ref (a 3), .int x1, .int x2]) (n := 3) (Nat.le_of_ble_eq_true rfl)
  rw [lg_entry_eq]
  generalize (lg_sl ([.ref (a 3), .int x1, .int x2]) ++ List.replicate (3 - (lg_sl ([.ref (a 3), .int x1, .int x2])).length) Slot.unset).toArray = ls at hl ⊢
  have hl : lv_has ls 3 [(0, .ref (a 3)), (1, .int x1), (2, .int x2)] := hl
  have h_1 := hts (.fieldLink RX1 30 RX1 "since" "[I") (by decide +kernel)
  have h_2 := (show ∀ w ∈ u_ws RX1 TX1 13, w ∈ wsX1_handOver by decide +kernel)
  have h_3 := hts (.fieldLink RX1 33 RX1 "daysToGo" "[I") (by decide +kernel)
  have t_0 : (0 : Int32).toInt = 0 := rfl
  have t_1 : (1 : Int32).toInt = 1 := rfl
  refine lv_aload_n hx hb dX1_handOver_0 rfl (lv_at hl 0 rfl) ?_
  refine lv_iload_n hx hb dX1_handOver_1 rfl (lv_at hl 1 rfl) ?_
  refine lv_iconst (v := 1) hx hb dX1_handOver_2 (by decide) ?_
  refine w_goV (va_runV (As := [.int x1, .int 1]) (rest := []) ⟨hx, hb, hml, hown, hts⟩ (mX1_moveTo l G cy a _ q x1 1 (by omega) (by omega)) (cwV 2 hts gX1_handOver_X1_moveTo rfl rfl rfl (by decide +kernel) ⟨Nat.le_of_ble_eq_true rfl, Nat.le_of_ble_eq_true rfl⟩) (w_pre (xOk cy a) (va_recv hK hP (ci := 1) (q0 := 3) rfl rfl) hK hP hD hS hA hN) rfl rfl hl.1 rfl (lv_room (Nat.le_of_ble_eq_true rfl)) dX1_handOver_3 ⟨Nat.le_of_ble_eq_true rfl, Nat.le_of_ble_eq_true rfl⟩) hD hS hA (fun H locs hP hS => ?_)
  refine lv_aload_n hx hb dX1_handOver_6 rfl (lv_at hl 0 rfl) ?_
  refine gfX1_30 hx hb hts h_2 hown hK hP h_1 dX1_handOver_7 ?_
  refine lv_iload_n hx hb dX1_handOver_10 rfl (lv_at hl 1 rfl) ?_
  refine lv_iload_n hx hb dX1_handOver_11 rfl (lv_at hl 2 rfl) ?_
  have v_1 : vp_in x1 200 := vp_in_iff.mpr (by omega)
  refine stX_12 (f := ((fX1_moveTo q x1 1) 12)) hx hb hK hP hD hS rfl v_1 dX1_handOver_12 (fun H locs hP hS => ?_)
  refine lv_aload_n hx hb dX1_handOver_13 rfl (lv_at hl 0 rfl) ?_
  refine gfX1_33 hx hb hts h_2 hown hK hP h_3 dX1_handOver_14 ?_
  refine lv_iload_n hx hb dX1_handOver_17 rfl (lv_at hl 1 rfl) ?_
  refine lv_iconst (v := 0) hx hb dX1_handOver_18 (by decide) ?_
  have v_2 : vp_in x1 200 := vp_in_iff.mpr (by omega)
  refine stX_13 (f := ((fX1_moveTo q x1 1) 13)) hx hb hK hP hD hS (rset_ne (by decide)) v_2 dX1_handOver_19 (fun H locs hP hS => ?_)
  exact W.vret hx hb hr (fun t ht hW => ⟨⟨(rset (rset (fX1_moveTo q x1 1) 12 (upd ((fX1_moveTo q x1 1) 12) (x1).toNatClampNeg x2)) 13 (upd ((fX1_moveTo q x1 1) 13) (x1).toNatClampNeg 0)), rfl, (show (fX1_handOver q x1 x2) = (rset (rset (fX1_moveTo q x1 1) 12 (upd ((fX1_moveTo q x1 1) 12) (x1).toNatClampNeg x2)) 13 (upd ((fX1_moveTo q x1 1) 13) (x1).toNatClampNeg 0)) by (rw [fX1_handOver]); try rfl).symm, w_ht ht hP⟩, hS.F ht⟩) hS.2.2 dX1_handOver_20
