set_option maxHeartbeats 4000000 in
set_option maxRecDepth 100000 in
theorem mX1_lend (l : Launch) (G : va_G) (cy : ClassId) (a : Nat → Nat) (sz : Nat) (q : wSt) (x1 : Int32) (x2 : Int32) (x3 : Int32) (g0 : 0 ≤ (x1).toInt) (g1 : (x1).toInt < 200) : CtV l yX1_lend wsX1_lend ({ frames := 0, cells := 0, slots := 0, locals := 0 }) G cy (cX cy a) xN sz q [.ref (a 3), .int x1, .int x2, .int x3] (fX1_lend q x1 x2 x3) := by
  refine Met.ofW (cc := cX1_lend) (maxL := 4) (ret := none) (by decide) rfl ?_
  intro p e s m args below meth c s₁ B hml hv
  obtain ⟨rfl, hsz, hP, hK, hD0, hN⟩ := hv
  have hx := B.exec
  have hb := B.bytes
  have hr := B.returns
  have hts := atoms_spec (ws := wsX1_lend) B.pre
  have hown : s.vm.findClass RX1 = some m.cls := findClass_of_methodNamed B.named
  have hlocks := B.notSynchronized
  subst hsz
  have hD : ∀ z : wSt, va_D (wA (cX cy a) s.heap.size) ((cX cy a) z) := fun z => w_self (xOk cy a).1 hD0 z
  have hA : ∀ z : Nat, s.heap.size ≤ z → wA (cX cy a) s.heap.size z := fun _ h => Or.inr h
  have hS : va_S (wA (cX cy a) s.heap.size) s.heap s.heap [] := va_S.rf
  have hl := lv_entry ([.ref (a 3), .int x1, .int x2, .int x3]) (n := 4) (Nat.le_of_ble_eq_true rfl)
  rw [lg_entry_eq]
  generalize (lg_sl ([.ref (a 3), .int x1, .int x2, .int x3]) ++ List.replicate (4 - (lg_sl ([.ref (a 3), .int x1, .int x2, .int x3])).length) Slot.unset).toArray = ls at hl ⊢
  have hl : lv_has ls 4 [(0, .ref (a 3)), (1, .int x1), (2, .int x2), (3, .int x3)] := hl
  have h_1 := hts (.fieldLink RX1 24 RX1 "reader" "[I") (by decide +kernel)
  have h_2 := (show ∀ w ∈ u_ws RX1 TX1 13, w ∈ wsX1_lend by decide +kernel)
  have h_3 := hts (.fieldLink RX1 27 RX1 "wish" "[I") (by decide +kernel)
  have h_4 := hts (.fieldLink RX1 36 RX1 "timesLent" "[I") (by decide +kernel)
  have t_1 : (1 : Int32).toInt = 1 := rfl
  refine lv_aload_n hx hb dX1_lend_0 rfl (lv_at hl 0 rfl) ?_
  refine gfX1_24 hx hb hts h_2 hown hK hP h_1 dX1_lend_1 ?_
  refine lv_iload_n hx hb dX1_lend_4 rfl (lv_at hl 1 rfl) ?_
  refine lv_iload_n hx hb dX1_lend_5 rfl (lv_at hl 2 rfl) ?_
  have v_1 : vp_in x1 200 := vp_in_iff.mpr (by omega)
  refine stX_10 (f := (q 10)) hx hb hK hP hD hS rfl v_1 dX1_lend_6 (fun H locs hP hS => ?_)
  refine lv_aload_n hx hb dX1_lend_7 rfl (lv_at hl 0 rfl) ?_
  refine gfX1_27 hx hb hts h_2 hown hK hP h_3 dX1_lend_8 ?_
  refine lv_iload_n hx hb dX1_lend_11 rfl (lv_at hl 1 rfl) ?_
  refine lv_iload_n hx hb dX1_lend_12 rfl (lv_at hl 3 rfl) ?_
  have v_2 : vp_in x1 200 := vp_in_iff.mpr (by omega)
  refine stX_11 (f := (q 11)) hx hb hK hP hD hS (rset_ne (by decide)) v_2 dX1_lend_13 (fun H locs hP hS => ?_)
  refine lv_aload_n hx hb dX1_lend_14 rfl (lv_at hl 0 rfl) ?_
  refine gfX1_36 hx hb hts h_2 hown hK hP h_4 dX1_lend_15 ?_
  refine lv_iload_n hx hb dX1_lend_18 rfl (lv_at hl 1 rfl) ?_
  refine lv_dup2_11 hx hb dX1_lend_19 rfl rfl ?_
  have v_3 : vp_in x1 200 := vp_in_iff.mpr (by omega)
  refine ldX_14 (f := (q 14)) hx hb hK hP ((rset_ne (by decide)).trans (rset_ne (by decide))) v_3 dX1_lend_20 ?_
  refine lv_iconst (v := 1) hx hb dX1_lend_21 (by decide) ?_
  refine lv_iadd hx hb dX1_lend_22 ?_
  have v_4 : vp_in x1 200 := vp_in_iff.mpr (by omega)
  refine stX_14 (f := (q 14)) hx hb hK hP hD hS ((rset_ne (by decide)).trans (rset_ne (by decide))) v_4 dX1_lend_23 (fun H locs hP hS => ?_)
  exact W.vret hx hb hr (fun t ht hW => ⟨⟨(rset (rset (rset q 10 (upd (q 10) (x1).toNatClampNeg x2)) 11 (upd (q 11) (x1).toNatClampNeg x3)) 14 (upd (q 14) (x1).toNatClampNeg ((q 14 (x1).toNatClampNeg) + 1))), rfl, (show (fX1_lend q x1 x2 x3) = (rset (rset (rset q 10 (upd (q 10) (x1).toNatClampNeg x2)) 11 (upd (q 11) (x1).toNatClampNeg x3)) 14 (upd (q 14) (x1).toNatClampNeg ((q 14 (x1).toNatClampNeg) + 1))) by (rw [fX1_lend]); try rfl).symm, w_ht ht hP⟩, hS.F ht⟩) hS.2.2 dX1_lend_24
