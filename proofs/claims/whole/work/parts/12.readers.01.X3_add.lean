set_option maxHeartbeats 4000000 in
set_option maxRecDepth 100000 in
theorem mX3_add (l : Launch) (G : va_G) (cy : ClassId) (a : Nat → Nat) (sz : Nat) (q : wSt) (x1 : Int32) (x2 : Int32) (x3 : Int32) (g0 : 0 ≤ (q 39 0).toInt) (g1 : (q 39 0).toInt < 20) : CtI l yX3_add wsX3_add ({ frames := 0, cells := 0, slots := 0, locals := 0 }) G cy (cX cy a) xN sz q [.ref (a 4), .int x1, .int x2, .int x3] (fX3_add q x1 x2 x3).1 (fX3_add q x1 x2 x3).2 := by
  refine Met.ofW (cc := cX3_add) (maxL := 4) (ret := (some .int)) (by decide) rfl ?_
  intro p e s m args below meth c s₁ B hml hv
  obtain ⟨rfl, hsz, hP, hK, hD0, hN⟩ := hv
  have hx := B.exec
  have hb := B.bytes
  have hr := B.returns
  have hts := atoms_spec (ws := wsX3_add) B.pre
  have hown : s.vm.findClass RX3 = some m.cls := findClass_of_methodNamed B.named
  have hlocks := B.notSynchronized
  subst hsz
  have hD : ∀ z : wSt, va_D (wA (cX cy a) s.heap.size) ((cX cy a) z) := fun z => w_self (xOk cy a).1 hD0 z
  have hA : ∀ z : Nat, s.heap.size ≤ z → wA (cX cy a) s.heap.size z := fun _ h => Or.inr h
  have hS : va_S (wA (cX cy a) s.heap.size) s.heap s.heap [] := va_S.rf
  have hl := lv_entry ([.ref (a 4), .int x1, .int x2, .int x3]) (n := 4) (Nat.le_of_ble_eq_true rfl)
  rw [lg_entry_eq]
  generalize (lg_sl ([.ref (a 4), .int x1, .int x2, .int x3]) ++ List.replicate (4 - (lg_sl ([.ref (a 4), .int x1, .int x2, .int x3])).length) Slot.unset).toArray = ls at hl ⊢
  have hl : lv_has ls 4 [(0, .ref (a 4)), (1, .int x1), (2, .int x2), (3, .int x3)] := hl
  have h_1 := hts (.fieldLink RX3 9 RX3 "rank" "[I") (by decide +kernel)
  have h_2 := (show ∀ w ∈ u_ws RX3 TX3 7, w ∈ wsX3_add by decide +kernel)
  have h_3 := hts (.fieldLink RX3 30 RX3 "came" "I") (by decide +kernel)
  have h_4 := hts (.fieldLink RX3 15 RX3 "boxDays" "[I") (by decide +kernel)
  have h_5 := hts (.fieldLink RX3 18 RX3 "last" "[I") (by decide +kernel)
  have t_1 : (1 : Int32).toInt = 1 := rfl
  refine lv_aload_n hx hb dX3_add_0 rfl (lv_at hl 0 rfl) ?_
  refine gfX3_9 hx hb hts h_2 hown hK hP h_1 dX3_add_1 ?_
  refine lv_aload_n hx hb dX3_add_4 rfl (lv_at hl 0 rfl) ?_
  refine gfX3_30 (v := (q 39 0)) hx hb hts h_2 hown hK hP h_3 rfl dX3_add_5 ?_
  refine lv_iload_n hx hb dX3_add_8 rfl (lv_at hl 1 rfl) ?_
  have v_1 : vp_in (q 39 0) 20 := vp_in_iff.mpr (by omega)
  refine stX_16 (f := (q 16)) hx hb hK hP hD hS rfl v_1 dX3_add_9 (fun H locs hP hS => ?_)
  refine lv_aload_n hx hb dX3_add_10 rfl (lv_at hl 0 rfl) ?_
  refine gfX3_15 hx hb hts h_2 hown hK hP h_4 dX3_add_11 ?_
  refine lv_aload_n hx hb dX3_add_14 rfl (lv_at hl 0 rfl) ?_
  refine gfX3_30 (v := (q 39 0)) hx hb hts h_2 hown hK hP h_3 (congrFun (rset_ne (by decide)) 0) dX3_add_15 ?_
  refine lv_iload_n hx hb dX3_add_18 rfl (lv_at hl 2 rfl) ?_
  have v_2 : vp_in (q 39 0) 20 := vp_in_iff.mpr (by omega)
  refine stX_17 (f := (q 17)) hx hb hK hP hD hS (rset_ne (by decide)) v_2 dX3_add_19 (fun H locs hP hS => ?_)
  refine lv_aload_n hx hb dX3_add_20 rfl (lv_at hl 0 rfl) ?_
  refine gfX3_18 hx hb hts h_2 hown hK hP h_5 dX3_add_21 ?_
  refine lv_aload_n hx hb dX3_add_24 rfl (lv_at hl 0 rfl) ?_
  refine gfX3_30 (v := (q 39 0)) hx hb hts h_2 hown hK hP h_3 (congrFun ((rset_ne (by decide)).trans (rset_ne (by decide))) 0) dX3_add_25 ?_
  refine lv_iload_n hx hb dX3_add_28 rfl (lv_at hl 3 rfl) ?_
  have v_3 : vp_in (q 39 0) 20 := vp_in_iff.mpr (by omega)
  refine stX_18 (f := (q 18)) hx hb hK hP hD hS ((rset_ne (by decide)).trans (rset_ne (by decide))) v_3 dX3_add_29 (fun H locs hP hS => ?_)
  refine lv_aload_n hx hb dX3_add_30 rfl (lv_at hl 0 rfl) ?_
  refine lv_dup hx hb dX3_add_31 rfl ?_
  refine gfX3_30 (v := (q 39 0)) hx hb hts h_2 hown hK hP h_3 (congrFun ((rset_ne (by decide)).trans ((rset_ne (by decide)).trans (rset_ne (by decide)))) 0) dX3_add_32 ?_
  refine lv_iconst (v := 1) hx hb dX3_add_35 (by decide) ?_
  refine lv_iadd hx hb dX3_add_36 ?_
  refine pfX3_30 hx hb hts h_2 hown hK hP hD hS h_3 dX3_add_37 (fun H locs hP hS => ?_)
  refine lv_aload_n hx hb dX3_add_40 rfl (lv_at hl 0 rfl) ?_
  refine gfX3_30 (v := ((q 39 0) + 1)) hx hb hts h_2 hown hK hP h_3 (congrFun rset_eq 0) dX3_add_41 ?_
  refine lv_iconst (v := 1) hx hb dX3_add_44 (by decide) ?_
  refine lv_isub hx hb dX3_add_45 ?_
  have hF : (fX3_add q x1 x2 x3) = ((((q 39 0) + 1) - 1), (rset (rset (rset (rset q 16 (upd (q 16) (q 39 0).toNatClampNeg x1)) 17 (upd (q 17) (q 39 0).toNatClampNeg x2)) 18 (upd (q 18) (q 39 0).toNatClampNeg x3)) 39 (fun _ => ((q 39 0) + 1)))) := (show (fX3_add q x1 x2 x3) = ((((q 39 0) + 1) - 1), (rset (rset (rset (rset q 16 (upd (q 16) (q 39 0).toNatClampNeg x1)) 17 (upd (q 17) (q 39 0).toNatClampNeg x2)) 18 (upd (q 18) (q 39 0).toNatClampNeg x3)) 39 (fun _ => ((q 39 0) + 1)))) by (rw [fX3_add]); try rfl)
  exact W.iret (v := (((q 39 0) + 1) - 1)) hx hb hr (fun t ht hW => ⟨⟨(((q 39 0) + 1) - 1), (rset (rset (rset (rset q 16 (upd (q 16) (q 39 0).toNatClampNeg x1)) 17 (upd (q 17) (q 39 0).toNatClampNeg x2)) 18 (upd (q 18) (q 39 0).toNatClampNeg x3)) 39 (fun _ => ((q 39 0) + 1))), rfl, ⟨(p_fst hF), (p_snd hF)⟩, w_ht ht hP⟩, hS.F ht⟩) hS.2.2 dX3_add_46
