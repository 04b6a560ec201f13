set_option maxHeartbeats 4000000 in
set_option maxRecDepth 100000 in
theorem mX4_add (l : Launch) (G : va_G) (cy : ClassId) (a : Nat → Nat) (sz : Nat) (q : wSt) (x1 : Int32) (g0 : 0 ≤ (q 34 0).toInt) (g1 : (q 34 0).toInt < 12) : CtI l yX4_add wsX4_add ({ frames := 0, cells := 0, slots := 0, locals := 0 }) G cy (cX cy a) xN sz q [.ref (a 1), .int x1] (fX4_add q x1).1 (fX4_add q x1).2 := by
  refine Met.ofW (cc := cX4_add) (maxL := 2) (ret := (some .int)) (by decide) rfl ?_
  intro p e s m args below meth c s₁ B hml hv
  obtain ⟨rfl, hsz, hP, hK, hD0, hN⟩ := hv
  have hx := B.exec
  have hb := B.bytes
  have hr := B.returns
  have hts := atoms_spec (ws := wsX4_add) B.pre
  have hown : s.vm.findClass RX4 = some m.cls := findClass_of_methodNamed B.named
  have hlocks := B.notSynchronized
  subst hsz
  have hD : ∀ z : wSt, va_D (wA (cX cy a) s.heap.size) ((cX cy a) z) := fun z => w_self (xOk cy a).1 hD0 z
  have hA : ∀ z : Nat, s.heap.size ≤ z → wA (cX cy a) s.heap.size z := fun _ h => Or.inr h
  have hS : va_S (wA (cX cy a) s.heap.size) s.heap s.heap [] := va_S.rf
  have hl := lv_entry ([.ref (a 1), .int x1]) (n := 2) (Nat.le_of_ble_eq_true rfl)
  rw [lg_entry_eq]
  generalize (lg_sl ([.ref (a 1), .int x1]) ++ List.replicate (2 - (lg_sl ([.ref (a 1), .int x1])).length) Slot.unset).toArray = ls at hl ⊢
  have hl : lv_has ls 2 [(0, .ref (a 1)), (1, .int x1)] := hl
  have h_1 := hts (.fieldLink RX4 9 RX4 "volumes" "[I") (by decide +kernel)
  have h_2 := (show ∀ w ∈ u_ws RX4 TX4 2, w ∈ wsX4_add by decide +kernel)
  have h_3 := hts (.fieldLink RX4 15 RX4 "came" "I") (by decide +kernel)
  have t_1 : (1 : Int32).toInt = 1 := rfl
  refine lv_aload_n hx hb dX4_add_0 rfl (lv_at hl 0 rfl) ?_
  refine gfX4_9 hx hb hts h_2 hown hK hP h_1 dX4_add_1 ?_
  refine lv_aload_n hx hb dX4_add_4 rfl (lv_at hl 0 rfl) ?_
  refine gfX4_15 (v := (q 34 0)) hx hb hts h_2 hown hK hP h_3 rfl dX4_add_5 ?_
  refine lv_iload_n hx hb dX4_add_8 rfl (lv_at hl 1 rfl) ?_
  have v_1 : vp_in (q 34 0) 12 := vp_in_iff.mpr (by omega)
  refine stX_0 (f := (q 0)) hx hb hK hP hD hS rfl v_1 dX4_add_9 (fun H locs hP hS => ?_)
  refine lv_aload_n hx hb dX4_add_10 rfl (lv_at hl 0 rfl) ?_
  refine lv_dup hx hb dX4_add_11 rfl ?_
  refine gfX4_15 (v := (q 34 0)) hx hb hts h_2 hown hK hP h_3 (congrFun (rset_ne (by decide)) 0) dX4_add_12 ?_
  refine lv_iconst (v := 1) hx hb dX4_add_15 (by decide) ?_
  refine lv_iadd hx hb dX4_add_16 ?_
  refine pfX4_15 hx hb hts h_2 hown hK hP hD hS h_3 dX4_add_17 (fun H locs hP hS => ?_)
  refine lv_aload_n hx hb dX4_add_20 rfl (lv_at hl 0 rfl) ?_
  refine gfX4_15 (v := ((q 34 0) + 1)) hx hb hts h_2 hown hK hP h_3 (congrFun rset_eq 0) dX4_add_21 ?_
  refine lv_iconst (v := 1) hx hb dX4_add_24 (by decide) ?_
  refine lv_isub hx hb dX4_add_25 ?_
  have hF : (fX4_add q x1) = ((((q 34 0) + 1) - 1), (rset (rset q 0 (upd (q 0) (q 34 0).toNatClampNeg x1)) 34 (fun _ => ((q 34 0) + 1)))) := (show (fX4_add q x1) = ((((q 34 0) + 1) - 1), (rset (rset q 0 (upd (q 0) (q 34 0).toNatClampNeg x1)) 34 (fun _ => ((q 34 0) + 1)))) by (rw [fX4_add]); try rfl)
  exact W.iret (v := (((q 34 0) + 1) - 1)) hx hb hr (fun t ht hW => ⟨⟨(((q 34 0) + 1) - 1), (rset (rset q 0 (upd (q 0) (q 34 0).toNatClampNeg x1)) 34 (fun _ => ((q 34 0) + 1))), rfl, ⟨(p_fst hF), (p_snd hF)⟩, w_ht ht hP⟩, hS.F ht⟩) hS.2.2 dX4_add_26
