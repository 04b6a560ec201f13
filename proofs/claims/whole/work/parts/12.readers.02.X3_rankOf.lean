set_option maxHeartbeats 4000000 in
set_option maxRecDepth 100000 in
theorem mX3_rankOf (l : Launch) (G : va_G) (cy : ClassId) (a : Nat → Nat) (sz : Nat) (q : wSt) (x1 : Int32) (g0 : (q 39 0).toInt ≤ 20) : CtI l yX3_rankOf wsX3_rankOf ({ frames := 1, cells := 0, slots := 0, locals := 21 }) G cy (cX cy a) xN sz q [.ref (a 4), .int x1] (fX3_rankOf q x1) q := by
  refine Met.ofW (cc := cX3_rankOf) (maxL := 2) (ret := (some .int)) (by decide) rfl ?_
  intro p e s m args below meth c s₁ B hml hv
  obtain ⟨rfl, hsz, hP, hK, hD0, hN⟩ := hv
  have hx := B.exec
  have hb := B.bytes
  have hr := B.returns
  have hts := atoms_spec (ws := wsX3_rankOf) B.pre
  have hown : s.vm.findClass RX3 = some m.cls := findClass_of_methodNamed B.named
  have hlocks := B.notSynchronized
  subst hsz
  have hD : ∀ z : wSt, va_D (wA (cX cy a) s.heap.size) ((cX cy a) z) := fun z => w_self (xOk cy a).1 hD0 z
  have hA : ∀ z : Nat, s.heap.size ≤ z → wA (cX cy a) s.heap.size z := fun _ h => Or.inr h
  have hS : va_S (wA (cX cy a) s.heap.size) s.heap s.heap [] := va_S.rf
  have hl := lv_entry ([.ref (a 4), .int x1]) (n := 2) (Nat.le_of_ble_eq_true rfl)
  rw [lg_entry_eq]
  generalize (lg_sl ([.ref (a 4), .int x1]) ++ List.replicate (2 - (lg_sl ([.ref (a 4), .int x1])).length) Slot.unset).toArray = ls at hl ⊢
  have hl : lv_has ls 2 [(0, .ref (a 4)), (1, .int x1)] := hl
  have h_1 := hts (.fieldLink RX3 9 RX3 "rank" "[I") (by decide +kernel)
  have h_2 := (show ∀ w ∈ u_ws RX3 TX3 7, w ∈ wsX3_rankOf by decide +kernel)
  have t_0 : (0 : Int32).toInt = 0 := rfl
  refine lv_aload_n hx hb dX3_rankOf_0 rfl (lv_at hl 0 rfl) ?_
  refine lv_iload_n hx hb dX3_rankOf_1 rfl (lv_at hl 1 rfl) ?_
  refine w_goI (va_runV (As := [.int x1]) (rest := []) ⟨hx, hb, hml, hown, hts⟩ (mX3_has l G cy a _ q x1) (cwV 1 hts gX3_rankOf_X3_has rfl rfl rfl (by decide +kernel) ⟨Nat.le_of_ble_eq_true rfl, Nat.le_of_ble_eq_true rfl⟩) (w_pre (xOk cy a) (va_recv hK hP (ci := 3) (q0 := 4) rfl rfl) hK hP hD hS hA hN) rfl rfl hl.1 rfl (lv_room (Nat.le_of_ble_eq_true rfl)) dX3_rankOf_2 ⟨Nat.le_of_ble_eq_true rfl, Nat.le_of_ble_eq_true rfl⟩) hD hS hA (fun H locs hP hS => ?_)
  have e_1 := tX3_has q x1
  refine lv_if_eq (tgt := 17) hx hb dX3_rankOf_5 (by decide) (fun c_2 => ?_) (fun c_2 => ?_)
  · have e_3 := i_eq c_2
    refine lv_iconst (v := 0) hx hb dX3_rankOf_17 (by decide) ?_
    exact W.iret (v := 0) hx hb hr (fun t ht hW => ⟨⟨0, q, rfl, ⟨(show (fX3_rankOf q x1) = 0 by (rw [fX3_rankOf, if_pos c_2]); try rfl).symm, rfl⟩, w_ht ht hP⟩, hS.F ht⟩) hS.2.2 dX3_rankOf_18
  · have e_3 := i_ne c_2
    refine lv_aload_n hx hb dX3_rankOf_8 rfl (lv_at hl 0 rfl) ?_
    refine gfX3_9 hx hb hts h_2 hown hK hP h_1 dX3_rankOf_9 ?_
    refine lv_iload_n hx hb dX3_rankOf_12 rfl (lv_at hl 1 rfl) ?_
    have v_4 : vp_in x1 20 := vp_in_iff.mpr (by omega)
    refine ldX_16 (f := (q 16)) hx hb hK hP rfl v_4 dX3_rankOf_13 ?_
    refine lv_goto (tgt := 18) hx hb dX3_rankOf_14 (by decide) ?_
    exact W.iret (v := (q 16 (x1).toNatClampNeg)) hx hb hr (fun t ht hW => ⟨⟨(q 16 (x1).toNatClampNeg), q, rfl, ⟨(show (fX3_rankOf q x1) = (q 16 (x1).toNatClampNeg) by (rw [fX3_rankOf, if_neg c_2]); try rfl).symm, rfl⟩, w_ht ht hP⟩, hS.F ht⟩) hS.2.2 dX3_rankOf_18
