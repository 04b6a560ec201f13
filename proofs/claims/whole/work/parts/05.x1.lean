def fX4_has (q : wSt) (x1 : Int32) : Int32 := (if x1 < 0 then 0 else (if (q 34 0) ≤ x1 then 0 else 1))
set_option maxHeartbeats 4000000 in
set_option maxRecDepth 100000 in
theorem mX4_has (l : Launch) (G : va_G) (cy : ClassId) (a : Nat → Nat) (sz : Nat) (q : wSt) (x1 : Int32) : CtI l yX4_has wsX4_has ({ frames := 0, cells := 0, slots := 0, locals := 0 }) G cy (cX cy a) xN sz q [.ref (a 1), .int x1] (fX4_has q x1) q := by
  refine Met.ofW (cc := cX4_has) (maxL := 2) (ret := (some .boolean)) (by decide) rfl ?_
  intro p e s m args below meth c s₁ B hml hv
  obtain ⟨rfl, hsz, hP, hK, hD0, hN⟩ := hv
  have hx := B.exec
  have hb := B.bytes
  have hr := B.returns
  have hts := atoms_spec (ws := wsX4_has) B.pre
  have hown : s.vm.findClass RX4 = some m.cls := findClass_of_methodNamed B.named
  have hlocks := B.notSynchronized
  subst hsz
  have hD : ∀ z : wSt, va_D (wA (cX cy a) s.heap.size) ((cX cy a) z) := fun z => w_self (xOk cy a).1 hD0 z
  have hA : ∀ z : Nat, s.heap.size ≤ z → wA (cX cy a) s.heap.size z := fun _ h => Or.inr h
  have hS : va_S (wA (cX cy a) s.heap.size) s.heap s.heap [] := va_S.rf
  have hl := lv_entry ([.ref (a 1), .int x1]) (n := 2) (Nat.le_of_ble_eq_true rfl)
  rw [lg_entry_eq]
  generalize (lg_sl ([.ref (a 1), .int x1]) ++ List.replicate (2 - (lg_sl ([.ref (a 1), .int x1])).length) Slot.unset).toArray = ls at hl ⊢
  have hl : lv_has ls 2 [(0, .ref (a 1)), (1, .int x1)] := hl
  have h_1 := hts (.fieldLink RX4 15 RX4 "came" "I") (by decide +kernel)
  have h_2 := (show ∀ w ∈ u_ws RX4 TX4 2, w ∈ wsX4_has by decide +kernel)
  have t_0 : (0 : Int32).toInt = 0 := rfl
  have t_1 : (1 : Int32).toInt = 1 := rfl
  refine lv_iload_n hx hb dX4_has_0 rfl (lv_at hl 1 rfl) ?_
  refine lv_if_lt (tgt := 16) hx hb dX4_has_1 (by decide) (fun c_1 => ?_) (fun c_1 => ?_)
  · have e_2 := i_lt c_1
    refine lv_iconst (v := 0) hx hb dX4_has_16 (by decide) ?_
    exact W.zret (v := 0) hx hb hr rfl (fun t ht hW => ⟨⟨0, q, rfl, ⟨(Eq.symm (show (fX4_has q x1) = 0 by (rw [fX4_has, if_pos c_1]); try rfl)), rfl⟩, w_ht ht hP⟩, hS.F ht⟩) hS.2.2 dX4_has_17
  · have e_2 := i_nlt c_1
    refine lv_iload_n hx hb dX4_has_4 rfl (lv_at hl 1 rfl) ?_
    refine lv_aload_n hx hb dX4_has_5 rfl (lv_at hl 0 rfl) ?_
    refine gfX4_15 (v := (q 34 0)) hx hb hts h_2 hown hK hP h_1 rfl dX4_has_6 ?_
    refine lv_icmp_ge (tgt := 16) hx hb dX4_has_9 (by decide) (fun c_3 => ?_) (fun c_3 => ?_)
    · have e_4 := i_le c_3
      refine lv_iconst (v := 0) hx hb dX4_has_16 (by decide) ?_
      exact W.zret (v := 0) hx hb hr rfl (fun t ht hW => ⟨⟨0, q, rfl, ⟨(Eq.symm (show (fX4_has q x1) = 0 by (rw [fX4_has, if_neg c_1, if_pos c_3]); try rfl)), rfl⟩, w_ht ht hP⟩, hS.F ht⟩) hS.2.2 dX4_has_17
    · have e_4 := i_nle c_3
      refine lv_iconst (v := 1) hx hb dX4_has_12 (by decide) ?_
      refine lv_goto (tgt := 17) hx hb dX4_has_13 (by decide) ?_
      exact W.zret (v := 1) hx hb hr rfl (fun t ht hW => ⟨⟨1, q, rfl, ⟨(Eq.symm (show (fX4_has q x1) = 1 by (rw [fX4_has, if_neg c_1, if_neg c_3]); try rfl)), rfl⟩, w_ht ht hP⟩, hS.F ht⟩) hS.2.2 dX4_has_17
def fX4_volumesOf (q : wSt) (x1 : Int32) : Int32 := (if (fX4_has q x1) = 0 then 0 else (q 0 (x1).toNatClampNeg))
set_option maxHeartbeats 4000000 in
set_option maxRecDepth 100000 in
theorem mX4_volumesOf (l : Launch) (G : va_G) (cy : ClassId) (a : Nat → Nat) (sz : Nat) (q : wSt) (x1 : Int32) (g0 : (q 34 0).toInt ≤ 12) : CtI l yX4_volumesOf wsX4_volumesOf ({ frames := 1, cells := 0, slots := 0, locals := 21 }) G cy (cX cy a) xN sz q [.ref (a 1), .int x1] (fX4_volumesOf q x1) q := by
  refine Met.ofW (cc := cX4_volumesOf) (maxL := 2) (ret := (some .int)) (by decide) rfl ?_
  intro p e s m args below meth c s₁ B hml hv
  obtain ⟨rfl, hsz, hP, hK, hD0, hN⟩ := hv
  have hx := B.exec
  have hb := B.bytes
  have hr := B.returns
  have hts := atoms_spec (ws := wsX4_volumesOf) B.pre
  have hown : s.vm.findClass RX4 = some m.cls := findClass_of_methodNamed B.named
  have hlocks := B.notSynchronized
  subst hsz
  have hD : ∀ z : wSt, va_D (wA (cX cy a) s.heap.size) ((cX cy a) z) := fun z => w_self (xOk cy a).1 hD0 z
  have hA : ∀ z : Nat, s.heap.size ≤ z → wA (cX cy a) s.heap.size z := fun _ h => Or.inr h
  have hS : va_S (wA (cX cy a) s.heap.size) s.heap s.heap [] := va_S.rf
  have hl := lv_entry ([.ref (a 1), .int x1]) (n := 2) (Nat.le_of_ble_eq_true rfl)
  rw [lg_entry_eq]
  generalize (lg_sl ([.ref (a 1), .int x1]) ++ List.replicate (2 - (lg_sl ([.ref (a 1), .int x1])).length) Slot.unset).toArray = ls at hl ⊢
  have hl : lv_has ls 2 [(0, .ref (a 1)), (1, .int x1)] := hl
  have h_1 := hts (.fieldLink RX4 9 RX4 "volumes" "[I") (by decide +kernel)
  have h_2 := (show ∀ w ∈ u_ws RX4 TX4 2, w ∈ wsX4_volumesOf by decide +kernel)
  have t_0 : (0 : Int32).toInt = 0 := rfl
  refine lv_aload_n hx hb dX4_volumesOf_0 rfl (lv_at hl 0 rfl) ?_
  refine lv_iload_n hx hb dX4_volumesOf_1 rfl (lv_at hl 1 rfl) ?_
  refine w_goI (va_runV (As := [.int x1]) (rest := []) ⟨hx, hb, hml, hown, hts⟩ (mX4_has l G cy a _ q x1) (cwV 1 hts gX4_volumesOf_X4_has rfl rfl rfl (by decide +kernel) ⟨Nat.le_of_ble_eq_true rfl, Nat.le_of_ble_eq_true rfl⟩) (w_pre (xOk cy a) (va_recv hK hP (ci := 4) (q0 := 1) rfl rfl) hK hP hD hS hA hN) rfl rfl hl.1 rfl (lv_room (Nat.le_of_ble_eq_true rfl)) dX4_volumesOf_2 ⟨Nat.le_of_ble_eq_true rfl, Nat.le_of_ble_eq_true rfl⟩) hD hS hA (fun H locs hP hS => ?_)
  refine lv_if_eq (tgt := 17) hx hb dX4_volumesOf_5 (by decide) (fun c_1 => ?_) (fun c_1 => ?_)
  · have e_2 := i_eq c_1
    refine lv_iconst (v := 0) hx hb dX4_volumesOf_17 (by decide) ?_
    exact W.iret (v := 0) hx hb hr (fun t ht hW => ⟨⟨0, q, rfl, ⟨(Eq.symm (show (fX4_volumesOf q x1) = 0 by (rw [fX4_volumesOf, if_pos c_1]); try rfl)), rfl⟩, w_ht ht hP⟩, hS.F ht⟩) hS.2.2 dX4_volumesOf_18
  · have e_2 := i_ne c_1
    refine lv_aload_n hx hb dX4_volumesOf_8 rfl (lv_at hl 0 rfl) ?_
    refine gfX4_9 hx hb hts h_2 hown hK hP h_1 dX4_volumesOf_9 ?_
    refine lv_iload_n hx hb dX4_volumesOf_12 rfl (lv_at hl 1 rfl) ?_
    have v_3 : vp_in x1 12 := vp_in_iff.mpr (by omega)
    refine ldX_0 (f := (q 0)) hx hb hK hP rfl v_3 dX4_volumesOf_13 ?_
    refine lv_goto (tgt := 18) hx hb dX4_volumesOf_14 (by decide) ?_
    exact W.iret (v := (q 0 (x1).toNatClampNeg)) hx hb hr (fun t ht hW => ⟨⟨(q 0 (x1).toNatClampNeg), q, rfl, ⟨(Eq.symm (show (fX4_volumesOf q x1) = (q 0 (x1).toNatClampNeg) by (rw [fX4_volumesOf, if_neg c_1]); try rfl)), rfl⟩, w_ht ht hP⟩, hS.F ht⟩) hS.2.2 dX4_volumesOf_18
def fX4_hasVolume (q : wSt) (x1 : Int32) (x2 : Int32) : Int32 := (if x2 < 0 then 0 else (if (fX4_volumesOf q x1) ≤ x2 then 0 else 1))
set_option maxHeartbeats 4000000 in
set_option maxRecDepth 100000 in
theorem mX4_hasVolume (l : Launch) (G : va_G) (cy : ClassId) (a : Nat → Nat) (sz : Nat) (q : wSt) (x1 : Int32) (x2 : Int32) (g0 : (q 34 0).toInt ≤ 12) : CtI l yX4_hasVolume wsX4_hasVolume ({ frames := 2, cells := 0, slots := 0, locals := 42 }) G cy (cX cy a) xN sz q [.ref (a 1), .int x1, .int x2] (fX4_hasVolume q x1 x2) q := by
  refine Met.ofW (cc := cX4_hasVolume) (maxL := 3) (ret := (some .boolean)) (by decide) rfl ?_
  intro p e s m args below meth c s₁ B hml hv
  obtain ⟨rfl, hsz, hP, hK, hD0, hN⟩ := hv
  have hx := B.exec
  have hb := B.bytes
  have hr := B.returns
  have hts := atoms_spec (ws := wsX4_hasVolume) B.pre
  have hown : s.vm.findClass RX4 = some m.cls := findClass_of_methodNamed B.named
  have hlocks := B.notSynchronized
  subst hsz
  have hD : ∀ z : wSt, va_D (wA (cX cy a) s.heap.size) ((cX cy a) z) := fun z => w_self (xOk cy a).1 hD0 z
  have hA : ∀ z : Nat, s.heap.size ≤ z → wA (cX cy a) s.heap.size z := fun _ h => Or.inr h
  have hS : va_S (wA (cX cy a) s.heap.size) s.heap s.heap [] := va_S.rf
  have hl := lv_entry ([.ref (a 1), .int x1, .int x2]) (n := 3) (Nat.le_of_ble_eq_true rfl)
  rw [lg_entry_eq]
  generalize (lg_sl ([.ref (a 1), .int x1, .int x2]) ++ List.replicate (3 - (lg_sl ([.ref (a 1), .int x1, .int x2])).length) Slot.unset).toArray = ls at hl ⊢
  have hl : lv_has ls 3 [(0, .ref (a 1)), (1, .int x1), (2, .int x2)] := hl
  have t_0 : (0 : Int32).toInt = 0 := rfl
  have t_1 : (1 : Int32).toInt = 1 := rfl
  refine lv_iload_n hx hb dX4_hasVolume_0 rfl (lv_at hl 2 rfl) ?_
  refine lv_if_lt (tgt := 17) hx hb dX4_hasVolume_1 (by decide) (fun c_1 => ?_) (fun c_1 => ?_)
  · have e_2 := i_lt c_1
    refine lv_iconst (v := 0) hx hb dX4_hasVolume_17 (by decide) ?_
    exact W.zret (v := 0) hx hb hr rfl (fun t ht hW => ⟨⟨0, q, rfl, ⟨(Eq.symm (show (fX4_hasVolume q x1 x2) = 0 by (rw [fX4_hasVolume, if_pos c_1]); try rfl)), rfl⟩, w_ht ht hP⟩, hS.F ht⟩) hS.2.2 dX4_hasVolume_18
  · have e_2 := i_nlt c_1
    refine lv_iload_n hx hb dX4_hasVolume_4 rfl (lv_at hl 2 rfl) ?_
    refine lv_aload_n hx hb dX4_hasVolume_5 rfl (lv_at hl 0 rfl) ?_
    refine lv_iload_n hx hb dX4_hasVolume_6 rfl (lv_at hl 1 rfl) ?_
    refine w_goI (va_runV (As := [.int x1]) (rest := [.int x2]) ⟨hx, hb, hml, hown, hts⟩ (mX4_volumesOf l G cy a _ q x1 (by omega)) (cwV 1 hts gX4_hasVolume_X4_volumesOf rfl rfl rfl (by decide +kernel) ⟨Nat.le_of_ble_eq_true rfl, Nat.le_of_ble_eq_true rfl⟩) (w_pre (xOk cy a) (va_recv hK hP (ci := 4) (q0 := 1) rfl rfl) hK hP hD hS hA hN) rfl rfl hl.1 rfl (lv_room (Nat.le_of_ble_eq_true rfl)) dX4_hasVolume_7 ⟨Nat.le_of_ble_eq_true rfl, Nat.le_of_ble_eq_true rfl⟩) hD hS hA (fun H locs hP hS => ?_)
    refine lv_icmp_ge (tgt := 17) hx hb dX4_hasVolume_10 (by decide) (fun c_3 => ?_) (fun c_3 => ?_)
    · have e_4 := i_le c_3
      refine lv_iconst (v := 0) hx hb dX4_hasVolume_17 (by decide) ?_
      exact W.zret (v := 0) hx hb hr rfl (fun t ht hW => ⟨⟨0, q, rfl, ⟨(Eq.symm (show (fX4_hasVolume q x1 x2) = 0 by (rw [fX4_hasVolume, if_neg c_1, if_pos c_3]); try rfl)), rfl⟩, w_ht ht hP⟩, hS.F ht⟩) hS.2.2 dX4_hasVolume_18
    · have e_4 := i_nle c_3
      refine lv_iconst (v := 1) hx hb dX4_hasVolume_13 (by decide) ?_
      refine lv_goto (tgt := 18) hx hb dX4_hasVolume_14 (by decide) ?_
      exact W.zret (v := 1) hx hb hr rfl (fun t ht hW => ⟨⟨1, q, rfl, ⟨(Eq.symm (show (fX4_hasVolume q x1 x2) = 1 by (rw [fX4_hasVolume, if_neg c_1, if_neg c_3]); try rfl)), rfl⟩, w_ht ht hP⟩, hS.F ht⟩) hS.2.2 dX4_hasVolume_18
def fX4_add (q : wSt) (x1 : Int32) : Int32 × wSt := ((((q 34 0) + 1) - 1), (rset (rset q 0 (upd (q 0) ((q 34 0)).toNatClampNeg x1)) 34 (fun _ => ((q 34 0) + 1))))
set_option maxHeartbeats 4000000 in
set_option maxRecDepth 100000 in
theorem mX4_add (l : Launch) (G : va_G) (cy : ClassId) (a : Nat → Nat) (sz : Nat) (q : wSt) (x1 : Int32) (g0 : 0 ≤ (q 34 0).toInt) (g1 : (q 34 0).toInt < 12) : CtI l yX4_add wsX4_add ({ frames := 0, cells := 0, slots := 0, locals := 0 }) G cy (cX cy a) xN sz q [.ref (a 1), .int x1] (fX4_add q x1).1 (fX4_add q x1).2 := by
  refine Met.ofW (cc := cX4_add) (maxL := 2) (ret := (some .int)) (by decide) rfl ?_
  intro p e s m args below meth c s₁ B hml hv
  obtain ⟨rfl, hsz, hP, hK, hD0, hN⟩ := hv
  have hx := B.exec
  have hb := B.bytes
  have hr := B.returns
  have hts := atoms_spec (ws := wsX4_add) B.pre
  have hown : s.vm.findClass RX4 = some m.cls := findClass_of_methodNamed B.named
  have hlocks := B.notSynchronized
  subst hsz
  have hD : ∀ z : wSt, va_D (wA (cX cy a) s.heap.size) ((cX cy a) z) := fun z => w_self (xOk cy a).1 hD0 z
  have hA : ∀ z : Nat, s.heap.size ≤ z → wA (cX cy a) s.heap.size z := fun _ h => Or.inr h
  have hS : va_S (wA (cX cy a) s.heap.size) s.heap s.heap [] := va_S.rf
  have hl := lv_entry ([.ref (a 1), .int x1]) (n := 2) (Nat.le_of_ble_eq_true rfl)
  rw [lg_entry_eq]
  generalize (lg_sl ([.ref (a 1), .int x1]) ++ List.replicate (2 - (lg_sl ([.ref (a 1), .int x1])).length) Slot.unset).toArray = ls at hl ⊢
  have hl : lv_has ls 2 [(0, .ref (a 1)), (1, .int x1)] := hl
  have h_1 := hts (.fieldLink RX4 9 RX4 "volumes" "[I") (by decide +kernel)
  have h_2 := (show ∀ w ∈ u_ws RX4 TX4 2, w ∈ wsX4_add by decide +kernel)
  have h_3 := hts (.fieldLink RX4 15 RX4 "came" "I") (by decide +kernel)
  have t_1 : (1 : Int32).toInt = 1 := rfl
  refine lv_aload_n hx hb dX4_add_0 rfl (lv_at hl 0 rfl) ?_
  refine gfX4_9 hx hb hts h_2 hown hK hP h_1 dX4_add_1 ?_
  refine lv_aload_n hx hb dX4_add_4 rfl (lv_at hl 0 rfl) ?_
  refine gfX4_15 (v := (q 34 0)) hx hb hts h_2 hown hK hP h_3 rfl dX4_add_5 ?_
  refine lv_iload_n hx hb dX4_add_8 rfl (lv_at hl 1 rfl) ?_
  have v_1 : vp_in (q 34 0) 12 := vp_in_iff.mpr (by omega)
  refine stX_0 (f := (q 0)) hx hb hK hP hD hS rfl v_1 dX4_add_9 (fun H locs hP hS => ?_)
  refine lv_aload_n hx hb dX4_add_10 rfl (lv_at hl 0 rfl) ?_
  refine lv_dup hx hb dX4_add_11 rfl ?_
  refine gfX4_15 (v := (q 34 0)) hx hb hts h_2 hown hK hP h_3 rfl dX4_add_12 ?_
  refine lv_iconst (v := 1) hx hb dX4_add_15 (by decide) ?_
  refine lv_iadd hx hb dX4_add_16 ?_
  refine pfX4_15 hx hb hts h_2 hown hK hP hD hS h_3 dX4_add_17 (fun H locs hP hS => ?_)
  refine lv_aload_n hx hb dX4_add_20 rfl (lv_at hl 0 rfl) ?_
  refine gfX4_15 (v := ((q 34 0) + 1)) hx hb hts h_2 hown hK hP h_3 rfl dX4_add_21 ?_
  refine lv_iconst (v := 1) hx hb dX4_add_24 (by decide) ?_
  refine lv_isub hx hb dX4_add_25 ?_
  exact W.iret (v := (((q 34 0) + 1) - 1)) hx hb hr (fun t ht hW => ⟨⟨(((q 34 0) + 1) - 1), (rset (rset q 0 (upd (q 0) ((q 34 0)).toNatClampNeg x1)) 34 (fun _ => ((q 34 0) + 1))), rfl, ⟨(Eq.symm (show (fX4_add q x1).1 = (((q 34 0) + 1) - 1) by (rw [fX4_add]); try rfl)), (Eq.symm (show (fX4_add q x1).2 = (rset (rset q 0 (upd (q 0) ((q 34 0)).toNatClampNeg x1)) 34 (fun _ => ((q 34 0) + 1))) by (rw [fX4_add]); try rfl))⟩, w_ht ht hP⟩, hS.F ht⟩) hS.2.2 dX4_add_26
def fX1_has (q : wSt) (x1 : Int32) : Int32 := (if x1 < 0 then 0 else (if (q 36 0) ≤ x1 then 0 else 1))
set_option maxHeartbeats 4000000 in
set_option maxRecDepth 100000 in
theorem mX1_has (l : Launch) (G : va_G) (cy : ClassId) (a : Nat → Nat) (sz : Nat) (q : wSt) (x1 : Int32) : CtI l yX1_has wsX1_has ({ frames := 0, cells := 0, slots := 0, locals := 0 }) G cy (cX cy a) xN sz q [.ref (a 3), .int x1] (fX1_has q x1) q := by
  refine Met.ofW (cc := cX1_has) (maxL := 2) (ret := (some .boolean)) (by decide) rfl ?_
  intro p e s m args below meth c s₁ B hml hv
  obtain ⟨rfl, hsz, hP, hK, hD0, hN⟩ := hv
  have hx := B.exec
  have hb := B.bytes
  have hr := B.returns
  have hts := atoms_spec (ws := wsX1_has) B.pre
  have hown : s.vm.findClass RX1 = some m.cls := findClass_of_methodNamed B.named
  have hlocks := B.notSynchronized
  subst hsz
  have hD : ∀ z : wSt, va_D (wA (cX cy a) s.heap.size) ((cX cy a) z) := fun z => w_self (xOk cy a).1 hD0 z
  have hA : ∀ z : Nat, s.heap.size ≤ z → wA (cX cy a) s.heap.size z := fun _ h => Or.inr h
  have hS : va_S (wA (cX cy a) s.heap.size) s.heap s.heap [] := va_S.rf
  have hl := lv_entry ([.ref (a 3), .int x1]) (n := 2) (Nat.le_of_ble_eq_true rfl)
  rw [lg_entry_eq]
  generalize (lg_sl ([.ref (a 3), .int x1]) ++ List.replicate (2 - (lg_sl ([.ref (a 3), .int x1])).length) Slot.unset).toArray = ls at hl ⊢
  have hl : lv_has ls 2 [(0, .ref (a 3)), (1, .int x1)] := hl
  have h_1 := hts (.fieldLink RX1 42 RX1 "came" "I") (by decide +kernel)
  have h_2 := (show ∀ w ∈ u_ws RX1 TX1 13, w ∈ wsX1_has by decide +kernel)
  have t_0 : (0 : Int32).toInt = 0 := rfl
  have t_1 : (1 : Int32).toInt = 1 := rfl
  refine lv_iload_n hx hb dX1_has_0 rfl (lv_at hl 1 rfl) ?_
  refine lv_if_lt (tgt := 16) hx hb dX1_has_1 (by decide) (fun c_1 => ?_) (fun c_1 => ?_)
  · have e_2 := i_lt c_1
    refine lv_iconst (v := 0) hx hb dX1_has_16 (by decide) ?_
    exact W.zret (v := 0) hx hb hr rfl (fun t ht hW => ⟨⟨0, q, rfl, ⟨(Eq.symm (show (fX1_has q x1) = 0 by (rw [fX1_has, if_pos c_1]); try rfl)), rfl⟩, w_ht ht hP⟩, hS.F ht⟩) hS.2.2 dX1_has_17
  · have e_2 := i_nlt c_1
    refine lv_iload_n hx hb dX1_has_4 rfl (lv_at hl 1 rfl) ?_
    refine lv_aload_n hx hb dX1_has_5 rfl (lv_at hl 0 rfl) ?_
    refine gfX1_42 (v := (q 36 0)) hx hb hts h_2 hown hK hP h_1 rfl dX1_has_6 ?_
    refine lv_icmp_ge (tgt := 16) hx hb dX1_has_9 (by decide) (fun c_3 => ?_) (fun c_3 => ?_)
    · have e_4 := i_le c_3
      refine lv_iconst (v := 0) hx hb dX1_has_16 (by decide) ?_
      exact W.zret (v := 0) hx hb hr rfl (fun t ht hW => ⟨⟨0, q, rfl, ⟨(Eq.symm (show (fX1_has q x1) = 0 by (rw [fX1_has, if_neg c_1, if_pos c_3]); try rfl)), rfl⟩, w_ht ht hP⟩, hS.F ht⟩) hS.2.2 dX1_has_17
    · have e_4 := i_nle c_3
      refine lv_iconst (v := 1) hx hb dX1_has_12 (by decide) ?_
      refine lv_goto (tgt := 17) hx hb dX1_has_13 (by decide) ?_
      exact W.zret (v := 1) hx hb hr rfl (fun t ht hW => ⟨⟨1, q, rfl, ⟨(Eq.symm (show (fX1_has q x1) = 1 by (rw [fX1_has, if_neg c_1, if_neg c_3]); try rfl)), rfl⟩, w_ht ht hP⟩, hS.F ht⟩) hS.2.2 dX1_has_17
def fX1_isAt (q : wSt) (x1 : Int32) (x2 : Int32) : Int32 := (if (fX1_has q x1) = 0 then 0 else (if (q 6 (x1).toNatClampNeg) = x2 then 1 else 0))
set_option maxHeartbeats 4000000 in
set_option maxRecDepth 100000 in
theorem mX1_isAt (l : Launch) (G : va_G) (cy : ClassId) (a : Nat → Nat) (sz : Nat) (q : wSt) (x1 : Int32) (x2 : Int32) (g0 : (q 36 0).toInt ≤ 200) : CtI l yX1_isAt wsX1_isAt ({ frames := 1, cells := 0, slots := 0, locals := 21 }) G cy (cX cy a) xN sz q [.ref (a 3), .int x1, .int x2] (fX1_isAt q x1 x2) q := by
  refine Met.ofW (cc := cX1_isAt) (maxL := 3) (ret := (some .boolean)) (by decide) rfl ?_
  intro p e s m args below meth c s₁ B hml hv
  obtain ⟨rfl, hsz, hP, hK, hD0, hN⟩ := hv
  have hx := B.exec
  have hb := B.bytes
  have hr := B.returns
  have hts := atoms_spec (ws := wsX1_isAt) B.pre
  have hown : s.vm.findClass RX1 = some m.cls := findClass_of_methodNamed B.named
  have hlocks := B.notSynchronized
  subst hsz
  have hD : ∀ z : wSt, va_D (wA (cX cy a) s.heap.size) ((cX cy a) z) := fun z => w_self (xOk cy a).1 hD0 z
  have hA : ∀ z : Nat, s.heap.size ≤ z → wA (cX cy a) s.heap.size z := fun _ h => Or.inr h
  have hS : va_S (wA (cX cy a) s.heap.size) s.heap s.heap [] := va_S.rf
  have hl := lv_entry ([.ref (a 3), .int x1, .int x2]) (n := 3) (Nat.le_of_ble_eq_true rfl)
  rw [lg_entry_eq]
  generalize (lg_sl ([.ref (a 3), .int x1, .int x2]) ++ List.replicate (3 - (lg_sl ([.ref (a 3), .int x1, .int x2])).length) Slot.unset).toArray = ls at hl ⊢
  have hl : lv_has ls 3 [(0, .ref (a 3)), (1, .int x1), (2, .int x2)] := hl
  have h_1 := hts (.fieldLink RX1 9 RX1 "where" "[I") (by decide +kernel)
  have h_2 := (show ∀ w ∈ u_ws RX1 TX1 13, w ∈ wsX1_isAt by decide +kernel)
  have t_0 : (0 : Int32).toInt = 0 := rfl
  have t_1 : (1 : Int32).toInt = 1 := rfl
  refine lv_aload_n hx hb dX1_isAt_0 rfl (lv_at hl 0 rfl) ?_
  refine lv_iload_n hx hb dX1_isAt_1 rfl (lv_at hl 1 rfl) ?_
  refine w_goI (va_runV (As := [.int x1]) (rest := []) ⟨hx, hb, hml, hown, hts⟩ (mX1_has l G cy a _ q x1) (cwV 1 hts gX1_isAt_X1_has rfl rfl rfl (by decide +kernel) ⟨Nat.le_of_ble_eq_true rfl, Nat.le_of_ble_eq_true rfl⟩) (w_pre (xOk cy a) (va_recv hK hP (ci := 1) (q0 := 3) rfl rfl) hK hP hD hS hA hN) rfl rfl hl.1 rfl (lv_room (Nat.le_of_ble_eq_true rfl)) dX1_isAt_2 ⟨Nat.le_of_ble_eq_true rfl, Nat.le_of_ble_eq_true rfl⟩) hD hS hA (fun H locs hP hS => ?_)
  refine lv_if_eq (tgt := 22) hx hb dX1_isAt_5 (by decide) (fun c_1 => ?_) (fun c_1 => ?_)
  · have e_2 := i_eq c_1
    refine lv_iconst (v := 0) hx hb dX1_isAt_22 (by decide) ?_
    exact W.zret (v := 0) hx hb hr rfl (fun t ht hW => ⟨⟨0, q, rfl, ⟨(Eq.symm (show (fX1_isAt q x1 x2) = 0 by (rw [fX1_isAt, if_pos c_1]); try rfl)), rfl⟩, w_ht ht hP⟩, hS.F ht⟩) hS.2.2 dX1_isAt_23
  · have e_2 := i_ne c_1
    refine lv_aload_n hx hb dX1_isAt_8 rfl (lv_at hl 0 rfl) ?_
    refine gfX1_9 hx hb hts h_2 hown hK hP h_1 dX1_isAt_9 ?_
    refine lv_iload_n hx hb dX1_isAt_12 rfl (lv_at hl 1 rfl) ?_
    have v_3 : vp_in x1 200 := vp_in_iff.mpr (by omega)
    refine ldX_6 (f := (q 6)) hx hb hK hP rfl v_3 dX1_isAt_13 ?_
    refine lv_iload_n hx hb dX1_isAt_14 rfl (lv_at hl 2 rfl) ?_
    refine lv_icmp_ne (tgt := 22) hx hb dX1_isAt_15 (by decide) (fun c_4 => ?_) (fun c_4 => ?_)
    · have e_5 := i_ne c_4
      refine lv_iconst (v := 0) hx hb dX1_isAt_22 (by decide) ?_
      exact W.zret (v := 0) hx hb hr rfl (fun t ht hW => ⟨⟨0, q, rfl, ⟨(Eq.symm (show (fX1_isAt q x1 x2) = 0 by (rw [fX1_isAt, if_neg c_1, if_neg c_4]); try rfl)), rfl⟩, w_ht ht hP⟩, hS.F ht⟩) hS.2.2 dX1_isAt_23
    · have e_5 := i_eq c_4
      refine lv_iconst (v := 1) hx hb dX1_isAt_18 (by decide) ?_
      refine lv_goto (tgt := 23) hx hb dX1_isAt_19 (by decide) ?_
      exact W.zret (v := 1) hx hb hr rfl (fun t ht hW => ⟨⟨1, q, rfl, ⟨(Eq.symm (show (fX1_isAt q x1 x2) = 1 by (rw [fX1_isAt, if_neg c_1, if_pos c_4]); try rfl)), rfl⟩, w_ht ht hP⟩, hS.F ht⟩) hS.2.2 dX1_isAt_23
def fX1_slot (q : wSt) (x1 : Int32) (x2 : Int32) : Int32 := ((x1 * 4) + x2)
set_option maxHeartbeats 4000000 in
set_option maxRecDepth 100000 in
theorem mX1_slot (l : Launch) (G : va_G) (cy : ClassId) (a : Nat → Nat) (sz : Nat) (q : wSt) (x1 : Int32) (x2 : Int32) : CtI l yX1_slot wsX1_slot ({ frames := 0, cells := 0, slots := 0, locals := 0 }) G cy (cX cy a) xN sz q [.ref (a 3), .int x1, .int x2] (fX1_slot q x1 x2) q := by
  refine Met.ofW (cc := cX1_slot) (maxL := 3) (ret := (some .int)) (by decide) rfl ?_
  intro p e s m args below meth c s₁ B hml hv
  obtain ⟨rfl, hsz, hP, hK, hD0, hN⟩ := hv
  have hx := B.exec
  have hb := B.bytes
  have hr := B.returns
  have hts := atoms_spec (ws := wsX1_slot) B.pre
  have hown : s.vm.findClass RX1 = some m.cls := findClass_of_methodNamed B.named
  have hlocks := B.notSynchronized
  subst hsz
  have hD : ∀ z : wSt, va_D (wA (cX cy a) s.heap.size) ((cX cy a) z) := fun z => w_self (xOk cy a).1 hD0 z
  have hA : ∀ z : Nat, s.heap.size ≤ z → wA (cX cy a) s.heap.size z := fun _ h => Or.inr h
  have hS : va_S (wA (cX cy a) s.heap.size) s.heap s.heap [] := va_S.rf
  have hl := lv_entry ([.ref (a 3), .int x1, .int x2]) (n := 3) (Nat.le_of_ble_eq_true rfl)
  rw [lg_entry_eq]
  generalize (lg_sl ([.ref (a 3), .int x1, .int x2]) ++ List.replicate (3 - (lg_sl ([.ref (a 3), .int x1, .int x2])).length) Slot.unset).toArray = ls at hl ⊢
  have hl : lv_has ls 3 [(0, .ref (a 3)), (1, .int x1), (2, .int x2)] := hl
  have t_4 : (4 : Int32).toInt = 4 := rfl
  refine lv_iload_n hx hb dX1_slot_0 rfl (lv_at hl 1 rfl) ?_
  refine lv_iconst (v := 4) hx hb dX1_slot_1 (by decide) ?_
  refine lv_imul hx hb dX1_slot_2 ?_
  refine lv_iload_n hx hb dX1_slot_3 rfl (lv_at hl 2 rfl) ?_
  refine lv_iadd hx hb dX1_slot_4 ?_
  exact W.iret (v := ((x1 * 4) + x2)) hx hb hr (fun t ht hW => ⟨⟨((x1 * 4) + x2), q, rfl, ⟨(Eq.symm (show (fX1_slot q x1 x2) = ((x1 * 4) + x2) by (rw [fX1_slot]); try rfl)), rfl⟩, w_ht ht hP⟩, hS.F ht⟩) hS.2.2 dX1_slot_5
def fX1_inBox (q : wSt) (x1 : Int32) : Int32 := (if (q 6 (x1).toNatClampNeg) = 2 then 1 else (if (q 6 (x1).toNatClampNeg) = 3 then 1 else 0))
set_option maxHeartbeats 4000000 in
set_option maxRecDepth 100000 in
theorem mX1_inBox (l : Launch) (G : va_G) (cy : ClassId) (a : Nat → Nat) (sz : Nat) (q : wSt) (x1 : Int32) (g0 : 0 ≤ (x1).toInt) (g1 : (x1).toInt < 200) : CtI l yX1_inBox wsX1_inBox ({ frames := 0, cells := 0, slots := 0, locals := 0 }) G cy (cX cy a) xN sz q [.ref (a 3), .int x1] (fX1_inBox q x1) q := by
  refine Met.ofW (cc := cX1_inBox) (maxL := 2) (ret := (some .boolean)) (by decide) rfl ?_
  intro p e s m args below meth c s₁ B hml hv
  obtain ⟨rfl, hsz, hP, hK, hD0, hN⟩ := hv
  have hx := B.exec
  have hb := B.bytes
  have hr := B.returns
  have hts := atoms_spec (ws := wsX1_inBox) B.pre
  have hown : s.vm.findClass RX1 = some m.cls := findClass_of_methodNamed B.named
  have hlocks := B.notSynchronized
  subst hsz
  have hD : ∀ z : wSt, va_D (wA (cX cy a) s.heap.size) ((cX cy a) z) := fun z => w_self (xOk cy a).1 hD0 z
  have hA : ∀ z : Nat, s.heap.size ≤ z → wA (cX cy a) s.heap.size z := fun _ h => Or.inr h
  have hS : va_S (wA (cX cy a) s.heap.size) s.heap s.heap [] := va_S.rf
  have hl := lv_entry ([.ref (a 3), .int x1]) (n := 2) (Nat.le_of_ble_eq_true rfl)
  rw [lg_entry_eq]
  generalize (lg_sl ([.ref (a 3), .int x1]) ++ List.replicate (2 - (lg_sl ([.ref (a 3), .int x1])).length) Slot.unset).toArray = ls at hl ⊢
  have hl : lv_has ls 2 [(0, .ref (a 3)), (1, .int x1)] := hl
  have h_1 := hts (.fieldLink RX1 9 RX1 "where" "[I") (by decide +kernel)
  have h_2 := (show ∀ w ∈ u_ws RX1 TX1 13, w ∈ wsX1_inBox by decide +kernel)
  have t_0 : (0 : Int32).toInt = 0 := rfl
  have t_1 : (1 : Int32).toInt = 1 := rfl
  have t_2 : (2 : Int32).toInt = 2 := rfl
  have t_3 : (3 : Int32).toInt = 3 := rfl
  refine lv_aload_n hx hb dX1_inBox_0 rfl (lv_at hl 0 rfl) ?_
  refine gfX1_9 hx hb hts h_2 hown hK hP h_1 dX1_inBox_1 ?_
  refine lv_iload_n hx hb dX1_inBox_4 rfl (lv_at hl 1 rfl) ?_
  have v_1 : vp_in x1 200 := vp_in_iff.mpr (by omega)
  refine ldX_6 (f := (q 6)) hx hb hK hP rfl v_1 dX1_inBox_5 ?_
  refine lv_iconst (v := 2) hx hb dX1_inBox_6 (by decide) ?_
  refine lv_icmp_eq (tgt := 20) hx hb dX1_inBox_7 (by decide) (fun c_2 => ?_) (fun c_2 => ?_)
  · have e_3 := i_eq c_2
    refine lv_iconst (v := 1) hx hb dX1_inBox_20 (by decide) ?_
    refine lv_goto (tgt := 25) hx hb dX1_inBox_21 (by decide) ?_
    exact W.zret (v := 1) hx hb hr rfl (fun t ht hW => ⟨⟨1, q, rfl, ⟨(Eq.symm (show (fX1_inBox q x1) = 1 by (rw [fX1_inBox, if_pos c_2]); try rfl)), rfl⟩, w_ht ht hP⟩, hS.F ht⟩) hS.2.2 dX1_inBox_25
  · have e_3 := i_ne c_2
    refine lv_aload_n hx hb dX1_inBox_10 rfl (lv_at hl 0 rfl) ?_
    refine gfX1_9 hx hb hts h_2 hown hK hP h_1 dX1_inBox_11 ?_
    refine lv_iload_n hx hb dX1_inBox_14 rfl (lv_at hl 1 rfl) ?_
    have v_4 : vp_in x1 200 := vp_in_iff.mpr (by omega)
    refine ldX_6 (f := (q 6)) hx hb hK hP rfl v_4 dX1_inBox_15 ?_
    refine lv_iconst (v := 3) hx hb dX1_inBox_16 (by decide) ?_
    refine lv_icmp_ne (tgt := 24) hx hb dX1_inBox_17 (by decide) (fun c_5 => ?_) (fun c_5 => ?_)
    · have e_6 := i_ne c_5
      refine lv_iconst (v := 0) hx hb dX1_inBox_24 (by decide) ?_
      exact W.zret (v := 0) hx hb hr rfl (fun t ht hW => ⟨⟨0, q, rfl, ⟨(Eq.symm (show (fX1_inBox q x1) = 0 by (rw [fX1_inBox, if_neg c_2, if_neg c_5]); try rfl)), rfl⟩, w_ht ht hP⟩, hS.F ht⟩) hS.2.2 dX1_inBox_25
    · have e_6 := i_eq c_5
      refine lv_iconst (v := 1) hx hb dX1_inBox_20 (by decide) ?_
      refine lv_goto (tgt := 25) hx hb dX1_inBox_21 (by decide) ?_
      exact W.zret (v := 1) hx hb hr rfl (fun t ht hW => ⟨⟨1, q, rfl, ⟨(Eq.symm (show (fX1_inBox q x1) = 1 by (rw [fX1_inBox, if_neg c_2, if_pos c_5]); try rfl)), rfl⟩, w_ht ht hP⟩, hS.F ht⟩) hS.2.2 dX1_inBox_25
def fX1_tally_j1 (q : wSt) (x1 : Int32) (x2 : Int32) : wSt := (if (q 6 (x1).toNatClampNeg) = 0 then (if (fX1_slot q (q 7 (x1).toNatClampNeg) (q 8 (x1).toNatClampNeg)) < 0 then q else (if 48 ≤ (fX1_slot q (q 7 (x1).toNatClampNeg) (q 8 (x1).toNatClampNeg)) then q else (rset q 15 (upd (q 15) ((fX1_slot q (q 7 (x1).toNatClampNeg) (q 8 (x1).toNatClampNeg))).toNatClampNeg ((q 15 ((fX1_slot q (q 7 (x1).toNatClampNeg) (q 8 (x1).toNatClampNeg))).toNatClampNeg) + x2))))) else q)
def fX1_tally_j2 (q : wSt) (x1 : Int32) (x2 : Int32) : wSt := (if (fX1_inBox (fX1_tally_j1 q x1 x2) x1) = 0 then (fX1_tally_j1 q x1 x2) else (rset (fX1_tally_j1 q x1 x2) 37 (fun _ => (((fX1_tally_j1 q x1 x2) 37 0) + x2))))
def fX1_tally (q : wSt) (x1 : Int32) (x2 : Int32) : wSt := (if ((fX1_tally_j2 q x1 x2) 6 (x1).toNatClampNeg) = 5 then (rset (fX1_tally_j2 q x1 x2) 38 (fun _ => (((fX1_tally_j2 q x1 x2) 38 0) + x2))) else (fX1_tally_j2 q x1 x2))
set_option maxHeartbeats 4000000 in
set_option maxRecDepth 100000 in
theorem mX1_tally (l : Launch) (G : va_G) (cy : ClassId) (a : Nat → Nat) (sz : Nat) (q : wSt) (x1 : Int32) (x2 : Int32) (g0 : 0 ≤ (x1).toInt) (g1 : (x1).toInt < 200) : CtV l yX1_tally wsX1_tally ({ frames := 1, cells := 0, slots := 0, locals := 22 }) G cy (cX cy a) xN sz q [.ref (a 3), .int x1, .int x2] (fX1_tally q x1 x2) := by
  refine Met.ofW (cc := cX1_tally) (maxL := 4) (ret := none) (by decide) rfl ?_
  intro p e s m args below meth c s₁ B hml hv
  obtain ⟨rfl, hsz, hP, hK, hD0, hN⟩ := hv
  have hx := B.exec
  have hb := B.bytes
  have hr := B.returns
  have hts := atoms_spec (ws := wsX1_tally) B.pre
  have hown : s.vm.findClass RX1 = some m.cls := findClass_of_methodNamed B.named
  have hlocks := B.notSynchronized
  subst hsz
  have hD : ∀ z : wSt, va_D (wA (cX cy a) s.heap.size) ((cX cy a) z) := fun z => w_self (xOk cy a).1 hD0 z
  have hA : ∀ z : Nat, s.heap.size ≤ z → wA (cX cy a) s.heap.size z := fun _ h => Or.inr h
  have hS : va_S (wA (cX cy a) s.heap.size) s.heap s.heap [] := va_S.rf
  have hl := lv_entry ([.ref (a 3), .int x1, .int x2]) (n := 4) (Nat.le_of_ble_eq_true rfl)
  rw [lg_entry_eq]
  generalize (lg_sl ([.ref (a 3), .int x1, .int x2]) ++ List.replicate (4 - (lg_sl ([.ref (a 3), .int x1, .int x2])).length) Slot.unset).toArray = ls at hl ⊢
  have hl : lv_has ls 4 [(0, .ref (a 3)), (1, .int x1), (2, .int x2)] := hl
  have h_1 := hts (.fieldLink RX1 15 RX1 "title" "[I") (by decide +kernel)
  have h_2 := (show ∀ w ∈ u_ws RX1 TX1 13, w ∈ wsX1_tally by decide +kernel)
  have h_3 := hts (.fieldLink RX1 18 RX1 "volume" "[I") (by decide +kernel)
  have h_4 := hts (.fieldLink RX1 9 RX1 "where" "[I") (by decide +kernel)
  have h_5 := hts (.fieldLink RX1 39 RX1 "shelved" "[I") (by decide +kernel)
  have h_6 := hts (.fieldLink RX1 46 RX1 "inBoxes" "I") (by decide +kernel)
  have h_7 := hts (.fieldLink RX1 49 RX1 "lost" "I") (by decide +kernel)
  have t_0 : (0 : Int32).toInt = 0 := rfl
  have t_5 : (5 : Int32).toInt = 5 := rfl
  have t_48 : (48 : Int32).toInt = 48 := rfl
  refine lv_aload_n hx hb dX1_tally_0 rfl (lv_at hl 0 rfl) ?_
  refine lv_aload_n hx hb dX1_tally_1 rfl (lv_at hl 0 rfl) ?_
  refine gfX1_15 hx hb hts h_2 hown hK hP h_1 dX1_tally_2 ?_
  refine lv_iload_n hx hb dX1_tally_5 rfl (lv_at hl 1 rfl) ?_
  have v_1 : vp_in x1 200 := vp_in_iff.mpr (by omega)
  refine ldX_7 (f := (q 7)) hx hb hK hP rfl v_1 dX1_tally_6 ?_
  refine lv_aload_n hx hb dX1_tally_7 rfl (lv_at hl 0 rfl) ?_
  refine gfX1_18 hx hb hts h_2 hown hK hP h_3 dX1_tally_8 ?_
  refine lv_iload_n hx hb dX1_tally_11 rfl (lv_at hl 1 rfl) ?_
  have v_2 : vp_in x1 200 := vp_in_iff.mpr (by omega)
  refine ldX_8 (f := (q 8)) hx hb hK hP rfl v_2 dX1_tally_12 ?_
  refine w_goI (va_runV (As := [.int (q 7 (x1).toNatClampNeg), .int (q 8 (x1).toNatClampNeg)]) (rest := []) ⟨hx, hb, hml, hown, hts⟩ (mX1_slot l G cy a _ q (q 7 (x1).toNatClampNeg) (q 8 (x1).toNatClampNeg)) (cwV 2 hts gX1_tally_X1_slot rfl rfl rfl (by decide +kernel) ⟨Nat.le_of_ble_eq_true rfl, Nat.le_of_ble_eq_true rfl⟩) (w_pre (xOk cy a) (va_recv hK hP (ci := 1) (q0 := 3) rfl rfl) hK hP hD hS hA hN) rfl rfl hl.1 rfl (lv_room (Nat.le_of_ble_eq_true rfl)) dX1_tally_13 ⟨Nat.le_of_ble_eq_true rfl, Nat.le_of_ble_eq_true rfl⟩) hD hS hA (fun H locs hP hS => ?_)
  refine lv_istore_n (lv' := [(3, .int (fX1_slot q (q 7 (x1).toNatClampNeg) (q 8 (x1).toNatClampNeg))), (0, .ref (a 3)), (1, .int x1), (2, .int x2)]) hx hb dX1_tally_16 rfl hl (by decide) rfl (fun ls hl => ?_)
  refine lv_aload_n hx hb dX1_tally_17 rfl (lv_at hl 1 rfl) ?_
  refine gfX1_9 hx hb hts h_2 hown hK hP h_4 dX1_tally_18 ?_
  refine lv_iload_n hx hb dX1_tally_21 rfl (lv_at hl 2 rfl) ?_
  have v_3 : vp_in x1 200 := vp_in_iff.mpr (by omega)
  refine ldX_6 (f := (q 6)) hx hb hK hP rfl v_3 dX1_tally_22 ?_
  have J_1 : ∀ (v : wSt) (H : Heap) (ls : Array Slot) (locs : List Loc), (fX1_tally_j1 q x1 x2) = v → va_P G vwCl ((cX cy a) v) H → va_S (wA (cX cy a) s.heap.size) s.heap H locs → lv_has ls 4 [(0, .ref (a 3)), (1, .int x1), (2, .int x2)] → W p l e ({ frames := 1, cells := 0, slots := 0, locals := 22 }) s m [.ref (a 3), .int x1, .int x2].toArray below meth c H locs 0 0 (MQ below (wQv G (cX cy a) s.heap.size (fX1_tally q x1 x2)) [.ref (a 3), .int x1, .int x2].toArray s 0 0 (wA (cX cy a) s.heap.size)) (F0 m 49 ls []) := by
    intro v H ls locs hv hP hS hl
    subst hv
    refine lv_aload_n hx hb dX1_tally_49 rfl (lv_at hl 0 rfl) ?_
    refine lv_iload_n hx hb dX1_tally_50 rfl (lv_at hl 1 rfl) ?_
    refine w_goI (va_runV (As := [.int x1]) (rest := []) ⟨hx, hb, hml, hown, hts⟩ (mX1_inBox l G cy a _ (fX1_tally_j1 q x1 x2) x1 (by omega) (by omega)) (cwV 1 hts gX1_tally_X1_inBox rfl rfl rfl (by decide +kernel) ⟨Nat.le_of_ble_eq_true rfl, Nat.le_of_ble_eq_true rfl⟩) (w_pre (xOk cy a) (va_recv hK hP (ci := 1) (q0 := 3) rfl rfl) hK hP hD hS hA hN) rfl rfl hl.1 rfl (lv_room (Nat.le_of_ble_eq_true rfl)) dX1_tally_51 ⟨Nat.le_of_ble_eq_true rfl, Nat.le_of_ble_eq_true rfl⟩) hD hS hA (fun H locs hP hS => ?_)
    have J_2 : ∀ (v : wSt) (H : Heap) (ls : Array Slot) (locs : List Loc), (fX1_tally_j2 q x1 x2) = v → va_P G vwCl ((cX cy a) v) H → va_S (wA (cX cy a) s.heap.size) s.heap H locs → lv_has ls 4 [(0, .ref (a 3)), (1, .int x1), (2, .int x2)] → W p l e ({ frames := 1, cells := 0, slots := 0, locals := 22 }) s m [.ref (a 3), .int x1, .int x2].toArray below meth c H locs 0 0 (MQ below (wQv G (cX cy a) s.heap.size (fX1_tally q x1 x2)) [.ref (a 3), .int x1, .int x2].toArray s 0 0 (wA (cX cy a) s.heap.size)) (F0 m 67 ls []) := by
      intro v H ls locs hv hP hS hl
      subst hv
      refine lv_aload_n hx hb dX1_tally_67 rfl (lv_at hl 0 rfl) ?_
      refine gfX1_9 hx hb hts h_2 hown hK hP h_4 dX1_tally_68 ?_
      refine lv_iload_n hx hb dX1_tally_71 rfl (lv_at hl 1 rfl) ?_
      have v_14 : vp_in x1 200 := vp_in_iff.mpr (by omega)
      refine ldX_6 (f := ((fX1_tally_j2 q x1 x2) 6)) hx hb hK hP rfl v_14 dX1_tally_72 ?_
      refine lv_iconst (v := 5) hx hb dX1_tally_73 (by decide) ?_
      refine lv_icmp_ne (tgt := 87) hx hb dX1_tally_74 (by decide) (fun c_15 => ?_) (fun c_15 => ?_)
      · have e_16 := i_ne c_15
        exact W.vret hx hb hr (fun t ht hW => ⟨⟨(fX1_tally_j2 q x1 x2), rfl, (Eq.symm (show (fX1_tally q x1 x2) = (fX1_tally_j2 q x1 x2) by (rw [fX1_tally, if_neg c_15]); try rfl)), w_ht ht hP⟩, hS.F ht⟩) hS.2.2 dX1_tally_87
      · have e_16 := i_eq c_15
        refine lv_aload_n hx hb dX1_tally_77 rfl (lv_at hl 0 rfl) ?_
        refine lv_dup hx hb dX1_tally_78 rfl ?_
        refine gfX1_49 (v := ((fX1_tally_j2 q x1 x2) 38 0)) hx hb hts h_2 hown hK hP h_7 rfl dX1_tally_79 ?_
        refine lv_iload_n hx hb dX1_tally_82 rfl (lv_at hl 2 rfl) ?_
        refine lv_iadd hx hb dX1_tally_83 ?_
        refine pfX1_49 hx hb hts h_2 hown hK hP hD hS h_7 dX1_tally_84 (fun H locs hP hS => ?_)
        exact W.vret hx hb hr (fun t ht hW => ⟨⟨(rset (fX1_tally_j2 q x1 x2) 38 (fun _ => (((fX1_tally_j2 q x1 x2) 38 0) + x2))), rfl, (Eq.symm (show (fX1_tally q x1 x2) = (rset (fX1_tally_j2 q x1 x2) 38 (fun _ => (((fX1_tally_j2 q x1 x2) 38 0) + x2))) by (rw [fX1_tally, if_pos c_15]); try rfl)), w_ht ht hP⟩, hS.F ht⟩) hS.2.2 dX1_tally_87
    refine lv_if_eq (tgt := 67) hx hb dX1_tally_54 (by decide) (fun c_12 => ?_) (fun c_12 => ?_)
    · have e_13 := i_eq c_12
      exact J_2 (fX1_tally_j1 q x1 x2) _ _ _ (by (rw [fX1_tally_j2, if_pos c_12]); try rfl) hP hS (lv_sub hl [0, 1, 2] rfl)
    · have e_13 := i_ne c_12
      refine lv_aload_n hx hb dX1_tally_57 rfl (lv_at hl 0 rfl) ?_
      refine lv_dup hx hb dX1_tally_58 rfl ?_
      refine gfX1_46 (v := ((fX1_tally_j1 q x1 x2) 37 0)) hx hb hts h_2 hown hK hP h_6 rfl dX1_tally_59 ?_
      refine lv_iload_n hx hb dX1_tally_62 rfl (lv_at hl 2 rfl) ?_
      refine lv_iadd hx hb dX1_tally_63 ?_
      refine pfX1_46 hx hb hts h_2 hown hK hP hD hS h_6 dX1_tally_64 (fun H locs hP hS => ?_)
      exact J_2 (rset (fX1_tally_j1 q x1 x2) 37 (fun _ => (((fX1_tally_j1 q x1 x2) 37 0) + x2))) _ _ _ (by (rw [fX1_tally_j2, if_neg c_12]); try rfl) hP hS (lv_sub hl [0, 1, 2] rfl)
  refine lv_if_ne (tgt := 49) hx hb dX1_tally_23 (by decide) (fun c_4 => ?_) (fun c_4 => ?_)
  · have e_5 := i_ne c_4
    exact J_1 (q) _ _ _ (by (rw [fX1_tally_j1, if_neg c_4]); try rfl) hP hS (lv_sub hl [1, 2, 3] rfl)
  · have e_5 := i_eq c_4
    refine lv_iload_n hx hb dX1_tally_26 rfl (lv_at hl 0 rfl) ?_
    refine lv_if_lt (tgt := 49) hx hb dX1_tally_27 (by decide) (fun c_6 => ?_) (fun c_6 => ?_)
    · have e_7 := i_lt c_6
      exact J_1 (q) _ _ _ (by (rw [fX1_tally_j1, if_pos c_4, if_pos c_6]); try rfl) hP hS (lv_sub hl [1, 2, 3] rfl)
    · have e_7 := i_nlt c_6
      refine lv_iload_n hx hb dX1_tally_30 rfl (lv_at hl 0 rfl) ?_
      refine lv_aload_n hx hb dX1_tally_31 rfl (lv_at hl 1 rfl) ?_
      refine gfX1_39 hx hb hts h_2 hown hK hP h_5 dX1_tally_32 ?_
      refine va_alen hx hb hK hP 22 0 rfl rfl (v := 48) (by decide) dX1_tally_35 ?_
      refine lv_icmp_ge (tgt := 49) hx hb dX1_tally_36 (by decide) (fun c_8 => ?_) (fun c_8 => ?_)
      · have e_9 := i_le c_8
        exact J_1 (q) _ _ _ (by (rw [fX1_tally_j1, if_pos c_4, if_neg c_6, if_pos c_8]); try rfl) hP hS (lv_sub hl [1, 2, 3] rfl)
      · have e_9 := i_nle c_8
        refine lv_aload_n hx hb dX1_tally_39 rfl (lv_at hl 1 rfl) ?_
        refine gfX1_39 hx hb hts h_2 hown hK hP h_5 dX1_tally_40 ?_
        refine lv_iload_n hx hb dX1_tally_43 rfl (lv_at hl 0 rfl) ?_
        refine lv_dup2_11 hx hb dX1_tally_44 rfl rfl ?_
        have v_10 : vp_in (fX1_slot q (q 7 (x1).toNatClampNeg) (q 8 (x1).toNatClampNeg)) 48 := vp_in_iff.mpr (by omega)
        refine ldX_15 (f := (q 15)) hx hb hK hP rfl v_10 dX1_tally_45 ?_
        refine lv_iload_n hx hb dX1_tally_46 rfl (lv_at hl 3 rfl) ?_
        refine lv_iadd hx hb dX1_tally_47 ?_
        have v_11 : vp_in (fX1_slot q (q 7 (x1).toNatClampNeg) (q 8 (x1).toNatClampNeg)) 48 := vp_in_iff.mpr (by omega)
        refine stX_15 (f := (q 15)) hx hb hK hP hD hS rfl v_11 dX1_tally_48 (fun H locs hP hS => ?_)
        exact J_1 (rset q 15 (upd (q 15) ((fX1_slot q (q 7 (x1).toNatClampNeg) (q 8 (x1).toNatClampNeg))).toNatClampNeg ((q 15 ((fX1_slot q (q 7 (x1).toNatClampNeg) (q 8 (x1).toNatClampNeg))).toNatClampNeg) + x2))) _ _ _ (by (rw [fX1_tally_j1, if_pos c_4, if_neg c_6, if_neg c_8]); try rfl) hP hS (lv_sub hl [1, 2, 3] rfl)
def fX1_moveTo (q : wSt) (x1 : Int32) (x2 : Int32) : wSt := (fX1_tally (rset (fX1_tally q x1 (-1)) 6 (upd ((fX1_tally q x1 (-1)) 6) (x1).toNatClampNeg x2)) x1 1)
set_option maxHeartbeats 4000000 in
set_option maxRecDepth 100000 in
theorem mX1_moveTo (l : Launch) (G : va_G) (cy : ClassId) (a : Nat → Nat) (sz : Nat) (q : wSt) (x1 : Int32) (x2 : Int32) (g0 : 0 ≤ (x1).toInt) (g1 : (x1).toInt < 200) : CtV l yX1_moveTo wsX1_moveTo ({ frames := 2, cells := 0, slots := 0, locals := 45 }) G cy (cX cy a) xN sz q [.ref (a 3), .int x1, .int x2] (fX1_moveTo q x1 x2) := by
  refine Met.ofW (cc := cX1_moveTo) (maxL := 3) (ret := none) (by decide) rfl ?_
  intro p e s m args below meth c s₁ B hml hv
  obtain ⟨rfl, hsz, hP, hK, hD0, hN⟩ := hv
  have hx := B.exec
  have hb := B.bytes
  have hr := B.returns
  have hts := atoms_spec (ws := wsX1_moveTo) B.pre
  have hown : s.vm.findClass RX1 = some m.cls := findClass_of_methodNamed B.named
  have hlocks := B.notSynchronized
  subst hsz
  have hD : ∀ z : wSt, va_D (wA (cX cy a) s.heap.size) ((cX cy a) z) := fun z => w_self (xOk cy a).1 hD0 z
  have hA : ∀ z : Nat, s.heap.size ≤ z → wA (cX cy a) s.heap.size z := fun _ h => Or.inr h
  have hS : va_S (wA (cX cy a) s.heap.size) s.heap s.heap [] := va_S.rf
  have hl := lv_entry ([.ref (a 3), .int x1, .int x2]) (n := 3) (Nat.le_of_ble_eq_true rfl)
  rw [lg_entry_eq]
  generalize (lg_sl ([.ref (a 3), .int x1, .int x2]) ++ List.replicate (3 - (lg_sl ([.ref (a 3), .int x1, .int x2])).length) Slot.unset).toArray = ls at hl ⊢
  have hl : lv_has ls 3 [(0, .ref (a 3)), (1, .int x1), (2, .int x2)] := hl
  have h_1 := hts (.fieldLink RX1 9 RX1 "where" "[I") (by decide +kernel)
  have h_2 := (show ∀ w ∈ u_ws RX1 TX1 13, w ∈ wsX1_moveTo by decide +kernel)
  have t_m1 : ((-1) : Int32).toInt = -1 := rfl
  have t_1 : (1 : Int32).toInt = 1 := rfl
  refine lv_aload_n hx hb dX1_moveTo_0 rfl (lv_at hl 0 rfl) ?_
  refine lv_iload_n hx hb dX1_moveTo_1 rfl (lv_at hl 1 rfl) ?_
  refine lv_iconst (v := (-1)) hx hb dX1_moveTo_2 (by decide) ?_
  refine w_goV (va_runV (As := [.int x1, .int (-1)]) (rest := []) ⟨hx, hb, hml, hown, hts⟩ (mX1_tally l G cy a _ q x1 (-1) (by omega) (by omega)) (cwV 2 hts gX1_moveTo_X1_tally rfl rfl rfl (by decide +kernel) ⟨Nat.le_of_ble_eq_true rfl, Nat.le_of_ble_eq_true rfl⟩) (w_pre (xOk cy a) (va_recv hK hP (ci := 1) (q0 := 3) rfl rfl) hK hP hD hS hA hN) rfl rfl hl.1 rfl (lv_room (Nat.le_of_ble_eq_true rfl)) dX1_moveTo_3 ⟨Nat.le_of_ble_eq_true rfl, Nat.le_of_ble_eq_true rfl⟩) hD hS hA (fun H locs hP hS => ?_)
  refine lv_aload_n hx hb dX1_moveTo_6 rfl (lv_at hl 0 rfl) ?_
  refine gfX1_9 hx hb hts h_2 hown hK hP h_1 dX1_moveTo_7 ?_
  refine lv_iload_n hx hb dX1_moveTo_10 rfl (lv_at hl 1 rfl) ?_
  refine lv_iload_n hx hb dX1_moveTo_11 rfl (lv_at hl 2 rfl) ?_
  have v_1 : vp_in x1 200 := vp_in_iff.mpr (by omega)
  refine stX_6 (f := ((fX1_tally q x1 (-1)) 6)) hx hb hK hP hD hS rfl v_1 dX1_moveTo_12 (fun H locs hP hS => ?_)
  refine lv_aload_n hx hb dX1_moveTo_13 rfl (lv_at hl 0 rfl) ?_
  refine lv_iload_n hx hb dX1_moveTo_14 rfl (lv_at hl 1 rfl) ?_
  refine lv_iconst (v := 1) hx hb dX1_moveTo_15 (by decide) ?_
  refine w_goV (va_runV (As := [.int x1, .int 1]) (rest := []) ⟨hx, hb, hml, hown, hts⟩ (mX1_tally l G cy a _ (rset (fX1_tally q x1 (-1)) 6 (upd ((fX1_tally q x1 (-1)) 6) (x1).toNatClampNeg x2)) x1 1 (by omega) (by omega)) (cwV 2 hts gX1_moveTo_X1_tally rfl rfl rfl (by decide +kernel) ⟨Nat.le_of_ble_eq_true rfl, Nat.le_of_ble_eq_true rfl⟩) (w_pre (xOk cy a) (va_recv hK hP (ci := 1) (q0 := 3) rfl rfl) hK hP hD hS hA hN) rfl rfl hl.1 rfl (lv_room (Nat.le_of_ble_eq_true rfl)) dX1_moveTo_16 ⟨Nat.le_of_ble_eq_true rfl, Nat.le_of_ble_eq_true rfl⟩) hD hS hA (fun H locs hP hS => ?_)
  exact W.vret hx hb hr (fun t ht hW => ⟨⟨(fX1_tally (rset (fX1_tally q x1 (-1)) 6 (upd ((fX1_tally q x1 (-1)) 6) (x1).toNatClampNeg x2)) x1 1), rfl, (Eq.symm (show (fX1_moveTo q x1 x2) = (fX1_tally (rset (fX1_tally q x1 (-1)) 6 (upd ((fX1_tally q x1 (-1)) 6) (x1).toNatClampNeg x2)) x1 1) by (rw [fX1_moveTo]); try rfl)), w_ht ht hP⟩, hS.F ht⟩) hS.2.2 dX1_moveTo_19
def fX1_belongToNobody (q : wSt) (x1 : Int32) : wSt := (rset (rset (rset (rset q 10 (upd (q 10) (x1).toNatClampNeg (-1))) 11 (upd (q 11) (x1).toNatClampNeg (-1))) 12 (upd (q 12) (x1).toNatClampNeg (-1))) 13 (upd (q 13) (x1).toNatClampNeg 0))
set_option maxHeartbeats 4000000 in
set_option maxRecDepth 100000 in
theorem mX1_belongToNobody (l : Launch) (G : va_G) (cy : ClassId) (a : Nat → Nat) (sz : Nat) (q : wSt) (x1 : Int32) (g0 : 0 ≤ (x1).toInt) (g1 : (x1).toInt < 200) : CtV l yX1_belongToNobody wsX1_belongToNobody ({ frames := 0, cells := 0, slots := 0, locals := 0 }) G cy (cX cy a) xN sz q [.ref (a 3), .int x1] (fX1_belongToNobody q x1) := by
  refine Met.ofW (cc := cX1_belongToNobody) (maxL := 2) (ret := none) (by decide) rfl ?_
  intro p e s m args below meth c s₁ B hml hv
  obtain ⟨rfl, hsz, hP, hK, hD0, hN⟩ := hv
  have hx := B.exec
  have hb := B.bytes
  have hr := B.returns
  have hts := atoms_spec (ws := wsX1_belongToNobody) B.pre
  have hown : s.vm.findClass RX1 = some m.cls := findClass_of_methodNamed B.named
  have hlocks := B.notSynchronized
  subst hsz
  have hD : ∀ z : wSt, va_D (wA (cX cy a) s.heap.size) ((cX cy a) z) := fun z => w_self (xOk cy a).1 hD0 z
  have hA : ∀ z : Nat, s.heap.size ≤ z → wA (cX cy a) s.heap.size z := fun _ h => Or.inr h
  have hS : va_S (wA (cX cy a) s.heap.size) s.heap s.heap [] := va_S.rf
  have hl := lv_entry ([.ref (a 3), .int x1]) (n := 2) (Nat.le_of_ble_eq_true rfl)
  rw [lg_entry_eq]
  generalize (lg_sl ([.ref (a 3), .int x1]) ++ List.replicate (2 - (lg_sl ([.ref (a 3), .int x1])).length) Slot.unset).toArray = ls at hl ⊢
  have hl : lv_has ls 2 [(0, .ref (a 3)), (1, .int x1)] := hl
  have h_1 := hts (.fieldLink RX1 24 RX1 "reader" "[I") (by decide +kernel)
  have h_2 := (show ∀ w ∈ u_ws RX1 TX1 13, w ∈ wsX1_belongToNobody by decide +kernel)
  have h_3 := hts (.fieldLink RX1 27 RX1 "wish" "[I") (by decide +kernel)
  have h_4 := hts (.fieldLink RX1 30 RX1 "since" "[I") (by decide +kernel)
  have h_5 := hts (.fieldLink RX1 33 RX1 "daysToGo" "[I") (by decide +kernel)
  have t_m1 : ((-1) : Int32).toInt = -1 := rfl
  have t_0 : (0 : Int32).toInt = 0 := rfl
  refine lv_aload_n hx hb dX1_belongToNobody_0 rfl (lv_at hl 0 rfl) ?_
  refine gfX1_24 hx hb hts h_2 hown hK hP h_1 dX1_belongToNobody_1 ?_
  refine lv_iload_n hx hb dX1_belongToNobody_4 rfl (lv_at hl 1 rfl) ?_
  refine lv_iconst (v := (-1)) hx hb dX1_belongToNobody_5 (by decide) ?_
  have v_1 : vp_in x1 200 := vp_in_iff.mpr (by omega)
  refine stX_10 (f := (q 10)) hx hb hK hP hD hS rfl v_1 dX1_belongToNobody_6 (fun H locs hP hS => ?_)
  refine lv_aload_n hx hb dX1_belongToNobody_7 rfl (lv_at hl 0 rfl) ?_
  refine gfX1_27 hx hb hts h_2 hown hK hP h_3 dX1_belongToNobody_8 ?_
  refine lv_iload_n hx hb dX1_belongToNobody_11 rfl (lv_at hl 1 rfl) ?_
  refine lv_iconst (v := (-1)) hx hb dX1_belongToNobody_12 (by decide) ?_
  have v_2 : vp_in x1 200 := vp_in_iff.mpr (by omega)
  refine stX_11 (f := (q 11)) hx hb hK hP hD hS rfl v_2 dX1_belongToNobody_13 (fun H locs hP hS => ?_)
  refine lv_aload_n hx hb dX1_belongToNobody_14 rfl (lv_at hl 0 rfl) ?_
  refine gfX1_30 hx hb hts h_2 hown hK hP h_4 dX1_belongToNobody_15 ?_
  refine lv_iload_n hx hb dX1_belongToNobody_18 rfl (lv_at hl 1 rfl) ?_
  refine lv_iconst (v := (-1)) hx hb dX1_belongToNobody_19 (by decide) ?_
  have v_3 : vp_in x1 200 := vp_in_iff.mpr (by omega)
  refine stX_12 (f := (q 12)) hx hb hK hP hD hS rfl v_3 dX1_belongToNobody_20 (fun H locs hP hS => ?_)
  refine lv_aload_n hx hb dX1_belongToNobody_21 rfl (lv_at hl 0 rfl) ?_
  refine gfX1_33 hx hb hts h_2 hown hK hP h_5 dX1_belongToNobody_22 ?_
  refine lv_iload_n hx hb dX1_belongToNobody_25 rfl (lv_at hl 1 rfl) ?_
  refine lv_iconst (v := 0) hx hb dX1_belongToNobody_26 (by decide) ?_
  have v_4 : vp_in x1 200 := vp_in_iff.mpr (by omega)
  refine stX_13 (f := (q 13)) hx hb hK hP hD hS rfl v_4 dX1_belongToNobody_27 (fun H locs hP hS => ?_)
  exact W.vret hx hb hr (fun t ht hW => ⟨⟨(rset (rset (rset (rset q 10 (upd (q 10) (x1).toNatClampNeg (-1))) 11 (upd (q 11) (x1).toNatClampNeg (-1))) 12 (upd (q 12) (x1).toNatClampNeg (-1))) 13 (upd (q 13) (x1).toNatClampNeg 0)), rfl, (Eq.symm (show (fX1_belongToNobody q x1) = (rset (rset (rset (rset q 10 (upd (q 10) (x1).toNatClampNeg (-1))) 11 (upd (q 11) (x1).toNatClampNeg (-1))) 12 (upd (q 12) (x1).toNatClampNeg (-1))) 13 (upd (q 13) (x1).toNatClampNeg 0)) by (rw [fX1_belongToNobody]); try rfl)), w_ht ht hP⟩, hS.F ht⟩) hS.2.2 dX1_belongToNobody_28
def fX1_shelve (q : wSt) (x1 : Int32) : wSt := (fX1_belongToNobody (fX1_moveTo q x1 0) x1)
set_option maxHeartbeats 4000000 in
set_option maxRecDepth 100000 in
theorem mX1_shelve (l : Launch) (G : va_G) (cy : ClassId) (a : Nat → Nat) (sz : Nat) (q : wSt) (x1 : Int32) (g0 : 0 ≤ (x1).toInt) (g1 : (x1).toInt < 200) : CtV l yX1_shelve wsX1_shelve ({ frames := 3, cells := 0, slots := 0, locals := 67 }) G cy (cX cy a) xN sz q [.ref (a 3), .int x1] (fX1_shelve q x1) := by
  refine Met.ofW (cc := cX1_shelve) (maxL := 2) (ret := none) (by decide) rfl ?_
  intro p e s m args below meth c s₁ B hml hv
  obtain ⟨rfl, hsz, hP, hK, hD0, hN⟩ := hv
  have hx := B.exec
  have hb := B.bytes
  have hr := B.returns
  have hts := atoms_spec (ws := wsX1_shelve) B.pre
  have hown : s.vm.findClass RX1 = some m.cls := findClass_of_methodNamed B.named
  have hlocks := B.notSynchronized
  subst hsz
  have hD : ∀ z : wSt, va_D (wA (cX cy a) s.heap.size) ((cX cy a) z) := fun z => w_self (xOk cy a).1 hD0 z
  have hA : ∀ z : Nat, s.heap.size ≤ z → wA (cX cy a) s.heap.size z := fun _ h => Or.inr h
  have hS : va_S (wA (cX cy a) s.heap.size) s.heap s.heap [] := va_S.rf
  have hl := lv_entry ([.ref (a 3), .int x1]) (n := 2) (Nat.le_of_ble_eq_true rfl)
  rw [lg_entry_eq]
  generalize (lg_sl ([.ref (a 3), .int x1]) ++ List.replicate (2 - (lg_sl ([.ref (a 3), .int x1])).length) Slot.unset).toArray = ls at hl ⊢
  have hl : lv_has ls 2 [(0, .ref (a 3)), (1, .int x1)] := hl
  have t_0 : (0 : Int32).toInt = 0 := rfl
  refine lv_aload_n hx hb dX1_shelve_0 rfl (lv_at hl 0 rfl) ?_
  refine lv_iload_n hx hb dX1_shelve_1 rfl (lv_at hl 1 rfl) ?_
  refine lv_iconst (v := 0) hx hb dX1_shelve_2 (by decide) ?_
  refine w_goV (va_runV (As := [.int x1, .int 0]) (rest := []) ⟨hx, hb, hml, hown, hts⟩ (mX1_moveTo l G cy a _ q x1 0 (by omega) (by omega)) (cwV 2 hts gX1_shelve_X1_moveTo rfl rfl rfl (by decide +kernel) ⟨Nat.le_of_ble_eq_true rfl, Nat.le_of_ble_eq_true rfl⟩) (w_pre (xOk cy a) (va_recv hK hP (ci := 1) (q0 := 3) rfl rfl) hK hP hD hS hA hN) rfl rfl hl.1 rfl (lv_room (Nat.le_of_ble_eq_true rfl)) dX1_shelve_3 ⟨Nat.le_of_ble_eq_true rfl, Nat.le_of_ble_eq_true rfl⟩) hD hS hA (fun H locs hP hS => ?_)
  refine lv_aload_n hx hb dX1_shelve_6 rfl (lv_at hl 0 rfl) ?_
  refine lv_iload_n hx hb dX1_shelve_7 rfl (lv_at hl 1 rfl) ?_
  refine w_goV (va_runV (As := [.int x1]) (rest := []) ⟨hx, hb, hml, hown, hts⟩ (mX1_belongToNobody l G cy a _ (fX1_moveTo q x1 0) x1 (by omega) (by omega)) (cwV 1 hts gX1_shelve_X1_belongToNobody rfl rfl rfl (by decide +kernel) ⟨Nat.le_of_ble_eq_true rfl, Nat.le_of_ble_eq_true rfl⟩) (w_pre (xOk cy a) (va_recv hK hP (ci := 1) (q0 := 3) rfl rfl) hK hP hD hS hA hN) rfl rfl hl.1 rfl (lv_room (Nat.le_of_ble_eq_true rfl)) dX1_shelve_8 ⟨Nat.le_of_ble_eq_true rfl, Nat.le_of_ble_eq_true rfl⟩) hD hS hA (fun H locs hP hS => ?_)
  exact W.vret hx hb hr (fun t ht hW => ⟨⟨(fX1_belongToNobody (fX1_moveTo q x1 0) x1), rfl, (Eq.symm (show (fX1_shelve q x1) = (fX1_belongToNobody (fX1_moveTo q x1 0) x1) by (rw [fX1_shelve]); try rfl)), w_ht ht hP⟩, hS.F ht⟩) hS.2.2 dX1_shelve_11
