set_option maxHeartbeats 4000000 in
set_option maxRecDepth 100000 in
theorem mX6_kept (l : Launch) (G : va_G) (cy : ClassId) (a : Nat → Nat) (sz : Nat) (q : wSt) (x1 : Int32) (x2 : Int32) (x3 : Int32) : CtI l yX6_kept wsX6_kept ({ frames := 3, cells := 0, slots := 0, locals := 73 }) G cy (cX cy a) xN sz q [.ref (a 0), .int x1, .int x2, .int x3] (fX6_kept q x1 x2 x3) q := by
  refine Met.ofW (cc := cX6_kept) (maxL := 4) (ret := (some .int)) (by decide) rfl ?_
  intro p e s m args below meth c s₁ B hml hv
  obtain ⟨rfl, hsz, hP, hK, hD0, hN⟩ := hv
  have hx := B.exec
  have hb := B.bytes
  have hr := B.returns
  have hts := atoms_spec (ws := wsX6_kept) B.pre
  have hown : s.vm.findClass RX6 = some m.cls := findClass_of_methodNamed B.named
  have hlocks := B.notSynchronized
  subst hsz
  have hD : ∀ z : wSt, va_D (wA (cX cy a) s.heap.size) ((cX cy a) z) := fun z => w_self (xOk cy a).1 hD0 z
  have hA : ∀ z : Nat, s.heap.size ≤ z → wA (cX cy a) s.heap.size z := fun _ h => Or.inr h
  have hS : va_S (wA (cX cy a) s.heap.size) s.heap s.heap [] := va_S.rf
  have hl := lv_entry ([.ref (a 0), .int x1, .int x2, .int x3]) (n := 4) (Nat.le_of_ble_eq_true rfl)
  rw [lg_entry_eq]
  generalize (lg_sl ([.ref (a 0), .int x1, .int x2, .int x3]) ++ List.replicate (4 - (lg_sl ([.ref (a 0), .int x1, .int x2, .int x3])).length) Slot.unset).toArray = ls at hl ⊢
  have hl : lv_has ls 4 [(0, .ref (a 0)), (1, .int x1), (2, .int x2), (3, .int x3)] := hl
  have h_1 := hts (.fieldLink RX6 47 RX6 "demands" "LVolumeHouse$Demands;") (by decide +kernel)
  have h_2 := (show ∀ w ∈ u_ws RX6 TX6 10, w ∈ wsX6_kept by decide +kernel)
  have h_3 := (hN.1 _ (List.mem_of_getElem? (i := 62) rfl) : va_Nw (.methodLinkNest RX6 228 yX2_setsToBuy RX6) s)
  have h_4 := hts (.initialized RX2) (by decide +kernel)
  have h_5 := hts (.instanceMethod yX2_setsToBuy) (by decide +kernel)
  have h_6 := hts (.selects RX2 yX2_setsToBuy yX2_setsToBuy) (by decide +kernel)
  have h_7 := (hN.1 _ (List.mem_of_getElem? (i := 64) rfl) : va_Nw (.methodLinkNest RX6 234 yX2_weeksOf RX6) s)
  have h_8 := hts (.instanceMethod yX2_weeksOf) (by decide +kernel)
  have h_9 := hts (.selects RX2 yX2_weeksOf yX2_weeksOf) (by decide +kernel)
  have t_m1 : ((-1) : Int32).toInt = -1 := rfl
  have t_0 : (0 : Int32).toInt = 0 := rfl
  have t_1 : (1 : Int32).toInt = 1 := rfl
  refine lv_iload_n hx hb dX6_kept_0 rfl (lv_at hl 1 rfl) ?_
  refine lv_iload_n hx hb dX6_kept_1 rfl (lv_at hl 2 rfl) ?_
  refine w_goI (va_runS (As := [.int x1, .int x2]) (rest := []) ⟨hx, hb, hml, hown, hts⟩ (mX6_canPlan l G cy a _ q x1 x2) (va_cwS 2 hts gX6_kept_X6_canPlan rfl rfl rfl (by decide +kernel) ⟨Nat.le_of_ble_eq_true rfl, Nat.le_of_ble_eq_true rfl⟩) (w_preS (xOk cy a) hK hP hD hS hA hN) rfl rfl hl.1 rfl (lv_room (Nat.le_of_ble_eq_true rfl)) dX6_kept_2 ⟨Nat.le_of_ble_eq_true rfl, Nat.le_of_ble_eq_true rfl⟩) hD hS hA (fun H locs hP hS => ?_)
  refine lv_if_eq (tgt := 27) hx hb dX6_kept_5 (by decide) (fun c_1 => ?_) (fun c_1 => ?_)
  · have e_2 := i_eq c_1
    refine lv_iconst (v := (-1)) hx hb dX6_kept_27 (by decide) ?_
    exact W.iret (v := (-1)) hx hb hr (fun t ht hW => ⟨⟨(-1), q, rfl, ⟨(show (fX6_kept q x1 x2 x3) = (-1) by (rw [fX6_kept, if_pos c_1]); try rfl).symm, rfl⟩, w_ht ht hP⟩, hS.F ht⟩) hS.2.2 dX6_kept_28
  · have e_2 := i_ne c_1
    refine lv_iload_n hx hb dX6_kept_8 rfl (lv_at hl 3 rfl) ?_
    refine lv_iconst (v := 0) hx hb dX6_kept_9 (by decide) ?_
    refine lv_aload_n hx hb dX6_kept_10 rfl (lv_at hl 0 rfl) ?_
    refine gfX6_47 hx hb hts h_2 hown hK hP h_1 dX6_kept_11 ?_
    refine lv_iload_n hx hb dX6_kept_14 rfl (lv_at hl 1 rfl) ?_
    refine lv_iload_n hx hb dX6_kept_15 rfl (lv_at hl 2 rfl) ?_
    refine w_goI (va_runVN (As := [.int x1, .int x2]) (rest := [.int 0, .int x3]) ⟨hx, hb, hml, hown, hts⟩ (mX2_setsToBuy l G cy a _ q x1 x2) ⟨va_cnB 2 hts gX6_kept_X2_setsToBuy_n228 rfl rfl rfl h_3 h_4 (by decide +kernel) ⟨Nat.le_of_ble_eq_true rfl, Nat.le_of_ble_eq_true rfl⟩, h_5, h_6⟩ (w_pre (xOk cy a) (va_recv hK hP (ci := 2) (q0 := 6) rfl rfl) hK hP hD hS hA hN) rfl rfl hl.1 rfl (lv_room (Nat.le_of_ble_eq_true rfl)) dX6_kept_16 ⟨Nat.le_of_ble_eq_true rfl, Nat.le_of_ble_eq_true rfl⟩) hD hS hA (fun H locs hP hS => ?_)
    refine lv_iconst (v := 1) hx hb dX6_kept_19 (by decide) ?_
    refine lv_isub hx hb dX6_kept_20 ?_
    refine w_goI (va_runS (As := [.int x3, .int 0, .int ((fX2_setsToBuy q x1 x2) - 1)]) (rest := []) ⟨hx, hb, hml, hown, hts⟩ (mX6_within l G cy a _ q x3 0 ((fX2_setsToBuy q x1 x2) - 1)) (va_cwS 3 hts gX6_kept_X6_within rfl rfl rfl (by decide +kernel) ⟨Nat.le_of_ble_eq_true rfl, Nat.le_of_ble_eq_true rfl⟩) (w_preS (xOk cy a) hK hP hD hS hA hN) rfl rfl hl.1 rfl (lv_room (Nat.le_of_ble_eq_true rfl)) dX6_kept_21 ⟨Nat.le_of_ble_eq_true rfl, Nat.le_of_ble_eq_true rfl⟩) hD hS hA (fun H locs hP hS => ?_)
    have e_3 := tX6_within q x3 0 ((fX2_setsToBuy q x1 x2) - 1)
    refine lv_if_ne (tgt := 29) hx hb dX6_kept_24 (by decide) (fun c_4 => ?_) (fun c_4 => ?_)
    · have e_5 := i_ne c_4
      refine lv_aload_n hx hb dX6_kept_29 rfl (lv_at hl 0 rfl) ?_
      refine gfX6_47 hx hb hts h_2 hown hK hP h_1 dX6_kept_30 ?_
      refine lv_iload_n hx hb dX6_kept_33 rfl (lv_at hl 1 rfl) ?_
      refine lv_iload_n hx hb dX6_kept_34 rfl (lv_at hl 3 rfl) ?_
      refine w_goI (va_runVN (As := [.int x1, .int x3]) (rest := []) ⟨hx, hb, hml, hown, hts⟩ (mX2_weeksOf l G cy a _ q x1 x3) ⟨va_cnB 2 hts gX6_kept_X2_weeksOf_n234 rfl rfl rfl h_7 h_4 (by decide +kernel) ⟨Nat.le_of_ble_eq_true rfl, Nat.le_of_ble_eq_true rfl⟩, h_8, h_9⟩ (w_pre (xOk cy a) (va_recv hK hP (ci := 2) (q0 := 6) rfl rfl) hK hP hD hS hA hN) rfl rfl hl.1 rfl (lv_room (Nat.le_of_ble_eq_true rfl)) dX6_kept_35 ⟨Nat.le_of_ble_eq_true rfl, Nat.le_of_ble_eq_true rfl⟩) hD hS hA (fun H locs hP hS => ?_)
      exact W.iret (v := (fX2_weeksOf q x1 x3)) hx hb hr (fun t ht hW => ⟨⟨(fX2_weeksOf q x1 x3), q, rfl, ⟨(show (fX6_kept q x1 x2 x3) = (fX2_weeksOf q x1 x3) by (rw [fX6_kept, if_neg c_1, if_neg c_4]); try rfl).symm, rfl⟩, w_ht ht hP⟩, hS.F ht⟩) hS.2.2 dX6_kept_38
    · have e_5 := i_eq c_4
      refine lv_iconst (v := (-1)) hx hb dX6_kept_27 (by decide) ?_
      exact W.iret (v := (-1)) hx hb hr (fun t ht hW => ⟨⟨(-1), q, rfl, ⟨(show (fX6_kept q x1 x2 x3) = (-1) by (rw [fX6_kept, if_neg c_1, if_pos c_4]); try rfl).symm, rfl⟩, w_ht ht hP⟩, hS.F ht⟩) hS.2.2 dX6_kept_28
