set_option maxHeartbeats 4000000 in
set_option maxRecDepth 100000 in
theorem mX6_best (l : Launch) (G : va_G) (cy : ClassId) (a : Nat → Nat) (sz : Nat) (q : wSt) (x1 : Int32) (x2 : Int32) : CtI l yX6_best wsX6_best ({ frames := 3, cells := 0, slots := 0, locals := 71 }) G cy (cX cy a) xN sz q [.ref (a 0), .int x1, .int x2] (fX6_best q x1 x2) q := by
  refine Met.ofW (cc := cX6_best) (maxL := 3) (ret := (some .int)) (by decide) rfl ?_
  intro p e s m args below meth c s₁ B hml hv
  obtain ⟨rfl, hsz, hP, hK, hD0, hN⟩ := hv
  have hx := B.exec
  have hb := B.bytes
  have hr := B.returns
  have hts := atoms_spec (ws := wsX6_best) B.pre
  have hown : s.vm.findClass RX6 = some m.cls := findClass_of_methodNamed B.named
  have hlocks := B.notSynchronized
  subst hsz
  have hD : ∀ z : wSt, va_D (wA (cX cy a) s.heap.size) ((cX cy a) z) := fun z => w_self (xOk cy a).1 hD0 z
  have hA : ∀ z : Nat, s.heap.size ≤ z → wA (cX cy a) s.heap.size z := fun _ h => Or.inr h
  have hS : va_S (wA (cX cy a) s.heap.size) s.heap s.heap [] := va_S.rf
  have hl := lv_entry ([.ref (a 0), .int x1, .int x2]) (n := 3) (Nat.le_of_ble_eq_true rfl)
  rw [lg_entry_eq]
  generalize (lg_sl ([.ref (a 0), .int x1, .int x2]) ++ List.replicate (3 - (lg_sl ([.ref (a 0), .int x1, .int x2])).length) Slot.unset).toArray = ls at hl ⊢
  have hl : lv_has ls 3 [(0, .ref (a 0)), (1, .int x1), (2, .int x2)] := hl
  have h_1 := hts (.fieldLink RX6 47 RX6 "demands" "LVolumeHouse$Demands;") (by decide +kernel)
  have h_2 := (show ∀ w ∈ u_ws RX6 TX6 10, w ∈ wsX6_best by decide +kernel)
  have h_3 := (hN.1 _ (List.mem_of_getElem? (i := 62) rfl) : va_Nw (.methodLinkNest RX6 228 yX2_setsToBuy RX6) s)
  have h_4 := hts (.initialized RX2) (by decide +kernel)
  have h_5 := hts (.instanceMethod yX2_setsToBuy) (by decide +kernel)
  have h_6 := hts (.selects RX2 yX2_setsToBuy yX2_setsToBuy) (by decide +kernel)
  have t_m1 : ((-1) : Int32).toInt = -1 := rfl
  have t_0 : (0 : Int32).toInt = 0 := rfl
  refine lv_iload_n hx hb dX6_best_0 rfl (lv_at hl 1 rfl) ?_
  refine lv_iload_n hx hb dX6_best_1 rfl (lv_at hl 2 rfl) ?_
  refine w_goI (va_runS (As := [.int x1, .int x2]) (rest := []) ⟨hx, hb, hml, hown, hts⟩ (mX6_canPlan l G cy a _ q x1 x2) (va_cwS 2 hts gX6_best_X6_canPlan rfl rfl rfl (by decide +kernel) ⟨Nat.le_of_ble_eq_true rfl, Nat.le_of_ble_eq_true rfl⟩) (w_preS (xOk cy a) hK hP hD hS hA hN) rfl rfl hl.1 rfl (lv_room (Nat.le_of_ble_eq_true rfl)) dX6_best_2 ⟨Nat.le_of_ble_eq_true rfl, Nat.le_of_ble_eq_true rfl⟩) hD hS hA (fun H locs hP hS => ?_)
  refine lv_if_ne (tgt := 10) hx hb dX6_best_5 (by decide) (fun c_1 => ?_) (fun c_1 => ?_)
  · have e_2 := i_ne c_1
    refine lv_aload_n hx hb dX6_best_10 rfl (lv_at hl 0 rfl) ?_
    refine gfX6_47 hx hb hts h_2 hown hK hP h_1 dX6_best_11 ?_
    refine lv_iload_n hx hb dX6_best_14 rfl (lv_at hl 1 rfl) ?_
    refine lv_iload_n hx hb dX6_best_15 rfl (lv_at hl 2 rfl) ?_
    refine w_goI (va_runVN (As := [.int x1, .int x2]) (rest := []) ⟨hx, hb, hml, hown, hts⟩ (mX2_setsToBuy l G cy a _ q x1 x2) ⟨va_cnB 2 hts gX6_best_X2_setsToBuy_n228 rfl rfl rfl h_3 h_4 (by decide +kernel) ⟨Nat.le_of_ble_eq_true rfl, Nat.le_of_ble_eq_true rfl⟩, h_5, h_6⟩ (w_pre (xOk cy a) (va_recv hK hP (ci := 2) (q0 := 6) rfl rfl) hK hP hD hS hA hN) rfl rfl hl.1 rfl (lv_room (Nat.le_of_ble_eq_true rfl)) dX6_best_16 ⟨Nat.le_of_ble_eq_true rfl, Nat.le_of_ble_eq_true rfl⟩) hD hS hA (fun H locs hP hS => ?_)
    exact W.iret (v := (fX2_setsToBuy q x1 x2)) hx hb hr (fun t ht hW => ⟨⟨(fX2_setsToBuy q x1 x2), q, rfl, ⟨(show (fX6_best q x1 x2) = (fX2_setsToBuy q x1 x2) by (rw [fX6_best, if_neg c_1]); try rfl).symm, rfl⟩, w_ht ht hP⟩, hS.F ht⟩) hS.2.2 dX6_best_19
  · have e_2 := i_eq c_1
    refine lv_iconst (v := (-1)) hx hb dX6_best_8 (by decide) ?_
    exact W.iret (v := (-1)) hx hb hr (fun t ht hW => ⟨⟨(-1), q, rfl, ⟨(show (fX6_best q x1 x2) = (-1) by (rw [fX6_best, if_pos c_1]); try rfl).symm, rfl⟩, w_ht ht hP⟩, hS.F ht⟩) hS.2.2 dX6_best_9
