set_option maxHeartbeats 4000000 in
set_option maxRecDepth 100000 in
theorem mX6_waiting (l : Launch) (G : va_G) (cy : ClassId) (a : Nat → Nat) (sz : Nat) (q : wSt) (x1 : Int32) (x2 : Int32) (hI : iI q) : CtI l yX6_waiting wsX6_waiting ({ frames := 4, cells := 0, slots := 0, locals := 87 }) G cy (cX cy a) xN sz q [.ref (a 0), .int x1, .int x2] (fX6_waiting q x1 x2) q := by
  refine Met.ofW (cc := cX6_waiting) (maxL := 3) (ret := (some .int)) (by decide) rfl ?_
  intro p e s m args below meth c s₁ B hml hv
  obtain ⟨rfl, hsz, hP, hK, hD0, hN⟩ := hv
  have hx := B.exec
  have hb := B.bytes
  have hr := B.returns
  have hts := atoms_spec (ws := wsX6_waiting) B.pre
  have hown : s.vm.findClass RX6 = some m.cls := findClass_of_methodNamed B.named
  have hlocks := B.notSynchronized
  subst hsz
  have hD : ∀ z : wSt, va_D (wA (cX cy a) s.heap.size) ((cX cy a) z) := fun z => w_self (xOk cy a).1 hD0 z
  have hA : ∀ z : Nat, s.heap.size ≤ z → wA (cX cy a) s.heap.size z := fun _ h => Or.inr h
  have hS : va_S (wA (cX cy a) s.heap.size) s.heap s.heap [] := va_S.rf
  have hl := lv_entry ([.ref (a 0), .int x1, .int x2]) (n := 3) (Nat.le_of_ble_eq_true rfl)
  rw [lg_entry_eq]
  generalize (lg_sl ([.ref (a 0), .int x1, .int x2]) ++ List.replicate (3 - (lg_sl ([.ref (a 0), .int x1, .int x2])).length) Slot.unset).toArray = ls at hl ⊢
  have hl : lv_has ls 3 [(0, .ref (a 0)), (1, .int x1), (2, .int x2)] := hl
  have h_1 := hts (.fieldLink RX6 10 RX6 "titles" "LVolumeHouse$Titles;") (by decide +kernel)
  have h_2 := (show ∀ w ∈ u_ws RX6 TX6 10, w ∈ wsX6_waiting by decide +kernel)
  have h_3 := (hN.1 _ (List.mem_of_getElem? (i := 59) rfl) : va_Nw (.methodLinkNest RX6 210 yX4_hasVolume RX6) s)
  have h_4 := hts (.initialized RX4) (by decide +kernel)
  have h_5 := hts (.instanceMethod yX4_hasVolume) (by decide +kernel)
  have h_6 := hts (.selects RX4 yX4_hasVolume yX4_hasVolume) (by decide +kernel)
  have h_7 := hts (.fieldLink RX6 40 RX6 "wishes" "LVolumeHouse$Wishes;") (by decide +kernel)
  have h_8 := (hN.1 _ (List.mem_of_getElem? (i := 60) rfl) : va_Nw (.methodLinkNest RX6 213 yX5_waitingFor RX6) s)
  have h_9 := hts (.initialized RX5) (by decide +kernel)
  have h_10 := hts (.instanceMethod yX5_waitingFor) (by decide +kernel)
  have h_11 := hts (.selects RX5 yX5_waitingFor yX5_waitingFor) (by decide +kernel)
  have t_m1 : ((-1) : Int32).toInt = -1 := rfl
  have t_0 : (0 : Int32).toInt = 0 := rfl
  have hB := iI_b hI
  refine lv_aload_n hx hb dX6_waiting_0 rfl (lv_at hl 0 rfl) ?_
  refine gfX6_10 hx hb hts h_2 hown hK hP h_1 dX6_waiting_1 ?_
  refine lv_iload_n hx hb dX6_waiting_4 rfl (lv_at hl 1 rfl) ?_
  refine lv_iload_n hx hb dX6_waiting_5 rfl (lv_at hl 2 rfl) ?_
  refine w_goI (va_runVN (As := [.int x1, .int x2]) (rest := []) ⟨hx, hb, hml, hown, hts⟩ (mX4_hasVolume l G cy a _ q x1 x2 (by omega)) ⟨va_cnB 2 hts gX6_waiting_X4_hasVolume_n210 rfl rfl rfl h_3 h_4 (by decide +kernel) ⟨Nat.le_of_ble_eq_true rfl, Nat.le_of_ble_eq_true rfl⟩, h_5, h_6⟩ (w_pre (xOk cy a) (va_recv hK hP (ci := 4) (q0 := 1) rfl rfl) hK hP hD hS hA hN) rfl rfl hl.1 rfl (lv_room (Nat.le_of_ble_eq_true rfl)) dX6_waiting_6 ⟨Nat.le_of_ble_eq_true rfl, Nat.le_of_ble_eq_true rfl⟩) hD hS hA (fun H locs hP hS => ?_)
  refine lv_if_ne (tgt := 14) hx hb dX6_waiting_9 (by decide) (fun c_1 => ?_) (fun c_1 => ?_)
  · have e_2 := i_ne c_1
    refine lv_aload_n hx hb dX6_waiting_14 rfl (lv_at hl 0 rfl) ?_
    refine gfX6_40 hx hb hts h_2 hown hK hP h_7 dX6_waiting_15 ?_
    refine lv_iload_n hx hb dX6_waiting_18 rfl (lv_at hl 1 rfl) ?_
    refine lv_iload_n hx hb dX6_waiting_19 rfl (lv_at hl 2 rfl) ?_
    refine w_goI (va_runVN (As := [.int x1, .int x2]) (rest := []) ⟨hx, hb, hml, hown, hts⟩ (mX5_waitingFor l G cy a _ q x1 x2 (by omega)) ⟨va_cnB 2 hts gX6_waiting_X5_waitingFor_n213 rfl rfl rfl h_8 h_9 (by decide +kernel) ⟨Nat.le_of_ble_eq_true rfl, Nat.le_of_ble_eq_true rfl⟩, h_10, h_11⟩ (w_pre (xOk cy a) (va_recv hK hP (ci := 5) (q0 := 5) rfl rfl) hK hP hD hS hA hN) rfl rfl hl.1 rfl (lv_room (Nat.le_of_ble_eq_true rfl)) dX6_waiting_20 ⟨Nat.le_of_ble_eq_true rfl, Nat.le_of_ble_eq_true rfl⟩) hD hS hA (fun H locs hP hS => ?_)
    exact W.iret (v := (fX5_waitingFor q x1 x2)) hx hb hr (fun t ht hW => ⟨⟨(fX5_waitingFor q x1 x2), q, rfl, ⟨(show (fX6_waiting q x1 x2) = (fX5_waitingFor q x1 x2) by (rw [fX6_waiting, if_neg c_1]); try rfl).symm, rfl⟩, w_ht ht hP⟩, hS.F ht⟩) hS.2.2 dX6_waiting_23
  · have e_2 := i_eq c_1
    refine lv_iconst (v := (-1)) hx hb dX6_waiting_12 (by decide) ?_
    exact W.iret (v := (-1)) hx hb hr (fun t ht hW => ⟨⟨(-1), q, rfl, ⟨(show (fX6_waiting q x1 x2) = (-1) by (rw [fX6_waiting, if_pos c_1]); try rfl).symm, rfl⟩, w_ht ht hP⟩, hS.F ht⟩) hS.2.2 dX6_waiting_13
