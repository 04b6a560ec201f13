set_option maxHeartbeats 4000000 in
set_option maxRecDepth 100000 in
theorem mX7_kept (l : Launch) (G : va_G) (cy : ClassId) (a : Nat → Nat) (sz : Nat) (q : wSt) (x1 : Int32) (x2 : Int32) (x3 : Int32) : CtI l yX7_kept wsX7_kept ({ frames := 3, cells := 0, slots := 0, locals := 75 }) G cy (cM cy a) mN sz q [.ref (a 0), .int x1, .int x2, .int x3] (fX7_kept q x1 x2 x3) q := by
  refine Met.ofW (cc := cX7_kept) (maxL := 4) (ret := (some .int)) (by decide) rfl ?_
  intro p e s m args below meth c s₁ B hml hv
  obtain ⟨rfl, hsz, hP, hK, hD0, hN⟩ := hv
  have hx := B.exec
  have hb := B.bytes
  have hr := B.returns
  have hts := atoms_spec (ws := wsX7_kept) B.pre
  have hown : s.vm.findClass RX7 = some m.cls := findClass_of_methodNamed B.named
  have hlocks := B.notSynchronized
  subst hsz
  have hD : ∀ z : wSt, va_D (wA (cM cy a) s.heap.size) ((cM cy a) z) := fun z => w_self (mOk cy a).1 hD0 z
  have hA : ∀ z : Nat, s.heap.size ≤ z → wA (cM cy a) s.heap.size z := fun _ h => Or.inr h
  have hS : va_S (wA (cM cy a) s.heap.size) s.heap s.heap [] := va_S.rf
  have hl := lv_entry ([.ref (a 0), .int x1, .int x2, .int x3]) (n := 4) (Nat.le_of_ble_eq_true rfl)
  rw [lg_entry_eq]
  generalize (lg_sl ([.ref (a 0), .int x1, .int x2, .int x3]) ++ List.replicate (4 - (lg_sl ([.ref (a 0), .int x1, .int x2, .int x3])).length) Slot.unset).toArray = ls at hl ⊢
  have hl : lv_has ls 4 [(0, .ref (a 0)), (1, .int x1), (2, .int x2), (3, .int x3)] := hl
  have t_m1 : ((-1) : Int32).toInt = -1 := rfl
  have t_0 : (0 : Int32).toInt = 0 := rfl
  have t_1 : (1 : Int32).toInt = 1 := rfl
  refine lv_iload_n hx hb dX7_kept_0 rfl (lv_at hl 1 rfl) ?_
  refine lv_iload_n hx hb dX7_kept_1 rfl (lv_at hl 2 rfl) ?_
  refine w_goI (va_runS (As := [.int x1, .int x2]) (rest := []) ⟨hx, hb, hml, hown, hts⟩ (mX7_isAny l G cy a _ q x1 x2) (va_cwS 2 hts gX7_kept_X7_isAny rfl rfl rfl (by decide +kernel) ⟨Nat.le_of_ble_eq_true rfl, Nat.le_of_ble_eq_true rfl⟩) (w_preS (mOk cy a) hK hP hD hS hA hN) rfl rfl hl.1 rfl (lv_room (Nat.le_of_ble_eq_true rfl)) dX7_kept_2 ⟨Nat.le_of_ble_eq_true rfl, Nat.le_of_ble_eq_true rfl⟩) hD hS hA (fun H locs hP hS => ?_)
  refine lv_if_eq (tgt := 33) hx hb dX7_kept_5 (by decide) (fun c_1 => ?_) (fun c_1 => ?_)
  · have e_2 := i_eq c_1
    refine lv_iconst (v := (-1)) hx hb dX7_kept_33 (by decide) ?_
    exact W.iret (v := (-1)) hx hb hr (fun t ht hW => ⟨⟨(-1), q, rfl, ⟨(show (fX7_kept q x1 x2 x3) = (-1) by (rw [fX7_kept, if_pos c_1]); try rfl).symm, rfl⟩, w_ht ht hP⟩, hS.F ht⟩) hS.2.2 dX7_kept_34
  · have e_2 := i_ne c_1
    refine lv_iload_n hx hb dX7_kept_8 rfl (lv_at hl 3 rfl) ?_
    refine lv_iconst (v := 0) hx hb dX7_kept_9 (by decide) ?_
    refine lv_aload_n hx hb dX7_kept_10 rfl (lv_at hl 0 rfl) ?_
    refine lv_iload_n hx hb dX7_kept_11 rfl (lv_at hl 1 rfl) ?_
    refine lv_iload_n hx hb dX7_kept_12 rfl (lv_at hl 2 rfl) ?_
    refine w_goI (va_runV (As := [.int x1, .int x2]) (rest := [.int 0, .int x3]) ⟨hx, hb, hml, hown, hts⟩ (mX7_best l G cy a _ q x1 x2) (cwV 2 hts gX7_kept_X7_best rfl rfl rfl (by decide +kernel) ⟨Nat.le_of_ble_eq_true rfl, Nat.le_of_ble_eq_true rfl⟩) (w_pre (mOk cy a) (va_recv hK hP (ci := 7) (q0 := 0) rfl rfl) hK hP hD hS hA hN) rfl rfl hl.1 rfl (lv_room (Nat.le_of_ble_eq_true rfl)) dX7_kept_13 ⟨Nat.le_of_ble_eq_true rfl, Nat.le_of_ble_eq_true rfl⟩) hD hS hA (fun H locs hP hS => ?_)
    refine lv_iconst (v := 1) hx hb dX7_kept_16 (by decide) ?_
    refine lv_isub hx hb dX7_kept_17 ?_
    refine w_goI (va_runS (As := [.int x3, .int 0, .int ((fX7_best q x1 x2) - 1)]) (rest := []) ⟨hx, hb, hml, hown, hts⟩ (mX7_in l G cy a _ q x3 0 ((fX7_best q x1 x2) - 1)) (va_cwS 3 hts gX7_kept_X7_in rfl rfl rfl (by decide +kernel) ⟨Nat.le_of_ble_eq_true rfl, Nat.le_of_ble_eq_true rfl⟩) (w_preS (mOk cy a) hK hP hD hS hA hN) rfl rfl hl.1 rfl (lv_room (Nat.le_of_ble_eq_true rfl)) dX7_kept_18 ⟨Nat.le_of_ble_eq_true rfl, Nat.le_of_ble_eq_true rfl⟩) hD hS hA (fun H locs hP hS => ?_)
    have e_3 := tX7_in q x3 0 ((fX7_best q x1 x2) - 1)
    refine lv_if_eq (tgt := 33) hx hb dX7_kept_21 (by decide) (fun c_4 => ?_) (fun c_4 => ?_)
    · have e_5 := i_eq c_4
      refine lv_iconst (v := (-1)) hx hb dX7_kept_33 (by decide) ?_
      exact W.iret (v := (-1)) hx hb hr (fun t ht hW => ⟨⟨(-1), q, rfl, ⟨(show (fX7_kept q x1 x2 x3) = (-1) by (rw [fX7_kept, if_neg c_1, if_pos c_4]); try rfl).symm, rfl⟩, w_ht ht hP⟩, hS.F ht⟩) hS.2.2 dX7_kept_34
    · have e_5 := i_ne c_4
      refine lv_aload_n hx hb dX7_kept_24 rfl (lv_at hl 0 rfl) ?_
      refine lv_iload_n hx hb dX7_kept_25 rfl (lv_at hl 1 rfl) ?_
      refine lv_iload_n hx hb dX7_kept_26 rfl (lv_at hl 3 rfl) ?_
      refine w_goI (va_runV (As := [.int x1, .int x3]) (rest := []) ⟨hx, hb, hml, hown, hts⟩ (mX7_weeksOf l G cy a _ q x1 x3) (cwV 2 hts gX7_kept_X7_weeksOf rfl rfl rfl (by decide +kernel) ⟨Nat.le_of_ble_eq_true rfl, Nat.le_of_ble_eq_true rfl⟩) (w_pre (mOk cy a) (va_recv hK hP (ci := 7) (q0 := 0) rfl rfl) hK hP hD hS hA hN) rfl rfl hl.1 rfl (lv_room (Nat.le_of_ble_eq_true rfl)) dX7_kept_27 ⟨Nat.le_of_ble_eq_true rfl, Nat.le_of_ble_eq_true rfl⟩) hD hS hA (fun H locs hP hS => ?_)
      have e_6 := tX7_weeksOf q x1 x3
      refine lv_goto (tgt := 34) hx hb dX7_kept_30 (by decide) ?_
      exact W.iret (v := (fX7_weeksOf q x1 x3)) hx hb hr (fun t ht hW => ⟨⟨(fX7_weeksOf q x1 x3), q, rfl, ⟨(show (fX7_kept q x1 x2 x3) = (fX7_weeksOf q x1 x3) by (rw [fX7_kept, if_neg c_1, if_neg c_4]); try rfl).symm, rfl⟩, w_ht ht hP⟩, hS.F ht⟩) hS.2.2 dX7_kept_34
