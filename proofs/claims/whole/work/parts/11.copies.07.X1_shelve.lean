set_option maxHeartbeats 4000000 in
set_option maxRecDepth 100000 in
theorem mX1_shelve (l : Launch) (G : va_G) (cy : ClassId) (a : Nat → Nat) (sz : Nat) (q : wSt) (x1 : Int32) (g0 : 0 ≤ (x1).toInt) (g1 : (x1).toInt < 200) : CtV l yX1_shelve wsX1_shelve ({ frames := 3, cells := 0, slots := 0, locals := 67 }) G cy (cX cy a) xN sz q [.ref (a 3), .int x1] (fX1_shelve q x1) := by
  refine Met.ofW (cc := cX1_shelve) (maxL := 2) (ret := none) (by decide) rfl ?_
  intro p e s m args below meth c s₁ B hml hv
  obtain ⟨rfl, hsz, hP, hK, hD0, hN⟩ := hv
  have hx := B.exec
  have hb := B.bytes
  have hr := B.returns
  have hts := atoms_spec (ws := wsX1_shelve) B.pre
  have hown : s.vm.findClass RX1 = some m.cls := findClass_of_methodNamed B.named
  have hlocks := B.notSynchronized
  subst hsz
  have hD : ∀ z : wSt, va_D (wA (cX cy a) s.heap.size) ((cX cy a) z) := fun z => w_self (xOk cy a).1 hD0 z
  have hA : ∀ z : Nat, s.heap.size ≤ z → wA (cX cy a) s.heap.size z := fun _ h => Or.inr h
  have hS : va_S (wA (cX cy a) s.heap.size) s.heap s.heap [] := va_S.rf
  have hl := lv_entry ([.ref (a 3), .int x1]) (n := 2) (Nat.le_of_ble_eq_true rfl)
  rw [lg_entry_eq]
  generalize (lg_sl ([.ref (a 3), .int x1]) ++ List.replicate (2 - (lg_sl ([.ref (a 3), .int x1])).length) Slot.unset).toArray = ls at hl ⊢
  have hl : lv_has ls 2 [(0, .ref (a 3)), (1, .int x1)] := hl
  have t_0 : (0 : Int32).toInt = 0 := rfl
  refine lv_aload_n hx hb dX1_shelve_0 rfl (lv_at hl 0 rfl) ?_
  refine lv_iload_n hx hb dX1_shelve_1 rfl (lv_at hl 1 rfl) ?_
  refine lv_iconst (v := 0) hx hb dX1_shelve_2 (by decide) ?_
  refine w_goV (va_runV (As := [.int x1, .int 0]) (rest := []) ⟨hx, hb, hml, hown, hts⟩ (mX1_moveTo l G cy a _ q x1 0 (by omega) (by omega)) (cwV 2 hts gX1_shelve_X1_moveTo rfl rfl rfl (by decide +kernel) ⟨Nat.le_of_ble_eq_true rfl, Nat.le_of_ble_eq_true rfl⟩) (w_pre (xOk cy a) (va_recv hK hP (ci := 1) (q0 := 3) rfl rfl) hK hP hD hS hA hN) rfl rfl hl.1 rfl (lv_room (Nat.le_of_ble_eq_true rfl)) dX1_shelve_3 ⟨Nat.le_of_ble_eq_true rfl, Nat.le_of_ble_eq_true rfl⟩) hD hS hA (fun H locs hP hS => ?_)
  refine lv_aload_n hx hb dX1_shelve_6 rfl (lv_at hl 0 rfl) ?_
  refine lv_iload_n hx hb dX1_shelve_7 rfl (lv_at hl 1 rfl) ?_
  refine w_goV (va_runV (As := [.int x1]) (rest := []) ⟨hx, hb, hml, hown, hts⟩ (mX1_belongToNobody l G cy a _ (fX1_moveTo q x1 0) x1 (by omega) (by omega)) (cwV 1 hts gX1_shelve_X1_belongToNobody rfl rfl rfl (by decide +kernel) ⟨Nat.le_of_ble_eq_true rfl, Nat.le_of_ble_eq_true rfl⟩) (w_pre (xOk cy a) (va_recv hK hP (ci := 1) (q0 := 3) rfl rfl) hK hP hD hS hA hN) rfl rfl hl.1 rfl (lv_room (Nat.le_of_ble_eq_true rfl)) dX1_shelve_8 ⟨Nat.le_of_ble_eq_true rfl, Nat.le_of_ble_eq_true rfl⟩) hD hS hA (fun H locs hP hS => ?_)
  exact W.vret hx hb hr (fun t ht hW => ⟨⟨(fX1_belongToNobody (fX1_moveTo q x1 0) x1), rfl, (show (fX1_shelve q x1) = (fX1_belongToNobody (fX1_moveTo q x1 0) x1) by (rw [fX1_shelve]); try rfl).symm, w_ht ht hP⟩, hS.F ht⟩) hS.2.2 dX1_shelve_11
