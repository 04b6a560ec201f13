set_option maxHeartbeats 4000000 in
set_option maxRecDepth 100000 in
theorem mX7_isWish (l : Launch) (G : va_G) (cy : ClassId) (a : Nat → Nat) (sz : Nat) (q : wSt) (x1 : Int32) : CtI l yX7_isWish wsX7_isWish ({ frames := 1, cells := 0, slots := 0, locals := 22 }) G cy (cM cy a) mN sz q [.ref (a 0), .int x1] (fX7_isWish q x1) q := by
  refine Met.ofW (cc := cX7_isWish) (maxL := 2) (ret := (some .boolean)) (by decide) rfl ?_
  intro p e s m args below meth c s₁ B hml hv
  obtain ⟨rfl, hsz, hP, hK, hD0, hN⟩ := hv
  have hx := B.exec
  have hb := B.bytes
  have hr := B.returns
  have hts := atoms_spec (ws := wsX7_isWish) B.pre
  have hown : s.vm.findClass RX7 = some m.cls := findClass_of_methodNamed B.named
  have hlocks := B.notSynchronized
  subst hsz
  have hD : ∀ z : wSt, va_D (wA (cM cy a) s.heap.size) ((cM cy a) z) := fun z => w_self (mOk cy a).1 hD0 z
  have hA : ∀ z : Nat, s.heap.size ≤ z → wA (cM cy a) s.heap.size z := fun _ h => Or.inr h
  have hS : va_S (wA (cM cy a) s.heap.size) s.heap s.heap [] := va_S.rf
  have hl := lv_entry ([.ref (a 0), .int x1]) (n := 2) (Nat.le_of_ble_eq_true rfl)
  rw [lg_entry_eq]
  generalize (lg_sl ([.ref (a 0), .int x1]) ++ List.replicate (2 - (lg_sl ([.ref (a 0), .int x1])).length) Slot.unset).toArray = ls at hl ⊢
  have hl : lv_has ls 2 [(0, .ref (a 0)), (1, .int x1)] := hl
  have h_1 := hts (.fieldLink RX7 102 RX7 "wishes" "I") (by decide +kernel)
  have h_2 := (show ∀ w ∈ u_ws RX7 TX7 35, w ∈ wsX7_isWish by decide +kernel)
  have t_0 : (0 : Int32).toInt = 0 := rfl
  have t_1 : (1 : Int32).toInt = 1 := rfl
  refine lv_iload_n hx hb dX7_isWish_0 rfl (lv_at hl 1 rfl) ?_
  refine lv_iconst (v := 0) hx hb dX7_isWish_1 (by decide) ?_
  refine lv_aload_n hx hb dX7_isWish_2 rfl (lv_at hl 0 rfl) ?_
  refine gfX7_102 (v := (q 40 0)) hx hb hts h_2 hown hK hP h_1 rfl dX7_isWish_3 ?_
  refine lv_iconst (v := 1) hx hb dX7_isWish_6 (by decide) ?_
  refine lv_isub hx hb dX7_isWish_7 ?_
  refine w_goI (va_runS (As := [.int x1, .int 0, .int ((q 40 0) - 1)]) (rest := []) ⟨hx, hb, hml, hown, hts⟩ (mX7_in l G cy a _ q x1 0 ((q 40 0) - 1)) (va_cwS 3 hts gX7_isWish_X7_in rfl rfl rfl (by decide +kernel) ⟨Nat.le_of_ble_eq_true rfl, Nat.le_of_ble_eq_true rfl⟩) (w_preS (mOk cy a) hK hP hD hS hA hN) rfl rfl hl.1 rfl (lv_room (Nat.le_of_ble_eq_true rfl)) dX7_isWish_8 ⟨Nat.le_of_ble_eq_true rfl, Nat.le_of_ble_eq_true rfl⟩) hD hS hA (fun H locs hP hS => ?_)
  have e_1 := tX7_in q x1 0 ((q 40 0) - 1)
  exact W.zret (v := (fX7_in q x1 0 ((q 40 0) - 1))) hx hb hr (w_bool (bX7_in _ _ _ _)) (fun t ht hW => ⟨⟨(fX7_in q x1 0 ((q 40 0) - 1)), q, rfl, ⟨(show (fX7_isWish q x1) = (fX7_in q x1 0 ((q 40 0) - 1)) by (rw [fX7_isWish]); try rfl).symm, rfl⟩, w_ht ht hP⟩, hS.F ht⟩) hS.2.2 dX7_isWish_11
