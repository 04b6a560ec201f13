set_option maxHeartbeats 4000000 in
set_option maxRecDepth 100000 in
theorem mX1_slot (l : Launch) (G : va_G) (cy : ClassId) (a : Nat → Nat) (sz : Nat) (q : wSt) (x1 : Int32) (x2 : Int32) : CtI l yX1_slot wsX1_slot ({ frames := 0, cells := 0, slots := 0, locals := 0 }) G cy (cX cy a) xN sz q [.ref (a 3), .int x1, .int x2] (fX1_slot q x1 x2) q := by
  refine Met.ofW (cc := cX1_slot) (maxL := 3) (ret := (some .int)) (by decide) rfl ?_
  intro p e s m args below meth c s₁ B hml hv
  obtain ⟨rfl, hsz, hP, hK, hD0, hN⟩ := hv
  have hx := B.exec
  have hb := B.bytes
  have hr := B.returns
  have hts := atoms_spec (ws := wsX1_slot) B.pre
  have hown : s.vm.findClass RX1 = some m.cls := findClass_of_methodNamed B.named
  have hlocks := B.notSynchronized
  subst hsz
  have hD : ∀ z : wSt, va_D (wA (cX cy a) s.heap.size) ((cX cy a) z) := fun z => w_self (xOk cy a).1 hD0 z
  have hA : ∀ z : Nat, s.heap.size ≤ z → wA (cX cy a) s.heap.size z := fun _ h => Or.inr h
  have hS : va_S (wA (cX cy a) s.heap.size) s.heap s.heap [] := va_S.rf
  have hl := lv_entry ([.ref (a 3), .int x1, .int x2]) (n := 3) (Nat.le_of_ble_eq_true rfl)
  rw [lg_entry_eq]
  generalize (lg_sl ([.ref (a 3), .int x1, .int x2]) ++ List.replicate (3 - (lg_sl ([.ref (a 3), .int x1, .int x2])).length) Slot.unset).toArray = ls at hl ⊢
  have hl : lv_has ls 3 [(0, .ref (a 3)), (1, .int x1), (2, .int x2)] := hl
  have t_4 : (4 : Int32).toInt = 4 := rfl
  refine lv_iload_n hx hb dX1_slot_0 rfl (lv_at hl 1 rfl) ?_
  refine lv_iconst (v := 4) hx hb dX1_slot_1 (by decide) ?_
  refine lv_imul hx hb dX1_slot_2 ?_
  refine lv_iload_n hx hb dX1_slot_3 rfl (lv_at hl 2 rfl) ?_
  refine lv_iadd hx hb dX1_slot_4 ?_
  exact W.iret (v := ((x1 * 4) + x2)) hx hb hr (fun t ht hW => ⟨⟨((x1 * 4) + x2), q, rfl, ⟨(show (fX1_slot q x1 x2) = ((x1 * 4) + x2) by (rw [fX1_slot]); try rfl).symm, rfl⟩, w_ht ht hP⟩, hS.F ht⟩) hS.2.2 dX1_slot_5
