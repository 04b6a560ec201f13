set_option maxHeartbeats 4000000 in
set_option maxRecDepth 100000 in
theorem mX4_hasVolume (l : Launch) (G : va_G) (cy : ClassId) (a : Nat → Nat) (sz : Nat) (q : wSt) (x1 : Int32) (x2 : Int32) (g0 : (q 34 0).toInt ≤ 12) : CtI l yX4_hasVolume wsX4_hasVolume ({ frames := 2, cells := 0, slots := 0, locals := 42 }) G cy (cX cy a) xN sz q [.ref (a 1), .int x1, .int x2] (fX4_hasVolume q x1 x2) q := by
  refine Met.ofW (cc := cX4_hasVolume) (maxL := 3) (ret := (some .boolean)) (by decide) rfl ?_
  intro p e s m args below meth c s₁ B hml hv
  obtain ⟨rfl, hsz, hP, hK, hD0, hN⟩ := hv
  have hx := B.exec
  have hb := B.bytes
  have hr := B.returns
  have hts := atoms_spec (ws := wsX4_hasVolume) B.pre
  have hown : s.vm.findClass RX4 = some m.cls := findClass_of_methodNamed B.named
  have hlocks := B.notSynchronized
  subst hsz
  have hD : ∀ z : wSt, va_D (wA (cX cy a) s.heap.size) ((cX cy a) z) := fun z => w_self (xOk cy a).1 hD0 z
  have hA : ∀ z : Nat, s.heap.size ≤ z → wA (cX cy a) s.heap.size z := fun _ h => Or.inr h
  have hS : va_S (wA (cX cy a) s.heap.size) s.heap s.heap [] := va_S.rf
  have hl := lv_entry ([.ref (a 1), .int x1, .int x2]) (n := 3) (Nat.le_of_ble_eq_true rfl)
  rw [lg_entry_eq]
  generalize (lg_sl ([.ref (a 1), .int x1, .int x2]) ++ List.replicate (3 - (lg_sl ([.ref (a 1), .int x1, .int x2])).length) Slot.unset).toArray = ls at hl ⊢
  have hl : lv_has ls 3 [(0, .ref (a 1)), (1, .int x1), (2, .int x2)] := hl
  have t_0 : (0 : Int32).toInt = 0 := rfl
  have t_1 : (1 : Int32).toInt = 1 := rfl
  refine lv_iload_n hx hb dX4_hasVolume_0 rfl (lv_at hl 2 rfl) ?_
  refine lv_if_lt (tgt := 17) hx hb dX4_hasVolume_1 (by decide) (fun c_1 => ?_) (fun c_1 => ?_)
  · have e_2 := i_lt c_1
    refine lv_iconst (v := 0) hx hb dX4_hasVolume_17 (by decide) ?_
    exact W.zret (v := 0) hx hb hr rfl (fun t ht hW => ⟨⟨0, q, rfl, ⟨(show (fX4_hasVolume q x1 x2) = 0 by (rw [fX4_hasVolume, if_pos c_1]); try rfl).symm, rfl⟩, w_ht ht hP⟩, hS.F ht⟩) hS.2.2 dX4_hasVolume_18
  · have e_2 := i_nlt c_1
    refine lv_iload_n hx hb dX4_hasVolume_4 rfl (lv_at hl 2 rfl) ?_
    refine lv_aload_n hx hb dX4_hasVolume_5 rfl (lv_at hl 0 rfl) ?_
    refine lv_iload_n hx hb dX4_hasVolume_6 rfl (lv_at hl 1 rfl) ?_
    refine w_goI (va_runV (As := [.int x1]) (rest := [.int x2]) ⟨hx, hb, hml, hown, hts⟩ (mX4_volumesOf l G cy a _ q x1 (by omega)) (cwV 1 hts gX4_hasVolume_X4_volumesOf rfl rfl rfl (by decide +kernel) ⟨Nat.le_of_ble_eq_true rfl, Nat.le_of_ble_eq_true rfl⟩) (w_pre (xOk cy a) (va_recv hK hP (ci := 4) (q0 := 1) rfl rfl) hK hP hD hS hA hN) rfl rfl hl.1 rfl (lv_room (Nat.le_of_ble_eq_true rfl)) dX4_hasVolume_7 ⟨Nat.le_of_ble_eq_true rfl, Nat.le_of_ble_eq_true rfl⟩) hD hS hA (fun H locs hP hS => ?_)
    refine lv_icmp_ge (tgt := 17) hx hb dX4_hasVolume_10 (by decide) (fun c_3 => ?_) (fun c_3 => ?_)
    · have e_4 := i_le c_3
      refine lv_iconst (v := 0) hx hb dX4_hasVolume_17 (by decide) ?_
      exact W.zret (v := 0) hx hb hr rfl (fun t ht hW => ⟨⟨0, q, rfl, ⟨(show (fX4_hasVolume q x1 x2) = 0 by (rw [fX4_hasVolume, if_neg c_1, if_pos c_3]); try rfl).symm, rfl⟩, w_ht ht hP⟩, hS.F ht⟩) hS.2.2 dX4_hasVolume_18
    · have e_4 := i_nle c_3
      refine lv_iconst (v := 1) hx hb dX4_hasVolume_13 (by decide) ?_
      refine lv_goto (tgt := 18) hx hb dX4_hasVolume_14 (by decide) ?_
      exact W.zret (v := 1) hx hb hr rfl (fun t ht hW => ⟨⟨1, q, rfl, ⟨(show (fX4_hasVolume q x1 x2) = 1 by (rw [fX4_hasVolume, if_neg c_1, if_neg c_3]); try rfl).symm, rfl⟩, w_ht ht hP⟩, hS.F ht⟩) hS.2.2 dX4_hasVolume_18
