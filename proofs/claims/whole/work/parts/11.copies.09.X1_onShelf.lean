set_option maxHeartbeats 4000000 in
set_option maxRecDepth 100000 in
theorem mX1_onShelf (l : Launch) (G : va_G) (cy : ClassId) (a : Nat → Nat) (sz : Nat) (q : wSt) (x1 : Int32) (x2 : Int32) : CtI l yX1_onShelf wsX1_onShelf ({ frames := 1, cells := 0, slots := 0, locals := 22 }) G cy (cX cy a) xN sz q [.ref (a 3), .int x1, .int x2] (fX1_onShelf q x1 x2) q := by
  refine Met.ofW (cc := cX1_onShelf) (maxL := 4) (ret := (some .int)) (by decide) rfl ?_
  intro p e s m args below meth c s₁ B hml hv
  obtain ⟨rfl, hsz, hP, hK, hD0, hN⟩ := hv
  have hx := B.exec
  have hb := B.bytes
  have hr := B.returns
  have hts := atoms_spec (ws := wsX1_onShelf) B.pre
  have hown : s.vm.findClass RX1 = some m.cls := findClass_of_methodNamed B.named
  have hlocks := B.notSynchronized
  subst hsz
  have hD : ∀ z : wSt, va_D (wA (cX cy a) s.heap.size) ((cX cy a) z) := fun z => w_self (xOk cy a).1 hD0 z
  have hA : ∀ z : Nat, s.heap.size ≤ z → wA (cX cy a) s.heap.size z := fun _ h => Or.inr h
  have hS : va_S (wA (cX cy a) s.heap.size) s.heap s.heap [] := va_S.rf
  have hl := lv_entry ([.ref (a 3), .int x1, .int x2]) (n := 4) (Nat.le_of_ble_eq_true rfl)
  rw [lg_entry_eq]
  generalize (lg_sl ([.ref (a 3), .int x1, .int x2]) ++ List.replicate (4 - (lg_sl ([.ref (a 3), .int x1, .int x2])).length) Slot.unset).toArray = ls at hl ⊢
  have hl : lv_has ls 4 [(0, .ref (a 3)), (1, .int x1), (2, .int x2)] := hl
  have h_1 := hts (.fieldLink RX1 39 RX1 "shelved" "[I") (by decide +kernel)
  have h_2 := (show ∀ w ∈ u_ws RX1 TX1 13, w ∈ wsX1_onShelf by decide +kernel)
  have t_0 : (0 : Int32).toInt = 0 := rfl
  have t_48 : (48 : Int32).toInt = 48 := rfl
  refine lv_aload_n hx hb dX1_onShelf_0 rfl (lv_at hl 0 rfl) ?_
  refine lv_iload_n hx hb dX1_onShelf_1 rfl (lv_at hl 1 rfl) ?_
  refine lv_iload_n hx hb dX1_onShelf_2 rfl (lv_at hl 2 rfl) ?_
  refine w_goI (va_runV (As := [.int x1, .int x2]) (rest := []) ⟨hx, hb, hml, hown, hts⟩ (mX1_slot l G cy a _ q x1 x2) (cwV 2 hts gX1_onShelf_X1_slot rfl rfl rfl (by decide +kernel) ⟨Nat.le_of_ble_eq_true rfl, Nat.le_of_ble_eq_true rfl⟩) (w_pre (xOk cy a) (va_recv hK hP (ci := 1) (q0 := 3) rfl rfl) hK hP hD hS hA hN) rfl rfl hl.1 rfl (lv_room (Nat.le_of_ble_eq_true rfl)) dX1_onShelf_3 ⟨Nat.le_of_ble_eq_true rfl, Nat.le_of_ble_eq_true rfl⟩) hD hS hA (fun H locs hP hS => ?_)
  refine lv_istore_n (lv' := [(3, .int (fX1_slot q x1 x2)), (0, .ref (a 3)), (1, .int x1), (2, .int x2)]) hx hb dX1_onShelf_6 rfl hl (by decide) rfl (fun ls hl => ?_)
  refine lv_iload_n hx hb dX1_onShelf_7 rfl (lv_at hl 0 rfl) ?_
  refine lv_if_lt (tgt := 29) hx hb dX1_onShelf_8 (by decide) (fun c_1 => ?_) (fun c_1 => ?_)
  · have e_2 := i_lt c_1
    refine lv_iconst (v := 0) hx hb dX1_onShelf_29 (by decide) ?_
    exact W.iret (v := 0) hx hb hr (fun t ht hW => ⟨⟨0, q, rfl, ⟨(show (fX1_onShelf q x1 x2) = 0 by (rw [fX1_onShelf, if_pos c_1]); try rfl).symm, rfl⟩, w_ht ht hP⟩, hS.F ht⟩) hS.2.2 dX1_onShelf_30
  · have e_2 := i_nlt c_1
    refine lv_iload_n hx hb dX1_onShelf_11 rfl (lv_at hl 0 rfl) ?_
    refine lv_aload_n hx hb dX1_onShelf_12 rfl (lv_at hl 1 rfl) ?_
    refine gfX1_39 hx hb hts h_2 hown hK hP h_1 dX1_onShelf_13 ?_
    refine va_alen hx hb hK hP 22 0 rfl rfl (v := 48) rfl dX1_onShelf_16 ?_
    refine lv_icmp_ge (tgt := 29) hx hb dX1_onShelf_17 (by decide) (fun c_3 => ?_) (fun c_3 => ?_)
    · have e_4 := i_le c_3
      refine lv_iconst (v := 0) hx hb dX1_onShelf_29 (by decide) ?_
      exact W.iret (v := 0) hx hb hr (fun t ht hW => ⟨⟨0, q, rfl, ⟨(show (fX1_onShelf q x1 x2) = 0 by (rw [fX1_onShelf, if_neg c_1, if_pos c_3]); try rfl).symm, rfl⟩, w_ht ht hP⟩, hS.F ht⟩) hS.2.2 dX1_onShelf_30
    · have e_4 := i_nle c_3
      refine lv_aload_n hx hb dX1_onShelf_20 rfl (lv_at hl 1 rfl) ?_
      refine gfX1_39 hx hb hts h_2 hown hK hP h_1 dX1_onShelf_21 ?_
      refine lv_iload_n hx hb dX1_onShelf_24 rfl (lv_at hl 0 rfl) ?_
      have v_5 : vp_in (fX1_slot q x1 x2) 48 := vp_in_iff.mpr (by omega)
      refine ldX_15 (f := (q 15)) hx hb hK hP rfl v_5 dX1_onShelf_25 ?_
      refine lv_goto (tgt := 30) hx hb dX1_onShelf_26 (by decide) ?_
      exact W.iret (v := (q 15 (fX1_slot q x1 x2).toNatClampNeg)) hx hb hr (fun t ht hW => ⟨⟨(q 15 (fX1_slot q x1 x2).toNatClampNeg), q, rfl, ⟨(show (fX1_onShelf q x1 x2) = (q 15 (fX1_slot q x1 x2).toNatClampNeg) by (rw [fX1_onShelf, if_neg c_1, if_neg c_3]); try rfl).symm, rfl⟩, w_ht ht hP⟩, hS.F ht⟩) hS.2.2 dX1_onShelf_30
