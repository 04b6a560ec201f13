set_option maxHeartbeats 4000000 in
set_option maxRecDepth 100000 in
theorem mX5_waits (l : Launch) (G : va_G) (cy : ClassId) (a : Nat → Nat) (sz : Nat) (q : wSt) (x1 : Int32) (g0 : (q 40 0).toInt ≤ 100) : CtI l yX5_waits wsX5_waits ({ frames := 2, cells := 0, slots := 0, locals := 42 }) G cy (cX cy a) xN sz q [.ref (a 5), .int x1] (fX5_waits q x1) q := by
  refine Met.ofW (cc := cX5_waits) (maxL := 2) (ret := (some .boolean)) (by decide) rfl ?_
  intro p e s m args below meth c s₁ B hml hv
  obtain ⟨rfl, hsz, hP, hK, hD0, hN⟩ := hv
  have hx := B.exec
  have hb := B.bytes
  have hr := B.returns
  have hts := atoms_spec (ws := wsX5_waits) B.pre
  have hown : s.vm.findClass RX5 = some m.cls := findClass_of_methodNamed B.named
  have hlocks := B.notSynchronized
  subst hsz
  have hD : ∀ z : wSt, va_D (wA (cX cy a) s.heap.size) ((cX cy a) z) := fun z => w_self (xOk cy a).1 hD0 z
  have hA : ∀ z : Nat, s.heap.size ≤ z → wA (cX cy a) s.heap.size z := fun _ h => Or.inr h
  have hS : va_S (wA (cX cy a) s.heap.size) s.heap s.heap [] := va_S.rf
  have hl := lv_entry ([.ref (a 5), .int x1]) (n := 2) (Nat.le_of_ble_eq_true rfl)
  rw [lg_entry_eq]
  generalize (lg_sl ([.ref (a 5), .int x1]) ++ List.replicate (2 - (lg_sl ([.ref (a 5), .int x1])).length) Slot.unset).toArray = ls at hl ⊢
  have hl : lv_has ls 2 [(0, .ref (a 5)), (1, .int x1)] := hl
  have h_1 := hts (.fieldLink RX5 24 RX5 "held" "[I") (by decide +kernel)
  have h_2 := (show ∀ w ∈ u_ws RX5 TX5 7, w ∈ wsX5_waits by decide +kernel)
  have t_m1 : ((-1) : Int32).toInt = -1 := rfl
  have t_0 : (0 : Int32).toInt = 0 := rfl
  have t_1 : (1 : Int32).toInt = 1 := rfl
  refine lv_aload_n hx hb dX5_waits_0 rfl (lv_at hl 0 rfl) ?_
  refine lv_iload_n hx hb dX5_waits_1 rfl (lv_at hl 1 rfl) ?_
  refine w_goI (va_runV (As := [.int x1]) (rest := []) ⟨hx, hb, hml, hown, hts⟩ (mX5_isOpen l G cy a _ q x1 (by omega)) (cwV 1 hts gX5_waits_X5_isOpen rfl rfl rfl (by decide +kernel) ⟨Nat.le_of_ble_eq_true rfl, Nat.le_of_ble_eq_true rfl⟩) (w_pre (xOk cy a) (va_recv hK hP (ci := 5) (q0 := 5) rfl rfl) hK hP hD hS hA hN) rfl rfl hl.1 rfl (lv_room (Nat.le_of_ble_eq_true rfl)) dX5_waits_2 ⟨Nat.le_of_ble_eq_true rfl, Nat.le_of_ble_eq_true rfl⟩) hD hS hA (fun H locs hP hS => ?_)
  have e_1 := tX5_isOpen q x1
  refine lv_if_eq (tgt := 22) hx hb dX5_waits_5 (by decide) (fun c_2 => ?_) (fun c_2 => ?_)
  · have e_3 := i_eq c_2
    refine lv_iconst (v := 0) hx hb dX5_waits_22 (by decide) ?_
    exact W.zret (v := 0) hx hb hr rfl (fun t ht hW => ⟨⟨0, q, rfl, ⟨(show (fX5_waits q x1) = 0 by (rw [fX5_waits, if_pos c_2]); try rfl).symm, rfl⟩, w_ht ht hP⟩, hS.F ht⟩) hS.2.2 dX5_waits_23
  · have e_3 := i_ne c_2
    refine lv_aload_n hx hb dX5_waits_8 rfl (lv_at hl 0 rfl) ?_
    refine gfX5_24 hx hb hts h_2 hown hK hP h_1 dX5_waits_9 ?_
    refine lv_iload_n hx hb dX5_waits_12 rfl (lv_at hl 1 rfl) ?_
    have v_4 : vp_in x1 100 := vp_in_iff.mpr (by omega)
    refine ldX_26 (f := (q 26)) hx hb hK hP rfl v_4 dX5_waits_13 ?_
    refine lv_iconst (v := (-1)) hx hb dX5_waits_14 (by decide) ?_
    refine lv_icmp_ne (tgt := 22) hx hb dX5_waits_15 (by decide) (fun c_5 => ?_) (fun c_5 => ?_)
    · have e_6 := i_ne c_5
      refine lv_iconst (v := 0) hx hb dX5_waits_22 (by decide) ?_
      exact W.zret (v := 0) hx hb hr rfl (fun t ht hW => ⟨⟨0, q, rfl, ⟨(show (fX5_waits q x1) = 0 by (rw [fX5_waits, if_neg c_2, if_neg c_5]); try rfl).symm, rfl⟩, w_ht ht hP⟩, hS.F ht⟩) hS.2.2 dX5_waits_23
    · have e_6 := i_eq c_5
      refine lv_iconst (v := 1) hx hb dX5_waits_18 (by decide) ?_
      refine lv_goto (tgt := 23) hx hb dX5_waits_19 (by decide) ?_
      exact W.zret (v := 1) hx hb hr rfl (fun t ht hW => ⟨⟨1, q, rfl, ⟨(show (fX5_waits q x1) = 1 by (rw [fX5_waits, if_neg c_2, if_pos c_5]); try rfl).symm, rfl⟩, w_ht ht hP⟩, hS.F ht⟩) hS.2.2 dX5_waits_23
