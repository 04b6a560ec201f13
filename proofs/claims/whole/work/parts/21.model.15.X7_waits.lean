set_option maxHeartbeats 4000000 in
set_option maxRecDepth 100000 in
theorem mX7_waits (l : Launch) (G : va_G) (cy : ClassId) (a : Nat → Nat) (sz : Nat) (q : wSt) (x1 : Int32) (hI : iI q) (g0 : 0 ≤ (x1).toInt) (g1 : (x1).toInt < 100) : CtI l yX7_waits wsX7_waits ({ frames := 1, cells := 0, slots := 0, locals := 22 }) G cy (cM cy a) mN sz q [.ref (a 0), .int x1] (fX7_waits q x1) q := by
  refine Met.ofW (cc := cX7_waits) (maxL := 2) (ret := (some .boolean)) (by decide) rfl ?_
  intro p e s m args below meth c s₁ B hml hv
  obtain ⟨rfl, hsz, hP, hK, hD0, hN⟩ := hv
  have hx := B.exec
  have hb := B.bytes
  have hr := B.returns
  have hts := atoms_spec (ws := wsX7_waits) B.pre
  have hown : s.vm.findClass RX7 = some m.cls := findClass_of_methodNamed B.named
  have hlocks := B.notSynchronized
  subst hsz
  have hD : ∀ z : wSt, va_D (wA (cM cy a) s.heap.size) ((cM cy a) z) := fun z => w_self (mOk cy a).1 hD0 z
  have hA : ∀ z : Nat, s.heap.size ≤ z → wA (cM cy a) s.heap.size z := fun _ h => Or.inr h
  have hS : va_S (wA (cM cy a) s.heap.size) s.heap s.heap [] := va_S.rf
  have hl := lv_entry ([.ref (a 0), .int x1]) (n := 2) (Nat.le_of_ble_eq_true rfl)
  rw [lg_entry_eq]
  generalize (lg_sl ([.ref (a 0), .int x1]) ++ List.replicate (2 - (lg_sl ([.ref (a 0), .int x1])).length) Slot.unset).toArray = ls at hl ⊢
  have hl : lv_has ls 2 [(0, .ref (a 0)), (1, .int x1)] := hl
  have h_1 := hts (.fieldLink RX7 58 RX7 "wishState" "[I") (by decide +kernel)
  have h_2 := (show ∀ w ∈ u_ws RX7 TX7 35, w ∈ wsX7_waits by decide +kernel)
  have t_m1 : ((-1) : Int32).toInt = -1 := rfl
  have t_0 : (0 : Int32).toInt = 0 := rfl
  have t_1 : (1 : Int32).toInt = 1 := rfl
  have hB := iI_b hI
  refine lv_aload_n hx hb dX7_waits_0 rfl (lv_at hl 0 rfl) ?_
  refine gfX7_58 hx hb hts h_2 hown hK hP h_1 dX7_waits_1 ?_
  refine lv_iload_n hx hb dX7_waits_4 rfl (lv_at hl 1 rfl) ?_
  have v_1 : vp_in x1 100 := vp_in_iff.mpr (by omega)
  refine ldM_24 (f := (q 24)) hx hb hK hP rfl v_1 dX7_waits_5 ?_
  refine lv_if_ne (tgt := 22) hx hb dX7_waits_6 (by decide) (fun c_2 => ?_) (fun c_2 => ?_)
  · have e_3 := i_ne c_2
    refine lv_iconst (v := 0) hx hb dX7_waits_22 (by decide) ?_
    exact W.zret (v := 0) hx hb hr rfl (fun t ht hW => ⟨⟨0, q, rfl, ⟨(show (fX7_waits q x1) = 0 by (rw [fX7_waits, if_neg c_2]); try rfl).symm, rfl⟩, w_ht ht hP⟩, hS.F ht⟩) hS.2.2 dX7_waits_23
  · have e_3 := i_eq c_2
    refine lv_aload_n hx hb dX7_waits_9 rfl (lv_at hl 0 rfl) ?_
    refine lv_iload_n hx hb dX7_waits_10 rfl (lv_at hl 1 rfl) ?_
    refine w_goI (va_runV (As := [.int x1]) (rest := []) ⟨hx, hb, hml, hown, hts⟩ (mX7_copyOf l G cy a _ q x1 (by omega)) (cwV 1 hts gX7_waits_X7_copyOf rfl rfl rfl (by decide +kernel) ⟨Nat.le_of_ble_eq_true rfl, Nat.le_of_ble_eq_true rfl⟩) (w_pre (mOk cy a) (va_recv hK hP (ci := 7) (q0 := 0) rfl rfl) hK hP hD hS hA hN) rfl rfl hl.1 rfl (lv_room (Nat.le_of_ble_eq_true rfl)) dX7_waits_11 ⟨Nat.le_of_ble_eq_true rfl, Nat.le_of_ble_eq_true rfl⟩) hD hS hA (fun H locs hP hS => ?_)
    refine lv_iconst (v := (-1)) hx hb dX7_waits_14 (by decide) ?_
    refine lv_icmp_ne (tgt := 22) hx hb dX7_waits_15 (by decide) (fun c_4 => ?_) (fun c_4 => ?_)
    · have e_5 := i_ne c_4
      refine lv_iconst (v := 0) hx hb dX7_waits_22 (by decide) ?_
      exact W.zret (v := 0) hx hb hr rfl (fun t ht hW => ⟨⟨0, q, rfl, ⟨(show (fX7_waits q x1) = 0 by (rw [fX7_waits, if_pos c_2, if_neg c_4]); try rfl).symm, rfl⟩, w_ht ht hP⟩, hS.F ht⟩) hS.2.2 dX7_waits_23
    · have e_5 := i_eq c_4
      refine lv_iconst (v := 1) hx hb dX7_waits_18 (by decide) ?_
      refine lv_goto (tgt := 23) hx hb dX7_waits_19 (by decide) ?_
      exact W.zret (v := 1) hx hb hr rfl (fun t ht hW => ⟨⟨1, q, rfl, ⟨(show (fX7_waits q x1) = 1 by (rw [fX7_waits, if_pos c_2, if_pos c_4]); try rfl).symm, rfl⟩, w_ht ht hP⟩, hS.F ht⟩) hS.2.2 dX7_waits_23
