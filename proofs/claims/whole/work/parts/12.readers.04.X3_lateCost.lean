set_option maxHeartbeats 4000000 in
set_option maxRecDepth 100000 in
theorem mX3_lateCost (l : Launch) (G : va_G) (cy : ClassId) (a : Nat → Nat) (sz : Nat) (q : wSt) (x1 : Int32) (x2 : Int32) (hI : iI q) : CtI l yX3_lateCost wsX3_lateCost ({ frames := 2, cells := 0, slots := 0, locals := 42 }) G cy (cX cy a) xN sz q [.ref (a 4), .int x1, .int x2] (fX3_lateCost q x1 x2) q := by
  refine Met.ofW (cc := cX3_lateCost) (maxL := 4) (ret := (some .int)) (by decide) rfl ?_
  intro p e s m args below meth c s₁ B hml hv
  obtain ⟨rfl, hsz, hP, hK, hD0, hN⟩ := hv
  have hx := B.exec
  have hb := B.bytes
  have hr := B.returns
  have hts := atoms_spec (ws := wsX3_lateCost) B.pre
  have hown : s.vm.findClass RX3 = some m.cls := findClass_of_methodNamed B.named
  have hlocks := B.notSynchronized
  subst hsz
  have hD : ∀ z : wSt, va_D (wA (cX cy a) s.heap.size) ((cX cy a) z) := fun z => w_self (xOk cy a).1 hD0 z
  have hA : ∀ z : Nat, s.heap.size ≤ z → wA (cX cy a) s.heap.size z := fun _ h => Or.inr h
  have hS : va_S (wA (cX cy a) s.heap.size) s.heap s.heap [] := va_S.rf
  have hl := lv_entry ([.ref (a 4), .int x1, .int x2]) (n := 4) (Nat.le_of_ble_eq_true rfl)
  rw [lg_entry_eq]
  generalize (lg_sl ([.ref (a 4), .int x1, .int x2]) ++ List.replicate (4 - (lg_sl ([.ref (a 4), .int x1, .int x2])).length) Slot.unset).toArray = ls at hl ⊢
  have hl : lv_has ls 4 [(0, .ref (a 4)), (1, .int x1), (2, .int x2)] := hl
  have h_1 := (hN.1 _ (List.mem_of_getElem? (i := 1) rfl) : va_Nw (.fieldLinkNest RX3 45 RX6 "TERM" "[I" RX6) s)
  have h_2 := hts (.methodLink RX3 48 Lib.Math.max.name) (by decide +kernel)
  have h_3 := hts (.static Lib.Math.max.name) (by decide +kernel)
  have h_4 := hts (.initialized "java/lang/Math") (by decide +kernel)
  have h_5 := hts (.code Lib.Math.max.name Lib.Math.max.code 2 (some .int)) (by decide +kernel)
  have h_6 := (hN.1 _ (List.mem_of_getElem? (i := 2) rfl) : va_Nw (.fieldLinkNest RX3 54 RX6 "LATE_COINS" "[I" RX6) s)
  have t_0 : (0 : Int32).toInt = 0 := rfl
  have hB := iI_b hI
  obtain ⟨⟨b1, hZ1⟩, ⟨b2, hZ2⟩, ⟨b3, hZ3⟩⟩ := hN.2
  refine lv_aload_n hx hb dX3_lateCost_0 rfl (lv_at hl 0 rfl) ?_
  refine lv_iload_n hx hb dX3_lateCost_1 rfl (lv_at hl 1 rfl) ?_
  refine w_goI (va_runV (As := [.int x1]) (rest := []) ⟨hx, hb, hml, hown, hts⟩ (mX3_rankOf l G cy a _ q x1 (by omega)) (cwV 1 hts gX3_lateCost_X3_rankOf rfl rfl rfl (by decide +kernel) ⟨Nat.le_of_ble_eq_true rfl, Nat.le_of_ble_eq_true rfl⟩) (w_pre (xOk cy a) (va_recv hK hP (ci := 3) (q0 := 4) rfl rfl) hK hP hD hS hA hN) rfl rfl hl.1 rfl (lv_room (Nat.le_of_ble_eq_true rfl)) dX3_lateCost_2 ⟨Nat.le_of_ble_eq_true rfl, Nat.le_of_ble_eq_true rfl⟩) hD hS hA (fun H locs hP hS => ?_)
  have e_91 := tX3_rankOf q x1 hI
  refine lv_istore_n (lv' := [(3, .int (fX3_rankOf q x1)), (0, .ref (a 4)), (1, .int x1), (2, .int x2)]) hx hb dX3_lateCost_5 rfl hl (by decide) rfl (fun ls hl => ?_)
  refine lv_iconst (v := 0) hx hb dX3_lateCost_6 (by decide) ?_
  refine lv_iload_n hx hb dX3_lateCost_7 rfl (lv_at hl 3 rfl) ?_
  refine va_getsN hx hb (C := "VolumeHouse") (n := "TERM") (d := "[I") (v := .ref b2) hZ2.1 hS hown (va_Nw.use rfl h_1) (fun _ h9 => h9) dX3_lateCost_8 ?_
  refine lv_iload_n hx hb dX3_lateCost_11 rfl (lv_at hl 0 rfl) ?_
  have v_1 : vp_in (fX3_rankOf q x1) 3 := vp_in_iff.mpr (by omega)
  refine va_ti (v := .int (tTerm (fX3_rankOf q x1).toNatClampNeg)) hx hb hZ2.2 hS v_1 rfl dX3_lateCost_12 ?_
  refine lv_isub hx hb dX3_lateCost_13 ?_
  refine va_mmax hx hb (hml.trans hl.1.symm) hown h_2 h_3 h_4 h_5 (Nat.le_of_ble_eq_true rfl) (Nat.le_of_ble_eq_true rfl) (Nat.zero_le _) (Nat.zero_le _) dX3_lateCost_14 ?_
  refine va_getsN hx hb (C := "VolumeHouse") (n := "LATE_COINS") (d := "[I") (v := .ref b3) hZ3.1 hS hown (va_Nw.use rfl h_6) (fun _ h9 => h9) dX3_lateCost_17 ?_
  refine lv_iload_n hx hb dX3_lateCost_20 rfl (lv_at hl 0 rfl) ?_
  have v_2 : vp_in (fX3_rankOf q x1) 3 := vp_in_iff.mpr (by omega)
  refine va_ti (v := .int (tLate (fX3_rankOf q x1).toNatClampNeg)) hx hb hZ3.2 hS v_2 rfl dX3_lateCost_21 ?_
  refine lv_imul hx hb dX3_lateCost_22 ?_
  exact W.iret (v := ((if 0 < (x2 - (tTerm (fX3_rankOf q x1).toNatClampNeg)) then (x2 - (tTerm (fX3_rankOf q x1).toNatClampNeg)) else 0) * (tLate (fX3_rankOf q x1).toNatClampNeg))) hx hb hr (fun t ht hW => ⟨⟨((if 0 < (x2 - (tTerm (fX3_rankOf q x1).toNatClampNeg)) then (x2 - (tTerm (fX3_rankOf q x1).toNatClampNeg)) else 0) * (tLate (fX3_rankOf q x1).toNatClampNeg)), q, rfl, ⟨(show (fX3_lateCost q x1 x2) = ((if 0 < (x2 - (tTerm (fX3_rankOf q x1).toNatClampNeg)) then (x2 - (tTerm (fX3_rankOf q x1).toNatClampNeg)) else 0) * (tLate (fX3_rankOf q x1).toNatClampNeg)) by (rw [fX3_lateCost]); try rfl).symm, rfl⟩, w_ht ht hP⟩, hS.F ht⟩) hS.2.2 dX3_lateCost_23
