set_option maxHeartbeats 4000000 in
set_option maxRecDepth 100000 in
theorem mX7_renew (l : Launch) (G : va_G) (cy : ClassId) (a : Nat → Nat) (sz : Nat) (q : wSt) (x1 : Int32) (x2 : Int32) (hI : iI q) : CtI l yX7_renew wsX7_renew ({ frames := 2, cells := 0, slots := 0, locals := 43 }) G cy (cM cy a) mN sz q [.ref (a 0), .int x1, .int x2] (fX7_renew q x1 x2).1 (fX7_renew q x1 x2).2 := by
  refine Met.ofW (cc := cX7_renew) (maxL := 3) (ret := (some .boolean)) (by decide) rfl ?_
  intro p e s m args below meth c s₁ B hml hv
  obtain ⟨rfl, hsz, hP, hK, hD0, hN⟩ := hv
  have hx := B.exec
  have hb := B.bytes
  have hr := B.returns
  have hts := atoms_spec (ws := wsX7_renew) B.pre
  have hown : s.vm.findClass RX7 = some m.cls := findClass_of_methodNamed B.named
  have hlocks := B.notSynchronized
  subst hsz
  have hD : ∀ z : wSt, va_D (wA (cM cy a) s.heap.size) ((cM cy a) z) := fun z => w_self (mOk cy a).1 hD0 z
  have hA : ∀ z : Nat, s.heap.size ≤ z → wA (cM cy a) s.heap.size z := fun _ h => Or.inr h
  have hS : va_S (wA (cM cy a) s.heap.size) s.heap s.heap [] := va_S.rf
  have hl := lv_entry ([.ref (a 0), .int x1, .int x2]) (n := 3) (Nat.le_of_ble_eq_true rfl)
  rw [lg_entry_eq]
  generalize (lg_sl ([.ref (a 0), .int x1, .int x2]) ++ List.replicate (3 - (lg_sl ([.ref (a 0), .int x1, .int x2])).length) Slot.unset).toArray = ls at hl ⊢
  have hl : lv_has ls 3 [(0, .ref (a 0)), (1, .int x1), (2, .int x2)] := hl
  have h_1 := hts (.fieldLink RX7 46 RX7 "last" "[I") (by decide +kernel)
  have h_2 := (show ∀ w ∈ u_ws RX7 TX7 35, w ∈ wsX7_renew by decide +kernel)
  have t_0 : (0 : Int32).toInt = 0 := rfl
  have t_1 : (1 : Int32).toInt = 1 := rfl
  have t_5000 : (5000 : Int32).toInt = 5000 := rfl
  have hB := iI_b hI
  refine lv_aload_n hx hb dX7_renew_0 rfl (lv_at hl 0 rfl) ?_
  refine lv_iload_n hx hb dX7_renew_1 rfl (lv_at hl 1 rfl) ?_
  refine w_goI (va_runV (As := [.int x1]) (rest := []) ⟨hx, hb, hml, hown, hts⟩ (mX7_isReader l G cy a _ q x1) (cwV 1 hts gX7_renew_X7_isReader rfl rfl rfl (by decide +kernel) ⟨Nat.le_of_ble_eq_true rfl, Nat.le_of_ble_eq_true rfl⟩) (w_pre (mOk cy a) (va_recv hK hP (ci := 7) (q0 := 0) rfl rfl) hK hP hD hS hA hN) rfl rfl hl.1 rfl (lv_room (Nat.le_of_ble_eq_true rfl)) dX7_renew_2 ⟨Nat.le_of_ble_eq_true rfl, Nat.le_of_ble_eq_true rfl⟩) hD hS hA (fun H locs hP hS => ?_)
  have e_1 := tX7_isReader q x1 (by omega)
  refine lv_if_eq (tgt := 19) hx hb dX7_renew_5 (by decide) (fun c_2 => ?_) (fun c_2 => ?_)
  · have e_3 := i_eq c_2
    refine lv_iconst (v := 0) hx hb dX7_renew_19 (by decide) ?_
    have hF : (fX7_renew q x1 x2) = (0, q) := (show (fX7_renew q x1 x2) = (0, q) by (rw [fX7_renew, if_pos c_2]); try rfl)
    exact W.zret (v := 0) hx hb hr rfl (fun t ht hW => ⟨⟨0, q, rfl, ⟨(p_fst hF), (p_snd hF)⟩, w_ht ht hP⟩, hS.F ht⟩) hS.2.2 dX7_renew_20
  · have e_3 := i_ne c_2
    refine lv_iload_n hx hb dX7_renew_8 rfl (lv_at hl 2 rfl) ?_
    refine lv_iconst (v := 0) hx hb dX7_renew_9 (by decide) ?_
    refine lv_sipush (v := 5000) hx hb dX7_renew_10 (by decide) ?_
    refine w_goI (va_runS (As := [.int x2, .int 0, .int 5000]) (rest := []) ⟨hx, hb, hml, hown, hts⟩ (mX7_in l G cy a _ q x2 0 5000) (va_cwS 3 hts gX7_renew_X7_in rfl rfl rfl (by decide +kernel) ⟨Nat.le_of_ble_eq_true rfl, Nat.le_of_ble_eq_true rfl⟩) (w_preS (mOk cy a) hK hP hD hS hA hN) rfl rfl hl.1 rfl (lv_room (Nat.le_of_ble_eq_true rfl)) dX7_renew_13 ⟨Nat.le_of_ble_eq_true rfl, Nat.le_of_ble_eq_true rfl⟩) hD hS hA (fun H locs hP hS => ?_)
    have e_4 := tX7_in q x2 0 5000
    refine lv_if_ne (tgt := 21) hx hb dX7_renew_16 (by decide) (fun c_5 => ?_) (fun c_5 => ?_)
    · have e_6 := i_ne c_5
      refine lv_aload_n hx hb dX7_renew_21 rfl (lv_at hl 0 rfl) ?_
      refine gfX7_46 hx hb hts h_2 hown hK hP h_1 dX7_renew_22 ?_
      refine lv_iload_n hx hb dX7_renew_25 rfl (lv_at hl 1 rfl) ?_
      refine lv_iload_n hx hb dX7_renew_26 rfl (lv_at hl 2 rfl) ?_
      have v_7 : vp_in x1 20 := vp_in_iff.mpr (by omega)
      refine stM_18 (f := (q 18)) hx hb hK hP hD hS rfl v_7 dX7_renew_27 (fun H locs hP hS => ?_)
      refine lv_iconst (v := 1) hx hb dX7_renew_28 (by decide) ?_
      have hF : (fX7_renew q x1 x2) = (1, (rset q 18 (upd (q 18) (x1).toNatClampNeg x2))) := (show (fX7_renew q x1 x2) = (1, (rset q 18 (upd (q 18) (x1).toNatClampNeg x2))) by (rw [fX7_renew, if_neg c_2, if_neg c_5]); try rfl)
      exact W.zret (v := 1) hx hb hr rfl (fun t ht hW => ⟨⟨1, (rset q 18 (upd (q 18) (x1).toNatClampNeg x2)), rfl, ⟨(p_fst hF), (p_snd hF)⟩, w_ht ht hP⟩, hS.F ht⟩) hS.2.2 dX7_renew_29
    · have e_6 := i_eq c_5
      refine lv_iconst (v := 0) hx hb dX7_renew_19 (by decide) ?_
      have hF : (fX7_renew q x1 x2) = (0, q) := (show (fX7_renew q x1 x2) = (0, q) by (rw [fX7_renew, if_neg c_2, if_pos c_5]); try rfl)
      exact W.zret (v := 0) hx hb hr rfl (fun t ht hW => ⟨⟨0, q, rfl, ⟨(p_fst hF), (p_snd hF)⟩, w_ht ht hP⟩, hS.F ht⟩) hS.2.2 dX7_renew_20
