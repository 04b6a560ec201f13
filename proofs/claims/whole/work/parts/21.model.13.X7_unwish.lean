set_option maxHeartbeats 4000000 in
set_option maxRecDepth 100000 in
theorem mX7_unwish (l : Launch) (G : va_G) (cy : ClassId) (a : Nat → Nat) (sz : Nat) (q : wSt) (x1 : Int32) (hI : iI q) : CtI l yX7_unwish wsX7_unwish ({ frames := 2, cells := 0, slots := 0, locals := 43 }) G cy (cM cy a) mN sz q [.ref (a 0), .int x1] (fX7_unwish q x1).1 (fX7_unwish q x1).2 := by
  refine Met.ofW (cc := cX7_unwish) (maxL := 2) (ret := (some .boolean)) (by decide) rfl ?_
  intro p e s m args below meth c s₁ B hml hv
  obtain ⟨rfl, hsz, hP, hK, hD0, hN⟩ := hv
  have hx := B.exec
  have hb := B.bytes
  have hr := B.returns
  have hts := atoms_spec (ws := wsX7_unwish) B.pre
  have hown : s.vm.findClass RX7 = some m.cls := findClass_of_methodNamed B.named
  have hlocks := B.notSynchronized
  subst hsz
  have hD : ∀ z : wSt, va_D (wA (cM cy a) s.heap.size) ((cM cy a) z) := fun z => w_self (mOk cy a).1 hD0 z
  have hA : ∀ z : Nat, s.heap.size ≤ z → wA (cM cy a) s.heap.size z := fun _ h => Or.inr h
  have hS : va_S (wA (cM cy a) s.heap.size) s.heap s.heap [] := va_S.rf
  have hl := lv_entry ([.ref (a 0), .int x1]) (n := 2) (Nat.le_of_ble_eq_true rfl)
  rw [lg_entry_eq]
  generalize (lg_sl ([.ref (a 0), .int x1]) ++ List.replicate (2 - (lg_sl ([.ref (a 0), .int x1])).length) Slot.unset).toArray = ls at hl ⊢
  have hl : lv_has ls 2 [(0, .ref (a 0)), (1, .int x1)] := hl
  have h_1 := hts (.fieldLink RX7 58 RX7 "wishState" "[I") (by decide +kernel)
  have h_2 := (show ∀ w ∈ u_ws RX7 TX7 35, w ∈ wsX7_unwish by decide +kernel)
  have t_0 : (0 : Int32).toInt = 0 := rfl
  have t_1 : (1 : Int32).toInt = 1 := rfl
  have t_2 : (2 : Int32).toInt = 2 := rfl
  have hB := iI_b hI
  refine lv_aload_n hx hb dX7_unwish_0 rfl (lv_at hl 0 rfl) ?_
  refine lv_iload_n hx hb dX7_unwish_1 rfl (lv_at hl 1 rfl) ?_
  refine w_goI (va_runV (As := [.int x1]) (rest := []) ⟨hx, hb, hml, hown, hts⟩ (mX7_isWish l G cy a _ q x1) (cwV 1 hts gX7_unwish_X7_isWish rfl rfl rfl (by decide +kernel) ⟨Nat.le_of_ble_eq_true rfl, Nat.le_of_ble_eq_true rfl⟩) (w_pre (mOk cy a) (va_recv hK hP (ci := 7) (q0 := 0) rfl rfl) hK hP hD hS hA hN) rfl rfl hl.1 rfl (lv_room (Nat.le_of_ble_eq_true rfl)) dX7_unwish_2 ⟨Nat.le_of_ble_eq_true rfl, Nat.le_of_ble_eq_true rfl⟩) hD hS hA (fun H locs hP hS => ?_)
  have e_1 := tX7_isWish q x1 (by omega)
  refine lv_if_eq (tgt := 17) hx hb dX7_unwish_5 (by decide) (fun c_2 => ?_) (fun c_2 => ?_)
  · have e_3 := i_eq c_2
    refine lv_iconst (v := 0) hx hb dX7_unwish_17 (by decide) ?_
    have hF : (fX7_unwish q x1) = (0, q) := (show (fX7_unwish q x1) = (0, q) by (rw [fX7_unwish, if_pos c_2]); try rfl)
    exact W.zret (v := 0) hx hb hr rfl (fun t ht hW => ⟨⟨0, q, rfl, ⟨(p_fst hF), (p_snd hF)⟩, w_ht ht hP⟩, hS.F ht⟩) hS.2.2 dX7_unwish_18
  · have e_3 := i_ne c_2
    refine lv_aload_n hx hb dX7_unwish_8 rfl (lv_at hl 0 rfl) ?_
    refine gfX7_58 hx hb hts h_2 hown hK hP h_1 dX7_unwish_9 ?_
    refine lv_iload_n hx hb dX7_unwish_12 rfl (lv_at hl 1 rfl) ?_
    have v_4 : vp_in x1 100 := vp_in_iff.mpr (by omega)
    refine ldM_24 (f := (q 24)) hx hb hK hP rfl v_4 dX7_unwish_13 ?_
    refine lv_if_eq (tgt := 19) hx hb dX7_unwish_14 (by decide) (fun c_5 => ?_) (fun c_5 => ?_)
    · have e_6 := i_eq c_5
      refine lv_aload_n hx hb dX7_unwish_19 rfl (lv_at hl 0 rfl) ?_
      refine gfX7_58 hx hb hts h_2 hown hK hP h_1 dX7_unwish_20 ?_
      refine lv_iload_n hx hb dX7_unwish_23 rfl (lv_at hl 1 rfl) ?_
      refine lv_iconst (v := 2) hx hb dX7_unwish_24 (by decide) ?_
      have v_7 : vp_in x1 100 := vp_in_iff.mpr (by omega)
      refine stM_24 (f := (q 24)) hx hb hK hP hD hS rfl v_7 dX7_unwish_25 (fun H locs hP hS => ?_)
      refine lv_iconst (v := 1) hx hb dX7_unwish_26 (by decide) ?_
      have hF : (fX7_unwish q x1) = (1, (rset q 24 (upd (q 24) (x1).toNatClampNeg 2))) := (show (fX7_unwish q x1) = (1, (rset q 24 (upd (q 24) (x1).toNatClampNeg 2))) by (rw [fX7_unwish, if_neg c_2, if_pos c_5]); try rfl)
      exact W.zret (v := 1) hx hb hr rfl (fun t ht hW => ⟨⟨1, (rset q 24 (upd (q 24) (x1).toNatClampNeg 2)), rfl, ⟨(p_fst hF), (p_snd hF)⟩, w_ht ht hP⟩, hS.F ht⟩) hS.2.2 dX7_unwish_27
    · have e_6 := i_ne c_5
      refine lv_iconst (v := 0) hx hb dX7_unwish_17 (by decide) ?_
      have hF : (fX7_unwish q x1) = (0, q) := (show (fX7_unwish q x1) = (0, q) by (rw [fX7_unwish, if_neg c_2, if_neg c_5]); try rfl)
      exact W.zret (v := 0) hx hb hr rfl (fun t ht hW => ⟨⟨0, q, rfl, ⟨(p_fst hF), (p_snd hF)⟩, w_ht ht hP⟩, hS.F ht⟩) hS.2.2 dX7_unwish_18
