set_option maxHeartbeats 4000000 in
set_option maxRecDepth 100000 in
theorem mX1_comesToday (l : Launch) (G : va_G) (cy : ClassId) (a : Nat → Nat) (sz : Nat) (q : wSt) (x1 : Int32) (g0 : 0 ≤ (x1).toInt) (g1 : (x1).toInt < 200) : CtI l yX1_comesToday wsX1_comesToday ({ frames := 1, cells := 0, slots := 0, locals := 21 }) G cy (cX cy a) xN sz q [.ref (a 3), .int x1] (fX1_comesToday q x1).1 (fX1_comesToday q x1).2 := by
  refine Met.ofW (cc := cX1_comesToday) (maxL := 2) (ret := (some .boolean)) (by decide) rfl ?_
  intro p e s m args below meth c s₁ B hml hv
  obtain ⟨rfl, hsz, hP, hK, hD0, hN⟩ := hv
  have hx := B.exec
  have hb := B.bytes
  have hr := B.returns
  have hts := atoms_spec (ws := wsX1_comesToday) B.pre
  have hown : s.vm.findClass RX1 = some m.cls := findClass_of_methodNamed B.named
  have hlocks := B.notSynchronized
  subst hsz
  have hD : ∀ z : wSt, va_D (wA (cX cy a) s.heap.size) ((cX cy a) z) := fun z => w_self (xOk cy a).1 hD0 z
  have hA : ∀ z : Nat, s.heap.size ≤ z → wA (cX cy a) s.heap.size z := fun _ h => Or.inr h
  have hS : va_S (wA (cX cy a) s.heap.size) s.heap s.heap [] := va_S.rf
  have hl := lv_entry ([.ref (a 3), .int x1]) (n := 2) (Nat.le_of_ble_eq_true rfl)
  rw [lg_entry_eq]
  generalize (lg_sl ([.ref (a 3), .int x1]) ++ List.replicate (2 - (lg_sl ([.ref (a 3), .int x1])).length) Slot.unset).toArray = ls at hl ⊢
  have hl : lv_has ls 2 [(0, .ref (a 3)), (1, .int x1)] := hl
  have h_1 := hts (.fieldLink RX1 33 RX1 "daysToGo" "[I") (by decide +kernel)
  have h_2 := (show ∀ w ∈ u_ws RX1 TX1 13, w ∈ wsX1_comesToday by decide +kernel)
  have t_0 : (0 : Int32).toInt = 0 := rfl
  have t_1 : (1 : Int32).toInt = 1 := rfl
  refine lv_aload_n hx hb dX1_comesToday_0 rfl (lv_at hl 0 rfl) ?_
  refine lv_iload_n hx hb dX1_comesToday_1 rfl (lv_at hl 1 rfl) ?_
  refine w_goI (va_runV (As := [.int x1]) (rest := []) ⟨hx, hb, hml, hown, hts⟩ (mX1_inBox l G cy a _ q x1 (by omega) (by omega)) (cwV 1 hts gX1_comesToday_X1_inBox rfl rfl rfl (by decide +kernel) ⟨Nat.le_of_ble_eq_true rfl, Nat.le_of_ble_eq_true rfl⟩) (w_pre (xOk cy a) (va_recv hK hP (ci := 1) (q0 := 3) rfl rfl) hK hP hD hS hA hN) rfl rfl hl.1 rfl (lv_room (Nat.le_of_ble_eq_true rfl)) dX1_comesToday_2 ⟨Nat.le_of_ble_eq_true rfl, Nat.le_of_ble_eq_true rfl⟩) hD hS hA (fun H locs hP hS => ?_)
  refine lv_if_ne (tgt := 10) hx hb dX1_comesToday_5 (by decide) (fun c_1 => ?_) (fun c_1 => ?_)
  · have e_2 := i_ne c_1
    refine lv_aload_n hx hb dX1_comesToday_10 rfl (lv_at hl 0 rfl) ?_
    refine gfX1_33 hx hb hts h_2 hown hK hP h_1 dX1_comesToday_11 ?_
    refine lv_iload_n hx hb dX1_comesToday_14 rfl (lv_at hl 1 rfl) ?_
    refine lv_dup2_11 hx hb dX1_comesToday_15 rfl rfl ?_
    have v_3 : vp_in x1 200 := vp_in_iff.mpr (by omega)
    refine ldX_13 (f := (q 13)) hx hb hK hP rfl v_3 dX1_comesToday_16 ?_
    refine lv_iconst (v := 1) hx hb dX1_comesToday_17 (by decide) ?_
    refine lv_isub hx hb dX1_comesToday_18 ?_
    have v_4 : vp_in x1 200 := vp_in_iff.mpr (by omega)
    refine stX_13 (f := (q 13)) hx hb hK hP hD hS rfl v_4 dX1_comesToday_19 (fun H locs hP hS => ?_)
    refine lv_aload_n hx hb dX1_comesToday_20 rfl (lv_at hl 0 rfl) ?_
    refine gfX1_33 hx hb hts h_2 hown hK hP h_1 dX1_comesToday_21 ?_
    refine lv_iload_n hx hb dX1_comesToday_24 rfl (lv_at hl 1 rfl) ?_
    have v_5 : vp_in x1 200 := vp_in_iff.mpr (by omega)
    refine ldX_13 (f := (upd (q 13) (x1).toNatClampNeg ((q 13 (x1).toNatClampNeg) - 1))) hx hb hK hP rset_eq v_5 dX1_comesToday_25 ?_
    refine lv_if_gt (tgt := 33) hx hb dX1_comesToday_26 (by decide) (fun c_6 => ?_) (fun c_6 => ?_)
    · have e_7 := i_lt c_6
      refine lv_iconst (v := 0) hx hb dX1_comesToday_33 (by decide) ?_
      have hF : (fX1_comesToday q x1) = (0, (rset q 13 (upd (q 13) (x1).toNatClampNeg ((q 13 (x1).toNatClampNeg) - 1)))) := (show (fX1_comesToday q x1) = (0, (rset q 13 (upd (q 13) (x1).toNatClampNeg ((q 13 (x1).toNatClampNeg) - 1)))) by (rw [fX1_comesToday, if_neg c_1, if_pos c_6]); try rfl)
      exact W.zret (v := 0) hx hb hr rfl (fun t ht hW => ⟨⟨0, (rset q 13 (upd (q 13) (x1).toNatClampNeg ((q 13 (x1).toNatClampNeg) - 1))), rfl, ⟨(p_fst hF), (p_snd hF)⟩, w_ht ht hP⟩, hS.F ht⟩) hS.2.2 dX1_comesToday_34
    · have e_7 := i_nlt c_6
      refine lv_iconst (v := 1) hx hb dX1_comesToday_29 (by decide) ?_
      refine lv_goto (tgt := 34) hx hb dX1_comesToday_30 (by decide) ?_
      have hF : (fX1_comesToday q x1) = (1, (rset q 13 (upd (q 13) (x1).toNatClampNeg ((q 13 (x1).toNatClampNeg) - 1)))) := (show (fX1_comesToday q x1) = (1, (rset q 13 (upd (q 13) (x1).toNatClampNeg ((q 13 (x1).toNatClampNeg) - 1)))) by (rw [fX1_comesToday, if_neg c_1, if_neg c_6]); try rfl)
      exact W.zret (v := 1) hx hb hr rfl (fun t ht hW => ⟨⟨1, (rset q 13 (upd (q 13) (x1).toNatClampNeg ((q 13 (x1).toNatClampNeg) - 1))), rfl, ⟨(p_fst hF), (p_snd hF)⟩, w_ht ht hP⟩, hS.F ht⟩) hS.2.2 dX1_comesToday_34
  · have e_2 := i_eq c_1
    refine lv_iconst (v := 0) hx hb dX1_comesToday_8 (by decide) ?_
    have hF : (fX1_comesToday q x1) = (0, q) := (show (fX1_comesToday q x1) = (0, q) by (rw [fX1_comesToday, if_pos c_1]); try rfl)
    exact W.zret (v := 0) hx hb hr rfl (fun t ht hW => ⟨⟨0, q, rfl, ⟨(p_fst hF), (p_snd hF)⟩, w_ht ht hP⟩, hS.F ht⟩) hS.2.2 dX1_comesToday_9
