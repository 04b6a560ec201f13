set_option maxHeartbeats 4000000 in
set_option maxRecDepth 100000 in
theorem mX7_demand (l : Launch) (G : va_G) (cy : ClassId) (a : Nat → Nat) (sz : Nat) (q : wSt) (x1 : Int32) (x2 : Int32) (x3 : Int32) : CtI l yX7_demand wsX7_demand ({ frames := 1, cells := 0, slots := 0, locals := 22 }) G cy (cM cy a) mN sz q [.ref (a 0), .int x1, .int x2, .int x3] (fX7_demand q x1 x2 x3).1 (fX7_demand q x1 x2 x3).2 := by
  refine Met.ofW (cc := cX7_demand) (maxL := 4) (ret := (some .boolean)) (by decide) rfl ?_
  intro p e s m args below meth c s₁ B hml hv
  obtain ⟨rfl, hsz, hP, hK, hD0, hN⟩ := hv
  have hx := B.exec
  have hb := B.bytes
  have hr := B.returns
  have hts := atoms_spec (ws := wsX7_demand) B.pre
  have hown : s.vm.findClass RX7 = some m.cls := findClass_of_methodNamed B.named
  have hlocks := B.notSynchronized
  subst hsz
  have hD : ∀ z : wSt, va_D (wA (cM cy a) s.heap.size) ((cM cy a) z) := fun z => w_self (mOk cy a).1 hD0 z
  have hA : ∀ z : Nat, s.heap.size ≤ z → wA (cM cy a) s.heap.size z := fun _ h => Or.inr h
  have hS : va_S (wA (cM cy a) s.heap.size) s.heap s.heap [] := va_S.rf
  have hl := lv_entry ([.ref (a 0), .int x1, .int x2, .int x3]) (n := 4) (Nat.le_of_ble_eq_true rfl)
  rw [lg_entry_eq]
  generalize (lg_sl ([.ref (a 0), .int x1, .int x2, .int x3]) ++ List.replicate (4 - (lg_sl ([.ref (a 0), .int x1, .int x2, .int x3])).length) Slot.unset).toArray = ls at hl ⊢
  have hl : lv_has ls 4 [(0, .ref (a 0)), (1, .int x1), (2, .int x2), (3, .int x3)] := hl
  have h_1 := hts (.fieldLink RX7 82 RX7 "wanted" "[I") (by decide +kernel)
  have h_2 := (show ∀ w ∈ u_ws RX7 TX7 35, w ∈ wsX7_demand by decide +kernel)
  have h_3 := hts (.fieldLink RX7 85 RX7 "sale" "[I") (by decide +kernel)
  have t_0 : (0 : Int32).toInt = 0 := rfl
  have t_1 : (1 : Int32).toInt = 1 := rfl
  have t_20 : (20 : Int32).toInt = 20 := rfl
  have t_50 : (50 : Int32).toInt = 50 := rfl
  have t_1000 : (1000 : Int32).toInt = 1000 := rfl
  refine lv_iload_n hx hb dX7_demand_0 rfl (lv_at hl 1 rfl) ?_
  refine lv_iconst (v := 0) hx hb dX7_demand_1 (by decide) ?_
  refine lv_bipush (v := 20) hx hb dX7_demand_2 (by decide) ?_
  refine w_goI (va_runS (As := [.int x1, .int 0, .int 20]) (rest := []) ⟨hx, hb, hml, hown, hts⟩ (mX7_in l G cy a _ q x1 0 20) (va_cwS 3 hts gX7_demand_X7_in rfl rfl rfl (by decide +kernel) ⟨Nat.le_of_ble_eq_true rfl, Nat.le_of_ble_eq_true rfl⟩) (w_preS (mOk cy a) hK hP hD hS hA hN) rfl rfl hl.1 rfl (lv_room (Nat.le_of_ble_eq_true rfl)) dX7_demand_4 ⟨Nat.le_of_ble_eq_true rfl, Nat.le_of_ble_eq_true rfl⟩) hD hS hA (fun H locs hP hS => ?_)
  have e_1 := tX7_in q x1 0 20
  refine lv_if_eq (tgt := 41) hx hb dX7_demand_7 (by decide) (fun c_2 => ?_) (fun c_2 => ?_)
  · have e_3 := i_eq c_2
    refine lv_iconst (v := 0) hx hb dX7_demand_41 (by decide) ?_
    have hF : (fX7_demand q x1 x2 x3) = (0, q) := (show (fX7_demand q x1 x2 x3) = (0, q) by (rw [fX7_demand, if_pos c_2]); try rfl)
    exact W.zret (v := 0) hx hb hr rfl (fun t ht hW => ⟨⟨0, q, rfl, ⟨(p_fst hF), (p_snd hF)⟩, w_ht ht hP⟩, hS.F ht⟩) hS.2.2 dX7_demand_42
  · have e_3 := i_ne c_2
    refine lv_iload_n hx hb dX7_demand_10 rfl (lv_at hl 2 rfl) ?_
    refine lv_iconst (v := 0) hx hb dX7_demand_11 (by decide) ?_
    refine lv_iload_n hx hb dX7_demand_12 rfl (lv_at hl 1 rfl) ?_
    refine lv_bipush (v := 20) hx hb dX7_demand_13 (by decide) ?_
    have J_1 : ∀ (v1 : Int32) (H : Heap) (ls : Array Slot) (locs : List Loc), (fX7_demand_j1 q x1 x2 x3) = v1 → ((v1).toInt = 0 ∨ (v1).toInt = 50) → va_P G vwCl ((cM cy a) q) H → va_S (wA (cM cy a) s.heap.size) s.heap H locs → lv_has ls 4 [(0, .ref (a 0)), (1, .int x1), (2, .int x2), (3, .int x3)] → W p l e ({ frames := 1, cells := 0, slots := 0, locals := 22 }) s m [.ref (a 0), .int x1, .int x2, .int x3].toArray below meth c H locs 0 0 (MQ below (wQi G (cM cy a) s.heap.size (fX7_demand q x1 x2 x3).1 (fX7_demand q x1 x2 x3).2) [.ref (a 0), .int x1, .int x2, .int x3].toArray s 0 0 (wA (cM cy a) s.heap.size)) (F0 m 24 ls [.int v1, .int 0, .int x2]) := by
      intro v1 H ls locs hv bl_1_0 hP hS hl
      subst hv
      refine w_goI (va_runS (As := [.int x2, .int 0, .int (fX7_demand_j1 q x1 x2 x3)]) (rest := []) ⟨hx, hb, hml, hown, hts⟩ (mX7_in l G cy a _ q x2 0 (fX7_demand_j1 q x1 x2 x3)) (va_cwS 3 hts gX7_demand_X7_in rfl rfl rfl (by decide +kernel) ⟨Nat.le_of_ble_eq_true rfl, Nat.le_of_ble_eq_true rfl⟩) (w_preS (mOk cy a) hK hP hD hS hA hN) rfl rfl hl.1 rfl (lv_room (Nat.le_of_ble_eq_true rfl)) dX7_demand_24 ⟨Nat.le_of_ble_eq_true rfl, Nat.le_of_ble_eq_true rfl⟩) hD hS hA (fun H locs hP hS => ?_)
      have e_6 := tX7_in q x2 0 (fX7_demand_j1 q x1 x2 x3)
      refine lv_if_eq (tgt := 41) hx hb dX7_demand_27 (by decide) (fun c_7 => ?_) (fun c_7 => ?_)
      · have e_8 := i_eq c_7
        refine lv_iconst (v := 0) hx hb dX7_demand_41 (by decide) ?_
        have hF : (fX7_demand q x1 x2 x3) = (0, q) := (show (fX7_demand q x1 x2 x3) = (0, q) by (rw [fX7_demand, if_neg c_2, if_pos c_7]); try rfl)
        exact W.zret (v := 0) hx hb hr rfl (fun t ht hW => ⟨⟨0, q, rfl, ⟨(p_fst hF), (p_snd hF)⟩, w_ht ht hP⟩, hS.F ht⟩) hS.2.2 dX7_demand_42
      · have e_8 := i_ne c_7
        refine lv_iload_n hx hb dX7_demand_30 rfl (lv_at hl 3 rfl) ?_
        refine lv_iconst (v := 0) hx hb dX7_demand_31 (by decide) ?_
        refine lv_sipush (v := 1000) hx hb dX7_demand_32 (by decide) ?_
        refine w_goI (va_runS (As := [.int x3, .int 0, .int 1000]) (rest := []) ⟨hx, hb, hml, hown, hts⟩ (mX7_in l G cy a _ q x3 0 1000) (va_cwS 3 hts gX7_demand_X7_in rfl rfl rfl (by decide +kernel) ⟨Nat.le_of_ble_eq_true rfl, Nat.le_of_ble_eq_true rfl⟩) (w_preS (mOk cy a) hK hP hD hS hA hN) rfl rfl hl.1 rfl (lv_room (Nat.le_of_ble_eq_true rfl)) dX7_demand_35 ⟨Nat.le_of_ble_eq_true rfl, Nat.le_of_ble_eq_true rfl⟩) hD hS hA (fun H locs hP hS => ?_)
        have e_9 := tX7_in q x3 0 1000
        refine lv_if_ne (tgt := 43) hx hb dX7_demand_38 (by decide) (fun c_10 => ?_) (fun c_10 => ?_)
        · have e_11 := i_ne c_10
          refine lv_aload_n hx hb dX7_demand_43 rfl (lv_at hl 0 rfl) ?_
          refine gfX7_82 hx hb hts h_2 hown hK hP h_1 dX7_demand_44 ?_
          refine lv_iload_n hx hb dX7_demand_47 rfl (lv_at hl 1 rfl) ?_
          refine lv_iload_n hx hb dX7_demand_48 rfl (lv_at hl 2 rfl) ?_
          have v_12 : vp_in x1 21 := vp_in_iff.mpr (by omega)
          refine stM_28 (f := (q 28)) hx hb hK hP hD hS rfl v_12 dX7_demand_49 (fun H locs hP hS => ?_)
          refine lv_aload_n hx hb dX7_demand_50 rfl (lv_at hl 0 rfl) ?_
          refine gfX7_85 hx hb hts h_2 hown hK hP h_3 dX7_demand_51 ?_
          refine lv_iload_n hx hb dX7_demand_54 rfl (lv_at hl 1 rfl) ?_
          refine lv_iload_n hx hb dX7_demand_55 rfl (lv_at hl 3 rfl) ?_
          have v_13 : vp_in x1 21 := vp_in_iff.mpr (by omega)
          refine stM_29 (f := (q 29)) hx hb hK hP hD hS (rset_ne (by decide)) v_13 dX7_demand_56 (fun H locs hP hS => ?_)
          refine lv_iconst (v := 1) hx hb dX7_demand_57 (by decide) ?_
          have hF : (fX7_demand q x1 x2 x3) = (1, (rset (rset q 28 (upd (q 28) (x1).toNatClampNeg x2)) 29 (upd (q 29) (x1).toNatClampNeg x3))) := (show (fX7_demand q x1 x2 x3) = (1, (rset (rset q 28 (upd (q 28) (x1).toNatClampNeg x2)) 29 (upd (q 29) (x1).toNatClampNeg x3))) by (rw [fX7_demand, if_neg c_2, if_neg c_7, if_neg c_10]); try rfl)
          exact W.zret (v := 1) hx hb hr rfl (fun t ht hW => ⟨⟨1, (rset (rset q 28 (upd (q 28) (x1).toNatClampNeg x2)) 29 (upd (q 29) (x1).toNatClampNeg x3)), rfl, ⟨(p_fst hF), (p_snd hF)⟩, w_ht ht hP⟩, hS.F ht⟩) hS.2.2 dX7_demand_58
        · have e_11 := i_eq c_10
          refine lv_iconst (v := 0) hx hb dX7_demand_41 (by decide) ?_
          have hF : (fX7_demand q x1 x2 x3) = (0, q) := (show (fX7_demand q x1 x2 x3) = (0, q) by (rw [fX7_demand, if_neg c_2, if_neg c_7, if_pos c_10]); try rfl)
          exact W.zret (v := 0) hx hb hr rfl (fun t ht hW => ⟨⟨0, q, rfl, ⟨(p_fst hF), (p_snd hF)⟩, w_ht ht hP⟩, hS.F ht⟩) hS.2.2 dX7_demand_42
    refine lv_icmp_ne (tgt := 22) hx hb dX7_demand_15 (by decide) (fun c_4 => ?_) (fun c_4 => ?_)
    · have e_5 := i_ne c_4
      refine lv_bipush (v := 50) hx hb dX7_demand_22 (by decide) ?_
      exact J_1 50 _ _ _ (by (rw [fX7_demand_j1, if_neg c_4]); try rfl) (show (50 : Int32).toInt = 0 ∨ (50 : Int32).toInt = 50 by omega) hP hS (lv_sub hl [0, 1, 2, 3] rfl)
    · have e_5 := i_eq c_4
      refine lv_iconst (v := 0) hx hb dX7_demand_18 (by decide) ?_
      refine lv_goto (tgt := 24) hx hb dX7_demand_19 (by decide) ?_
      exact J_1 0 _ _ _ (by (rw [fX7_demand_j1, if_pos c_4]); try rfl) (show (0 : Int32).toInt = 0 ∨ (0 : Int32).toInt = 50 by omega) hP hS (lv_sub hl [0, 1, 2, 3] rfl)
