set_option maxHeartbeats 4000000 in
set_option maxRecDepth 100000 in
theorem mX6_demand (l : Launch) (G : va_G) (cy : ClassId) (a : Nat → Nat) (sz : Nat) (q : wSt) (x1 : Int32) (x2 : Int32) (x3 : Int32) : CtI l yX6_demand wsX6_demand ({ frames := 1, cells := 0, slots := 0, locals := 22 }) G cy (cX cy a) xN sz q [.ref (a 0), .int x1, .int x2, .int x3] (fX6_demand q x1 x2 x3).1 (fX6_demand q x1 x2 x3).2 := by
  refine Met.ofW (cc := cX6_demand) (maxL := 5) (ret := (some .boolean)) (by decide) rfl ?_
  intro p e s m args below meth c s₁ B hml hv
  obtain ⟨rfl, hsz, hP, hK, hD0, hN⟩ := hv
  have hx := B.exec
  have hb := B.bytes
  have hr := B.returns
  have hts := atoms_spec (ws := wsX6_demand) B.pre
  have hown : s.vm.findClass RX6 = some m.cls := findClass_of_methodNamed B.named
  have hlocks := B.notSynchronized
  subst hsz
  have hD : ∀ z : wSt, va_D (wA (cX cy a) s.heap.size) ((cX cy a) z) := fun z => w_self (xOk cy a).1 hD0 z
  have hA : ∀ z : Nat, s.heap.size ≤ z → wA (cX cy a) s.heap.size z := fun _ h => Or.inr h
  have hS : va_S (wA (cX cy a) s.heap.size) s.heap s.heap [] := va_S.rf
  have hl := lv_entry ([.ref (a 0), .int x1, .int x2, .int x3]) (n := 5) (Nat.le_of_ble_eq_true rfl)
  rw [lg_entry_eq]
  generalize (lg_sl ([.ref (a 0), .int x1, .int x2, .int x3]) ++ List.replicate (5 - (lg_sl ([.ref (a 0), .int x1, .int x2, .int x3])).length) Slot.unset).toArray = ls at hl ⊢
  have hl : lv_has ls 5 [(0, .ref (a 0)), (1, .int x1), (2, .int x2), (3, .int x3)] := hl
  have h_1 := hts (.fieldLink RX6 47 RX6 "demands" "LVolumeHouse$Demands;") (by decide +kernel)
  have h_2 := (show ∀ w ∈ u_ws RX6 TX6 10, w ∈ wsX6_demand by decide +kernel)
  have h_3 := (hN.1 _ (List.mem_of_getElem? (i := 27) rfl) : va_Nw (.fieldLinkNest RX6 219 RX2 "wanted" "[I" RX6) s)
  have h_4 := (show ∀ w ∈ u_ws RX2 TX2 2, w ∈ wsX6_demand by decide +kernel)
  have h_5 := (hN.1 _ (List.mem_of_getElem? (i := 28) rfl) : va_Nw (.fieldLinkNest RX6 222 RX2 "sale" "[I" RX6) s)
  have t_0 : (0 : Int32).toInt = 0 := rfl
  have t_1 : (1 : Int32).toInt = 1 := rfl
  have t_20 : (20 : Int32).toInt = 20 := rfl
  have t_50 : (50 : Int32).toInt = 50 := rfl
  have t_1000 : (1000 : Int32).toInt = 1000 := rfl
  refine lv_iload_n hx hb dX6_demand_0 rfl (lv_at hl 1 rfl) ?_
  refine lv_bipush (v := 20) hx hb dX6_demand_1 (by decide) ?_
  have J_1 : ∀ (v1 : Int32) (H : Heap) (ls : Array Slot) (locs : List Loc), (fX6_demand_j1 q x1 x2 x3) = v1 → ((v1).toInt = 0 ∨ (v1).toInt = 50) → va_P G vwCl ((cX cy a) q) H → va_S (wA (cX cy a) s.heap.size) s.heap H locs → lv_has ls 5 [(0, .ref (a 0)), (1, .int x1), (2, .int x2), (3, .int x3)] → W p l e ({ frames := 1, cells := 0, slots := 0, locals := 22 }) s m [.ref (a 0), .int x1, .int x2, .int x3].toArray below meth c H locs 0 0 (MQ below (wQi G (cX cy a) s.heap.size (fX6_demand q x1 x2 x3).1 (fX6_demand q x1 x2 x3).2) [.ref (a 0), .int x1, .int x2, .int x3].toArray s 0 0 (wA (cX cy a) s.heap.size)) (F0 m 12 ls [.int v1]) := by
    intro v1 H ls locs hv bl_1_0 hP hS hl
    subst hv
    refine lv_istore (lv' := [(4, .int (fX6_demand_j1 q x1 x2 x3)), (0, .ref (a 0)), (1, .int x1), (2, .int x2), (3, .int x3)]) hx hb dX6_demand_12 hl (by decide) rfl (fun ls hl => ?_)
    refine lv_iload_n hx hb dX6_demand_14 rfl (lv_at hl 2 rfl) ?_
    refine lv_iconst (v := 0) hx hb dX6_demand_15 (by decide) ?_
    refine lv_bipush (v := 20) hx hb dX6_demand_16 (by decide) ?_
    refine w_goI (va_runS (As := [.int x1, .int 0, .int 20]) (rest := []) ⟨hx, hb, hml, hown, hts⟩ (mX6_within l G cy a _ q x1 0 20) (va_cwS 3 hts gX6_demand_X6_within rfl rfl rfl (by decide +kernel) ⟨Nat.le_of_ble_eq_true rfl, Nat.le_of_ble_eq_true rfl⟩) (w_preS (xOk cy a) hK hP hD hS hA hN) rfl rfl hl.1 rfl (lv_room (Nat.le_of_ble_eq_true rfl)) dX6_demand_18 ⟨Nat.le_of_ble_eq_true rfl, Nat.le_of_ble_eq_true rfl⟩) hD hS hA (fun H locs hP hS => ?_)
    have e_3 := tX6_within q x1 0 20
    refine lv_if_eq (tgt := 45) hx hb dX6_demand_21 (by decide) (fun c_4 => ?_) (fun c_4 => ?_)
    · have e_5 := i_eq c_4
      refine lv_iconst (v := 0) hx hb dX6_demand_45 (by decide) ?_
      have hF : (fX6_demand q x1 x2 x3) = (0, q) := (show (fX6_demand q x1 x2 x3) = (0, q) by (rw [fX6_demand, if_pos c_4]); try rfl)
      exact W.zret (v := 0) hx hb hr rfl (fun t ht hW => ⟨⟨0, q, rfl, ⟨(p_fst hF), (p_snd hF)⟩, w_ht ht hP⟩, hS.F ht⟩) hS.2.2 dX6_demand_46
    · have e_5 := i_ne c_4
      refine lv_iload_n hx hb dX6_demand_24 rfl (lv_at hl 3 rfl) ?_
      refine lv_iconst (v := 0) hx hb dX6_demand_25 (by decide) ?_
      refine lv_iload hx hb dX6_demand_26 (lv_at hl 0 rfl) ?_
      refine w_goI (va_runS (As := [.int x2, .int 0, .int (fX6_demand_j1 q x1 x2 x3)]) (rest := []) ⟨hx, hb, hml, hown, hts⟩ (mX6_within l G cy a _ q x2 0 (fX6_demand_j1 q x1 x2 x3)) (va_cwS 3 hts gX6_demand_X6_within rfl rfl rfl (by decide +kernel) ⟨Nat.le_of_ble_eq_true rfl, Nat.le_of_ble_eq_true rfl⟩) (w_preS (xOk cy a) hK hP hD hS hA hN) rfl rfl hl.1 rfl (lv_room (Nat.le_of_ble_eq_true rfl)) dX6_demand_28 ⟨Nat.le_of_ble_eq_true rfl, Nat.le_of_ble_eq_true rfl⟩) hD hS hA (fun H locs hP hS => ?_)
      have e_6 := tX6_within q x2 0 (fX6_demand_j1 q x1 x2 x3)
      refine lv_if_eq (tgt := 45) hx hb dX6_demand_31 (by decide) (fun c_7 => ?_) (fun c_7 => ?_)
      · have e_8 := i_eq c_7
        refine lv_iconst (v := 0) hx hb dX6_demand_45 (by decide) ?_
        have hF : (fX6_demand q x1 x2 x3) = (0, q) := (show (fX6_demand q x1 x2 x3) = (0, q) by (rw [fX6_demand, if_neg c_4, if_pos c_7]); try rfl)
        exact W.zret (v := 0) hx hb hr rfl (fun t ht hW => ⟨⟨0, q, rfl, ⟨(p_fst hF), (p_snd hF)⟩, w_ht ht hP⟩, hS.F ht⟩) hS.2.2 dX6_demand_46
      · have e_8 := i_ne c_7
        refine lv_iload_n hx hb dX6_demand_34 rfl (lv_at hl 4 rfl) ?_
        refine lv_iconst (v := 0) hx hb dX6_demand_35 (by decide) ?_
        refine lv_sipush (v := 1000) hx hb dX6_demand_36 (by decide) ?_
        refine w_goI (va_runS (As := [.int x3, .int 0, .int 1000]) (rest := []) ⟨hx, hb, hml, hown, hts⟩ (mX6_within l G cy a _ q x3 0 1000) (va_cwS 3 hts gX6_demand_X6_within rfl rfl rfl (by decide +kernel) ⟨Nat.le_of_ble_eq_true rfl, Nat.le_of_ble_eq_true rfl⟩) (w_preS (xOk cy a) hK hP hD hS hA hN) rfl rfl hl.1 rfl (lv_room (Nat.le_of_ble_eq_true rfl)) dX6_demand_39 ⟨Nat.le_of_ble_eq_true rfl, Nat.le_of_ble_eq_true rfl⟩) hD hS hA (fun H locs hP hS => ?_)
        have e_9 := tX6_within q x3 0 1000
        refine lv_if_ne (tgt := 47) hx hb dX6_demand_42 (by decide) (fun c_10 => ?_) (fun c_10 => ?_)
        · have e_11 := i_ne c_10
          refine lv_aload_n hx hb dX6_demand_47 rfl (lv_at hl 1 rfl) ?_
          refine gfX6_47 hx hb hts h_2 hown hK hP h_1 dX6_demand_48 ?_
          refine gfX6_219 hx hb hts h_4 hown hK hP h_3 dX6_demand_51 ?_
          refine lv_iload_n hx hb dX6_demand_54 rfl (lv_at hl 2 rfl) ?_
          refine lv_iload_n hx hb dX6_demand_55 rfl (lv_at hl 3 rfl) ?_
          have v_12 : vp_in x1 21 := vp_in_iff.mpr (by omega)
          refine stX_28 (f := (q 28)) hx hb hK hP hD hS rfl v_12 dX6_demand_56 (fun H locs hP hS => ?_)
          refine lv_aload_n hx hb dX6_demand_57 rfl (lv_at hl 1 rfl) ?_
          refine gfX6_47 hx hb hts h_2 hown hK hP h_1 dX6_demand_58 ?_
          refine gfX6_222 hx hb hts h_4 hown hK hP h_5 dX6_demand_61 ?_
          refine lv_iload_n hx hb dX6_demand_64 rfl (lv_at hl 2 rfl) ?_
          refine lv_iload_n hx hb dX6_demand_65 rfl (lv_at hl 4 rfl) ?_
          have v_13 : vp_in x1 21 := vp_in_iff.mpr (by omega)
          refine stX_29 (f := (q 29)) hx hb hK hP hD hS (rset_ne (by decide)) v_13 dX6_demand_66 (fun H locs hP hS => ?_)
          refine lv_iconst (v := 1) hx hb dX6_demand_67 (by decide) ?_
          have hF : (fX6_demand q x1 x2 x3) = (1, (rset (rset q 28 (upd (q 28) (x1).toNatClampNeg x2)) 29 (upd (q 29) (x1).toNatClampNeg x3))) := (show (fX6_demand q x1 x2 x3) = (1, (rset (rset q 28 (upd (q 28) (x1).toNatClampNeg x2)) 29 (upd (q 29) (x1).toNatClampNeg x3))) by (rw [fX6_demand, if_neg c_4, if_neg c_7, if_neg c_10]); try rfl)
          exact W.zret (v := 1) hx hb hr rfl (fun t ht hW => ⟨⟨1, (rset (rset q 28 (upd (q 28) (x1).toNatClampNeg x2)) 29 (upd (q 29) (x1).toNatClampNeg x3)), rfl, ⟨(p_fst hF), (p_snd hF)⟩, w_ht ht hP⟩, hS.F ht⟩) hS.2.2 dX6_demand_68
        · have e_11 := i_eq c_10
          refine lv_iconst (v := 0) hx hb dX6_demand_45 (by decide) ?_
          have hF : (fX6_demand q x1 x2 x3) = (0, q) := (show (fX6_demand q x1 x2 x3) = (0, q) by (rw [fX6_demand, if_neg c_4, if_neg c_7, if_pos c_10]); try rfl)
          exact W.zret (v := 0) hx hb hr rfl (fun t ht hW => ⟨⟨0, q, rfl, ⟨(p_fst hF), (p_snd hF)⟩, w_ht ht hP⟩, hS.F ht⟩) hS.2.2 dX6_demand_46
  refine lv_icmp_ne (tgt := 10) hx hb dX6_demand_3 (by decide) (fun c_1 => ?_) (fun c_1 => ?_)
  · have e_2 := i_ne c_1
    refine lv_bipush (v := 50) hx hb dX6_demand_10 (by decide) ?_
    exact J_1 50 _ _ _ (by (rw [fX6_demand_j1, if_neg c_1]); try rfl) (show (50 : Int32).toInt = 0 ∨ (50 : Int32).toInt = 50 by omega) hP hS (lv_sub hl [0, 1, 2, 3] rfl)
  · have e_2 := i_eq c_1
    refine lv_iconst (v := 0) hx hb dX6_demand_6 (by decide) ?_
    refine lv_goto (tgt := 12) hx hb dX6_demand_7 (by decide) ?_
    exact J_1 0 _ _ _ (by (rw [fX6_demand_j1, if_pos c_1]); try rfl) (show (0 : Int32).toInt = 0 ∨ (0 : Int32).toInt = 50 by omega) hP hS (lv_sub hl [0, 1, 2, 3] rfl)
