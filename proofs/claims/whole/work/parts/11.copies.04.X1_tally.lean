set_option maxHeartbeats 4000000 in
set_option maxRecDepth 100000 in
theorem mX1_tally (l : Launch) (G : va_G) (cy : ClassId) (a : Nat → Nat) (sz : Nat) (q : wSt) (x1 : Int32) (x2 : Int32) (g0 : 0 ≤ (x1).toInt) (g1 : (x1).toInt < 200) : CtV l yX1_tally wsX1_tally ({ frames := 1, cells := 0, slots := 0, locals := 22 }) G cy (cX cy a) xN sz q [.ref (a 3), .int x1, .int x2] (fX1_tally q x1 x2) := by
  refine Met.ofW (cc := cX1_tally) (maxL := 4) (ret := none) (by decide) rfl ?_
  intro p e s m args below meth c s₁ B hml hv
  obtain ⟨rfl, hsz, hP, hK, hD0, hN⟩ := hv
  have hx := B.exec
  have hb := B.bytes
  have hr := B.returns
  have hts := atoms_spec (ws := wsX1_tally) B.pre
  have hown : s.vm.findClass RX1 = some m.cls := findClass_of_methodNamed B.named
  have hlocks := B.notSynchronized
  subst hsz
  have hD : ∀ z : wSt, va_D (wA (cX cy a) s.heap.size) ((cX cy a) z) := fun z => w_self (xOk cy a).1 hD0 z
  have hA : ∀ z : Nat, s.heap.size ≤ z → wA (cX cy a) s.heap.size z := fun _ h => Or.inr h
  have hS : va_S (wA (cX cy a) s.heap.size) s.heap s.heap [] := va_S.rf
  have hl := lv_entry ([.ref (a 3), .int x1, .int x2]) (n := 4) (Nat.le_of_ble_eq_true rfl)
  rw [lg_entry_eq]
  generalize (lg_sl ([.ref (a 3), .int x1, .int x2]) ++ List.replicate (4 - (lg_sl ([.ref (a 3), .int x1, .int x2])).length) Slot.unset).toArray = ls at hl ⊢
  have hl : lv_has ls 4 [(0, .ref (a 3)), (1, .int x1), (2, .int x2)] := hl
  have h_1 := hts (.fieldLink RX1 15 RX1 "title" "[I") (by decide +kernel)
  have h_2 := (show ∀ w ∈ u_ws RX1 TX1 13, w ∈ wsX1_tally by decide +kernel)
  have h_3 := hts (.fieldLink RX1 18 RX1 "volume" "[I") (by decide +kernel)
  have h_4 := hts (.fieldLink RX1 9 RX1 "where" "[I") (by decide +kernel)
  have h_5 := hts (.fieldLink RX1 39 RX1 "shelved" "[I") (by decide +kernel)
  have h_6 := hts (.fieldLink RX1 46 RX1 "inBoxes" "I") (by decide +kernel)
  have h_7 := hts (.fieldLink RX1 49 RX1 "lost" "I") (by decide +kernel)
  have t_0 : (0 : Int32).toInt = 0 := rfl
  have t_5 : (5 : Int32).toInt = 5 := rfl
  have t_48 : (48 : Int32).toInt = 48 := rfl
  refine lv_aload_n hx hb dX1_tally_0 rfl (lv_at hl 0 rfl) ?_
  refine lv_aload_n hx hb dX1_tally_1 rfl (lv_at hl 0 rfl) ?_
  refine gfX1_15 hx hb hts h_2 hown hK hP h_1 dX1_tally_2 ?_
  refine lv_iload_n hx hb dX1_tally_5 rfl (lv_at hl 1 rfl) ?_
  have v_1 : vp_in x1 200 := vp_in_iff.mpr (by omega)
  refine ldX_7 (f := (q 7)) hx hb hK hP rfl v_1 dX1_tally_6 ?_
  refine lv_aload_n hx hb dX1_tally_7 rfl (lv_at hl 0 rfl) ?_
  refine gfX1_18 hx hb hts h_2 hown hK hP h_3 dX1_tally_8 ?_
  refine lv_iload_n hx hb dX1_tally_11 rfl (lv_at hl 1 rfl) ?_
  have v_2 : vp_in x1 200 := vp_in_iff.mpr (by omega)
  refine ldX_8 (f := (q 8)) hx hb hK hP rfl v_2 dX1_tally_12 ?_
  refine w_goI (va_runV (As := [.int (q 7 (x1).toNatClampNeg), .int (q 8 (x1).toNatClampNeg)]) (rest := []) ⟨hx, hb, hml, hown, hts⟩ (mX1_slot l G cy a _ q (q 7 (x1).toNatClampNeg) (q 8 (x1).toNatClampNeg)) (cwV 2 hts gX1_tally_X1_slot rfl rfl rfl (by decide +kernel) ⟨Nat.le_of_ble_eq_true rfl, Nat.le_of_ble_eq_true rfl⟩) (w_pre (xOk cy a) (va_recv hK hP (ci := 1) (q0 := 3) rfl rfl) hK hP hD hS hA hN) rfl rfl hl.1 rfl (lv_room (Nat.le_of_ble_eq_true rfl)) dX1_tally_13 ⟨Nat.le_of_ble_eq_true rfl, Nat.le_of_ble_eq_true rfl⟩) hD hS hA (fun H locs hP hS => ?_)
  refine lv_istore_n (lv' := [(3, .int (fX1_slot q (q 7 (x1).toNatClampNeg) (q 8 (x1).toNatClampNeg))), (0, .ref (a 3)), (1, .int x1), (2, .int x2)]) hx hb dX1_tally_16 rfl hl (by decide) rfl (fun ls hl => ?_)
  refine lv_aload_n hx hb dX1_tally_17 rfl (lv_at hl 1 rfl) ?_
  refine gfX1_9 hx hb hts h_2 hown hK hP h_4 dX1_tally_18 ?_
  refine lv_iload_n hx hb dX1_tally_21 rfl (lv_at hl 2 rfl) ?_
  have v_3 : vp_in x1 200 := vp_in_iff.mpr (by omega)
  refine ldX_6 (f := (q 6)) hx hb hK hP rfl v_3 dX1_tally_22 ?_
  have J_1 : ∀ (v1 : wSt) (H : Heap) (ls : Array Slot) (locs : List Loc), (fX1_tally_j1 q x1 x2) = v1 → va_P G vwCl ((cX cy a) v1) H → va_S (wA (cX cy a) s.heap.size) s.heap H locs → lv_has ls 4 [(0, .ref (a 3)), (1, .int x1), (2, .int x2)] → W p l e ({ frames := 1, cells := 0, slots := 0, locals := 22 }) s m [.ref (a 3), .int x1, .int x2].toArray below meth c H locs 0 0 (MQ below (wQv G (cX cy a) s.heap.size (fX1_tally q x1 x2)) [.ref (a 3), .int x1, .int x2].toArray s 0 0 (wA (cX cy a) s.heap.size)) (F0 m 49 ls []) := by
    intro v1 H ls locs hv hP hS hl
    subst hv
    refine lv_aload_n hx hb dX1_tally_49 rfl (lv_at hl 0 rfl) ?_
    refine lv_iload_n hx hb dX1_tally_50 rfl (lv_at hl 1 rfl) ?_
    refine w_goI (va_runV (As := [.int x1]) (rest := []) ⟨hx, hb, hml, hown, hts⟩ (mX1_inBox l G cy a _ (fX1_tally_j1 q x1 x2) x1 (by omega) (by omega)) (cwV 1 hts gX1_tally_X1_inBox rfl rfl rfl (by decide +kernel) ⟨Nat.le_of_ble_eq_true rfl, Nat.le_of_ble_eq_true rfl⟩) (w_pre (xOk cy a) (va_recv hK hP (ci := 1) (q0 := 3) rfl rfl) hK hP hD hS hA hN) rfl rfl hl.1 rfl (lv_room (Nat.le_of_ble_eq_true rfl)) dX1_tally_51 ⟨Nat.le_of_ble_eq_true rfl, Nat.le_of_ble_eq_true rfl⟩) hD hS hA (fun H locs hP hS => ?_)
    have J_2 : ∀ (v1 : wSt) (H : Heap) (ls : Array Slot) (locs : List Loc), (fX1_tally_j2 q x1 x2) = v1 → va_P G vwCl ((cX cy a) v1) H → va_S (wA (cX cy a) s.heap.size) s.heap H locs → lv_has ls 4 [(0, .ref (a 3)), (1, .int x1), (2, .int x2)] → W p l e ({ frames := 1, cells := 0, slots := 0, locals := 22 }) s m [.ref (a 3), .int x1, .int x2].toArray below meth c H locs 0 0 (MQ below (wQv G (cX cy a) s.heap.size (fX1_tally q x1 x2)) [.ref (a 3), .int x1, .int x2].toArray s 0 0 (wA (cX cy a) s.heap.size)) (F0 m 67 ls []) := by
      intro v1 H ls locs hv hP hS hl
      subst hv
      refine lv_aload_n hx hb dX1_tally_67 rfl (lv_at hl 0 rfl) ?_
      refine gfX1_9 hx hb hts h_2 hown hK hP h_4 dX1_tally_68 ?_
      refine lv_iload_n hx hb dX1_tally_71 rfl (lv_at hl 1 rfl) ?_
      have v_14 : vp_in x1 200 := vp_in_iff.mpr (by omega)
      refine ldX_6 (f := ((fX1_tally_j2 q x1 x2) 6)) hx hb hK hP rfl v_14 dX1_tally_72 ?_
      refine lv_iconst (v := 5) hx hb dX1_tally_73 (by decide) ?_
      refine lv_icmp_ne (tgt := 87) hx hb dX1_tally_74 (by decide) (fun c_15 => ?_) (fun c_15 => ?_)
      · have e_16 := i_ne c_15
        exact W.vret hx hb hr (fun t ht hW => ⟨⟨(fX1_tally_j2 q x1 x2), rfl, (show (fX1_tally q x1 x2) = (fX1_tally_j2 q x1 x2) by (rw [fX1_tally, if_neg c_15]); try rfl).symm, w_ht ht hP⟩, hS.F ht⟩) hS.2.2 dX1_tally_87
      · have e_16 := i_eq c_15
        refine lv_aload_n hx hb dX1_tally_77 rfl (lv_at hl 0 rfl) ?_
        refine lv_dup hx hb dX1_tally_78 rfl ?_
        refine gfX1_49 (v := ((fX1_tally_j2 q x1 x2) 38 0)) hx hb hts h_2 hown hK hP h_7 rfl dX1_tally_79 ?_
        refine lv_iload_n hx hb dX1_tally_82 rfl (lv_at hl 2 rfl) ?_
        refine lv_iadd hx hb dX1_tally_83 ?_
        refine pfX1_49 hx hb hts h_2 hown hK hP hD hS h_7 dX1_tally_84 (fun H locs hP hS => ?_)
        exact W.vret hx hb hr (fun t ht hW => ⟨⟨(rset (fX1_tally_j2 q x1 x2) 38 (fun _ => (((fX1_tally_j2 q x1 x2) 38 0) + x2))), rfl, (show (fX1_tally q x1 x2) = (rset (fX1_tally_j2 q x1 x2) 38 (fun _ => (((fX1_tally_j2 q x1 x2) 38 0) + x2))) by (rw [fX1_tally, if_pos c_15]); try rfl).symm, w_ht ht hP⟩, hS.F ht⟩) hS.2.2 dX1_tally_87
    refine lv_if_eq (tgt := 67) hx hb dX1_tally_54 (by decide) (fun c_12 => ?_) (fun c_12 => ?_)
    · have e_13 := i_eq c_12
      exact J_2 (fX1_tally_j1 q x1 x2) _ _ _ (by (rw [fX1_tally_j2, if_pos c_12]); try rfl) hP hS (lv_sub hl [0, 1, 2] rfl)
    · have e_13 := i_ne c_12
      refine lv_aload_n hx hb dX1_tally_57 rfl (lv_at hl 0 rfl) ?_
      refine lv_dup hx hb dX1_tally_58 rfl ?_
      refine gfX1_46 (v := ((fX1_tally_j1 q x1 x2) 37 0)) hx hb hts h_2 hown hK hP h_6 rfl dX1_tally_59 ?_
      refine lv_iload_n hx hb dX1_tally_62 rfl (lv_at hl 2 rfl) ?_
      refine lv_iadd hx hb dX1_tally_63 ?_
      refine pfX1_46 hx hb hts h_2 hown hK hP hD hS h_6 dX1_tally_64 (fun H locs hP hS => ?_)
      exact J_2 (rset (fX1_tally_j1 q x1 x2) 37 (fun _ => (((fX1_tally_j1 q x1 x2) 37 0) + x2))) _ _ _ (by (rw [fX1_tally_j2, if_neg c_12]); try rfl) hP hS (lv_sub hl [0, 1, 2] rfl)
  refine lv_if_ne (tgt := 49) hx hb dX1_tally_23 (by decide) (fun c_4 => ?_) (fun c_4 => ?_)
  · have e_5 := i_ne c_4
    exact J_1 q _ _ _ (by (rw [fX1_tally_j1, if_neg c_4]); try rfl) hP hS (lv_sub hl [1, 2, 3] rfl)
  · have e_5 := i_eq c_4
    refine lv_iload_n hx hb dX1_tally_26 rfl (lv_at hl 0 rfl) ?_
    refine lv_if_lt (tgt := 49) hx hb dX1_tally_27 (by decide) (fun c_6 => ?_) (fun c_6 => ?_)
    · have e_7 := i_lt c_6
      exact J_1 q _ _ _ (by (rw [fX1_tally_j1, if_pos c_4, if_pos c_6]); try rfl) hP hS (lv_sub hl [1, 2, 3] rfl)
    · have e_7 := i_nlt c_6
      refine lv_iload_n hx hb dX1_tally_30 rfl (lv_at hl 0 rfl) ?_
      refine lv_aload_n hx hb dX1_tally_31 rfl (lv_at hl 1 rfl) ?_
      refine gfX1_39 hx hb hts h_2 hown hK hP h_5 dX1_tally_32 ?_
      refine va_alen hx hb hK hP 22 0 rfl rfl (v := 48) rfl dX1_tally_35 ?_
      refine lv_icmp_ge (tgt := 49) hx hb dX1_tally_36 (by decide) (fun c_8 => ?_) (fun c_8 => ?_)
      · have e_9 := i_le c_8
        exact J_1 q _ _ _ (by (rw [fX1_tally_j1, if_pos c_4, if_neg c_6, if_pos c_8]); try rfl) hP hS (lv_sub hl [1, 2, 3] rfl)
      · have e_9 := i_nle c_8
        refine lv_aload_n hx hb dX1_tally_39 rfl (lv_at hl 1 rfl) ?_
        refine gfX1_39 hx hb hts h_2 hown hK hP h_5 dX1_tally_40 ?_
        refine lv_iload_n hx hb dX1_tally_43 rfl (lv_at hl 0 rfl) ?_
        refine lv_dup2_11 hx hb dX1_tally_44 rfl rfl ?_
        have v_10 : vp_in (fX1_slot q (q 7 (x1).toNatClampNeg) (q 8 (x1).toNatClampNeg)) 48 := vp_in_iff.mpr (by omega)
        refine ldX_15 (f := (q 15)) hx hb hK hP rfl v_10 dX1_tally_45 ?_
        refine lv_iload_n hx hb dX1_tally_46 rfl (lv_at hl 3 rfl) ?_
        refine lv_iadd hx hb dX1_tally_47 ?_
        have v_11 : vp_in (fX1_slot q (q 7 (x1).toNatClampNeg) (q 8 (x1).toNatClampNeg)) 48 := vp_in_iff.mpr (by omega)
        refine stX_15 (f := (q 15)) hx hb hK hP hD hS rfl v_11 dX1_tally_48 (fun H locs hP hS => ?_)
        exact J_1 (rset q 15 (upd (q 15) (fX1_slot q (q 7 (x1).toNatClampNeg) (q 8 (x1).toNatClampNeg)).toNatClampNeg ((q 15 (fX1_slot q (q 7 (x1).toNatClampNeg) (q 8 (x1).toNatClampNeg)).toNatClampNeg) + x2))) _ _ _ (by (rw [fX1_tally_j1, if_pos c_4, if_neg c_6, if_neg c_8]); try rfl) hP hS (lv_sub hl [1, 2, 3] rfl)
