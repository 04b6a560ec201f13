set_option maxHeartbeats 4000000 in
set_option maxRecDepth 100000 in
theorem mX6_buy (l : Launch) (G : va_G) (cy : ClassId) (a : Nat → Nat) (sz : Nat) (q : wSt) (x1 : Int32) (x2 : Int32) (hI : iI q) : CtI l yX6_buy wsX6_buy ({ frames := 5, cells := 0, slots := 0, locals := 112 }) G cy (cX cy a) xN sz q [.ref (a 0), .int x1, .int x2] (fX6_buy q x1 x2).1 (fX6_buy q x1 x2).2 := by
  refine Met.ofW (cc := cX6_buy) (maxL := 8) (ret := (some .int)) (by decide) rfl ?_
  intro p e s m args below meth c s₁ B hml hv
  obtain ⟨rfl, hsz, hP, hK, hD0, hN⟩ := hv
  have hx := B.exec
  have hb := B.bytes
  have hr := B.returns
  have hts := atoms_spec (ws := wsX6_buy) B.pre
  have hown : s.vm.findClass RX6 = some m.cls := findClass_of_methodNamed B.named
  have hlocks := B.notSynchronized
  subst hsz
  have hD : ∀ z : wSt, va_D (wA (cX cy a) s.heap.size) ((cX cy a) z) := fun z => w_self (xOk cy a).1 hD0 z
  have hA : ∀ z : Nat, s.heap.size ≤ z → wA (cX cy a) s.heap.size z := fun _ h => Or.inr h
  have hS : va_S (wA (cX cy a) s.heap.size) s.heap s.heap [] := va_S.rf
  have hl := lv_entry ([.ref (a 0), .int x1, .int x2]) (n := 8) (Nat.le_of_ble_eq_true rfl)
  rw [lg_entry_eq]
  generalize (lg_sl ([.ref (a 0), .int x1, .int x2]) ++ List.replicate (8 - (lg_sl ([.ref (a 0), .int x1, .int x2])).length) Slot.unset).toArray = ls at hl ⊢
  have hl : lv_has ls 8 [(0, .ref (a 0)), (1, .int x1), (2, .int x2)] := hl
  have h_1 := hts (.fieldLink RX6 10 RX6 "titles" "LVolumeHouse$Titles;") (by decide +kernel)
  have h_2 := (show ∀ w ∈ u_ws RX6 TX6 10, w ∈ wsX6_buy by decide +kernel)
  have h_3 := (hN.1 _ (List.mem_of_getElem? (i := 40) rfl) : va_Nw (.methodLinkNest RX6 75 yX4_has RX6) s)
  have h_4 := hts (.initialized RX4) (by decide +kernel)
  have h_5 := hts (.instanceMethod yX4_has) (by decide +kernel)
  have h_6 := hts (.selects RX4 yX4_has yX4_has) (by decide +kernel)
  have h_7 := (hN.1 _ (List.mem_of_getElem? (i := 42) rfl) : va_Nw (.methodLinkNest RX6 83 yX4_volumesOf RX6) s)
  have h_8 := hts (.instanceMethod yX4_volumesOf) (by decide +kernel)
  have h_9 := hts (.selects RX4 yX4_volumesOf yX4_volumesOf) (by decide +kernel)
  have h_10 := hts (.fieldLink RX6 26 RX6 "copies" "LVolumeHouse$Copies;") (by decide +kernel)
  have h_11 := (hN.1 _ (List.mem_of_getElem? (i := 5) rfl) : va_Nw (.fieldLinkNest RX6 86 RX1 "came" "I" RX6) s)
  have h_12 := (show ∀ w ∈ u_ws RX1 TX1 13, w ∈ wsX6_buy by decide +kernel)
  have h_13 := hts (.fieldLink RX6 19 RX6 "bargains" "LVolumeHouse$Bargains;") (by decide +kernel)
  have h_14 := hts (.fieldLink RX6 51 RX6 "now" "I") (by decide +kernel)
  have h_15 := (hN.1 _ (List.mem_of_getElem? (i := 43) rfl) : va_Nw (.methodLinkNest RX6 87 yX0_inForce RX6) s)
  have h_16 := hts (.initialized RX0) (by decide +kernel)
  have h_17 := hts (.instanceMethod yX0_inForce) (by decide +kernel)
  have h_18 := hts (.selects RX0 yX0_inForce yX0_inForce) (by decide +kernel)
  have h_19 := (hN.1 _ (List.mem_of_getElem? (i := 44) rfl) : va_Nw (.methodLinkNest RX6 91 yX0_priceAt RX6) s)
  have h_20 := hts (.instanceMethod yX0_priceAt) (by decide +kernel)
  have h_21 := hts (.selects RX0 yX0_priceAt yX0_priceAt) (by decide +kernel)
  have h_22 := (hN.1 _ (List.mem_of_getElem? (i := 45) rfl) : va_Nw (.methodLinkNest RX6 94 yX1_add RX6) s)
  have h_23 := hts (.initialized RX1) (by decide +kernel)
  have h_24 := hts (.instanceMethod yX1_add) (by decide +kernel)
  have h_25 := hts (.selects RX1 yX1_add yX1_add) (by decide +kernel)
  have h_26 := hts (.fieldLink RX6 55 RX6 "spent" "I") (by decide +kernel)
  have t_m1 : ((-1) : Int32).toInt = -1 := rfl
  have t_0 : (0 : Int32).toInt = 0 := rfl
  have t_1 : (1 : Int32).toInt = 1 := rfl
  have t_20 : (20 : Int32).toInt = 20 := rfl
  have t_200 : (200 : Int32).toInt = 200 := rfl
  have hB := iI_b hI
  refine lv_aload_n hx hb dX6_buy_0 rfl (lv_at hl 0 rfl) ?_
  refine gfX6_10 hx hb hts h_2 hown hK hP h_1 dX6_buy_1 ?_
  refine lv_iload_n hx hb dX6_buy_4 rfl (lv_at hl 1 rfl) ?_
  refine w_goI (va_runVN (As := [.int x1]) (rest := []) ⟨hx, hb, hml, hown, hts⟩ (mX4_has l G cy a _ q x1) ⟨va_cnB 1 hts gX6_buy_X4_has_n75 rfl rfl rfl h_3 h_4 (by decide +kernel) ⟨Nat.le_of_ble_eq_true rfl, Nat.le_of_ble_eq_true rfl⟩, h_5, h_6⟩ (w_pre (xOk cy a) (va_recv hK hP (ci := 4) (q0 := 1) rfl rfl) hK hP hD hS hA hN) rfl rfl hl.1 rfl (lv_room (Nat.le_of_ble_eq_true rfl)) dX6_buy_5 ⟨Nat.le_of_ble_eq_true rfl, Nat.le_of_ble_eq_true rfl⟩) hD hS hA (fun H locs hP hS => ?_)
  have e_1 := tX4_has q x1
  refine lv_if_eq (tgt := 21) hx hb dX6_buy_8 (by decide) (fun c_2 => ?_) (fun c_2 => ?_)
  · have e_3 := i_eq c_2
    refine lv_iconst (v := (-1)) hx hb dX6_buy_21 (by decide) ?_
    have hF : (fX6_buy q x1 x2) = ((-1), q) := (show (fX6_buy q x1 x2) = ((-1), q) by (rw [fX6_buy, if_pos c_2]); try rfl)
    exact W.iret (v := (-1)) hx hb hr (fun t ht hW => ⟨⟨(-1), q, rfl, ⟨(p_fst hF), (p_snd hF)⟩, w_ht ht hP⟩, hS.F ht⟩) hS.2.2 dX6_buy_22
  · have e_3 := i_ne c_2
    refine lv_iload_n hx hb dX6_buy_11 rfl (lv_at hl 2 rfl) ?_
    refine lv_iconst (v := 1) hx hb dX6_buy_12 (by decide) ?_
    refine lv_bipush (v := 20) hx hb dX6_buy_13 (by decide) ?_
    refine w_goI (va_runS (As := [.int x2, .int 1, .int 20]) (rest := []) ⟨hx, hb, hml, hown, hts⟩ (mX6_within l G cy a _ q x2 1 20) (va_cwS 3 hts gX6_buy_X6_within rfl rfl rfl (by decide +kernel) ⟨Nat.le_of_ble_eq_true rfl, Nat.le_of_ble_eq_true rfl⟩) (w_preS (xOk cy a) hK hP hD hS hA hN) rfl rfl hl.1 rfl (lv_room (Nat.le_of_ble_eq_true rfl)) dX6_buy_15 ⟨Nat.le_of_ble_eq_true rfl, Nat.le_of_ble_eq_true rfl⟩) hD hS hA (fun H locs hP hS => ?_)
    have e_4 := tX6_within q x2 1 20
    refine lv_if_ne (tgt := 23) hx hb dX6_buy_18 (by decide) (fun c_5 => ?_) (fun c_5 => ?_)
    · have e_6 := i_ne c_5
      refine lv_iload_n hx hb dX6_buy_23 rfl (lv_at hl 2 rfl) ?_
      refine lv_aload_n hx hb dX6_buy_24 rfl (lv_at hl 0 rfl) ?_
      refine gfX6_10 hx hb hts h_2 hown hK hP h_1 dX6_buy_25 ?_
      refine lv_iload_n hx hb dX6_buy_28 rfl (lv_at hl 1 rfl) ?_
      refine w_goI (va_runVN (As := [.int x1]) (rest := [.int x2]) ⟨hx, hb, hml, hown, hts⟩ (mX4_volumesOf l G cy a _ q x1 (by omega)) ⟨va_cnB 1 hts gX6_buy_X4_volumesOf_n83 rfl rfl rfl h_7 h_4 (by decide +kernel) ⟨Nat.le_of_ble_eq_true rfl, Nat.le_of_ble_eq_true rfl⟩, h_8, h_9⟩ (w_pre (xOk cy a) (va_recv hK hP (ci := 4) (q0 := 1) rfl rfl) hK hP hD hS hA hN) rfl rfl hl.1 rfl (lv_room (Nat.le_of_ble_eq_true rfl)) dX6_buy_29 ⟨Nat.le_of_ble_eq_true rfl, Nat.le_of_ble_eq_true rfl⟩) hD hS hA (fun H locs hP hS => ?_)
      have e_90 := tX4_volumesOf q x1 hI
      refine lv_imul hx hb dX6_buy_32 ?_
      have e_91 := t_bought x2 (fX4_volumesOf q x1) (by omega) (by omega)
      refine lv_istore_n (lv' := [(3, .int (x2 * (fX4_volumesOf q x1))), (0, .ref (a 0)), (1, .int x1), (2, .int x2)]) hx hb dX6_buy_33 rfl hl (by decide) rfl (fun ls hl => ?_)
      refine lv_aload_n hx hb dX6_buy_34 rfl (lv_at hl 1 rfl) ?_
      refine gfX6_26 hx hb hts h_2 hown hK hP h_10 dX6_buy_35 ?_
      refine gfX6_86 (v := (q 36 0)) hx hb hts h_12 hown hK hP h_11 rfl dX6_buy_38 ?_
      refine lv_iload_n hx hb dX6_buy_41 rfl (lv_at hl 0 rfl) ?_
      refine lv_iadd hx hb dX6_buy_42 ?_
      have e_92 : ((q 36 0) + (x2 * (fX4_volumesOf q x1))).toInt = (q 36 0).toInt + (x2 * (fX4_volumesOf q x1)).toInt := i_add (by omega)
      refine lv_sipush (v := 200) hx hb dX6_buy_43 (by decide) ?_
      refine lv_icmp_le (tgt := 51) hx hb dX6_buy_46 (by decide) (fun c_7 => ?_) (fun c_7 => ?_)
      · have e_8 := i_le c_7
        refine lv_aload_n hx hb dX6_buy_51 rfl (lv_at hl 1 rfl) ?_
        refine gfX6_19 hx hb hts h_2 hown hK hP h_13 dX6_buy_52 ?_
        refine lv_iload_n hx hb dX6_buy_55 rfl (lv_at hl 2 rfl) ?_
        refine lv_aload_n hx hb dX6_buy_56 rfl (lv_at hl 1 rfl) ?_
        refine gfX6_51 (v := (q 30 0)) hx hb hts h_2 hown hK hP h_14 rfl dX6_buy_57 ?_
        refine w_goI (va_runVN (As := [.int x1, .int (q 30 0)]) (rest := []) ⟨hx, hb, hml, hown, hts⟩ (mX0_inForce l G cy a _ q x1 (q 30 0) (by omega)) ⟨va_cnB 2 hts gX6_buy_X0_inForce_n87 rfl rfl rfl h_15 h_16 (by decide +kernel) ⟨Nat.le_of_ble_eq_true rfl, Nat.le_of_ble_eq_true rfl⟩, h_17, h_18⟩ (w_pre (xOk cy a) (va_recv hK hP (ci := 0) (q0 := 2) rfl rfl) hK hP hD hS hA hN) rfl rfl hl.1 rfl (lv_room (Nat.le_of_ble_eq_true rfl)) dX6_buy_60 ⟨Nat.le_of_ble_eq_true rfl, Nat.le_of_ble_eq_true rfl⟩) hD hS hA (fun H locs hP hS => ?_)
        refine lv_istore (lv' := [(4, .int (fX0_inForce q x1 (q 30 0))), (3, .int (x2 * (fX4_volumesOf q x1))), (0, .ref (a 0)), (1, .int x1), (2, .int x2)]) hx hb dX6_buy_63 hl (by decide) rfl (fun ls hl => ?_)
        refine lv_iconst (v := 0) hx hb dX6_buy_65 (by decide) ?_
        refine lv_istore (lv' := [(5, .int 0), (4, .int (fX0_inForce q x1 (q 30 0))), (3, .int (x2 * (fX4_volumesOf q x1))), (0, .ref (a 0)), (1, .int x1), (2, .int x2)]) hx hb dX6_buy_66 hl (by decide) rfl (fun ls hl => ?_)
        refine lv_iconst (v := 0) hx hb dX6_buy_68 (by decide) ?_
        refine lv_istore (lv' := [(6, .int 0), (5, .int 0), (4, .int (fX0_inForce q x1 (q 30 0))), (3, .int (x2 * (fX4_volumesOf q x1))), (0, .ref (a 0)), (1, .int x1), (2, .int x2)]) hx hb dX6_buy_69 hl (by decide) rfl (fun ls hl => ?_)
        have K_1 : ∀ (v1 : Int32) (v2 : wSt) (H : Heap) (ls : Array Slot) (locs : List Loc), (lX6_buy_1 q x1 x2 (((x2 * (fX4_volumesOf q x1)).toInt - (0 : Int32).toInt).toNat + 1) 0 0 q) = (v1, v2) → iI v2 → va_P G vwCl ((cX cy a) v2) H → va_S (wA (cX cy a) s.heap.size) s.heap H locs → lv_has ls 8 [(0, .ref (a 0)), (5, .int v1)] → W p l e ({ frames := 5, cells := 0, slots := 0, locals := 112 }) s m [.ref (a 0), .int x1, .int x2].toArray below meth c H locs 0 0 (MQ below (wQi G (cX cy a) s.heap.size (fX6_buy q x1 x2).1 (fX6_buy q x1 x2).2) [.ref (a 0), .int x1, .int x2].toArray s 0 0 (wA (cX cy a) s.heap.size)) (F0 m 117 ls []) := by
          intro v1 v2 H ls locs hv hI_x1 hP hS hl
          obtain ⟨rfl, rfl⟩ := p_2 hv
          refine lv_aload_n hx hb dX6_buy_117 rfl (lv_at hl 0 rfl) ?_
          refine lv_dup hx hb dX6_buy_118 rfl ?_
          refine gfX6_55 (v := ((lX6_buy_1 q x1 x2 (((x2 * (fX4_volumesOf q x1)).toInt - (0 : Int32).toInt).toNat + 1) 0 0 q).2 31 0)) hx hb hts h_2 hown hK hP h_26 rfl dX6_buy_119 ?_
          refine lv_iload hx hb dX6_buy_122 (lv_at hl 1 rfl) ?_
          refine lv_iadd hx hb dX6_buy_124 ?_
          refine pfX6_55 hx hb hts h_2 hown hK hP hD hS h_26 dX6_buy_125 (fun H locs hP hS => ?_)
          refine lv_iload hx hb dX6_buy_128 (lv_at hl 1 rfl) ?_
          have hF : (fX6_buy q x1 x2) = ((lX6_buy_1 q x1 x2 (((x2 * (fX4_volumesOf q x1)).toInt - (0 : Int32).toInt).toNat + 1) 0 0 q).1, (rset (lX6_buy_1 q x1 x2 (((x2 * (fX4_volumesOf q x1)).toInt - (0 : Int32).toInt).toNat + 1) 0 0 q).2 31 (fun _ => (((lX6_buy_1 q x1 x2 (((x2 * (fX4_volumesOf q x1)).toInt - (0 : Int32).toInt).toNat + 1) 0 0 q).2 31 0) + (lX6_buy_1 q x1 x2 (((x2 * (fX4_volumesOf q x1)).toInt - (0 : Int32).toInt).toNat + 1) 0 0 q).1)))) := (show (fX6_buy q x1 x2) = ((lX6_buy_1 q x1 x2 (((x2 * (fX4_volumesOf q x1)).toInt - (0 : Int32).toInt).toNat + 1) 0 0 q).1, (rset (lX6_buy_1 q x1 x2 (((x2 * (fX4_volumesOf q x1)).toInt - (0 : Int32).toInt).toNat + 1) 0 0 q).2 31 (fun _ => (((lX6_buy_1 q x1 x2 (((x2 * (fX4_volumesOf q x1)).toInt - (0 : Int32).toInt).toNat + 1) 0 0 q).2 31 0) + (lX6_buy_1 q x1 x2 (((x2 * (fX4_volumesOf q x1)).toInt - (0 : Int32).toInt).toNat + 1) 0 0 q).1)))) by (rw [fX6_buy, if_neg c_2, if_neg c_5, if_pos c_7]); try rfl)
          exact W.iret (v := (lX6_buy_1 q x1 x2 (((x2 * (fX4_volumesOf q x1)).toInt - (0 : Int32).toInt).toNat + 1) 0 0 q).1) hx hb hr (fun t ht hW => ⟨⟨(lX6_buy_1 q x1 x2 (((x2 * (fX4_volumesOf q x1)).toInt - (0 : Int32).toInt).toNat + 1) 0 0 q).1, (rset (lX6_buy_1 q x1 x2 (((x2 * (fX4_volumesOf q x1)).toInt - (0 : Int32).toInt).toNat + 1) 0 0 q).2 31 (fun _ => (((lX6_buy_1 q x1 x2 (((x2 * (fX4_volumesOf q x1)).toInt - (0 : Int32).toInt).toNat + 1) 0 0 q).2 31 0) + (lX6_buy_1 q x1 x2 (((x2 * (fX4_volumesOf q x1)).toInt - (0 : Int32).toInt).toNat + 1) 0 0 q).1))), rfl, ⟨(p_fst hF), (p_snd hF)⟩, w_ht ht hP⟩, hS.F ht⟩) hS.2.2 dX6_buy_130
        have L_1 : ∀ (n : Nat) (y5_1 : Int32) (y6_1 : Int32) (p1 : wSt) (H : Heap) (ls : Array Slot) (locs : List Loc), ((x2 * (fX4_volumesOf q x1)).toInt - (y6_1).toInt).toNat < n → iI p1 → (0 ≤ (y6_1).toInt) → ((p1 36 0).toInt = (q 36 0).toInt + (y6_1).toInt) → lX6_buy_1 q x1 x2 n y5_1 y6_1 p1 = (lX6_buy_1 q x1 x2 (((x2 * (fX4_volumesOf q x1)).toInt - (0 : Int32).toInt).toNat + 1) 0 0 q) → va_P G vwCl ((cX cy a) p1) H → va_S (wA (cX cy a) s.heap.size) s.heap H locs → lv_has ls 8 [(0, .ref (a 0)), (1, .int x1), (2, .int x2), (3, .int (x2 * (fX4_volumesOf q x1))), (4, .int (fX0_inForce q x1 (q 30 0))), (5, .int y5_1), (6, .int y6_1)] → W p l e ({ frames := 5, cells := 0, slots := 0, locals := 112 }) s m [.ref (a 0), .int x1, .int x2].toArray below meth c H locs 0 0 (MQ below (wQi G (cX cy a) s.heap.size (fX6_buy q x1 x2).1 (fX6_buy q x1 x2).2) [.ref (a 0), .int x1, .int x2].toArray s 0 0 (wA (cX cy a) s.heap.size)) (F0 m 71 ls []) := by
          intro n
          induction n with
          | zero => intro y5_1 y6_1 p1 H ls locs hm; exact absurd hm (Nat.not_lt_zero _)
          | succ n ih =>
            intro y5_1 y6_1 p1 H ls locs hm_1 hI_1 i0_1 ic_1 he_1 hP hS hl
            refine lv_iload hx hb dX6_buy_71 (lv_at hl 6 rfl) ?_
            refine lv_iload_n hx hb dX6_buy_73 rfl (lv_at hl 3 rfl) ?_
            refine lv_icmp_ge (tgt := 117) hx hb dX6_buy_74 (by decide) (fun c_9 => ?_) (fun c_9 => ?_)
            · have e_10 := i_le c_9
              exact K_1 y5_1 p1 _ _ _ (Eq.trans (Eq.symm he_1) (by (rw [lX6_buy_1_s, if_pos c_9]); try rfl)) hI_1 hP hS (lv_sub hl [0, 5] rfl)
            · have e_10 := i_nle c_9
              refine lv_aload_n hx hb dX6_buy_77 rfl (lv_at hl 0 rfl) ?_
              refine gfX6_19 hx hb hts h_2 hown hK hP h_13 dX6_buy_78 ?_
              refine lv_iload hx hb dX6_buy_81 (lv_at hl 4 rfl) ?_
              refine lv_iload hx hb dX6_buy_83 (lv_at hl 6 rfl) ?_
              refine w_goI (va_runVN (As := [.int (fX0_inForce q x1 (q 30 0)), .int y6_1]) (rest := []) ⟨hx, hb, hml, hown, hts⟩ (mX0_priceAt l G cy a _ p1 (fX0_inForce q x1 (q 30 0)) y6_1 (by have hB9 := iI_b hI_1; omega)) ⟨va_cnB 2 hts gX6_buy_X0_priceAt_n91 rfl rfl rfl h_19 h_16 (by decide +kernel) ⟨Nat.le_of_ble_eq_true rfl, Nat.le_of_ble_eq_true rfl⟩, h_20, h_21⟩ (w_pre (xOk cy a) (va_recv hK hP (ci := 0) (q0 := 2) rfl rfl) hK hP hD hS hA hN) rfl rfl hl.1 rfl (lv_room (Nat.le_of_ble_eq_true rfl)) dX6_buy_85 ⟨Nat.le_of_ble_eq_true rfl, Nat.le_of_ble_eq_true rfl⟩) hD hS hA (fun H locs hP hS => ?_)
              refine lv_istore (lv' := [(7, .int (fX0_priceAt p1 (fX0_inForce q x1 (q 30 0)) y6_1)), (0, .ref (a 0)), (1, .int x1), (2, .int x2), (3, .int (x2 * (fX4_volumesOf q x1))), (4, .int (fX0_inForce q x1 (q 30 0))), (5, .int y5_1), (6, .int y6_1)]) hx hb dX6_buy_88 hl (by decide) rfl (fun ls hl => ?_)
              refine lv_aload_n hx hb dX6_buy_90 rfl (lv_at hl 1 rfl) ?_
              refine gfX6_26 hx hb hts h_2 hown hK hP h_10 dX6_buy_91 ?_
              refine lv_iload_n hx hb dX6_buy_94 rfl (lv_at hl 2 rfl) ?_
              refine lv_iload hx hb dX6_buy_95 (lv_at hl 7 rfl) ?_
              refine lv_iload_n hx hb dX6_buy_97 rfl (lv_at hl 3 rfl) ?_
              refine lv_idiv hx hb dX6_buy_98 (by intro hz; have := i_eq hz; omega) ?_
              refine lv_iload hx hb dX6_buy_99 (lv_at hl 0 rfl) ?_
              refine w_goV (va_runVN (As := [.int x1, .int (y6_1 / x2), .int (fX0_priceAt p1 (fX0_inForce q x1 (q 30 0)) y6_1)]) (rest := []) ⟨hx, hb, hml, hown, hts⟩ (mX1_add l G cy a _ p1 x1 (y6_1 / x2) (fX0_priceAt p1 (fX0_inForce q x1 (q 30 0)) y6_1) (by have hB9 := iI_b hI_1; omega) (by have hB9 := iI_b hI_1; omega)) ⟨va_cnB 3 hts gX6_buy_X1_add_n94 rfl rfl rfl h_22 h_23 (by decide +kernel) ⟨Nat.le_of_ble_eq_true rfl, Nat.le_of_ble_eq_true rfl⟩, h_24, h_25⟩ (w_pre (xOk cy a) (va_recv hK hP (ci := 1) (q0 := 3) rfl rfl) hK hP hD hS hA hN) rfl rfl hl.1 rfl (lv_room (Nat.le_of_ble_eq_true rfl)) dX6_buy_101 ⟨Nat.le_of_ble_eq_true rfl, Nat.le_of_ble_eq_true rfl⟩) hD hS hA (fun H locs hP hS => ?_)
              have e_93 := tX1_add36 p1 x1 (y6_1 / x2) (fX0_priceAt p1 (fX0_inForce q x1 (q 30 0)) y6_1) (by omega)
              refine lv_iload hx hb dX6_buy_104 (lv_at hl 6 rfl) ?_
              refine lv_iload hx hb dX6_buy_106 (lv_at hl 0 rfl) ?_
              refine lv_iadd hx hb dX6_buy_108 ?_
              refine lv_istore (lv' := [(5, .int (y5_1 + (fX0_priceAt p1 (fX0_inForce q x1 (q 30 0)) y6_1))), (7, .int (fX0_priceAt p1 (fX0_inForce q x1 (q 30 0)) y6_1)), (0, .ref (a 0)), (1, .int x1), (2, .int x2), (3, .int (x2 * (fX4_volumesOf q x1))), (4, .int (fX0_inForce q x1 (q 30 0))), (6, .int y6_1)]) hx hb dX6_buy_109 hl (by decide) rfl (fun ls hl => ?_)
              refine lv_iinc (v := (y6_1 + 1)) (lv' := [(6, .int (y6_1 + 1)), (5, .int (y5_1 + (fX0_priceAt p1 (fX0_inForce q x1 (q 30 0)) y6_1))), (7, .int (fX0_priceAt p1 (fX0_inForce q x1 (q 30 0)) y6_1)), (0, .ref (a 0)), (1, .int x1), (2, .int x2), (3, .int (x2 * (fX4_volumesOf q x1))), (4, .int (fX0_inForce q x1 (q 30 0)))]) hx hb dX6_buy_111 hl (k := 7) rfl rfl (by decide) rfl (fun ls hl => ?_)
              have e_11 : (y6_1 + 1).toInt = (y6_1).toInt + 1 := i_inc (by have := i_rng y6_1; have := i_rng (x2 * (fX4_volumesOf q x1)); omega)
              refine lv_goto (tgt := 71) hx hb dX6_buy_114 (by decide) ?_
              exact ih (y5_1 + (fX0_priceAt p1 (fX0_inForce q x1 (q 30 0)) y6_1)) (y6_1 + 1) (fX1_add p1 x1 (y6_1 / x2) (fX0_priceAt p1 (fX0_inForce q x1 (q 30 0)) y6_1)) _ _ _ (by omega) (iI_X1_add p1 x1 (y6_1 / x2) (fX0_priceAt p1 (fX0_inForce q x1 (q 30 0)) y6_1) hI_1 (by omega)) (by first | omega | assumption) (show ((fX1_add p1 x1 (y6_1 / x2) (fX0_priceAt p1 (fX0_inForce q x1 (q 30 0)) y6_1)) 36 0).toInt = (q 36 0).toInt + ((y6_1 + 1)).toInt by first | omega | assumption) (Eq.trans (Eq.symm (by (rw [lX6_buy_1_s, if_neg c_9]); try rfl)) he_1) hP hS (lv_sub hl [3, 4, 5, 6, 7, 1, 0] rfl)
        exact L_1 (((x2 * (fX4_volumesOf q x1)).toInt - (0 : Int32).toInt).toNat + 1) 0 0 q _ _ _ (by omega) hI (by omega) (show (q 36 0).toInt = (q 36 0).toInt + ((0 : Int32)).toInt by omega) rfl hP hS (lv_sub hl [4, 5, 6, 3, 2, 1, 0] rfl)
      · have e_8 := i_nle c_7
        refine lv_iconst (v := (-1)) hx hb dX6_buy_49 (by decide) ?_
        have hF : (fX6_buy q x1 x2) = ((-1), q) := (show (fX6_buy q x1 x2) = ((-1), q) by (rw [fX6_buy, if_neg c_2, if_neg c_5, if_neg c_7]); try rfl)
        exact W.iret (v := (-1)) hx hb hr (fun t ht hW => ⟨⟨(-1), q, rfl, ⟨(p_fst hF), (p_snd hF)⟩, w_ht ht hP⟩, hS.F ht⟩) hS.2.2 dX6_buy_50
    · have e_6 := i_eq c_5
      refine lv_iconst (v := (-1)) hx hb dX6_buy_21 (by decide) ?_
      have hF : (fX6_buy q x1 x2) = ((-1), q) := (show (fX6_buy q x1 x2) = ((-1), q) by (rw [fX6_buy, if_neg c_2, if_pos c_5]); try rfl)
      exact W.iret (v := (-1)) hx hb hr (fun t ht hW => ⟨⟨(-1), q, rfl, ⟨(p_fst hF), (p_snd hF)⟩, w_ht ht hP⟩, hS.F ht⟩) hS.2.2 dX6_buy_22
