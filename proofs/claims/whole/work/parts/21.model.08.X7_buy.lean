set_option maxHeartbeats 4000000 in
set_option maxRecDepth 100000 in
theorem mX7_buy (l : Launch) (G : va_G) (cy : ClassId) (a : Nat → Nat) (sz : Nat) (q : wSt) (x1 : Int32) (x2 : Int32) (hI : iI q) : CtI l yX7_buy wsX7_buy ({ frames := 2, cells := 0, slots := 0, locals := 43 }) G cy (cM cy a) mN sz q [.ref (a 0), .int x1, .int x2] (fX7_buy q x1 x2).1 (fX7_buy q x1 x2).2 := by
  refine Met.ofW (cc := cX7_buy) (maxL := 7) (ret := (some .int)) (by decide) rfl ?_
  intro p e s m args below meth c s₁ B hml hv
  obtain ⟨rfl, hsz, hP, hK, hD0, hN⟩ := hv
  have hx := B.exec
  have hb := B.bytes
  have hr := B.returns
  have hts := atoms_spec (ws := wsX7_buy) B.pre
  have hown : s.vm.findClass RX7 = some m.cls := findClass_of_methodNamed B.named
  have hlocks := B.notSynchronized
  subst hsz
  have hD : ∀ z : wSt, va_D (wA (cM cy a) s.heap.size) ((cM cy a) z) := fun z => w_self (mOk cy a).1 hD0 z
  have hA : ∀ z : Nat, s.heap.size ≤ z → wA (cM cy a) s.heap.size z := fun _ h => Or.inr h
  have hS : va_S (wA (cM cy a) s.heap.size) s.heap s.heap [] := va_S.rf
  have hl := lv_entry ([.ref (a 0), .int x1, .int x2]) (n := 7) (Nat.le_of_ble_eq_true rfl)
  rw [lg_entry_eq]
  generalize (lg_sl ([.ref (a 0), .int x1, .int x2]) ++ List.replicate (7 - (lg_sl ([.ref (a 0), .int x1, .int x2])).length) Slot.unset).toArray = ls at hl ⊢
  have hl : lv_has ls 7 [(0, .ref (a 0)), (1, .int x1), (2, .int x2)] := hl
  have h_1 := hts (.fieldLink RX7 99 RX7 "copies" "I") (by decide +kernel)
  have h_2 := (show ∀ w ∈ u_ws RX7 TX7 35, w ∈ wsX7_buy by decide +kernel)
  have h_3 := hts (.fieldLink RX7 9 RX7 "volumes" "[I") (by decide +kernel)
  have h_4 := hts (.fieldLink RX7 73 RX7 "bargainMany" "[I") (by decide +kernel)
  have h_5 := hts (.fieldLink RX7 79 RX7 "bargainBeyond" "[I") (by decide +kernel)
  have h_6 := hts (.fieldLink RX7 76 RX7 "bargainPrice" "[I") (by decide +kernel)
  have h_7 := hts (.fieldLink RX7 13 RX7 "titleOf" "[I") (by decide +kernel)
  have h_8 := hts (.fieldLink RX7 16 RX7 "volumeOf" "[I") (by decide +kernel)
  have h_9 := hts (.fieldLink RX7 19 RX7 "costOf" "[I") (by decide +kernel)
  have h_10 := hts (.fieldLink RX7 22 RX7 "state" "[I") (by decide +kernel)
  have h_11 := hts (.fieldLink RX7 25 RX7 "readerOf" "[I") (by decide +kernel)
  have h_12 := hts (.fieldLink RX7 28 RX7 "wishOf" "[I") (by decide +kernel)
  have h_13 := hts (.fieldLink RX7 31 RX7 "since" "[I") (by decide +kernel)
  have h_14 := hts (.fieldLink RX7 119 RX7 "spent" "I") (by decide +kernel)
  have t_m1 : ((-1) : Int32).toInt = -1 := rfl
  have t_0 : (0 : Int32).toInt = 0 := rfl
  have t_1 : (1 : Int32).toInt = 1 := rfl
  have t_10 : (10 : Int32).toInt = 10 := rfl
  have t_20 : (20 : Int32).toInt = 20 := rfl
  have t_200 : (200 : Int32).toInt = 200 := rfl
  have hB := iI_b hI
  refine lv_aload_n hx hb dX7_buy_0 rfl (lv_at hl 0 rfl) ?_
  refine lv_iload_n hx hb dX7_buy_1 rfl (lv_at hl 1 rfl) ?_
  refine w_goI (va_runV (As := [.int x1]) (rest := []) ⟨hx, hb, hml, hown, hts⟩ (mX7_isTitle l G cy a _ q x1) (cwV 1 hts gX7_buy_X7_isTitle rfl rfl rfl (by decide +kernel) ⟨Nat.le_of_ble_eq_true rfl, Nat.le_of_ble_eq_true rfl⟩) (w_pre (mOk cy a) (va_recv hK hP (ci := 7) (q0 := 0) rfl rfl) hK hP hD hS hA hN) rfl rfl hl.1 rfl (lv_room (Nat.le_of_ble_eq_true rfl)) dX7_buy_2 ⟨Nat.le_of_ble_eq_true rfl, Nat.le_of_ble_eq_true rfl⟩) hD hS hA (fun H locs hP hS => ?_)
  have e_1 := tX7_isTitle q x1 (by omega)
  refine lv_if_eq (tgt := 37) hx hb dX7_buy_5 (by decide) (fun c_2 => ?_) (fun c_2 => ?_)
  · have e_3 := i_eq c_2
    refine lv_iconst (v := (-1)) hx hb dX7_buy_37 (by decide) ?_
    have hF : (fX7_buy q x1 x2) = ((-1), q) := (show (fX7_buy q x1 x2) = ((-1), q) by (rw [fX7_buy, if_pos c_2]); try rfl)
    exact W.iret (v := (-1)) hx hb hr (fun t ht hW => ⟨⟨(-1), q, rfl, ⟨(p_fst hF), (p_snd hF)⟩, w_ht ht hP⟩, hS.F ht⟩) hS.2.2 dX7_buy_38
  · have e_3 := i_ne c_2
    refine lv_iload_n hx hb dX7_buy_8 rfl (lv_at hl 2 rfl) ?_
    refine lv_iconst (v := 1) hx hb dX7_buy_9 (by decide) ?_
    refine lv_bipush (v := 20) hx hb dX7_buy_10 (by decide) ?_
    refine w_goI (va_runS (As := [.int x2, .int 1, .int 20]) (rest := []) ⟨hx, hb, hml, hown, hts⟩ (mX7_in l G cy a _ q x2 1 20) (va_cwS 3 hts gX7_buy_X7_in rfl rfl rfl (by decide +kernel) ⟨Nat.le_of_ble_eq_true rfl, Nat.le_of_ble_eq_true rfl⟩) (w_preS (mOk cy a) hK hP hD hS hA hN) rfl rfl hl.1 rfl (lv_room (Nat.le_of_ble_eq_true rfl)) dX7_buy_12 ⟨Nat.le_of_ble_eq_true rfl, Nat.le_of_ble_eq_true rfl⟩) hD hS hA (fun H locs hP hS => ?_)
    have e_4 := tX7_in q x2 1 20
    refine lv_if_eq (tgt := 37) hx hb dX7_buy_15 (by decide) (fun c_5 => ?_) (fun c_5 => ?_)
    · have e_6 := i_eq c_5
      refine lv_iconst (v := (-1)) hx hb dX7_buy_37 (by decide) ?_
      have hF : (fX7_buy q x1 x2) = ((-1), q) := (show (fX7_buy q x1 x2) = ((-1), q) by (rw [fX7_buy, if_neg c_2, if_pos c_5]); try rfl)
      exact W.iret (v := (-1)) hx hb hr (fun t ht hW => ⟨⟨(-1), q, rfl, ⟨(p_fst hF), (p_snd hF)⟩, w_ht ht hP⟩, hS.F ht⟩) hS.2.2 dX7_buy_38
    · have e_6 := i_ne c_5
      refine lv_aload_n hx hb dX7_buy_18 rfl (lv_at hl 0 rfl) ?_
      refine gfX7_99 (v := (q 36 0)) hx hb hts h_2 hown hK hP h_1 rfl dX7_buy_19 ?_
      refine lv_iload_n hx hb dX7_buy_22 rfl (lv_at hl 2 rfl) ?_
      refine lv_aload_n hx hb dX7_buy_23 rfl (lv_at hl 0 rfl) ?_
      refine gfX7_9 hx hb hts h_2 hown hK hP h_3 dX7_buy_24 ?_
      refine lv_iload_n hx hb dX7_buy_27 rfl (lv_at hl 1 rfl) ?_
      have v_7 : vp_in x1 12 := vp_in_iff.mpr (by omega)
      refine ldM_0 (f := (q 0)) hx hb hK hP rfl v_7 dX7_buy_28 ?_
      have e_8 := iI_0 hI _ (i_clamp v_7)
      refine lv_imul hx hb dX7_buy_29 ?_
      have e_91 := t_bought x2 (q 0 (x1).toNatClampNeg) (by omega) (by omega)
      refine lv_iadd hx hb dX7_buy_30 ?_
      have e_92 : ((q 36 0) + (x2 * (q 0 (x1).toNatClampNeg))).toInt = (q 36 0).toInt + (x2 * (q 0 (x1).toNatClampNeg)).toInt := i_add (by omega)
      refine lv_sipush (v := 200) hx hb dX7_buy_31 (by decide) ?_
      refine lv_icmp_le (tgt := 39) hx hb dX7_buy_34 (by decide) (fun c_9 => ?_) (fun c_9 => ?_)
      · have e_10 := i_le c_9
        refine lv_aload_n hx hb dX7_buy_39 rfl (lv_at hl 0 rfl) ?_
        refine lv_iload_n hx hb dX7_buy_40 rfl (lv_at hl 1 rfl) ?_
        refine w_goI (va_runV (As := [.int x1]) (rest := []) ⟨hx, hb, hml, hown, hts⟩ (mX7_bargainOf l G cy a _ q x1 (by omega)) (cwV 1 hts gX7_buy_X7_bargainOf rfl rfl rfl (by decide +kernel) ⟨Nat.le_of_ble_eq_true rfl, Nat.le_of_ble_eq_true rfl⟩) (w_pre (mOk cy a) (va_recv hK hP (ci := 7) (q0 := 0) rfl rfl) hK hP hD hS hA hN) rfl rfl hl.1 rfl (lv_room (Nat.le_of_ble_eq_true rfl)) dX7_buy_41 ⟨Nat.le_of_ble_eq_true rfl, Nat.le_of_ble_eq_true rfl⟩) hD hS hA (fun H locs hP hS => ?_)
        have e_11 := tX7_bargainOf q x1
        refine lv_istore_n (lv' := [(3, .int (fX7_bargainOf q x1)), (0, .ref (a 0)), (1, .int x1), (2, .int x2)]) hx hb dX7_buy_44 rfl hl (by decide) rfl (fun ls hl => ?_)
        refine lv_iconst (v := 0) hx hb dX7_buy_45 (by decide) ?_
        refine lv_istore (lv' := [(4, .int 0), (3, .int (fX7_bargainOf q x1)), (0, .ref (a 0)), (1, .int x1), (2, .int x2)]) hx hb dX7_buy_46 hl (by decide) rfl (fun ls hl => ?_)
        refine lv_iconst (v := 0) hx hb dX7_buy_48 (by decide) ?_
        refine lv_istore (lv' := [(5, .int 0), (4, .int 0), (3, .int (fX7_bargainOf q x1)), (0, .ref (a 0)), (1, .int x1), (2, .int x2)]) hx hb dX7_buy_49 hl (by decide) rfl (fun ls hl => ?_)
        have K_1 : ∀ (v1 : Int32) (v2 : wSt) (H : Heap) (ls : Array Slot) (locs : List Loc), (lX7_buy_1 q x1 x2 (((x2 * ((q 0) (x1).toNatClampNeg)).toInt - (0 : Int32).toInt).toNat + 1) 0 0 q) = (v1, v2) → va_P G vwCl ((cM cy a) v2) H → va_S (wA (cM cy a) s.heap.size) s.heap H locs → lv_has ls 7 [(0, .ref (a 0)), (4, .int v1)] → W p l e ({ frames := 2, cells := 0, slots := 0, locals := 43 }) s m [.ref (a 0), .int x1, .int x2].toArray below meth c H locs 0 0 (MQ below (wQi G (cM cy a) s.heap.size (fX7_buy q x1 x2).1 (fX7_buy q x1 x2).2) [.ref (a 0), .int x1, .int x2].toArray s 0 0 (wA (cM cy a) s.heap.size)) (F0 m 199 ls []) := by
          intro v1 v2 H ls locs hv hP hS hl
          obtain ⟨rfl, rfl⟩ := pr_2 hv
          refine lv_aload_n hx hb dX7_buy_199 rfl (lv_at hl 0 rfl) ?_
          refine lv_dup hx hb dX7_buy_200 rfl ?_
          refine gfX7_119 (v := ((lX7_buy_1 q x1 x2 (((x2 * ((q 0) (x1).toNatClampNeg)).toInt - (0 : Int32).toInt).toNat + 1) 0 0 q).2 31 0)) hx hb hts h_2 hown hK hP h_14 rfl dX7_buy_201 ?_
          refine lv_iload hx hb dX7_buy_204 (lv_at hl 1 rfl) ?_
          refine lv_iadd hx hb dX7_buy_206 ?_
          refine pfX7_119 hx hb hts h_2 hown hK hP hD hS h_14 dX7_buy_207 (fun H locs hP hS => ?_)
          refine lv_iload hx hb dX7_buy_210 (lv_at hl 1 rfl) ?_
          have hF : (fX7_buy q x1 x2) = ((lX7_buy_1 q x1 x2 (((x2 * ((q 0) (x1).toNatClampNeg)).toInt - (0 : Int32).toInt).toNat + 1) 0 0 q).1, (rset (lX7_buy_1 q x1 x2 (((x2 * ((q 0) (x1).toNatClampNeg)).toInt - (0 : Int32).toInt).toNat + 1) 0 0 q).2 31 (fun _ => (((lX7_buy_1 q x1 x2 (((x2 * ((q 0) (x1).toNatClampNeg)).toInt - (0 : Int32).toInt).toNat + 1) 0 0 q).2 31 0) + (lX7_buy_1 q x1 x2 (((x2 * ((q 0) (x1).toNatClampNeg)).toInt - (0 : Int32).toInt).toNat + 1) 0 0 q).1)))) := (show (fX7_buy q x1 x2) = ((lX7_buy_1 q x1 x2 (((x2 * ((q 0) (x1).toNatClampNeg)).toInt - (0 : Int32).toInt).toNat + 1) 0 0 q).1, (rset (lX7_buy_1 q x1 x2 (((x2 * ((q 0) (x1).toNatClampNeg)).toInt - (0 : Int32).toInt).toNat + 1) 0 0 q).2 31 (fun _ => (((lX7_buy_1 q x1 x2 (((x2 * ((q 0) (x1).toNatClampNeg)).toInt - (0 : Int32).toInt).toNat + 1) 0 0 q).2 31 0) + (lX7_buy_1 q x1 x2 (((x2 * ((q 0) (x1).toNatClampNeg)).toInt - (0 : Int32).toInt).toNat + 1) 0 0 q).1)))) by (rw [fX7_buy, if_neg c_2, if_neg c_5, if_pos c_9]); try rfl)
          exact W.iret (v := (lX7_buy_1 q x1 x2 (((x2 * ((q 0) (x1).toNatClampNeg)).toInt - (0 : Int32).toInt).toNat + 1) 0 0 q).1) hx hb hr (fun t ht hW => ⟨⟨(lX7_buy_1 q x1 x2 (((x2 * ((q 0) (x1).toNatClampNeg)).toInt - (0 : Int32).toInt).toNat + 1) 0 0 q).1, (rset (lX7_buy_1 q x1 x2 (((x2 * ((q 0) (x1).toNatClampNeg)).toInt - (0 : Int32).toInt).toNat + 1) 0 0 q).2 31 (fun _ => (((lX7_buy_1 q x1 x2 (((x2 * ((q 0) (x1).toNatClampNeg)).toInt - (0 : Int32).toInt).toNat + 1) 0 0 q).2 31 0) + (lX7_buy_1 q x1 x2 (((x2 * ((q 0) (x1).toNatClampNeg)).toInt - (0 : Int32).toInt).toNat + 1) 0 0 q).1))), rfl, ⟨(p_fst hF), (p_snd hF)⟩, w_ht ht hP⟩, hS.F ht⟩) hS.2.2 dX7_buy_212
        have L_1 : ∀ (n : Nat) (y4_1 : Int32) (y5_1 : Int32) (p1 : wSt) (H : Heap) (ls : Array Slot) (locs : List Loc), ((x2 * ((q 0) (x1).toNatClampNeg)).toInt - (y5_1).toInt).toNat < n → p1 0 = (q 0) → (0 ≤ (y5_1).toInt) → ((p1 36 0).toInt = (q 36 0).toInt + (y5_1).toInt) → lX7_buy_1 q x1 x2 n y4_1 y5_1 p1 = (lX7_buy_1 q x1 x2 (((x2 * ((q 0) (x1).toNatClampNeg)).toInt - (0 : Int32).toInt).toNat + 1) 0 0 q) → va_P G vwCl ((cM cy a) p1) H → va_S (wA (cM cy a) s.heap.size) s.heap H locs → lv_has ls 7 [(0, .ref (a 0)), (1, .int x1), (2, .int x2), (3, .int (fX7_bargainOf q x1)), (4, .int y4_1), (5, .int y5_1)] → W p l e ({ frames := 2, cells := 0, slots := 0, locals := 43 }) s m [.ref (a 0), .int x1, .int x2].toArray below meth c H locs 0 0 (MQ below (wQi G (cM cy a) s.heap.size (fX7_buy q x1 x2).1 (fX7_buy q x1 x2).2) [.ref (a 0), .int x1, .int x2].toArray s 0 0 (wA (cM cy a) s.heap.size)) (F0 m 51 ls []) := by
          intro n
          induction n with
          | zero => intro y4_1 y5_1 p1 H ls locs hm; exact absurd hm (Nat.not_lt_zero _)
          | succ n ih =>
            intro y4_1 y5_1 p1 H ls locs hm_1 hc0_1 i0_1 ic_1 he_1 hP hS hl
            have e_49 : (x2 * (p1 0 (x1).toNatClampNeg)).toInt = (x2 * ((q 0) (x1).toNatClampNeg)).toInt := by rw [hc0_1]
            refine lv_iload hx hb dX7_buy_51 (lv_at hl 5 rfl) ?_
            refine lv_iload_n hx hb dX7_buy_53 rfl (lv_at hl 2 rfl) ?_
            refine lv_aload_n hx hb dX7_buy_54 rfl (lv_at hl 0 rfl) ?_
            refine gfX7_9 hx hb hts h_2 hown hK hP h_3 dX7_buy_55 ?_
            refine lv_iload_n hx hb dX7_buy_58 rfl (lv_at hl 1 rfl) ?_
            have v_31 : vp_in x1 12 := vp_in_iff.mpr (by omega)
            refine ldM_0 (f := (p1 0)) hx hb hK hP rfl v_31 dX7_buy_59 ?_
            refine lv_imul hx hb dX7_buy_60 ?_
            refine lv_icmp_ge (tgt := 199) hx hb dX7_buy_61 (by decide) (fun c_32 => ?_) (fun c_32 => ?_)
            · have e_33 := i_le c_32
              exact K_1 y4_1 p1 _ _ _ (Eq.trans (Eq.symm he_1) (by (rw [lX7_buy_1_s, if_pos c_32]); try rfl)) hP hS (lv_sub hl [0, 4] rfl)
            · have e_33 := i_nle c_32
              refine lv_iload_n hx hb dX7_buy_64 rfl (lv_at hl 3 rfl) ?_
              refine lv_iconst (v := (-1)) hx hb dX7_buy_65 (by decide) ?_
              have J_2 : ∀ (v1 : Int32) (H : Heap) (ls : Array Slot) (locs : List Loc), (fX7_buy_j2 q x1 x2 y4_1 y5_1 p1) = v1 → va_P G vwCl ((cM cy a) p1) H → va_S (wA (cM cy a) s.heap.size) s.heap H locs → lv_has ls 7 [(0, .ref (a 0)), (1, .int x1), (2, .int x2), (3, .int (fX7_bargainOf q x1)), (4, .int y4_1), (5, .int y5_1)] → W p l e ({ frames := 2, cells := 0, slots := 0, locals := 43 }) s m [.ref (a 0), .int x1, .int x2].toArray below meth c H locs 0 0 (MQ below (wQi G (cM cy a) s.heap.size (fX7_buy q x1 x2).1 (fX7_buy q x1 x2).2) [.ref (a 0), .int x1, .int x2].toArray s 0 0 (wA (cM cy a) s.heap.size)) (F0 m 100 ls [.int v1]) := by
                intro v1 H ls locs hv hP hS hl
                subst hv
                refine lv_istore (lv' := [(6, .int (fX7_buy_j2 q x1 x2 y4_1 y5_1 p1)), (0, .ref (a 0)), (1, .int x1), (2, .int x2), (3, .int (fX7_bargainOf q x1)), (4, .int y4_1), (5, .int y5_1)]) hx hb dX7_buy_100 hl (by decide) rfl (fun ls hl => ?_)
                refine lv_aload_n hx hb dX7_buy_102 rfl (lv_at hl 1 rfl) ?_
                refine gfX7_13 hx hb hts h_2 hown hK hP h_7 dX7_buy_103 ?_
                refine lv_aload_n hx hb dX7_buy_106 rfl (lv_at hl 1 rfl) ?_
                refine gfX7_99 (v := (p1 36 0)) hx hb hts h_2 hown hK hP h_1 rfl dX7_buy_107 ?_
                refine lv_iload_n hx hb dX7_buy_110 rfl (lv_at hl 2 rfl) ?_
                have v_41 : vp_in (p1 36 0) 200 := vp_in_iff.mpr (by omega)
                refine stM_7 (f := (p1 7)) hx hb hK hP hD hS rfl v_41 dX7_buy_111 (fun H locs hP hS => ?_)
                refine lv_aload_n hx hb dX7_buy_112 rfl (lv_at hl 1 rfl) ?_
                refine gfX7_16 hx hb hts h_2 hown hK hP h_8 dX7_buy_113 ?_
                refine lv_aload_n hx hb dX7_buy_116 rfl (lv_at hl 1 rfl) ?_
                refine gfX7_99 (v := (p1 36 0)) hx hb hts h_2 hown hK hP h_1 (congrFun (rset_ne (by decide)) 0) dX7_buy_117 ?_
                refine lv_iload hx hb dX7_buy_120 (lv_at hl 6 rfl) ?_
                refine lv_iload_n hx hb dX7_buy_122 rfl (lv_at hl 3 rfl) ?_
                refine lv_idiv hx hb dX7_buy_123 (by intro hz; have := i_eq hz; omega) ?_
                have v_42 : vp_in (p1 36 0) 200 := vp_in_iff.mpr (by omega)
                refine stM_8 (f := (p1 8)) hx hb hK hP hD hS (rset_ne (by decide)) v_42 dX7_buy_124 (fun H locs hP hS => ?_)
                refine lv_aload_n hx hb dX7_buy_125 rfl (lv_at hl 1 rfl) ?_
                refine gfX7_19 hx hb hts h_2 hown hK hP h_9 dX7_buy_126 ?_
                refine lv_aload_n hx hb dX7_buy_129 rfl (lv_at hl 1 rfl) ?_
                refine gfX7_99 (v := (p1 36 0)) hx hb hts h_2 hown hK hP h_1 (congrFun ((rset_ne (by decide)).trans (rset_ne (by decide))) 0) dX7_buy_130 ?_
                refine lv_iload hx hb dX7_buy_133 (lv_at hl 0 rfl) ?_
                have v_43 : vp_in (p1 36 0) 200 := vp_in_iff.mpr (by omega)
                refine stM_9 (f := (p1 9)) hx hb hK hP hD hS ((rset_ne (by decide)).trans (rset_ne (by decide))) v_43 dX7_buy_135 (fun H locs hP hS => ?_)
                refine lv_aload_n hx hb dX7_buy_136 rfl (lv_at hl 1 rfl) ?_
                refine gfX7_22 hx hb hts h_2 hown hK hP h_10 dX7_buy_137 ?_
                refine lv_aload_n hx hb dX7_buy_140 rfl (lv_at hl 1 rfl) ?_
                refine gfX7_99 (v := (p1 36 0)) hx hb hts h_2 hown hK hP h_1 (congrFun ((rset_ne (by decide)).trans ((rset_ne (by decide)).trans (rset_ne (by decide)))) 0) dX7_buy_141 ?_
                refine lv_iconst (v := 0) hx hb dX7_buy_144 (by decide) ?_
                have v_44 : vp_in (p1 36 0) 200 := vp_in_iff.mpr (by omega)
                refine stM_6 (f := (p1 6)) hx hb hK hP hD hS ((rset_ne (by decide)).trans ((rset_ne (by decide)).trans (rset_ne (by decide)))) v_44 dX7_buy_145 (fun H locs hP hS => ?_)
                refine lv_aload_n hx hb dX7_buy_146 rfl (lv_at hl 1 rfl) ?_
                refine gfX7_25 hx hb hts h_2 hown hK hP h_11 dX7_buy_147 ?_
                refine lv_aload_n hx hb dX7_buy_150 rfl (lv_at hl 1 rfl) ?_
                refine gfX7_99 (v := (p1 36 0)) hx hb hts h_2 hown hK hP h_1 (congrFun ((rset_ne (by decide)).trans ((rset_ne (by decide)).trans ((rset_ne (by decide)).trans (rset_ne (by decide))))) 0) dX7_buy_151 ?_
                refine lv_iconst (v := (-1)) hx hb dX7_buy_154 (by decide) ?_
                have v_45 : vp_in (p1 36 0) 200 := vp_in_iff.mpr (by omega)
                refine stM_10 (f := (p1 10)) hx hb hK hP hD hS ((rset_ne (by decide)).trans ((rset_ne (by decide)).trans ((rset_ne (by decide)).trans (rset_ne (by decide))))) v_45 dX7_buy_155 (fun H locs hP hS => ?_)
                refine lv_aload_n hx hb dX7_buy_156 rfl (lv_at hl 1 rfl) ?_
                refine gfX7_28 hx hb hts h_2 hown hK hP h_12 dX7_buy_157 ?_
                refine lv_aload_n hx hb dX7_buy_160 rfl (lv_at hl 1 rfl) ?_
                refine gfX7_99 (v := (p1 36 0)) hx hb hts h_2 hown hK hP h_1 (congrFun ((rset_ne (by decide)).trans ((rset_ne (by decide)).trans ((rset_ne (by decide)).trans ((rset_ne (by decide)).trans (rset_ne (by decide)))))) 0) dX7_buy_161 ?_
                refine lv_iconst (v := (-1)) hx hb dX7_buy_164 (by decide) ?_
                have v_46 : vp_in (p1 36 0) 200 := vp_in_iff.mpr (by omega)
                refine stM_11 (f := (p1 11)) hx hb hK hP hD hS ((rset_ne (by decide)).trans ((rset_ne (by decide)).trans ((rset_ne (by decide)).trans ((rset_ne (by decide)).trans (rset_ne (by decide)))))) v_46 dX7_buy_165 (fun H locs hP hS => ?_)
                refine lv_aload_n hx hb dX7_buy_166 rfl (lv_at hl 1 rfl) ?_
                refine gfX7_31 hx hb hts h_2 hown hK hP h_13 dX7_buy_167 ?_
                refine lv_aload_n hx hb dX7_buy_170 rfl (lv_at hl 1 rfl) ?_
                refine gfX7_99 (v := (p1 36 0)) hx hb hts h_2 hown hK hP h_1 (congrFun ((rset_ne (by decide)).trans ((rset_ne (by decide)).trans ((rset_ne (by decide)).trans ((rset_ne (by decide)).trans ((rset_ne (by decide)).trans (rset_ne (by decide))))))) 0) dX7_buy_171 ?_
                refine lv_iconst (v := (-1)) hx hb dX7_buy_174 (by decide) ?_
                have v_47 : vp_in (p1 36 0) 200 := vp_in_iff.mpr (by omega)
                refine stM_12 (f := (p1 12)) hx hb hK hP hD hS ((rset_ne (by decide)).trans ((rset_ne (by decide)).trans ((rset_ne (by decide)).trans ((rset_ne (by decide)).trans ((rset_ne (by decide)).trans (rset_ne (by decide))))))) v_47 dX7_buy_175 (fun H locs hP hS => ?_)
                refine lv_aload_n hx hb dX7_buy_176 rfl (lv_at hl 1 rfl) ?_
                refine lv_dup hx hb dX7_buy_177 rfl ?_
                refine gfX7_99 (v := (p1 36 0)) hx hb hts h_2 hown hK hP h_1 (congrFun ((rset_ne (by decide)).trans ((rset_ne (by decide)).trans ((rset_ne (by decide)).trans ((rset_ne (by decide)).trans ((rset_ne (by decide)).trans ((rset_ne (by decide)).trans (rset_ne (by decide)))))))) 0) dX7_buy_178 ?_
                refine lv_iconst (v := 1) hx hb dX7_buy_181 (by decide) ?_
                refine lv_iadd hx hb dX7_buy_182 ?_
                have e_93 : ((p1 36 0) + 1).toInt = (p1 36 0).toInt + 1 := i_inc (by omega)
                refine pfX7_99 hx hb hts h_2 hown hK hP hD hS h_1 dX7_buy_183 (fun H locs hP hS => ?_)
                refine lv_iload hx hb dX7_buy_186 (lv_at hl 5 rfl) ?_
                refine lv_iload hx hb dX7_buy_188 (lv_at hl 0 rfl) ?_
                refine lv_iadd hx hb dX7_buy_190 ?_
                refine lv_istore (lv' := [(4, .int (y4_1 + (fX7_buy_j2 q x1 x2 y4_1 y5_1 p1))), (6, .int (fX7_buy_j2 q x1 x2 y4_1 y5_1 p1)), (0, .ref (a 0)), (1, .int x1), (2, .int x2), (3, .int (fX7_bargainOf q x1)), (5, .int y5_1)]) hx hb dX7_buy_191 hl (by decide) rfl (fun ls hl => ?_)
                refine lv_iinc (v := (y5_1 + 1)) (lv' := [(5, .int (y5_1 + 1)), (4, .int (y4_1 + (fX7_buy_j2 q x1 x2 y4_1 y5_1 p1))), (6, .int (fX7_buy_j2 q x1 x2 y4_1 y5_1 p1)), (0, .ref (a 0)), (1, .int x1), (2, .int x2), (3, .int (fX7_bargainOf q x1))]) hx hb dX7_buy_193 hl (k := 6) rfl rfl (by decide) rfl (fun ls hl => ?_)
                have e_48 : (y5_1 + 1).toInt = (y5_1).toInt + 1 := i_inc (by have := i_rng y5_1; have := i_rng (x2 * (p1 0 (x1).toNatClampNeg)); omega)
                refine lv_goto (tgt := 51) hx hb dX7_buy_196 (by decide) ?_
                exact ih (y4_1 + (fX7_buy_j2 q x1 x2 y4_1 y5_1 p1)) (y5_1 + 1) (rset (rset (rset (rset (rset (rset (rset (rset p1 7 (upd (p1 7) (p1 36 0).toNatClampNeg x1)) 8 (upd (p1 8) (p1 36 0).toNatClampNeg (y5_1 / x2))) 9 (upd (p1 9) (p1 36 0).toNatClampNeg (fX7_buy_j2 q x1 x2 y4_1 y5_1 p1))) 6 (upd (p1 6) (p1 36 0).toNatClampNeg 0)) 10 (upd (p1 10) (p1 36 0).toNatClampNeg (-1))) 11 (upd (p1 11) (p1 36 0).toNatClampNeg (-1))) 12 (upd (p1 12) (p1 36 0).toNatClampNeg (-1))) 36 (fun _ => ((p1 36 0) + 1))) _ _ _ (by omega) (((rset_ne (by decide)).trans ((rset_ne (by decide)).trans ((rset_ne (by decide)).trans ((rset_ne (by decide)).trans ((rset_ne (by decide)).trans ((rset_ne (by decide)).trans ((rset_ne (by decide)).trans (rset_ne (by decide))))))))).trans hc0_1) (by first | omega | assumption) (show ((p1 36 0) + 1).toInt = (q 36 0).toInt + ((y5_1 + 1)).toInt by first | omega | assumption) (Eq.trans (Eq.symm (by (rw [lX7_buy_1_s, if_neg c_32]); try rfl)) he_1) hP hS (lv_sub hl [3, 4, 5, 6, 1, 0] rfl)
              refine lv_icmp_ne (tgt := 74) hx hb dX7_buy_66 (by decide) (fun c_34 => ?_) (fun c_34 => ?_)
              · have e_35 := i_ne c_34
                refine lv_iload hx hb dX7_buy_74 (lv_at hl 5 rfl) ?_
                refine lv_aload_n hx hb dX7_buy_76 rfl (lv_at hl 0 rfl) ?_
                refine gfX7_73 hx hb hts h_2 hown hK hP h_4 dX7_buy_77 ?_
                refine lv_iload_n hx hb dX7_buy_80 rfl (lv_at hl 3 rfl) ?_
                have v_36 : vp_in (fX7_bargainOf q x1) 40 := vp_in_iff.mpr (by omega)
                refine ldM_3 (f := (p1 3)) hx hb hK hP rfl v_36 dX7_buy_81 ?_
                refine lv_icmp_ge (tgt := 94) hx hb dX7_buy_82 (by decide) (fun c_37 => ?_) (fun c_37 => ?_)
                · have e_38 := i_le c_37
                  refine lv_aload_n hx hb dX7_buy_94 rfl (lv_at hl 0 rfl) ?_
                  refine gfX7_79 hx hb hts h_2 hown hK hP h_5 dX7_buy_95 ?_
                  refine lv_iload_n hx hb dX7_buy_98 rfl (lv_at hl 3 rfl) ?_
                  have v_39 : vp_in (fX7_bargainOf q x1) 40 := vp_in_iff.mpr (by omega)
                  refine ldM_5 (f := (p1 5)) hx hb hK hP rfl v_39 dX7_buy_99 ?_
                  exact J_2 (p1 5 (fX7_bargainOf q x1).toNatClampNeg) _ _ _ (by (rw [fX7_buy_j2, if_neg c_34, if_pos c_37]); try rfl) hP hS (lv_sub hl [0, 1, 2, 3, 4, 5] rfl)
                · have e_38 := i_nle c_37
                  refine lv_aload_n hx hb dX7_buy_85 rfl (lv_at hl 0 rfl) ?_
                  refine gfX7_76 hx hb hts h_2 hown hK hP h_6 dX7_buy_86 ?_
                  refine lv_iload_n hx hb dX7_buy_89 rfl (lv_at hl 3 rfl) ?_
                  have v_40 : vp_in (fX7_bargainOf q x1) 40 := vp_in_iff.mpr (by omega)
                  refine ldM_4 (f := (p1 4)) hx hb hK hP rfl v_40 dX7_buy_90 ?_
                  refine lv_goto (tgt := 100) hx hb dX7_buy_91 (by decide) ?_
                  exact J_2 (p1 4 (fX7_bargainOf q x1).toNatClampNeg) _ _ _ (by (rw [fX7_buy_j2, if_neg c_34, if_neg c_37]); try rfl) hP hS (lv_sub hl [0, 1, 2, 3, 4, 5] rfl)
              · have e_35 := i_eq c_34
                refine lv_bipush (v := 10) hx hb dX7_buy_69 (by decide) ?_
                refine lv_goto (tgt := 100) hx hb dX7_buy_71 (by decide) ?_
                exact J_2 10 _ _ _ (by (rw [fX7_buy_j2, if_pos c_34]); try rfl) hP hS (lv_sub hl [0, 1, 2, 3, 4, 5] rfl)
        exact L_1 (((x2 * ((q 0) (x1).toNatClampNeg)).toInt - (0 : Int32).toInt).toNat + 1) 0 0 q _ _ _ (by omega) rfl (by omega) (show (q 36 0).toInt = (q 36 0).toInt + ((0 : Int32)).toInt by omega) rfl hP hS (lv_sub hl [3, 4, 5, 2, 1, 0] rfl)
      · have e_10 := i_nle c_9
        refine lv_iconst (v := (-1)) hx hb dX7_buy_37 (by decide) ?_
        have hF : (fX7_buy q x1 x2) = ((-1), q) := (show (fX7_buy q x1 x2) = ((-1), q) by (rw [fX7_buy, if_neg c_2, if_neg c_5, if_neg c_9]); try rfl)
        exact W.iret (v := (-1)) hx hb hr (fun t ht hW => ⟨⟨(-1), q, rfl, ⟨(p_fst hF), (p_snd hF)⟩, w_ht ht hP⟩, hS.F ht⟩) hS.2.2 dX7_buy_38
