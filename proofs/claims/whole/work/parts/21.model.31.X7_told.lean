set_option maxHeartbeats 4000000 in
set_option maxRecDepth 100000 in
theorem mX7_told (l : Launch) (G : va_G) (cy : ClassId) (a : Nat → Nat) (sz : Nat) (q : wSt) (x1 : Int32) (x2 : Int32) (hI : iI q) : CtI l yX7_told wsX7_told ({ frames := 2, cells := 0, slots := 0, locals := 43 }) G cy (cM cy a) mN sz q [.ref (a 0), .int x1, .int x2] (fX7_told q x1 x2) q := by
  refine Met.ofW (cc := cX7_told) (maxL := 5) (ret := (some .int)) (by decide) rfl ?_
  intro p e s m args below meth c s₁ B hml hv
  obtain ⟨rfl, hsz, hP, hK, hD0, hN⟩ := hv
  have hx := B.exec
  have hb := B.bytes
  have hr := B.returns
  have hts := atoms_spec (ws := wsX7_told) B.pre
  have hown : s.vm.findClass RX7 = some m.cls := findClass_of_methodNamed B.named
  have hlocks := B.notSynchronized
  subst hsz
  have hD : ∀ z : wSt, va_D (wA (cM cy a) s.heap.size) ((cM cy a) z) := fun z => w_self (mOk cy a).1 hD0 z
  have hA : ∀ z : Nat, s.heap.size ≤ z → wA (cM cy a) s.heap.size z := fun _ h => Or.inr h
  have hS : va_S (wA (cM cy a) s.heap.size) s.heap s.heap [] := va_S.rf
  have hl := lv_entry ([.ref (a 0), .int x1, .int x2]) (n := 5) (Nat.le_of_ble_eq_true rfl)
  rw [lg_entry_eq]
  generalize (lg_sl ([.ref (a 0), .int x1, .int x2]) ++ List.replicate (5 - (lg_sl ([.ref (a 0), .int x1, .int x2])).length) Slot.unset).toArray = ls at hl ⊢
  have hl : lv_has ls 5 [(0, .ref (a 0)), (1, .int x1), (2, .int x2)] := hl
  have h_1 := hts (.fieldLink RX7 40 RX7 "rank" "[I") (by decide +kernel)
  have h_2 := (show ∀ w ∈ u_ws RX7 TX7 35, w ∈ wsX7_told by decide +kernel)
  have h_3 := hts (.fieldLink RX7 49 RX7 "owed" "[I") (by decide +kernel)
  have h_4 := hts (.fieldLink RX7 102 RX7 "wishes" "I") (by decide +kernel)
  have h_5 := hts (.fieldLink RX7 52 RX7 "wisher" "[I") (by decide +kernel)
  have h_6 := hts (.fieldLink RX7 58 RX7 "wishState" "[I") (by decide +kernel)
  have h_7 := hts (.fieldLink RX7 46 RX7 "last" "[I") (by decide +kernel)
  have t_m1 : ((-1) : Int32).toInt = -1 := rfl
  have t_0 : (0 : Int32).toInt = 0 := rfl
  have t_1 : (1 : Int32).toInt = 1 := rfl
  have t_2 : (2 : Int32).toInt = 2 := rfl
  have t_3 : (3 : Int32).toInt = 3 := rfl
  have t_4 : (4 : Int32).toInt = 4 := rfl
  have t_5 : (5 : Int32).toInt = 5 := rfl
  have hB := iI_b hI
  refine lv_aload_n hx hb dX7_told_0 rfl (lv_at hl 0 rfl) ?_
  refine lv_iload_n hx hb dX7_told_1 rfl (lv_at hl 1 rfl) ?_
  refine w_goI (va_runV (As := [.int x1]) (rest := []) ⟨hx, hb, hml, hown, hts⟩ (mX7_isReader l G cy a _ q x1) (cwV 1 hts gX7_told_X7_isReader rfl rfl rfl (by decide +kernel) ⟨Nat.le_of_ble_eq_true rfl, Nat.le_of_ble_eq_true rfl⟩) (w_pre (mOk cy a) (va_recv hK hP (ci := 7) (q0 := 0) rfl rfl) hK hP hD hS hA hN) rfl rfl hl.1 rfl (lv_room (Nat.le_of_ble_eq_true rfl)) dX7_told_2 ⟨Nat.le_of_ble_eq_true rfl, Nat.le_of_ble_eq_true rfl⟩) hD hS hA (fun H locs hP hS => ?_)
  have e_1 := tX7_isReader q x1 (by omega)
  refine lv_if_ne (tgt := 10) hx hb dX7_told_5 (by decide) (fun c_2 => ?_) (fun c_2 => ?_)
  · have e_3 := i_ne c_2
    refine lv_iconst (v := 0) hx hb dX7_told_10 (by decide) ?_
    refine lv_istore_n (lv' := [(3, .int 0), (0, .ref (a 0)), (1, .int x1), (2, .int x2)]) hx hb dX7_told_11 rfl hl (by decide) rfl (fun ls hl => ?_)
    refine lv_iload_n hx hb dX7_told_12 rfl (lv_at hl 3 rfl) ?_
    refine dite (x2 = 0) (fun c_4 => ?_) (fun c_4 => ?_)
    · refine lv_tableIn (off := 39) (tgt := 52) hx hb dX7_told_13 (by rw [c_4]; decide) (by rw [c_4]; decide) (by rw [c_4]; decide) (by decide) ?_
      refine lv_aload_n hx hb dX7_told_52 rfl (lv_at hl 1 rfl) ?_
      refine gfX7_40 hx hb hts h_2 hown hK hP h_1 dX7_told_53 ?_
      refine lv_iload_n hx hb dX7_told_56 rfl (lv_at hl 2 rfl) ?_
      have v_5 : vp_in x1 20 := vp_in_iff.mpr (by omega)
      refine ldM_16 (f := (q 16)) hx hb hK hP rfl v_5 dX7_told_57 ?_
      have e_6 := iI_16 hI _ (i_clamp v_5)
      exact W.iret (v := (q 16 (x1).toNatClampNeg)) hx hb hr (fun t ht hW => ⟨⟨(q 16 (x1).toNatClampNeg), q, rfl, ⟨(show (fX7_told q x1 x2) = (q 16 (x1).toNatClampNeg) by (rw [fX7_told, if_neg c_2, if_pos c_4]); try rfl).symm, rfl⟩, w_ht ht hP⟩, hS.F ht⟩) hS.2.2 dX7_told_58
    · have e_24 := i_ne c_4
      refine dite (x2 = 1) (fun c_7 => ?_) (fun c_7 => ?_)
      · refine lv_tableIn (off := 46) (tgt := 59) hx hb dX7_told_13 (by rw [c_7]; decide) (by rw [c_7]; decide) (by rw [c_7]; decide) (by decide) ?_
        refine lv_aload_n hx hb dX7_told_59 rfl (lv_at hl 1 rfl) ?_
        refine lv_iload_n hx hb dX7_told_60 rfl (lv_at hl 2 rfl) ?_
        refine lv_iconst (v := 1) hx hb dX7_told_61 (by decide) ?_
        refine w_goI (va_runV (As := [.int x1, .int 1]) (rest := []) ⟨hx, hb, hml, hown, hts⟩ (mX7_holds l G cy a _ q x1 1 (by omega)) (cwV 2 hts gX7_told_X7_holds rfl rfl rfl (by decide +kernel) ⟨Nat.le_of_ble_eq_true rfl, Nat.le_of_ble_eq_true rfl⟩) (w_pre (mOk cy a) (va_recv hK hP (ci := 7) (q0 := 0) rfl rfl) hK hP hD hS hA hN) rfl rfl hl.1 rfl (lv_room (Nat.le_of_ble_eq_true rfl)) dX7_told_62 ⟨Nat.le_of_ble_eq_true rfl, Nat.le_of_ble_eq_true rfl⟩) hD hS hA (fun H locs hP hS => ?_)
        exact W.iret (v := (fX7_holds q x1 1)) hx hb hr (fun t ht hW => ⟨⟨(fX7_holds q x1 1), q, rfl, ⟨(show (fX7_told q x1 x2) = (fX7_holds q x1 1) by (rw [fX7_told, if_neg c_2, if_neg c_4, if_pos c_7]); try rfl).symm, rfl⟩, w_ht ht hP⟩, hS.F ht⟩) hS.2.2 dX7_told_65
      · have e_25 := i_ne c_7
        refine dite (x2 = 2) (fun c_8 => ?_) (fun c_8 => ?_)
        · refine lv_tableIn (off := 53) (tgt := 66) hx hb dX7_told_13 (by rw [c_8]; decide) (by rw [c_8]; decide) (by rw [c_8]; decide) (by decide) ?_
          refine lv_aload_n hx hb dX7_told_66 rfl (lv_at hl 1 rfl) ?_
          refine lv_iload_n hx hb dX7_told_67 rfl (lv_at hl 2 rfl) ?_
          refine lv_iconst (v := 2) hx hb dX7_told_68 (by decide) ?_
          refine w_goI (va_runV (As := [.int x1, .int 2]) (rest := []) ⟨hx, hb, hml, hown, hts⟩ (mX7_holds l G cy a _ q x1 2 (by omega)) (cwV 2 hts gX7_told_X7_holds rfl rfl rfl (by decide +kernel) ⟨Nat.le_of_ble_eq_true rfl, Nat.le_of_ble_eq_true rfl⟩) (w_pre (mOk cy a) (va_recv hK hP (ci := 7) (q0 := 0) rfl rfl) hK hP hD hS hA hN) rfl rfl hl.1 rfl (lv_room (Nat.le_of_ble_eq_true rfl)) dX7_told_69 ⟨Nat.le_of_ble_eq_true rfl, Nat.le_of_ble_eq_true rfl⟩) hD hS hA (fun H locs hP hS => ?_)
          refine lv_aload_n hx hb dX7_told_72 rfl (lv_at hl 1 rfl) ?_
          refine lv_iload_n hx hb dX7_told_73 rfl (lv_at hl 2 rfl) ?_
          refine lv_iconst (v := 3) hx hb dX7_told_74 (by decide) ?_
          refine w_goI (va_runV (As := [.int x1, .int 3]) (rest := [.int (fX7_holds q x1 2)]) ⟨hx, hb, hml, hown, hts⟩ (mX7_holds l G cy a _ q x1 3 (by omega)) (cwV 2 hts gX7_told_X7_holds rfl rfl rfl (by decide +kernel) ⟨Nat.le_of_ble_eq_true rfl, Nat.le_of_ble_eq_true rfl⟩) (w_pre (mOk cy a) (va_recv hK hP (ci := 7) (q0 := 0) rfl rfl) hK hP hD hS hA hN) rfl rfl hl.1 rfl (lv_room (Nat.le_of_ble_eq_true rfl)) dX7_told_75 ⟨Nat.le_of_ble_eq_true rfl, Nat.le_of_ble_eq_true rfl⟩) hD hS hA (fun H locs hP hS => ?_)
          refine lv_iadd hx hb dX7_told_78 ?_
          exact W.iret (v := ((fX7_holds q x1 2) + (fX7_holds q x1 3))) hx hb hr (fun t ht hW => ⟨⟨((fX7_holds q x1 2) + (fX7_holds q x1 3)), q, rfl, ⟨(show (fX7_told q x1 x2) = ((fX7_holds q x1 2) + (fX7_holds q x1 3)) by (rw [fX7_told, if_neg c_2, if_neg c_4, if_neg c_7, if_pos c_8]); try rfl).symm, rfl⟩, w_ht ht hP⟩, hS.F ht⟩) hS.2.2 dX7_told_79
        · have e_26 := i_ne c_8
          refine dite (x2 = 3) (fun c_9 => ?_) (fun c_9 => ?_)
          · refine lv_tableIn (off := 67) (tgt := 80) hx hb dX7_told_13 (by rw [c_9]; decide) (by rw [c_9]; decide) (by rw [c_9]; decide) (by decide) ?_
            refine lv_aload_n hx hb dX7_told_80 rfl (lv_at hl 1 rfl) ?_
            refine gfX7_49 hx hb hts h_2 hown hK hP h_3 dX7_told_81 ?_
            refine lv_iload_n hx hb dX7_told_84 rfl (lv_at hl 2 rfl) ?_
            have v_10 : vp_in x1 20 := vp_in_iff.mpr (by omega)
            refine ldM_19 (f := (q 19)) hx hb hK hP rfl v_10 dX7_told_85 ?_
            exact W.iret (v := (q 19 (x1).toNatClampNeg)) hx hb hr (fun t ht hW => ⟨⟨(q 19 (x1).toNatClampNeg), q, rfl, ⟨(show (fX7_told q x1 x2) = (q 19 (x1).toNatClampNeg) by (rw [fX7_told, if_neg c_2, if_neg c_4, if_neg c_7, if_neg c_8, if_pos c_9]); try rfl).symm, rfl⟩, w_ht ht hP⟩, hS.F ht⟩) hS.2.2 dX7_told_86
          · have e_27 := i_ne c_9
            refine dite (x2 = 4) (fun c_11 => ?_) (fun c_11 => ?_)
            · refine lv_tableIn (off := 74) (tgt := 87) hx hb dX7_told_13 (by rw [c_11]; decide) (by rw [c_11]; decide) (by rw [c_11]; decide) (by decide) ?_
              refine lv_iconst (v := 0) hx hb dX7_told_87 (by decide) ?_
              refine lv_istore (lv' := [(4, .int 0), (3, .int 0), (0, .ref (a 0)), (1, .int x1), (2, .int x2)]) hx hb dX7_told_88 hl (by decide) rfl (fun ls hl => ?_)
              have K_1 : ∀ (v1 : Int32) (H : Heap) (ls : Array Slot) (locs : List Loc), (lX7_told_1 q x1 x2 (((q 40 0).toInt - (0 : Int32).toInt).toNat + 1) 0 0) = v1 → va_P G vwCl ((cM cy a) q) H → va_S (wA (cM cy a) s.heap.size) s.heap H locs → lv_has ls 5 [(3, .int v1)] → W p l e ({ frames := 2, cells := 0, slots := 0, locals := 43 }) s m [.ref (a 0), .int x1, .int x2].toArray below meth c H locs 0 0 (MQ below (wQi G (cM cy a) s.heap.size (fX7_told q x1 x2) q) [.ref (a 0), .int x1, .int x2].toArray s 0 0 (wA (cM cy a) s.heap.size)) (F0 m 134 ls []) := by
                intro v1 H ls locs hv hP hS hl
                subst hv
                refine lv_iload_n hx hb dX7_told_134 rfl (lv_at hl 0 rfl) ?_
                exact W.iret (v := (lX7_told_1 q x1 x2 (((q 40 0).toInt - (0 : Int32).toInt).toNat + 1) 0 0)) hx hb hr (fun t ht hW => ⟨⟨(lX7_told_1 q x1 x2 (((q 40 0).toInt - (0 : Int32).toInt).toNat + 1) 0 0), q, rfl, ⟨(show (fX7_told q x1 x2) = (lX7_told_1 q x1 x2 (((q 40 0).toInt - (0 : Int32).toInt).toNat + 1) 0 0) by (rw [fX7_told, if_neg c_2, if_neg c_4, if_neg c_7, if_neg c_8, if_neg c_9, if_pos c_11]); try rfl).symm, rfl⟩, w_ht ht hP⟩, hS.F ht⟩) hS.2.2 dX7_told_135
              have L_1 : ∀ (n : Nat) (y3_1 : Int32) (y4_1 : Int32) (H : Heap) (ls : Array Slot) (locs : List Loc), ((q 40 0).toInt - (y4_1).toInt).toNat < n → (0 ≤ (y4_1).toInt) → lX7_told_1 q x1 x2 n y3_1 y4_1 = (lX7_told_1 q x1 x2 (((q 40 0).toInt - (0 : Int32).toInt).toNat + 1) 0 0) → va_P G vwCl ((cM cy a) q) H → va_S (wA (cM cy a) s.heap.size) s.heap H locs → lv_has ls 5 [(0, .ref (a 0)), (1, .int x1), (3, .int y3_1), (4, .int y4_1)] → W p l e ({ frames := 2, cells := 0, slots := 0, locals := 43 }) s m [.ref (a 0), .int x1, .int x2].toArray below meth c H locs 0 0 (MQ below (wQi G (cM cy a) s.heap.size (fX7_told q x1 x2) q) [.ref (a 0), .int x1, .int x2].toArray s 0 0 (wA (cM cy a) s.heap.size)) (F0 m 90 ls []) := by
                intro n
                induction n with
                | zero => intro y3_1 y4_1 H ls locs hm; exact absurd hm (Nat.not_lt_zero _)
                | succ n ih =>
                  intro y3_1 y4_1 H ls locs hm_1 i0_1 he_1 hP hS hl
                  refine lv_iload hx hb dX7_told_90 (lv_at hl 3 rfl) ?_
                  refine lv_aload_n hx hb dX7_told_92 rfl (lv_at hl 0 rfl) ?_
                  refine gfX7_102 (v := (q 40 0)) hx hb hts h_2 hown hK hP h_4 rfl dX7_told_93 ?_
                  refine lv_icmp_ge (tgt := 134) hx hb dX7_told_96 (by decide) (fun c_12 => ?_) (fun c_12 => ?_)
                  · have e_13 := i_le c_12
                    exact K_1 y3_1 _ _ _ (Eq.trans (Eq.symm he_1) (by (rw [lX7_told_1_s, if_pos c_12]); try rfl)) hP hS (lv_sub hl [2] rfl)
                  · have e_13 := i_nle c_12
                    refine lv_iload_n hx hb dX7_told_99 rfl (lv_at hl 2 rfl) ?_
                    refine lv_aload_n hx hb dX7_told_100 rfl (lv_at hl 0 rfl) ?_
                    refine gfX7_52 hx hb hts h_2 hown hK hP h_5 dX7_told_101 ?_
                    refine lv_iload hx hb dX7_told_104 (lv_at hl 3 rfl) ?_
                    have v_14 : vp_in y4_1 100 := vp_in_iff.mpr (by omega)
                    refine ldM_22 (f := (q 22)) hx hb hK hP rfl v_14 dX7_told_106 ?_
                    have e_15 := iI_22 hI _ (i_clamp v_14)
                    refine lv_iload_n hx hb dX7_told_107 rfl (lv_at hl 1 rfl) ?_
                    have J_2 : ∀ (v1 : Int32) (H : Heap) (ls : Array Slot) (locs : List Loc), (fX7_told_j2 q x1 x2 y3_1 y4_1) = v1 → ((v1).toInt = 0 ∨ (v1).toInt = 1) → va_P G vwCl ((cM cy a) q) H → va_S (wA (cM cy a) s.heap.size) s.heap H locs → lv_has ls 5 [(0, .ref (a 0)), (1, .int x1), (4, .int y4_1)] → W p l e ({ frames := 2, cells := 0, slots := 0, locals := 43 }) s m [.ref (a 0), .int x1, .int x2].toArray below meth c H locs 0 0 (MQ below (wQi G (cM cy a) s.heap.size (fX7_told q x1 x2) q) [.ref (a 0), .int x1, .int x2].toArray s 0 0 (wA (cM cy a) s.heap.size)) (F0 m 126 ls [.int v1, .int y3_1]) := by
                      intro v1 H ls locs hv bl_2_0 hP hS hl
                      subst hv
                      refine lv_iadd hx hb dX7_told_126 ?_
                      refine lv_istore_n (lv' := [(3, .int (y3_1 + (fX7_told_j2 q x1 x2 y3_1 y4_1))), (0, .ref (a 0)), (1, .int x1), (4, .int y4_1)]) hx hb dX7_told_127 rfl hl (by decide) rfl (fun ls hl => ?_)
                      refine lv_iinc (v := (y4_1 + 1)) (lv' := [(4, .int (y4_1 + 1)), (3, .int (y3_1 + (fX7_told_j2 q x1 x2 y3_1 y4_1))), (0, .ref (a 0)), (1, .int x1)]) hx hb dX7_told_128 hl (k := 3) rfl rfl (by decide) rfl (fun ls hl => ?_)
                      have e_21 : (y4_1 + 1).toInt = (y4_1).toInt + 1 := i_inc (by have := i_rng y4_1; have := i_rng (q 40 0); omega)
                      refine lv_goto (tgt := 90) hx hb dX7_told_131 (by decide) ?_
                      exact ih (y3_1 + (fX7_told_j2 q x1 x2 y3_1 y4_1)) (y4_1 + 1) _ _ _ (by omega) (by first | omega | assumption) (Eq.trans (Eq.symm (by (rw [lX7_told_1_s, if_neg c_12]); try rfl)) he_1) hP hS (lv_sub hl [2, 3, 1, 0] rfl)
                    refine lv_icmp_ne (tgt := 125) hx hb dX7_told_108 (by decide) (fun c_16 => ?_) (fun c_16 => ?_)
                    · have e_17 := i_ne c_16
                      refine lv_iconst (v := 0) hx hb dX7_told_125 (by decide) ?_
                      exact J_2 0 _ _ _ (by (rw [fX7_told_j2, if_neg c_16]); try rfl) (show (0 : Int32).toInt = 0 ∨ (0 : Int32).toInt = 1 by omega) hP hS (lv_sub hl [0, 1, 3] rfl)
                    · have e_17 := i_eq c_16
                      refine lv_aload_n hx hb dX7_told_111 rfl (lv_at hl 0 rfl) ?_
                      refine gfX7_58 hx hb hts h_2 hown hK hP h_6 dX7_told_112 ?_
                      refine lv_iload hx hb dX7_told_115 (lv_at hl 3 rfl) ?_
                      have v_18 : vp_in y4_1 100 := vp_in_iff.mpr (by omega)
                      refine ldM_24 (f := (q 24)) hx hb hK hP rfl v_18 dX7_told_117 ?_
                      refine lv_if_ne (tgt := 125) hx hb dX7_told_118 (by decide) (fun c_19 => ?_) (fun c_19 => ?_)
                      · have e_20 := i_ne c_19
                        refine lv_iconst (v := 0) hx hb dX7_told_125 (by decide) ?_
                        exact J_2 0 _ _ _ (by (rw [fX7_told_j2, if_pos c_16, if_neg c_19]); try rfl) (show (0 : Int32).toInt = 0 ∨ (0 : Int32).toInt = 1 by omega) hP hS (lv_sub hl [0, 1, 3] rfl)
                      · have e_20 := i_eq c_19
                        refine lv_iconst (v := 1) hx hb dX7_told_121 (by decide) ?_
                        refine lv_goto (tgt := 126) hx hb dX7_told_122 (by decide) ?_
                        exact J_2 1 _ _ _ (by (rw [fX7_told_j2, if_pos c_16, if_pos c_19]); try rfl) (show (1 : Int32).toInt = 0 ∨ (1 : Int32).toInt = 1 by omega) hP hS (lv_sub hl [0, 1, 3] rfl)
              exact L_1 (((q 40 0).toInt - (0 : Int32).toInt).toNat + 1) 0 0 _ _ _ (by omega) (by omega) rfl hP hS (lv_sub hl [2, 3, 1, 0] rfl)
            · have e_28 := i_ne c_11
              refine dite (x2 = 5) (fun c_22 => ?_) (fun c_22 => ?_)
              · refine lv_tableIn (off := 123) (tgt := 136) hx hb dX7_told_13 (by rw [c_22]; decide) (by rw [c_22]; decide) (by rw [c_22]; decide) (by decide) ?_
                refine lv_aload_n hx hb dX7_told_136 rfl (lv_at hl 1 rfl) ?_
                refine gfX7_46 hx hb hts h_2 hown hK hP h_7 dX7_told_137 ?_
                refine lv_iload_n hx hb dX7_told_140 rfl (lv_at hl 2 rfl) ?_
                have v_23 : vp_in x1 20 := vp_in_iff.mpr (by omega)
                refine ldM_18 (f := (q 18)) hx hb hK hP rfl v_23 dX7_told_141 ?_
                exact W.iret (v := (q 18 (x1).toNatClampNeg)) hx hb hr (fun t ht hW => ⟨⟨(q 18 (x1).toNatClampNeg), q, rfl, ⟨(show (fX7_told q x1 x2) = (q 18 (x1).toNatClampNeg) by (rw [fX7_told, if_neg c_2, if_neg c_4, if_neg c_7, if_neg c_8, if_neg c_9, if_neg c_11, if_pos c_22]); try rfl).symm, rfl⟩, w_ht ht hP⟩, hS.F ht⟩) hS.2.2 dX7_told_142
              · have e_29 := i_ne c_22
                refine lv_tableOut (tgt := 143) hx hb dX7_told_13 (by omega) (by decide) ?_
                refine lv_iconst (v := (-1)) hx hb dX7_told_143 (by decide) ?_
                exact W.iret (v := (-1)) hx hb hr (fun t ht hW => ⟨⟨(-1), q, rfl, ⟨(show (fX7_told q x1 x2) = (-1) by (rw [fX7_told, if_neg c_2, if_neg c_4, if_neg c_7, if_neg c_8, if_neg c_9, if_neg c_11, if_neg c_22]); try rfl).symm, rfl⟩, w_ht ht hP⟩, hS.F ht⟩) hS.2.2 dX7_told_144
  · have e_3 := i_eq c_2
    refine lv_iconst (v := (-1)) hx hb dX7_told_8 (by decide) ?_
    exact W.iret (v := (-1)) hx hb hr (fun t ht hW => ⟨⟨(-1), q, rfl, ⟨(show (fX7_told q x1 x2) = (-1) by (rw [fX7_told, if_pos c_2]); try rfl).symm, rfl⟩, w_ht ht hP⟩, hS.F ht⟩) hS.2.2 dX7_told_9
