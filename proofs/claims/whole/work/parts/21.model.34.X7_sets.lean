set_option maxHeartbeats 4000000 in
set_option maxRecDepth 100000 in
theorem mX7_sets (l : Launch) (G : va_G) (cy : ClassId) (a : Nat → Nat) (sz : Nat) (q : wSt) (x1 : Int32) (hI : iI q) : CtI l yX7_sets wsX7_sets ({ frames := 2, cells := 0, slots := 0, locals := 43 }) G cy (cM cy a) mN sz q [.ref (a 0), .int x1] (fX7_sets q x1) q := by
  refine Met.ofW (cc := cX7_sets) (maxL := 6) (ret := (some .int)) (by decide) rfl ?_
  intro p e s m args below meth c s₁ B hml hv
  obtain ⟨rfl, hsz, hP, hK, hD0, hN⟩ := hv
  have hx := B.exec
  have hb := B.bytes
  have hr := B.returns
  have hts := atoms_spec (ws := wsX7_sets) B.pre
  have hown : s.vm.findClass RX7 = some m.cls := findClass_of_methodNamed B.named
  have hlocks := B.notSynchronized
  subst hsz
  have hD : ∀ z : wSt, va_D (wA (cM cy a) s.heap.size) ((cM cy a) z) := fun z => w_self (mOk cy a).1 hD0 z
  have hA : ∀ z : Nat, s.heap.size ≤ z → wA (cM cy a) s.heap.size z := fun _ h => Or.inr h
  have hS : va_S (wA (cM cy a) s.heap.size) s.heap s.heap [] := va_S.rf
  have hl := lv_entry ([.ref (a 0), .int x1]) (n := 6) (Nat.le_of_ble_eq_true rfl)
  rw [lg_entry_eq]
  generalize (lg_sl ([.ref (a 0), .int x1]) ++ List.replicate (6 - (lg_sl ([.ref (a 0), .int x1])).length) Slot.unset).toArray = ls at hl ⊢
  have hl : lv_has ls 6 [(0, .ref (a 0)), (1, .int x1)] := hl
  have h_1 := hts (.fieldLink RX7 9 RX7 "volumes" "[I") (by decide +kernel)
  have h_2 := (show ∀ w ∈ u_ws RX7 TX7 35, w ∈ wsX7_sets by decide +kernel)
  have h_3 := hts (.fieldLink RX7 99 RX7 "copies" "I") (by decide +kernel)
  have h_4 := hts (.fieldLink RX7 13 RX7 "titleOf" "[I") (by decide +kernel)
  have h_5 := hts (.fieldLink RX7 16 RX7 "volumeOf" "[I") (by decide +kernel)
  have h_6 := hts (.fieldLink RX7 22 RX7 "state" "[I") (by decide +kernel)
  have t_m1 : ((-1) : Int32).toInt = -1 := rfl
  have t_0 : (0 : Int32).toInt = 0 := rfl
  have t_1 : (1 : Int32).toInt = 1 := rfl
  have t_4 : (4 : Int32).toInt = 4 := rfl
  have t_200 : (200 : Int32).toInt = 200 := rfl
  have hB := iI_b hI
  refine lv_aload_n hx hb dX7_sets_0 rfl (lv_at hl 0 rfl) ?_
  refine lv_iload_n hx hb dX7_sets_1 rfl (lv_at hl 1 rfl) ?_
  refine w_goI (va_runV (As := [.int x1]) (rest := []) ⟨hx, hb, hml, hown, hts⟩ (mX7_isTitle l G cy a _ q x1) (cwV 1 hts gX7_sets_X7_isTitle rfl rfl rfl (by decide +kernel) ⟨Nat.le_of_ble_eq_true rfl, Nat.le_of_ble_eq_true rfl⟩) (w_pre (mOk cy a) (va_recv hK hP (ci := 7) (q0 := 0) rfl rfl) hK hP hD hS hA hN) rfl rfl hl.1 rfl (lv_room (Nat.le_of_ble_eq_true rfl)) dX7_sets_2 ⟨Nat.le_of_ble_eq_true rfl, Nat.le_of_ble_eq_true rfl⟩) hD hS hA (fun H locs hP hS => ?_)
  have e_1 := tX7_isTitle q x1 (by omega)
  refine lv_if_ne (tgt := 10) hx hb dX7_sets_5 (by decide) (fun c_2 => ?_) (fun c_2 => ?_)
  · have e_3 := i_ne c_2
    refine lv_sipush (v := 200) hx hb dX7_sets_10 (by decide) ?_
    refine lv_istore_n (lv' := [(2, .int 200), (0, .ref (a 0)), (1, .int x1)]) hx hb dX7_sets_13 rfl hl (by decide) rfl (fun ls hl => ?_)
    refine lv_iconst (v := 0) hx hb dX7_sets_14 (by decide) ?_
    refine lv_istore_n (lv' := [(3, .int 0), (2, .int 200), (0, .ref (a 0)), (1, .int x1)]) hx hb dX7_sets_15 rfl hl (by decide) rfl (fun ls hl => ?_)
    have K_1 : ∀ (v1 : Int32) (H : Heap) (ls : Array Slot) (locs : List Loc), (lX7_sets_1 q x1 (((q 0 (x1).toNatClampNeg).toInt - (0 : Int32).toInt).toNat + 1) 200 0) = v1 → va_P G vwCl ((cM cy a) q) H → va_S (wA (cM cy a) s.heap.size) s.heap H locs → lv_has ls 6 [(2, .int v1)] → W p l e ({ frames := 2, cells := 0, slots := 0, locals := 43 }) s m [.ref (a 0), .int x1].toArray below meth c H locs 0 0 (MQ below (wQi G (cM cy a) s.heap.size (fX7_sets q x1) q) [.ref (a 0), .int x1].toArray s 0 0 (wA (cM cy a) s.heap.size)) (F0 m 105 ls []) := by
      intro v1 H ls locs hv hP hS hl
      subst hv
      refine lv_iload_n hx hb dX7_sets_105 rfl (lv_at hl 0 rfl) ?_
      exact W.iret (v := (lX7_sets_1 q x1 (((q 0 (x1).toNatClampNeg).toInt - (0 : Int32).toInt).toNat + 1) 200 0)) hx hb hr (fun t ht hW => ⟨⟨(lX7_sets_1 q x1 (((q 0 (x1).toNatClampNeg).toInt - (0 : Int32).toInt).toNat + 1) 200 0), q, rfl, ⟨(show (fX7_sets q x1) = (lX7_sets_1 q x1 (((q 0 (x1).toNatClampNeg).toInt - (0 : Int32).toInt).toNat + 1) 200 0) by (rw [fX7_sets, if_neg c_2]); try rfl).symm, rfl⟩, w_ht ht hP⟩, hS.F ht⟩) hS.2.2 dX7_sets_106
    have L_1 : ∀ (n : Nat) (y2_1 : Int32) (y3_1 : Int32) (H : Heap) (ls : Array Slot) (locs : List Loc), ((q 0 (x1).toNatClampNeg).toInt - (y3_1).toInt).toNat < n → (0 ≤ (y3_1).toInt) → lX7_sets_1 q x1 n y2_1 y3_1 = (lX7_sets_1 q x1 (((q 0 (x1).toNatClampNeg).toInt - (0 : Int32).toInt).toNat + 1) 200 0) → va_P G vwCl ((cM cy a) q) H → va_S (wA (cM cy a) s.heap.size) s.heap H locs → lv_has ls 6 [(0, .ref (a 0)), (1, .int x1), (2, .int y2_1), (3, .int y3_1)] → W p l e ({ frames := 2, cells := 0, slots := 0, locals := 43 }) s m [.ref (a 0), .int x1].toArray below meth c H locs 0 0 (MQ below (wQi G (cM cy a) s.heap.size (fX7_sets q x1) q) [.ref (a 0), .int x1].toArray s 0 0 (wA (cM cy a) s.heap.size)) (F0 m 16 ls []) := by
      intro n
      induction n with
      | zero => intro y2_1 y3_1 H ls locs hm; exact absurd hm (Nat.not_lt_zero _)
      | succ n ih =>
        intro y2_1 y3_1 H ls locs hm_1 i0_1 he_1 hP hS hl
        refine lv_iload_n hx hb dX7_sets_16 rfl (lv_at hl 3 rfl) ?_
        refine lv_aload_n hx hb dX7_sets_17 rfl (lv_at hl 0 rfl) ?_
        refine gfX7_9 hx hb hts h_2 hown hK hP h_1 dX7_sets_18 ?_
        refine lv_iload_n hx hb dX7_sets_21 rfl (lv_at hl 1 rfl) ?_
        have v_4 : vp_in x1 12 := vp_in_iff.mpr (by omega)
        refine ldM_0 (f := (q 0)) hx hb hK hP rfl v_4 dX7_sets_22 ?_
        have e_5 := iI_0 hI _ (i_clamp v_4)
        refine lv_icmp_ge (tgt := 105) hx hb dX7_sets_23 (by decide) (fun c_6 => ?_) (fun c_6 => ?_)
        · have e_7 := i_le c_6
          exact K_1 y2_1 _ _ _ (Eq.trans (Eq.symm he_1) (by (rw [lX7_sets_1_s, if_pos c_6]); try rfl)) hP hS (lv_sub hl [2] rfl)
        · have e_7 := i_nle c_6
          refine lv_iconst (v := 0) hx hb dX7_sets_26 (by decide) ?_
          refine lv_istore (lv' := [(4, .int 0), (0, .ref (a 0)), (1, .int x1), (2, .int y2_1), (3, .int y3_1)]) hx hb dX7_sets_27 hl (by decide) rfl (fun ls hl => ?_)
          refine lv_iconst (v := 0) hx hb dX7_sets_29 (by decide) ?_
          refine lv_istore (lv' := [(5, .int 0), (4, .int 0), (0, .ref (a 0)), (1, .int x1), (2, .int y2_1), (3, .int y3_1)]) hx hb dX7_sets_30 hl (by decide) rfl (fun ls hl => ?_)
          have K_2 : ∀ (v1 : Int32) (H : Heap) (ls : Array Slot) (locs : List Loc), (lX7_sets_2 q x1 y2_1 y3_1 (((q 36 0).toInt - (0 : Int32).toInt).toNat + 1) 0 0) = v1 → va_P G vwCl ((cM cy a) q) H → va_S (wA (cM cy a) s.heap.size) s.heap H locs → lv_has ls 6 [(0, .ref (a 0)), (1, .int x1), (2, .int y2_1), (3, .int y3_1), (4, .int v1)] → W p l e ({ frames := 2, cells := 0, slots := 0, locals := 43 }) s m [.ref (a 0), .int x1].toArray below meth c H locs 0 0 (MQ below (wQi G (cM cy a) s.heap.size (fX7_sets q x1) q) [.ref (a 0), .int x1].toArray s 0 0 (wA (cM cy a) s.heap.size)) (F0 m 90 ls []) := by
            intro v1 H ls locs hv hP hS hl
            subst hv
            refine lv_iload hx hb dX7_sets_90 (lv_at hl 4 rfl) ?_
            refine lv_iload_n hx hb dX7_sets_92 rfl (lv_at hl 2 rfl) ?_
            have J_4 : ∀ (v1 : Int32) (H : Heap) (ls : Array Slot) (locs : List Loc), (fX7_sets_j4 q x1 y2_1 y3_1) = v1 → va_P G vwCl ((cM cy a) q) H → va_S (wA (cM cy a) s.heap.size) s.heap H locs → lv_has ls 6 [(0, .ref (a 0)), (1, .int x1), (2, .int v1), (3, .int y3_1)] → W p l e ({ frames := 2, cells := 0, slots := 0, locals := 43 }) s m [.ref (a 0), .int x1].toArray below meth c H locs 0 0 (MQ below (wQi G (cM cy a) s.heap.size (fX7_sets q x1) q) [.ref (a 0), .int x1].toArray s 0 0 (wA (cM cy a) s.heap.size)) (F0 m 99 ls []) := by
              intro v1 H ls locs hv hP hS hl
              subst hv
              refine lv_iinc (v := (y3_1 + 1)) (lv' := [(3, .int (y3_1 + 1)), (0, .ref (a 0)), (1, .int x1), (2, .int (fX7_sets_j4 q x1 y2_1 y3_1))]) hx hb dX7_sets_99 hl (k := 3) rfl rfl (by decide) rfl (fun ls hl => ?_)
              have e_22 : (y3_1 + 1).toInt = (y3_1).toInt + 1 := i_inc (by have := i_rng y3_1; have := i_rng (q 0 (x1).toNatClampNeg); omega)
              refine lv_goto (tgt := 16) hx hb dX7_sets_102 (by decide) ?_
              exact ih (fX7_sets_j4 q x1 y2_1 y3_1) (y3_1 + 1) _ _ _ (by omega) (by first | omega | assumption) (Eq.trans (Eq.symm (by (rw [lX7_sets_1_s, if_neg c_6]); try rfl)) he_1) hP hS (lv_sub hl [1, 2, 3, 0] rfl)
            refine lv_icmp_ge (tgt := 99) hx hb dX7_sets_93 (by decide) (fun c_20 => ?_) (fun c_20 => ?_)
            · have e_21 := i_le c_20
              exact J_4 y2_1 _ _ _ (by (rw [fX7_sets_j4, if_pos c_20]); try rfl) hP hS (lv_sub hl [0, 1, 2, 3] rfl)
            · have e_21 := i_nle c_20
              refine lv_iload hx hb dX7_sets_96 (lv_at hl 4 rfl) ?_
              refine lv_istore_n (lv' := [(2, .int (lX7_sets_2 q x1 y2_1 y3_1 (((q 36 0).toInt - (0 : Int32).toInt).toNat + 1) 0 0)), (0, .ref (a 0)), (1, .int x1), (3, .int y3_1), (4, .int (lX7_sets_2 q x1 y2_1 y3_1 (((q 36 0).toInt - (0 : Int32).toInt).toNat + 1) 0 0))]) hx hb dX7_sets_98 rfl hl (by decide) rfl (fun ls hl => ?_)
              exact J_4 (lX7_sets_2 q x1 y2_1 y3_1 (((q 36 0).toInt - (0 : Int32).toInt).toNat + 1) 0 0) _ _ _ (by (rw [fX7_sets_j4, if_neg c_20]); try rfl) hP hS (lv_sub hl [1, 2, 0, 3] rfl)
          have L_2 : ∀ (n : Nat) (y4_2 : Int32) (y5_2 : Int32) (H : Heap) (ls : Array Slot) (locs : List Loc), ((q 36 0).toInt - (y5_2).toInt).toNat < n → (0 ≤ (y5_2).toInt) → lX7_sets_2 q x1 y2_1 y3_1 n y4_2 y5_2 = (lX7_sets_2 q x1 y2_1 y3_1 (((q 36 0).toInt - (0 : Int32).toInt).toNat + 1) 0 0) → va_P G vwCl ((cM cy a) q) H → va_S (wA (cM cy a) s.heap.size) s.heap H locs → lv_has ls 6 [(0, .ref (a 0)), (1, .int x1), (2, .int y2_1), (3, .int y3_1), (4, .int y4_2), (5, .int y5_2)] → W p l e ({ frames := 2, cells := 0, slots := 0, locals := 43 }) s m [.ref (a 0), .int x1].toArray below meth c H locs 0 0 (MQ below (wQi G (cM cy a) s.heap.size (fX7_sets q x1) q) [.ref (a 0), .int x1].toArray s 0 0 (wA (cM cy a) s.heap.size)) (F0 m 32 ls []) := by
            intro n
            induction n with
            | zero => intro y4_2 y5_2 H ls locs hm; exact absurd hm (Nat.not_lt_zero _)
            | succ n ih =>
              intro y4_2 y5_2 H ls locs hm_2 i0_2 he_2 hP hS hl
              refine lv_iload hx hb dX7_sets_32 (lv_at hl 5 rfl) ?_
              refine lv_aload_n hx hb dX7_sets_34 rfl (lv_at hl 0 rfl) ?_
              refine gfX7_99 (v := (q 36 0)) hx hb hts h_2 hown hK hP h_3 rfl dX7_sets_35 ?_
              refine lv_icmp_ge (tgt := 90) hx hb dX7_sets_38 (by decide) (fun c_8 => ?_) (fun c_8 => ?_)
              · have e_9 := i_le c_8
                exact K_2 y4_2 _ _ _ (Eq.trans (Eq.symm he_2) (by (rw [lX7_sets_2_s, if_pos c_8]); try rfl)) hP hS (lv_sub hl [0, 1, 2, 3, 4] rfl)
              · have e_9 := i_nle c_8
                refine lv_iload hx hb dX7_sets_41 (lv_at hl 4 rfl) ?_
                refine lv_aload_n hx hb dX7_sets_43 rfl (lv_at hl 0 rfl) ?_
                refine gfX7_13 hx hb hts h_2 hown hK hP h_4 dX7_sets_44 ?_
                refine lv_iload hx hb dX7_sets_47 (lv_at hl 5 rfl) ?_
                have v_10 : vp_in y5_2 200 := vp_in_iff.mpr (by omega)
                refine ldM_7 (f := (q 7)) hx hb hK hP rfl v_10 dX7_sets_49 ?_
                refine lv_iload_n hx hb dX7_sets_50 rfl (lv_at hl 1 rfl) ?_
                have J_3 : ∀ (v1 : Int32) (H : Heap) (ls : Array Slot) (locs : List Loc), (fX7_sets_j3 q x1 y2_1 y3_1 y4_2 y5_2) = v1 → ((v1).toInt = 0 ∨ (v1).toInt = 1) → va_P G vwCl ((cM cy a) q) H → va_S (wA (cM cy a) s.heap.size) s.heap H locs → lv_has ls 6 [(0, .ref (a 0)), (1, .int x1), (2, .int y2_1), (3, .int y3_1), (5, .int y5_2)] → W p l e ({ frames := 2, cells := 0, slots := 0, locals := 43 }) s m [.ref (a 0), .int x1].toArray below meth c H locs 0 0 (MQ below (wQi G (cM cy a) s.heap.size (fX7_sets q x1) q) [.ref (a 0), .int x1].toArray s 0 0 (wA (cM cy a) s.heap.size)) (F0 m 81 ls [.int v1, .int y4_2]) := by
                  intro v1 H ls locs hv bl_3_0 hP hS hl
                  subst hv
                  refine lv_iadd hx hb dX7_sets_81 ?_
                  refine lv_istore (lv' := [(4, .int (y4_2 + (fX7_sets_j3 q x1 y2_1 y3_1 y4_2 y5_2))), (0, .ref (a 0)), (1, .int x1), (2, .int y2_1), (3, .int y3_1), (5, .int y5_2)]) hx hb dX7_sets_82 hl (by decide) rfl (fun ls hl => ?_)
                  refine lv_iinc (v := (y5_2 + 1)) (lv' := [(5, .int (y5_2 + 1)), (4, .int (y4_2 + (fX7_sets_j3 q x1 y2_1 y3_1 y4_2 y5_2))), (0, .ref (a 0)), (1, .int x1), (2, .int y2_1), (3, .int y3_1)]) hx hb dX7_sets_84 hl (k := 5) rfl rfl (by decide) rfl (fun ls hl => ?_)
                  have e_19 : (y5_2 + 1).toInt = (y5_2).toInt + 1 := i_inc (by have := i_rng y5_2; have := i_rng (q 36 0); omega)
                  refine lv_goto (tgt := 32) hx hb dX7_sets_87 (by decide) ?_
                  exact ih (y4_2 + (fX7_sets_j3 q x1 y2_1 y3_1 y4_2 y5_2)) (y5_2 + 1) _ _ _ (by omega) (by first | omega | assumption) (Eq.trans (Eq.symm (by (rw [lX7_sets_2_s, if_neg c_8]); try rfl)) he_2) hP hS (lv_sub hl [2, 3, 4, 5, 1, 0] rfl)
                refine lv_icmp_ne (tgt := 80) hx hb dX7_sets_51 (by decide) (fun c_11 => ?_) (fun c_11 => ?_)
                · have e_12 := i_ne c_11
                  refine lv_iconst (v := 0) hx hb dX7_sets_80 (by decide) ?_
                  exact J_3 0 _ _ _ (by (rw [fX7_sets_j3, if_neg c_11]); try rfl) (show (0 : Int32).toInt = 0 ∨ (0 : Int32).toInt = 1 by omega) hP hS (lv_sub hl [0, 1, 2, 3, 5] rfl)
                · have e_12 := i_eq c_11
                  refine lv_aload_n hx hb dX7_sets_54 rfl (lv_at hl 0 rfl) ?_
                  refine gfX7_16 hx hb hts h_2 hown hK hP h_5 dX7_sets_55 ?_
                  refine lv_iload hx hb dX7_sets_58 (lv_at hl 5 rfl) ?_
                  have v_13 : vp_in y5_2 200 := vp_in_iff.mpr (by omega)
                  refine ldM_8 (f := (q 8)) hx hb hK hP rfl v_13 dX7_sets_60 ?_
                  refine lv_iload_n hx hb dX7_sets_61 rfl (lv_at hl 3 rfl) ?_
                  refine lv_icmp_ne (tgt := 80) hx hb dX7_sets_62 (by decide) (fun c_14 => ?_) (fun c_14 => ?_)
                  · have e_15 := i_ne c_14
                    refine lv_iconst (v := 0) hx hb dX7_sets_80 (by decide) ?_
                    exact J_3 0 _ _ _ (by (rw [fX7_sets_j3, if_pos c_11, if_neg c_14]); try rfl) (show (0 : Int32).toInt = 0 ∨ (0 : Int32).toInt = 1 by omega) hP hS (lv_sub hl [0, 1, 2, 3, 5] rfl)
                  · have e_15 := i_eq c_14
                    refine lv_aload_n hx hb dX7_sets_65 rfl (lv_at hl 0 rfl) ?_
                    refine gfX7_22 hx hb hts h_2 hown hK hP h_6 dX7_sets_66 ?_
                    refine lv_iload hx hb dX7_sets_69 (lv_at hl 5 rfl) ?_
                    have v_16 : vp_in y5_2 200 := vp_in_iff.mpr (by omega)
                    refine ldM_6 (f := (q 6)) hx hb hK hP rfl v_16 dX7_sets_71 ?_
                    refine lv_iconst (v := 4) hx hb dX7_sets_72 (by decide) ?_
                    refine lv_icmp_ge (tgt := 80) hx hb dX7_sets_73 (by decide) (fun c_17 => ?_) (fun c_17 => ?_)
                    · have e_18 := i_le c_17
                      refine lv_iconst (v := 0) hx hb dX7_sets_80 (by decide) ?_
                      exact J_3 0 _ _ _ (by (rw [fX7_sets_j3, if_pos c_11, if_pos c_14, if_pos c_17]); try rfl) (show (0 : Int32).toInt = 0 ∨ (0 : Int32).toInt = 1 by omega) hP hS (lv_sub hl [0, 1, 2, 3, 5] rfl)
                    · have e_18 := i_nle c_17
                      refine lv_iconst (v := 1) hx hb dX7_sets_76 (by decide) ?_
                      refine lv_goto (tgt := 81) hx hb dX7_sets_77 (by decide) ?_
                      exact J_3 1 _ _ _ (by (rw [fX7_sets_j3, if_pos c_11, if_pos c_14, if_neg c_17]); try rfl) (show (1 : Int32).toInt = 0 ∨ (1 : Int32).toInt = 1 by omega) hP hS (lv_sub hl [0, 1, 2, 3, 5] rfl)
          exact L_2 (((q 36 0).toInt - (0 : Int32).toInt).toNat + 1) 0 0 _ _ _ (by omega) (by omega) rfl hP hS (lv_sub hl [2, 3, 4, 5, 1, 0] rfl)
    exact L_1 (((q 0 (x1).toNatClampNeg).toInt - (0 : Int32).toInt).toNat + 1) 200 0 _ _ _ (by omega) (by omega) rfl hP hS (lv_sub hl [2, 3, 1, 0] rfl)
  · have e_3 := i_eq c_2
    refine lv_iconst (v := (-1)) hx hb dX7_sets_8 (by decide) ?_
    exact W.iret (v := (-1)) hx hb hr (fun t ht hW => ⟨⟨(-1), q, rfl, ⟨(show (fX7_sets q x1) = (-1) by (rw [fX7_sets, if_pos c_2]); try rfl).symm, rfl⟩, w_ht ht hP⟩, hS.F ht⟩) hS.2.2 dX7_sets_9
