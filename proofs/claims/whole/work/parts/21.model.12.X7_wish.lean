set_option maxHeartbeats 4000000 in
set_option maxRecDepth 100000 in
theorem mX7_wish (l : Launch) (G : va_G) (cy : ClassId) (a : Nat → Nat) (sz : Nat) (q : wSt) (x1 : Int32) (x2 : Int32) (hI : iI q) : CtI l yX7_wish wsX7_wish ({ frames := 2, cells := 0, slots := 0, locals := 43 }) G cy (cM cy a) mN sz q [.ref (a 0), .int x1, .int x2] (fX7_wish q x1 x2).1 (fX7_wish q x1 x2).2 := by
  refine Met.ofW (cc := cX7_wish) (maxL := 4) (ret := (some .int)) (by decide) rfl ?_
  intro p e s m args below meth c s₁ B hml hv
  obtain ⟨rfl, hsz, hP, hK, hD0, hN⟩ := hv
  have hx := B.exec
  have hb := B.bytes
  have hr := B.returns
  have hts := atoms_spec (ws := wsX7_wish) B.pre
  have hown : s.vm.findClass RX7 = some m.cls := findClass_of_methodNamed B.named
  have hlocks := B.notSynchronized
  subst hsz
  have hD : ∀ z : wSt, va_D (wA (cM cy a) s.heap.size) ((cM cy a) z) := fun z => w_self (mOk cy a).1 hD0 z
  have hA : ∀ z : Nat, s.heap.size ≤ z → wA (cM cy a) s.heap.size z := fun _ h => Or.inr h
  have hS : va_S (wA (cM cy a) s.heap.size) s.heap s.heap [] := va_S.rf
  have hl := lv_entry ([.ref (a 0), .int x1, .int x2]) (n := 4) (Nat.le_of_ble_eq_true rfl)
  rw [lg_entry_eq]
  generalize (lg_sl ([.ref (a 0), .int x1, .int x2]) ++ List.replicate (4 - (lg_sl ([.ref (a 0), .int x1, .int x2])).length) Slot.unset).toArray = ls at hl ⊢
  have hl : lv_has ls 4 [(0, .ref (a 0)), (1, .int x1), (2, .int x2)] := hl
  have h_1 := hts (.fieldLink RX7 102 RX7 "wishes" "I") (by decide +kernel)
  have h_2 := (show ∀ w ∈ u_ws RX7 TX7 35, w ∈ wsX7_wish by decide +kernel)
  have h_3 := hts (.fieldLink RX7 52 RX7 "wisher" "[I") (by decide +kernel)
  have h_4 := hts (.fieldLink RX7 55 RX7 "wishTitle" "[I") (by decide +kernel)
  have h_5 := hts (.fieldLink RX7 64 RX7 "waitsFrom" "[I") (by decide +kernel)
  have h_6 := hts (.fieldLink RX7 112 RX7 "now" "I") (by decide +kernel)
  have h_7 := hts (.fieldLink RX7 58 RX7 "wishState" "[I") (by decide +kernel)
  have t_m1 : ((-1) : Int32).toInt = -1 := rfl
  have t_0 : (0 : Int32).toInt = 0 := rfl
  have t_1 : (1 : Int32).toInt = 1 := rfl
  have t_100 : (100 : Int32).toInt = 100 := rfl
  have hB := iI_b hI
  refine lv_aload_n hx hb dX7_wish_0 rfl (lv_at hl 0 rfl) ?_
  refine lv_iload_n hx hb dX7_wish_1 rfl (lv_at hl 1 rfl) ?_
  refine w_goI (va_runV (As := [.int x1]) (rest := []) ⟨hx, hb, hml, hown, hts⟩ (mX7_isReader l G cy a _ q x1) (cwV 1 hts gX7_wish_X7_isReader rfl rfl rfl (by decide +kernel) ⟨Nat.le_of_ble_eq_true rfl, Nat.le_of_ble_eq_true rfl⟩) (w_pre (mOk cy a) (va_recv hK hP (ci := 7) (q0 := 0) rfl rfl) hK hP hD hS hA hN) rfl rfl hl.1 rfl (lv_room (Nat.le_of_ble_eq_true rfl)) dX7_wish_2 ⟨Nat.le_of_ble_eq_true rfl, Nat.le_of_ble_eq_true rfl⟩) hD hS hA (fun H locs hP hS => ?_)
  have e_1 := tX7_isReader q x1 (by omega)
  refine lv_if_eq (tgt := 25) hx hb dX7_wish_5 (by decide) (fun c_2 => ?_) (fun c_2 => ?_)
  · have e_3 := i_eq c_2
    refine lv_iconst (v := (-1)) hx hb dX7_wish_25 (by decide) ?_
    have hF : (fX7_wish q x1 x2) = ((-1), q) := (show (fX7_wish q x1 x2) = ((-1), q) by (rw [fX7_wish, if_pos c_2]); try rfl)
    exact W.iret (v := (-1)) hx hb hr (fun t ht hW => ⟨⟨(-1), q, rfl, ⟨(p_fst hF), (p_snd hF)⟩, w_ht ht hP⟩, hS.F ht⟩) hS.2.2 dX7_wish_26
  · have e_3 := i_ne c_2
    refine lv_aload_n hx hb dX7_wish_8 rfl (lv_at hl 0 rfl) ?_
    refine lv_iload_n hx hb dX7_wish_9 rfl (lv_at hl 2 rfl) ?_
    refine w_goI (va_runV (As := [.int x2]) (rest := []) ⟨hx, hb, hml, hown, hts⟩ (mX7_isTitle l G cy a _ q x2) (cwV 1 hts gX7_wish_X7_isTitle rfl rfl rfl (by decide +kernel) ⟨Nat.le_of_ble_eq_true rfl, Nat.le_of_ble_eq_true rfl⟩) (w_pre (mOk cy a) (va_recv hK hP (ci := 7) (q0 := 0) rfl rfl) hK hP hD hS hA hN) rfl rfl hl.1 rfl (lv_room (Nat.le_of_ble_eq_true rfl)) dX7_wish_10 ⟨Nat.le_of_ble_eq_true rfl, Nat.le_of_ble_eq_true rfl⟩) hD hS hA (fun H locs hP hS => ?_)
    have e_4 := tX7_isTitle q x2 (by omega)
    refine lv_if_eq (tgt := 25) hx hb dX7_wish_13 (by decide) (fun c_5 => ?_) (fun c_5 => ?_)
    · have e_6 := i_eq c_5
      refine lv_iconst (v := (-1)) hx hb dX7_wish_25 (by decide) ?_
      have hF : (fX7_wish q x1 x2) = ((-1), q) := (show (fX7_wish q x1 x2) = ((-1), q) by (rw [fX7_wish, if_neg c_2, if_pos c_5]); try rfl)
      exact W.iret (v := (-1)) hx hb hr (fun t ht hW => ⟨⟨(-1), q, rfl, ⟨(p_fst hF), (p_snd hF)⟩, w_ht ht hP⟩, hS.F ht⟩) hS.2.2 dX7_wish_26
    · have e_6 := i_ne c_5
      refine lv_aload_n hx hb dX7_wish_16 rfl (lv_at hl 0 rfl) ?_
      refine gfX7_102 (v := (q 40 0)) hx hb hts h_2 hown hK hP h_1 rfl dX7_wish_17 ?_
      refine lv_bipush (v := 100) hx hb dX7_wish_20 (by decide) ?_
      refine lv_icmp_ne (tgt := 27) hx hb dX7_wish_22 (by decide) (fun c_7 => ?_) (fun c_7 => ?_)
      · have e_8 := i_ne c_7
        refine lv_iconst (v := 0) hx hb dX7_wish_27 (by decide) ?_
        refine lv_istore_n (lv' := [(3, .int 0), (0, .ref (a 0)), (1, .int x1), (2, .int x2)]) hx hb dX7_wish_28 rfl hl (by decide) rfl (fun ls hl => ?_)
        have L_1 : ∀ (n : Nat) (y3_1 : Int32) (H : Heap) (ls : Array Slot) (locs : List Loc), ((q 40 0).toInt - (y3_1).toInt).toNat < n → (0 ≤ (y3_1).toInt) → lX7_wish_1 q x1 x2 n y3_1 = (fX7_wish q x1 x2) → va_P G vwCl ((cM cy a) q) H → va_S (wA (cM cy a) s.heap.size) s.heap H locs → lv_has ls 4 [(0, .ref (a 0)), (1, .int x1), (2, .int x2), (3, .int y3_1)] → W p l e ({ frames := 2, cells := 0, slots := 0, locals := 43 }) s m [.ref (a 0), .int x1, .int x2].toArray below meth c H locs 0 0 (MQ below (wQi G (cM cy a) s.heap.size (fX7_wish q x1 x2).1 (fX7_wish q x1 x2).2) [.ref (a 0), .int x1, .int x2].toArray s 0 0 (wA (cM cy a) s.heap.size)) (F0 m 29 ls []) := by
          intro n
          induction n with
          | zero => intro y3_1 H ls locs hm; exact absurd hm (Nat.not_lt_zero _)
          | succ n ih =>
            intro y3_1 H ls locs hm_1 i0_1 he_1 hP hS hl
            refine lv_iload_n hx hb dX7_wish_29 rfl (lv_at hl 3 rfl) ?_
            refine lv_aload_n hx hb dX7_wish_30 rfl (lv_at hl 0 rfl) ?_
            refine gfX7_102 (v := (q 40 0)) hx hb hts h_2 hown hK hP h_1 rfl dX7_wish_31 ?_
            refine lv_icmp_ge (tgt := 74) hx hb dX7_wish_34 (by decide) (fun c_9 => ?_) (fun c_9 => ?_)
            · have e_10 := i_le c_9
              refine lv_aload_n hx hb dX7_wish_74 rfl (lv_at hl 0 rfl) ?_
              refine gfX7_52 hx hb hts h_2 hown hK hP h_3 dX7_wish_75 ?_
              refine lv_aload_n hx hb dX7_wish_78 rfl (lv_at hl 0 rfl) ?_
              refine gfX7_102 (v := (q 40 0)) hx hb hts h_2 hown hK hP h_1 rfl dX7_wish_79 ?_
              refine lv_iload_n hx hb dX7_wish_82 rfl (lv_at hl 1 rfl) ?_
              have v_11 : vp_in (q 40 0) 100 := vp_in_iff.mpr (by omega)
              refine stM_22 (f := (q 22)) hx hb hK hP hD hS rfl v_11 dX7_wish_83 (fun H locs hP hS => ?_)
              refine lv_aload_n hx hb dX7_wish_84 rfl (lv_at hl 0 rfl) ?_
              refine gfX7_55 hx hb hts h_2 hown hK hP h_4 dX7_wish_85 ?_
              refine lv_aload_n hx hb dX7_wish_88 rfl (lv_at hl 0 rfl) ?_
              refine gfX7_102 (v := (q 40 0)) hx hb hts h_2 hown hK hP h_1 (congrFun (rset_ne (by decide)) 0) dX7_wish_89 ?_
              refine lv_iload_n hx hb dX7_wish_92 rfl (lv_at hl 2 rfl) ?_
              have v_12 : vp_in (q 40 0) 100 := vp_in_iff.mpr (by omega)
              refine stM_23 (f := (q 23)) hx hb hK hP hD hS (rset_ne (by decide)) v_12 dX7_wish_93 (fun H locs hP hS => ?_)
              refine lv_aload_n hx hb dX7_wish_94 rfl (lv_at hl 0 rfl) ?_
              refine gfX7_64 hx hb hts h_2 hown hK hP h_5 dX7_wish_95 ?_
              refine lv_aload_n hx hb dX7_wish_98 rfl (lv_at hl 0 rfl) ?_
              refine gfX7_102 (v := (q 40 0)) hx hb hts h_2 hown hK hP h_1 (congrFun ((rset_ne (by decide)).trans (rset_ne (by decide))) 0) dX7_wish_99 ?_
              refine lv_aload_n hx hb dX7_wish_102 rfl (lv_at hl 0 rfl) ?_
              refine gfX7_112 (v := (q 30 0)) hx hb hts h_2 hown hK hP h_6 (congrFun ((rset_ne (by decide)).trans (rset_ne (by decide))) 0) dX7_wish_103 ?_
              have v_13 : vp_in (q 40 0) 100 := vp_in_iff.mpr (by omega)
              refine stM_27 (f := (q 27)) hx hb hK hP hD hS ((rset_ne (by decide)).trans (rset_ne (by decide))) v_13 dX7_wish_106 (fun H locs hP hS => ?_)
              refine lv_aload_n hx hb dX7_wish_107 rfl (lv_at hl 0 rfl) ?_
              refine lv_dup hx hb dX7_wish_108 rfl ?_
              refine gfX7_102 (v := (q 40 0)) hx hb hts h_2 hown hK hP h_1 (congrFun ((rset_ne (by decide)).trans ((rset_ne (by decide)).trans (rset_ne (by decide)))) 0) dX7_wish_109 ?_
              refine lv_iconst (v := 1) hx hb dX7_wish_112 (by decide) ?_
              refine lv_iadd hx hb dX7_wish_113 ?_
              refine pfX7_102 hx hb hts h_2 hown hK hP hD hS h_1 dX7_wish_114 (fun H locs hP hS => ?_)
              refine lv_aload_n hx hb dX7_wish_117 rfl (lv_at hl 0 rfl) ?_
              refine gfX7_102 (v := ((q 40 0) + 1)) hx hb hts h_2 hown hK hP h_1 (congrFun rset_eq 0) dX7_wish_118 ?_
              refine lv_iconst (v := 1) hx hb dX7_wish_121 (by decide) ?_
              refine lv_isub hx hb dX7_wish_122 ?_
              have hF : (fX7_wish q x1 x2) = ((((q 40 0) + 1) - 1), (rset (rset (rset (rset q 22 (upd (q 22) (q 40 0).toNatClampNeg x1)) 23 (upd (q 23) (q 40 0).toNatClampNeg x2)) 27 (upd (q 27) (q 40 0).toNatClampNeg (q 30 0))) 40 (fun _ => ((q 40 0) + 1)))) := ((Eq.symm he_1).trans (by (rw [lX7_wish_1_s, if_pos c_9]); try rfl))
              exact W.iret (v := (((q 40 0) + 1) - 1)) hx hb hr (fun t ht hW => ⟨⟨(((q 40 0) + 1) - 1), (rset (rset (rset (rset q 22 (upd (q 22) (q 40 0).toNatClampNeg x1)) 23 (upd (q 23) (q 40 0).toNatClampNeg x2)) 27 (upd (q 27) (q 40 0).toNatClampNeg (q 30 0))) 40 (fun _ => ((q 40 0) + 1))), rfl, ⟨(p_fst hF), (p_snd hF)⟩, w_ht ht hP⟩, hS.F ht⟩) hS.2.2 dX7_wish_123
            · have e_10 := i_nle c_9
              refine lv_aload_n hx hb dX7_wish_37 rfl (lv_at hl 0 rfl) ?_
              refine gfX7_52 hx hb hts h_2 hown hK hP h_3 dX7_wish_38 ?_
              refine lv_iload_n hx hb dX7_wish_41 rfl (lv_at hl 3 rfl) ?_
              have v_14 : vp_in y3_1 100 := vp_in_iff.mpr (by omega)
              refine ldM_22 (f := (q 22)) hx hb hK hP rfl v_14 dX7_wish_42 ?_
              have e_15 := iI_22 hI _ (i_clamp v_14)
              refine lv_iload_n hx hb dX7_wish_43 rfl (lv_at hl 1 rfl) ?_
              refine lv_icmp_ne (tgt := 68) hx hb dX7_wish_44 (by decide) (fun c_16 => ?_) (fun c_16 => ?_)
              · have e_17 := i_ne c_16
                refine lv_iinc (v := (y3_1 + 1)) (lv' := [(3, .int (y3_1 + 1)), (0, .ref (a 0)), (1, .int x1), (2, .int x2)]) hx hb dX7_wish_68 hl (k := 3) rfl rfl (by decide) rfl (fun ls hl => ?_)
                have e_18 : (y3_1 + 1).toInt = (y3_1).toInt + 1 := i_inc (by have := i_rng y3_1; have := i_rng (q 40 0); omega)
                refine lv_goto (tgt := 29) hx hb dX7_wish_71 (by decide) ?_
                exact ih (y3_1 + 1) _ _ _ (by omega) (by first | omega | assumption) (Eq.trans (Eq.symm (by (rw [lX7_wish_1_s, if_neg c_9, if_neg c_16]); try rfl)) he_1) hP hS (lv_sub hl [1, 2, 3, 0] rfl)
              · have e_17 := i_eq c_16
                refine lv_aload_n hx hb dX7_wish_47 rfl (lv_at hl 0 rfl) ?_
                refine gfX7_55 hx hb hts h_2 hown hK hP h_4 dX7_wish_48 ?_
                refine lv_iload_n hx hb dX7_wish_51 rfl (lv_at hl 3 rfl) ?_
                have v_19 : vp_in y3_1 100 := vp_in_iff.mpr (by omega)
                refine ldM_23 (f := (q 23)) hx hb hK hP rfl v_19 dX7_wish_52 ?_
                have e_20 := iI_23 hI _ (i_clamp v_19)
                refine lv_iload_n hx hb dX7_wish_53 rfl (lv_at hl 2 rfl) ?_
                refine lv_icmp_ne (tgt := 68) hx hb dX7_wish_54 (by decide) (fun c_21 => ?_) (fun c_21 => ?_)
                · have e_22 := i_ne c_21
                  refine lv_iinc (v := (y3_1 + 1)) (lv' := [(3, .int (y3_1 + 1)), (0, .ref (a 0)), (1, .int x1), (2, .int x2)]) hx hb dX7_wish_68 hl (k := 3) rfl rfl (by decide) rfl (fun ls hl => ?_)
                  have e_23 : (y3_1 + 1).toInt = (y3_1).toInt + 1 := i_inc (by have := i_rng y3_1; have := i_rng (q 40 0); omega)
                  refine lv_goto (tgt := 29) hx hb dX7_wish_71 (by decide) ?_
                  exact ih (y3_1 + 1) _ _ _ (by omega) (by first | omega | assumption) (Eq.trans (Eq.symm (by (rw [lX7_wish_1_s, if_neg c_9, if_pos c_16, if_neg c_21]); try rfl)) he_1) hP hS (lv_sub hl [1, 2, 3, 0] rfl)
                · have e_22 := i_eq c_21
                  refine lv_aload_n hx hb dX7_wish_57 rfl (lv_at hl 0 rfl) ?_
                  refine gfX7_58 hx hb hts h_2 hown hK hP h_7 dX7_wish_58 ?_
                  refine lv_iload_n hx hb dX7_wish_61 rfl (lv_at hl 3 rfl) ?_
                  have v_24 : vp_in y3_1 100 := vp_in_iff.mpr (by omega)
                  refine ldM_24 (f := (q 24)) hx hb hK hP rfl v_24 dX7_wish_62 ?_
                  refine lv_if_ne (tgt := 68) hx hb dX7_wish_63 (by decide) (fun c_25 => ?_) (fun c_25 => ?_)
                  · have e_26 := i_ne c_25
                    refine lv_iinc (v := (y3_1 + 1)) (lv' := [(3, .int (y3_1 + 1)), (0, .ref (a 0)), (1, .int x1), (2, .int x2)]) hx hb dX7_wish_68 hl (k := 3) rfl rfl (by decide) rfl (fun ls hl => ?_)
                    have e_27 : (y3_1 + 1).toInt = (y3_1).toInt + 1 := i_inc (by have := i_rng y3_1; have := i_rng (q 40 0); omega)
                    refine lv_goto (tgt := 29) hx hb dX7_wish_71 (by decide) ?_
                    exact ih (y3_1 + 1) _ _ _ (by omega) (by first | omega | assumption) (Eq.trans (Eq.symm (by (rw [lX7_wish_1_s, if_neg c_9, if_pos c_16, if_pos c_21, if_neg c_25]); try rfl)) he_1) hP hS (lv_sub hl [1, 2, 3, 0] rfl)
                  · have e_26 := i_eq c_25
                    refine lv_iconst (v := (-1)) hx hb dX7_wish_66 (by decide) ?_
                    have hF : (fX7_wish q x1 x2) = ((-1), q) := ((Eq.symm he_1).trans (by (rw [lX7_wish_1_s, if_neg c_9, if_pos c_16, if_pos c_21, if_pos c_25]); try rfl))
                    exact W.iret (v := (-1)) hx hb hr (fun t ht hW => ⟨⟨(-1), q, rfl, ⟨(p_fst hF), (p_snd hF)⟩, w_ht ht hP⟩, hS.F ht⟩) hS.2.2 dX7_wish_67
        exact L_1 (((q 40 0).toInt - (0 : Int32).toInt).toNat + 1) 0 _ _ _ (by omega) (by omega) (Eq.symm (by (rw [fX7_wish, if_neg c_2, if_neg c_5, if_neg c_7]); try rfl)) hP hS (lv_sub hl [1, 2, 3, 0] rfl)
      · have e_8 := i_eq c_7
        refine lv_iconst (v := (-1)) hx hb dX7_wish_25 (by decide) ?_
        have hF : (fX7_wish q x1 x2) = ((-1), q) := (show (fX7_wish q x1 x2) = ((-1), q) by (rw [fX7_wish, if_neg c_2, if_neg c_5, if_pos c_7]); try rfl)
        exact W.iret (v := (-1)) hx hb hr (fun t ht hW => ⟨⟨(-1), q, rfl, ⟨(p_fst hF), (p_snd hF)⟩, w_ht ht hP⟩, hS.F ht⟩) hS.2.2 dX7_wish_26
