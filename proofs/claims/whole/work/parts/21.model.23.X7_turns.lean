set_option maxHeartbeats 4000000 in
set_option maxRecDepth 100000 in
theorem mX7_turns (l : Launch) (G : va_G) (cy : ClassId) (a : Nat → Nat) (sz : Nat) (q : wSt) (hI : iI q) : CtV l yX7_turns wsX7_turns ({ frames := 3, cells := 0, slots := 0, locals := 65 }) G cy (cM cy a) mN sz q [.ref (a 0)] (fX7_turns q) := by
  refine Met.ofW (cc := cX7_turns) (maxL := 3) (ret := none) (by decide) rfl ?_
  intro p e s m args below meth c s₁ B hml hv
  obtain ⟨rfl, hsz, hP, hK, hD0, hN⟩ := hv
  have hx := B.exec
  have hb := B.bytes
  have hr := B.returns
  have hts := atoms_spec (ws := wsX7_turns) B.pre
  have hown : s.vm.findClass RX7 = some m.cls := findClass_of_methodNamed B.named
  have hlocks := B.notSynchronized
  subst hsz
  have hD : ∀ z : wSt, va_D (wA (cM cy a) s.heap.size) ((cM cy a) z) := fun z => w_self (mOk cy a).1 hD0 z
  have hA : ∀ z : Nat, s.heap.size ≤ z → wA (cM cy a) s.heap.size z := fun _ h => Or.inr h
  have hS : va_S (wA (cM cy a) s.heap.size) s.heap s.heap [] := va_S.rf
  have hl := lv_entry ([.ref (a 0)]) (n := 3) (Nat.le_of_ble_eq_true rfl)
  rw [lg_entry_eq]
  generalize (lg_sl ([.ref (a 0)]) ++ List.replicate (3 - (lg_sl ([.ref (a 0)])).length) Slot.unset).toArray = ls at hl ⊢
  have hl : lv_has ls 3 [(0, .ref (a 0))] := hl
  have h_1 := hts (.fieldLink RX7 102 RX7 "wishes" "I") (by decide +kernel)
  have h_2 := (show ∀ w ∈ u_ws RX7 TX7 35, w ∈ wsX7_turns by decide +kernel)
  have h_3 := hts (.fieldLink RX7 40 RX7 "rank" "[I") (by decide +kernel)
  have h_4 := hts (.fieldLink RX7 52 RX7 "wisher" "[I") (by decide +kernel)
  have h_5 := hts (.fieldLink RX7 64 RX7 "waitsFrom" "[I") (by decide +kernel)
  have t_m1 : ((-1) : Int32).toInt = -1 := rfl
  have t_0 : (0 : Int32).toInt = 0 := rfl
  have t_1 : (1 : Int32).toInt = 1 := rfl
  have hB := iI_b hI
  refine lv_iconst (v := 0) hx hb dX7_turns_0 (by decide) ?_
  refine lv_istore_n (lv' := [(1, .int 0), (0, .ref (a 0))]) hx hb dX7_turns_1 rfl hl (by decide) rfl (fun ls hl => ?_)
  have L_1 : ∀ (n : Nat) (y1_1 : Int32) (p1 : wSt) (H : Heap) (ls : Array Slot) (locs : List Loc), 2 * shN p1 + fl y1_1 < n → iI p1 → lX7_turns_1 q n y1_1 p1 = (fX7_turns q) → va_P G vwCl ((cM cy a) p1) H → va_S (wA (cM cy a) s.heap.size) s.heap H locs → lv_has ls 3 [(0, .ref (a 0)), (1, .int y1_1)] → W p l e ({ frames := 3, cells := 0, slots := 0, locals := 65 }) s m [.ref (a 0)].toArray below meth c H locs 0 0 (MQ below (wQv G (cM cy a) s.heap.size (fX7_turns q)) [.ref (a 0)].toArray s 0 0 (wA (cM cy a) s.heap.size)) (F0 m 2 ls []) := by
    intro n
    induction n with
    | zero => intro y1_1 p1 H ls locs hm; exact absurd hm (Nat.not_lt_zero _)
    | succ n ih =>
      intro y1_1 p1 H ls locs hm_1 hI_1 he_1 hP hS hl
      have e_64 := iI_b hI_1
      refine lv_iload_n hx hb dX7_turns_2 rfl (lv_at hl 1 rfl) ?_
      refine lv_iconst (v := (-1)) hx hb dX7_turns_3 (by decide) ?_
      refine lv_icmp_eq (tgt := 121) hx hb dX7_turns_4 (by decide) (fun c_1 => ?_) (fun c_1 => ?_)
      · have e_2 := i_eq c_1
        exact W.vret hx hb hr (fun t ht hW => ⟨⟨p1, rfl, ((Eq.symm he_1).trans (by (rw [lX7_turns_1_s, if_pos c_1]); try rfl)).symm, w_ht ht hP⟩, hS.F ht⟩) hS.2.2 dX7_turns_121
      · have e_2 := i_ne c_1
        refine lv_iconst (v := (-1)) hx hb dX7_turns_7 (by decide) ?_
        refine lv_istore_n (lv' := [(1, .int (-1)), (0, .ref (a 0))]) hx hb dX7_turns_8 rfl hl (by decide) rfl (fun ls hl => ?_)
        refine lv_iconst (v := 0) hx hb dX7_turns_9 (by decide) ?_
        refine lv_istore_n (lv' := [(2, .int 0), (1, .int (-1)), (0, .ref (a 0))]) hx hb dX7_turns_10 rfl hl (by decide) rfl (fun ls hl => ?_)
        have K_2 : ∀ (v1 : Int32) (H : Heap) (ls : Array Slot) (locs : List Loc), (lX7_turns_2 q y1_1 p1 (((p1 40 0).toInt - (0 : Int32).toInt).toNat + 1) (-1) 0) = v1 → ((v1).toInt = -1 ∨ (0 ≤ (v1).toInt ∧ (v1).toInt < (p1 40 0).toInt)) → va_P G vwCl ((cM cy a) p1) H → va_S (wA (cM cy a) s.heap.size) s.heap H locs → lv_has ls 3 [(0, .ref (a 0)), (1, .int v1)] → W p l e ({ frames := 3, cells := 0, slots := 0, locals := 65 }) s m [.ref (a 0)].toArray below meth c H locs 0 0 (MQ below (wQv G (cM cy a) s.heap.size (fX7_turns q)) [.ref (a 0)].toArray s 0 0 (wA (cM cy a) s.heap.size)) (F0 m 108 ls []) := by
          intro v1 H ls locs hv iv_2_x hP hS hl
          subst hv
          have e_61 := tX7_turns_2 q y1_1 p1 (((p1 40 0).toInt - (0 : Int32).toInt).toNat + 1)
          have e_62 := iI_b hI_1
          refine lv_iload_n hx hb dX7_turns_108 rfl (lv_at hl 1 rfl) ?_
          refine lv_iconst (v := (-1)) hx hb dX7_turns_109 (by decide) ?_
          refine lv_icmp_eq (tgt := 2) hx hb dX7_turns_110 (by decide) (fun c_34 => ?_) (fun c_34 => ?_)
          · have e_35 := i_eq c_34
            exact ih (lX7_turns_2 q y1_1 p1 (((p1 40 0).toInt - (0 : Int32).toInt).toNat + 1) (-1) 0) p1 _ _ _ (by have h8 := fl_sp y1_1; have h9 := fl_sp (lX7_turns_2 q y1_1 p1 (((p1 40 0).toInt - (0 : Int32).toInt).toNat + 1) (-1) 0); omega) hI_1 (Eq.trans (Eq.symm (by (rw [lX7_turns_1_s, if_neg c_1, if_pos c_34]); try rfl)) he_1) hP hS (lv_sub hl [0, 1] rfl)
          · have e_35 := i_ne c_34
            refine lv_aload_n hx hb dX7_turns_113 rfl (lv_at hl 0 rfl) ?_
            refine lv_iload_n hx hb dX7_turns_114 rfl (lv_at hl 1 rfl) ?_
            refine w_goV (va_runV (As := [.int (lX7_turns_2 q y1_1 p1 (((p1 40 0).toInt - (0 : Int32).toInt).toNat + 1) (-1) 0)]) (rest := []) ⟨hx, hb, hml, hown, hts⟩ (mX7_gets l G cy a _ p1 (lX7_turns_2 q y1_1 p1 (((p1 40 0).toInt - (0 : Int32).toInt).toNat + 1) (-1) 0) hI_1 (by have hB9 := iI_b hI_1; omega) (by have hB9 := iI_b hI_1; omega) (tX7_can p1 (lX7_turns_2 q y1_1 p1 (((p1 40 0).toInt - (0 : Int32).toInt).toNat + 1) (-1) 0) (by omega)).1 (by have h9 := tX7_can p1 (lX7_turns_2 q y1_1 p1 (((p1 40 0).toInt - (0 : Int32).toInt).toNat + 1) (-1) 0) (by omega); omega)) (cwV 1 hts gX7_turns_X7_gets rfl rfl rfl (by decide +kernel) ⟨Nat.le_of_ble_eq_true rfl, Nat.le_of_ble_eq_true rfl⟩) (w_pre (mOk cy a) (va_recv hK hP (ci := 7) (q0 := 0) rfl rfl) hK hP hD hS hA hN) rfl rfl hl.1 rfl (lv_room (Nat.le_of_ble_eq_true rfl)) dX7_turns_115 ⟨Nat.le_of_ble_eq_true rfl, Nat.le_of_ble_eq_true rfl⟩) hD hS hA (fun H locs hP hS => ?_)
            have e_63 := tX7_gets_sh p1 (lX7_turns_2 q y1_1 p1 (((p1 40 0).toInt - (0 : Int32).toInt).toNat + 1) (-1) 0) (by omega) (by omega)
            refine lv_goto (tgt := 2) hx hb dX7_turns_118 (by decide) ?_
            exact ih (lX7_turns_2 q y1_1 p1 (((p1 40 0).toInt - (0 : Int32).toInt).toNat + 1) (-1) 0) (fX7_gets p1 (lX7_turns_2 q y1_1 p1 (((p1 40 0).toInt - (0 : Int32).toInt).toNat + 1) (-1) 0)) _ _ _ (by have h8 := fl_sp y1_1; have h9 := fl_sp (lX7_turns_2 q y1_1 p1 (((p1 40 0).toInt - (0 : Int32).toInt).toNat + 1) (-1) 0); omega) (iIX7_gets p1 (lX7_turns_2 q y1_1 p1 (((p1 40 0).toInt - (0 : Int32).toInt).toNat + 1) (-1) 0) hI_1) (Eq.trans (Eq.symm (by (rw [lX7_turns_1_s, if_neg c_1, if_neg c_34]); try rfl)) he_1) hP hS (lv_sub hl [0, 1] rfl)
        have L_2 : ∀ (n : Nat) (y1_2 : Int32) (y2_2 : Int32) (H : Heap) (ls : Array Slot) (locs : List Loc), ((p1 40 0).toInt - (y2_2).toInt).toNat < n → (0 ≤ (y2_2).toInt) → ((y1_2).toInt = -1 ∨ (0 ≤ (y1_2).toInt ∧ (y1_2).toInt < (p1 40 0).toInt)) → lX7_turns_2 q y1_1 p1 n y1_2 y2_2 = (lX7_turns_2 q y1_1 p1 (((p1 40 0).toInt - (0 : Int32).toInt).toNat + 1) (-1) 0) → va_P G vwCl ((cM cy a) p1) H → va_S (wA (cM cy a) s.heap.size) s.heap H locs → lv_has ls 3 [(0, .ref (a 0)), (1, .int y1_2), (2, .int y2_2)] → W p l e ({ frames := 3, cells := 0, slots := 0, locals := 65 }) s m [.ref (a 0)].toArray below meth c H locs 0 0 (MQ below (wQv G (cM cy a) s.heap.size (fX7_turns q)) [.ref (a 0)].toArray s 0 0 (wA (cM cy a) s.heap.size)) (F0 m 11 ls []) := by
          intro n
          induction n with
          | zero => intro y1_2 y2_2 H ls locs hm; exact absurd hm (Nat.not_lt_zero _)
          | succ n ih =>
            intro y1_2 y2_2 H ls locs hm_2 i0_2 iv_2 he_2 hP hS hl
            refine lv_iload_n hx hb dX7_turns_11 rfl (lv_at hl 2 rfl) ?_
            refine lv_aload_n hx hb dX7_turns_12 rfl (lv_at hl 0 rfl) ?_
            refine gfX7_102 (v := (p1 40 0)) hx hb hts h_2 hown hK hP h_1 rfl dX7_turns_13 ?_
            refine lv_icmp_ge (tgt := 108) hx hb dX7_turns_16 (by decide) (fun c_3 => ?_) (fun c_3 => ?_)
            · have e_4 := i_le c_3
              exact K_2 y1_2 _ _ _ (Eq.trans (Eq.symm he_2) (by (rw [lX7_turns_2_s, if_pos c_3]); try rfl)) (by first | omega | assumption) hP hS (lv_sub hl [0, 1] rfl)
            · have e_4 := i_nle c_3
              refine lv_aload_n hx hb dX7_turns_19 rfl (lv_at hl 0 rfl) ?_
              refine lv_iload_n hx hb dX7_turns_20 rfl (lv_at hl 2 rfl) ?_
              refine w_goI (va_runV (As := [.int y2_2]) (rest := []) ⟨hx, hb, hml, hown, hts⟩ (mX7_canHave l G cy a _ p1 y2_2 hI_1 (by have hB9 := iI_b hI_1; omega) (by have hB9 := iI_b hI_1; omega)) (cwV 1 hts gX7_turns_X7_canHave rfl rfl rfl (by decide +kernel) ⟨Nat.le_of_ble_eq_true rfl, Nat.le_of_ble_eq_true rfl⟩) (w_pre (mOk cy a) (va_recv hK hP (ci := 7) (q0 := 0) rfl rfl) hK hP hD hS hA hN) rfl rfl hl.1 rfl (lv_room (Nat.le_of_ble_eq_true rfl)) dX7_turns_21 ⟨Nat.le_of_ble_eq_true rfl, Nat.le_of_ble_eq_true rfl⟩) hD hS hA (fun H locs hP hS => ?_)
              have J_3 : ∀ (v1 : Int32) (H : Heap) (ls : Array Slot) (locs : List Loc), (fX7_turns_j3 q y1_1 p1 y1_2 y2_2) = v1 → ((v1).toInt = -1 ∨ (0 ≤ (v1).toInt ∧ (v1).toInt < (p1 40 0).toInt)) → va_P G vwCl ((cM cy a) p1) H → va_S (wA (cM cy a) s.heap.size) s.heap H locs → lv_has ls 3 [(0, .ref (a 0)), (1, .int v1), (2, .int y2_2)] → W p l e ({ frames := 3, cells := 0, slots := 0, locals := 65 }) s m [.ref (a 0)].toArray below meth c H locs 0 0 (MQ below (wQv G (cM cy a) s.heap.size (fX7_turns q)) [.ref (a 0)].toArray s 0 0 (wA (cM cy a) s.heap.size)) (F0 m 102 ls []) := by
                intro v1 H ls locs hv iv_2_j3 hP hS hl
                subst hv
                refine lv_iinc (v := (y2_2 + 1)) (lv' := [(2, .int (y2_2 + 1)), (0, .ref (a 0)), (1, .int (fX7_turns_j3 q y1_1 p1 y1_2 y2_2))]) hx hb dX7_turns_102 hl (k := 2) rfl rfl (by decide) rfl (fun ls hl => ?_)
                have e_33 : (y2_2 + 1).toInt = (y2_2).toInt + 1 := i_inc (by have := i_rng y2_2; have := i_rng (p1 40 0); omega)
                refine lv_goto (tgt := 11) hx hb dX7_turns_105 (by decide) ?_
                exact ih (fX7_turns_j3 q y1_1 p1 y1_2 y2_2) (y2_2 + 1) _ _ _ (by omega) (by first | omega | assumption) (by first | omega | assumption) (Eq.trans (Eq.symm (by (rw [lX7_turns_2_s, if_neg c_3]); try rfl)) he_2) hP hS (lv_sub hl [1, 2, 0] rfl)
              refine lv_if_ne (tgt := 30) hx hb dX7_turns_24 (by decide) (fun c_5 => ?_) (fun c_5 => ?_)
              · have e_6 := i_ne c_5
                refine lv_iload_n hx hb dX7_turns_30 rfl (lv_at hl 1 rfl) ?_
                refine lv_iconst (v := (-1)) hx hb dX7_turns_31 (by decide) ?_
                refine lv_icmp_eq (tgt := 100) hx hb dX7_turns_32 (by decide) (fun c_7 => ?_) (fun c_7 => ?_)
                · have e_8 := i_eq c_7
                  refine lv_iload_n hx hb dX7_turns_100 rfl (lv_at hl 2 rfl) ?_
                  refine lv_istore_n (lv' := [(1, .int y2_2), (0, .ref (a 0)), (2, .int y2_2)]) hx hb dX7_turns_101 rfl hl (by decide) rfl (fun ls hl => ?_)
                  exact J_3 y2_2 _ _ _ (by (rw [fX7_turns_j3, if_neg c_5, if_pos c_7]); try rfl) (show (y2_2).toInt = -1 ∨ (0 ≤ (y2_2).toInt ∧ (y2_2).toInt < (p1 40 0).toInt) by omega) hP hS (lv_sub hl [1, 0, 2] rfl)
                · have e_8 := i_ne c_7
                  refine lv_aload_n hx hb dX7_turns_35 rfl (lv_at hl 0 rfl) ?_
                  refine gfX7_40 hx hb hts h_2 hown hK hP h_3 dX7_turns_36 ?_
                  refine lv_aload_n hx hb dX7_turns_39 rfl (lv_at hl 0 rfl) ?_
                  refine gfX7_52 hx hb hts h_2 hown hK hP h_4 dX7_turns_40 ?_
                  refine lv_iload_n hx hb dX7_turns_43 rfl (lv_at hl 2 rfl) ?_
                  have v_9 : vp_in y2_2 100 := vp_in_iff.mpr (by omega)
                  refine ldM_22 (f := (p1 22)) hx hb hK hP rfl v_9 dX7_turns_44 ?_
                  have e_10 := iI_22 hI_1 _ (i_clamp v_9)
                  have v_11 : vp_in (p1 22 (y2_2).toNatClampNeg) 20 := vp_in_iff.mpr (by omega)
                  refine ldM_16 (f := (p1 16)) hx hb hK hP rfl v_11 dX7_turns_45 ?_
                  have e_12 := iI_16 hI_1 _ (i_clamp v_11)
                  refine lv_aload_n hx hb dX7_turns_46 rfl (lv_at hl 0 rfl) ?_
                  refine gfX7_40 hx hb hts h_2 hown hK hP h_3 dX7_turns_47 ?_
                  refine lv_aload_n hx hb dX7_turns_50 rfl (lv_at hl 0 rfl) ?_
                  refine gfX7_52 hx hb hts h_2 hown hK hP h_4 dX7_turns_51 ?_
                  refine lv_iload_n hx hb dX7_turns_54 rfl (lv_at hl 1 rfl) ?_
                  have v_13 : vp_in y1_2 100 := vp_in_iff.mpr (by omega)
                  refine ldM_22 (f := (p1 22)) hx hb hK hP rfl v_13 dX7_turns_55 ?_
                  have e_14 := iI_22 hI_1 _ (i_clamp v_13)
                  have v_15 : vp_in (p1 22 (y1_2).toNatClampNeg) 20 := vp_in_iff.mpr (by omega)
                  refine ldM_16 (f := (p1 16)) hx hb hK hP rfl v_15 dX7_turns_56 ?_
                  have e_16 := iI_16 hI_1 _ (i_clamp v_15)
                  refine lv_icmp_gt (tgt := 100) hx hb dX7_turns_57 (by decide) (fun c_17 => ?_) (fun c_17 => ?_)
                  · have e_18 := i_lt c_17
                    refine lv_iload_n hx hb dX7_turns_100 rfl (lv_at hl 2 rfl) ?_
                    refine lv_istore_n (lv' := [(1, .int y2_2), (0, .ref (a 0)), (2, .int y2_2)]) hx hb dX7_turns_101 rfl hl (by decide) rfl (fun ls hl => ?_)
                    exact J_3 y2_2 _ _ _ (by (rw [fX7_turns_j3, if_neg c_5, if_neg c_7, if_pos c_17]); try rfl) (show (y2_2).toInt = -1 ∨ (0 ≤ (y2_2).toInt ∧ (y2_2).toInt < (p1 40 0).toInt) by omega) hP hS (lv_sub hl [1, 0, 2] rfl)
                  · have e_18 := i_nlt c_17
                    refine lv_aload_n hx hb dX7_turns_60 rfl (lv_at hl 0 rfl) ?_
                    refine gfX7_40 hx hb hts h_2 hown hK hP h_3 dX7_turns_61 ?_
                    refine lv_aload_n hx hb dX7_turns_64 rfl (lv_at hl 0 rfl) ?_
                    refine gfX7_52 hx hb hts h_2 hown hK hP h_4 dX7_turns_65 ?_
                    refine lv_iload_n hx hb dX7_turns_68 rfl (lv_at hl 2 rfl) ?_
                    have v_19 : vp_in y2_2 100 := vp_in_iff.mpr (by omega)
                    refine ldM_22 (f := (p1 22)) hx hb hK hP rfl v_19 dX7_turns_69 ?_
                    have e_20 := iI_22 hI_1 _ (i_clamp v_19)
                    have v_21 : vp_in (p1 22 (y2_2).toNatClampNeg) 20 := vp_in_iff.mpr (by omega)
                    refine ldM_16 (f := (p1 16)) hx hb hK hP rfl v_21 dX7_turns_70 ?_
                    have e_22 := iI_16 hI_1 _ (i_clamp v_21)
                    refine lv_aload_n hx hb dX7_turns_71 rfl (lv_at hl 0 rfl) ?_
                    refine gfX7_40 hx hb hts h_2 hown hK hP h_3 dX7_turns_72 ?_
                    refine lv_aload_n hx hb dX7_turns_75 rfl (lv_at hl 0 rfl) ?_
                    refine gfX7_52 hx hb hts h_2 hown hK hP h_4 dX7_turns_76 ?_
                    refine lv_iload_n hx hb dX7_turns_79 rfl (lv_at hl 1 rfl) ?_
                    have v_23 : vp_in y1_2 100 := vp_in_iff.mpr (by omega)
                    refine ldM_22 (f := (p1 22)) hx hb hK hP rfl v_23 dX7_turns_80 ?_
                    have e_24 := iI_22 hI_1 _ (i_clamp v_23)
                    have v_25 : vp_in (p1 22 (y1_2).toNatClampNeg) 20 := vp_in_iff.mpr (by omega)
                    refine ldM_16 (f := (p1 16)) hx hb hK hP rfl v_25 dX7_turns_81 ?_
                    have e_26 := iI_16 hI_1 _ (i_clamp v_25)
                    refine lv_icmp_ne (tgt := 102) hx hb dX7_turns_82 (by decide) (fun c_27 => ?_) (fun c_27 => ?_)
                    · have e_28 := i_ne c_27
                      exact J_3 y1_2 _ _ _ (by (rw [fX7_turns_j3, if_neg c_5, if_neg c_7, if_neg c_17, if_neg c_27]); try rfl) (show (y1_2).toInt = -1 ∨ (0 ≤ (y1_2).toInt ∧ (y1_2).toInt < (p1 40 0).toInt) by omega) hP hS (lv_sub hl [0, 1, 2] rfl)
                    · have e_28 := i_eq c_27
                      refine lv_aload_n hx hb dX7_turns_85 rfl (lv_at hl 0 rfl) ?_
                      refine gfX7_64 hx hb hts h_2 hown hK hP h_5 dX7_turns_86 ?_
                      refine lv_iload_n hx hb dX7_turns_89 rfl (lv_at hl 2 rfl) ?_
                      have v_29 : vp_in y2_2 100 := vp_in_iff.mpr (by omega)
                      refine ldM_27 (f := (p1 27)) hx hb hK hP rfl v_29 dX7_turns_90 ?_
                      refine lv_aload_n hx hb dX7_turns_91 rfl (lv_at hl 0 rfl) ?_
                      refine gfX7_64 hx hb hts h_2 hown hK hP h_5 dX7_turns_92 ?_
                      refine lv_iload_n hx hb dX7_turns_95 rfl (lv_at hl 1 rfl) ?_
                      have v_30 : vp_in y1_2 100 := vp_in_iff.mpr (by omega)
                      refine ldM_27 (f := (p1 27)) hx hb hK hP rfl v_30 dX7_turns_96 ?_
                      refine lv_icmp_ge (tgt := 102) hx hb dX7_turns_97 (by decide) (fun c_31 => ?_) (fun c_31 => ?_)
                      · have e_32 := i_le c_31
                        exact J_3 y1_2 _ _ _ (by (rw [fX7_turns_j3, if_neg c_5, if_neg c_7, if_neg c_17, if_pos c_27, if_pos c_31]); try rfl) (show (y1_2).toInt = -1 ∨ (0 ≤ (y1_2).toInt ∧ (y1_2).toInt < (p1 40 0).toInt) by omega) hP hS (lv_sub hl [0, 1, 2] rfl)
                      · have e_32 := i_nle c_31
                        refine lv_iload_n hx hb dX7_turns_100 rfl (lv_at hl 2 rfl) ?_
                        refine lv_istore_n (lv' := [(1, .int y2_2), (0, .ref (a 0)), (2, .int y2_2)]) hx hb dX7_turns_101 rfl hl (by decide) rfl (fun ls hl => ?_)
                        exact J_3 y2_2 _ _ _ (by (rw [fX7_turns_j3, if_neg c_5, if_neg c_7, if_neg c_17, if_pos c_27, if_neg c_31]); try rfl) (show (y2_2).toInt = -1 ∨ (0 ≤ (y2_2).toInt ∧ (y2_2).toInt < (p1 40 0).toInt) by omega) hP hS (lv_sub hl [1, 0, 2] rfl)
              · have e_6 := i_eq c_5
                refine lv_goto (tgt := 102) hx hb dX7_turns_27 (by decide) ?_
                exact J_3 y1_2 _ _ _ (by (rw [fX7_turns_j3, if_pos c_5]); try rfl) (show (y1_2).toInt = -1 ∨ (0 ≤ (y1_2).toInt ∧ (y1_2).toInt < (p1 40 0).toInt) by omega) hP hS (lv_sub hl [0, 1, 2] rfl)
        exact L_2 (((p1 40 0).toInt - (0 : Int32).toInt).toNat + 1) (-1) 0 _ _ _ (by omega) (by omega) (by omega) rfl hP hS (lv_sub hl [2, 1, 0] rfl)
  exact L_1 (2 * shN q + 2) 0 q _ _ _ (by have h8 := fl_sp 0; omega) hI (Eq.symm (by (rw [fX7_turns]); try rfl)) hP hS (lv_sub hl [1, 0] rfl)
