set_option maxHeartbeats 4000000 in
set_option maxRecDepth 100000 in
theorem mX7_boxes (l : Launch) (G : va_G) (cy : ClassId) (a : Nat → Nat) (sz : Nat) (q : wSt) (hI : iI q) : CtV l yX7_boxes wsX7_boxes ({ frames := 0, cells := 0, slots := 0, locals := 0 }) G cy (cM cy a) mN sz q [.ref (a 0)] (fX7_boxes q) := by
  refine Met.ofW (cc := cX7_boxes) (maxL := 2) (ret := none) (by decide) rfl ?_
  intro p e s m args below meth c s₁ B hml hv
  obtain ⟨rfl, hsz, hP, hK, hD0, hN⟩ := hv
  have hx := B.exec
  have hb := B.bytes
  have hr := B.returns
  have hts := atoms_spec (ws := wsX7_boxes) B.pre
  have hown : s.vm.findClass RX7 = some m.cls := findClass_of_methodNamed B.named
  have hlocks := B.notSynchronized
  subst hsz
  have hD : ∀ z : wSt, va_D (wA (cM cy a) s.heap.size) ((cM cy a) z) := fun z => w_self (mOk cy a).1 hD0 z
  have hA : ∀ z : Nat, s.heap.size ≤ z → wA (cM cy a) s.heap.size z := fun _ h => Or.inr h
  have hS : va_S (wA (cM cy a) s.heap.size) s.heap s.heap [] := va_S.rf
  have hl := lv_entry ([.ref (a 0)]) (n := 2) (Nat.le_of_ble_eq_true rfl)
  rw [lg_entry_eq]
  generalize (lg_sl ([.ref (a 0)]) ++ List.replicate (2 - (lg_sl ([.ref (a 0)])).length) Slot.unset).toArray = ls at hl ⊢
  have hl : lv_has ls 2 [(0, .ref (a 0))] := hl
  have h_1 := hts (.fieldLink RX7 99 RX7 "copies" "I") (by decide +kernel)
  have h_2 := (show ∀ w ∈ u_ws RX7 TX7 35, w ∈ wsX7_boxes by decide +kernel)
  have h_3 := hts (.fieldLink RX7 22 RX7 "state" "[I") (by decide +kernel)
  have h_4 := hts (.fieldLink RX7 34 RX7 "toGo" "[I") (by decide +kernel)
  have h_5 := hts (.fieldLink RX7 25 RX7 "readerOf" "[I") (by decide +kernel)
  have h_6 := hts (.fieldLink RX7 31 RX7 "since" "[I") (by decide +kernel)
  have h_7 := hts (.fieldLink RX7 112 RX7 "now" "I") (by decide +kernel)
  have t_m1 : ((-1) : Int32).toInt = -1 := rfl
  have t_0 : (0 : Int32).toInt = 0 := rfl
  have t_1 : (1 : Int32).toInt = 1 := rfl
  have t_2 : (2 : Int32).toInt = 2 := rfl
  have t_3 : (3 : Int32).toInt = 3 := rfl
  have hB := iI_b hI
  refine lv_iconst (v := 0) hx hb dX7_boxes_0 (by decide) ?_
  refine lv_istore_n (lv' := [(1, .int 0), (0, .ref (a 0))]) hx hb dX7_boxes_1 rfl hl (by decide) rfl (fun ls hl => ?_)
  have L_1 : ∀ (n : Nat) (y1_1 : Int32) (p1 : wSt) (H : Heap) (ls : Array Slot) (locs : List Loc), (((q 36) 0).toInt - (y1_1).toInt).toNat < n → iI p1 → p1 36 = (q 36) → (0 ≤ (y1_1).toInt) → lX7_boxes_1 q n y1_1 p1 = (fX7_boxes q) → va_P G vwCl ((cM cy a) p1) H → va_S (wA (cM cy a) s.heap.size) s.heap H locs → lv_has ls 2 [(0, .ref (a 0)), (1, .int y1_1)] → W p l e ({ frames := 0, cells := 0, slots := 0, locals := 0 }) s m [.ref (a 0)].toArray below meth c H locs 0 0 (MQ below (wQv G (cM cy a) s.heap.size (fX7_boxes q)) [.ref (a 0)].toArray s 0 0 (wA (cM cy a) s.heap.size)) (F0 m 2 ls []) := by
    intro n
    induction n with
    | zero => intro y1_1 p1 H ls locs hm; exact absurd hm (Nat.not_lt_zero _)
    | succ n ih =>
      intro y1_1 p1 H ls locs hm_1 hI_1 hc36_1 i0_1 he_1 hP hS hl
      have e_34 : (p1 36 0).toInt = ((q 36) 0).toInt := by rw [hc36_1]
      refine lv_iload_n hx hb dX7_boxes_2 rfl (lv_at hl 1 rfl) ?_
      refine lv_aload_n hx hb dX7_boxes_3 rfl (lv_at hl 0 rfl) ?_
      refine gfX7_99 (v := (p1 36 0)) hx hb hts h_2 hown hK hP h_1 rfl dX7_boxes_4 ?_
      refine lv_icmp_ge (tgt := 105) hx hb dX7_boxes_7 (by decide) (fun c_1 => ?_) (fun c_1 => ?_)
      · have e_2 := i_le c_1
        exact W.vret hx hb hr (fun t ht hW => ⟨⟨p1, rfl, ((Eq.symm he_1).trans (by (rw [lX7_boxes_1_s, if_pos c_1]); try rfl)).symm, w_ht ht hP⟩, hS.F ht⟩) hS.2.2 dX7_boxes_105
      · have e_2 := i_nle c_1
        refine lv_aload_n hx hb dX7_boxes_10 rfl (lv_at hl 0 rfl) ?_
        refine gfX7_22 hx hb hts h_2 hown hK hP h_3 dX7_boxes_11 ?_
        refine lv_iload_n hx hb dX7_boxes_14 rfl (lv_at hl 1 rfl) ?_
        have v_3 : vp_in y1_1 200 := vp_in_iff.mpr (by omega)
        refine ldM_6 (f := (p1 6)) hx hb hK hP rfl v_3 dX7_boxes_15 ?_
        refine lv_iconst (v := 2) hx hb dX7_boxes_16 (by decide) ?_
        have J_2 : ∀ (v1 : wSt) (H : Heap) (ls : Array Slot) (locs : List Loc), (fX7_boxes_j2 q y1_1 p1) = v1 → iI v1 → va_P G vwCl ((cM cy a) v1) H → va_S (wA (cM cy a) s.heap.size) s.heap H locs → lv_has ls 2 [(0, .ref (a 0)), (1, .int y1_1)] → W p l e ({ frames := 0, cells := 0, slots := 0, locals := 0 }) s m [.ref (a 0)].toArray below meth c H locs 0 0 (MQ below (wQv G (cM cy a) s.heap.size (fX7_boxes q)) [.ref (a 0)].toArray s 0 0 (wA (cM cy a) s.heap.size)) (F0 m 99 ls []) := by
          intro v1 H ls locs hv hI_j2 hP hS hl
          subst hv
          refine lv_iinc (v := (y1_1 + 1)) (lv' := [(1, .int (y1_1 + 1)), (0, .ref (a 0))]) hx hb dX7_boxes_99 hl (k := 1) rfl rfl (by decide) rfl (fun ls hl => ?_)
          have e_33 : (y1_1 + 1).toInt = (y1_1).toInt + 1 := i_inc (by have := i_rng y1_1; have := i_rng (p1 36 0); omega)
          refine lv_goto (tgt := 2) hx hb dX7_boxes_102 (by decide) ?_
          exact ih (y1_1 + 1) (fX7_boxes_j2 q y1_1 p1) _ _ _ (by omega) hI_j2 ((frX7_boxes_j2 q y1_1 p1 36 (by decide)).trans hc36_1) (by first | omega | assumption) (Eq.trans (Eq.symm (by (rw [lX7_boxes_1_s, if_neg c_1]); try rfl)) he_1) hP hS (lv_sub hl [1, 0] rfl)
        refine lv_icmp_eq (tgt := 33) hx hb dX7_boxes_17 (by decide) (fun c_4 => ?_) (fun c_4 => ?_)
        · have e_5 := i_eq c_4
          refine lv_aload_n hx hb dX7_boxes_33 rfl (lv_at hl 0 rfl) ?_
          refine gfX7_34 hx hb hts h_2 hown hK hP h_4 dX7_boxes_34 ?_
          refine lv_iload_n hx hb dX7_boxes_37 rfl (lv_at hl 1 rfl) ?_
          refine lv_dup2_11 hx hb dX7_boxes_38 rfl rfl ?_
          have v_6 : vp_in y1_1 200 := vp_in_iff.mpr (by omega)
          refine ldM_13 (f := (p1 13)) hx hb hK hP rfl v_6 dX7_boxes_39 ?_
          refine lv_iconst (v := 1) hx hb dX7_boxes_40 (by decide) ?_
          refine lv_isub hx hb dX7_boxes_41 ?_
          have v_7 : vp_in y1_1 200 := vp_in_iff.mpr (by omega)
          refine stM_13 (f := (p1 13)) hx hb hK hP hD hS rfl v_7 dX7_boxes_42 (fun H locs hP hS => ?_)
          refine lv_aload_n hx hb dX7_boxes_43 rfl (lv_at hl 0 rfl) ?_
          refine gfX7_34 hx hb hts h_2 hown hK hP h_4 dX7_boxes_44 ?_
          refine lv_iload_n hx hb dX7_boxes_47 rfl (lv_at hl 1 rfl) ?_
          have v_8 : vp_in y1_1 200 := vp_in_iff.mpr (by omega)
          refine ldM_13 (f := (upd (p1 13) (y1_1).toNatClampNeg ((p1 13 (y1_1).toNatClampNeg) - 1))) hx hb hK hP rset_eq v_8 dX7_boxes_48 ?_
          refine lv_if_le (tgt := 55) hx hb dX7_boxes_49 (by decide) (fun c_9 => ?_) (fun c_9 => ?_)
          · have e_10 := i_le c_9
            refine lv_aload_n hx hb dX7_boxes_55 rfl (lv_at hl 0 rfl) ?_
            refine gfX7_22 hx hb hts h_2 hown hK hP h_3 dX7_boxes_56 ?_
            refine lv_iload_n hx hb dX7_boxes_59 rfl (lv_at hl 1 rfl) ?_
            have v_11 : vp_in y1_1 200 := vp_in_iff.mpr (by omega)
            refine ldM_6 (f := (p1 6)) hx hb hK hP (rset_ne (by decide)) v_11 dX7_boxes_60 ?_
            refine lv_iconst (v := 2) hx hb dX7_boxes_61 (by decide) ?_
            refine lv_icmp_ne (tgt := 85) hx hb dX7_boxes_62 (by decide) (fun c_12 => ?_) (fun c_12 => ?_)
            · have e_13 := i_ne c_12
              refine lv_aload_n hx hb dX7_boxes_85 rfl (lv_at hl 0 rfl) ?_
              refine gfX7_22 hx hb hts h_2 hown hK hP h_3 dX7_boxes_86 ?_
              refine lv_iload_n hx hb dX7_boxes_89 rfl (lv_at hl 1 rfl) ?_
              refine lv_iconst (v := 0) hx hb dX7_boxes_90 (by decide) ?_
              have v_14 : vp_in y1_1 200 := vp_in_iff.mpr (by omega)
              refine stM_6 (f := (p1 6)) hx hb hK hP hD hS (rset_ne (by decide)) v_14 dX7_boxes_91 (fun H locs hP hS => ?_)
              refine lv_aload_n hx hb dX7_boxes_92 rfl (lv_at hl 0 rfl) ?_
              refine gfX7_25 hx hb hts h_2 hown hK hP h_5 dX7_boxes_93 ?_
              refine lv_iload_n hx hb dX7_boxes_96 rfl (lv_at hl 1 rfl) ?_
              refine lv_iconst (v := (-1)) hx hb dX7_boxes_97 (by decide) ?_
              have v_15 : vp_in y1_1 200 := vp_in_iff.mpr (by omega)
              refine stM_10 (f := (p1 10)) hx hb hK hP hD hS ((rset_ne (by decide)).trans (rset_ne (by decide))) v_15 dX7_boxes_98 (fun H locs hP hS => ?_)
              exact J_2 (rset (rset (rset p1 13 (upd (p1 13) (y1_1).toNatClampNeg ((p1 13 (y1_1).toNatClampNeg) - 1))) 6 (upd (p1 6) (y1_1).toNatClampNeg 0)) 10 (upd (p1 10) (y1_1).toNatClampNeg (-1))) _ _ _ (by (rw [fX7_boxes_j2, if_pos c_4, if_pos c_9, if_neg c_12]); try rfl) (iI_rset (k := 10) (f := (upd (p1 10) (y1_1).toNatClampNeg (-1))) (by decide) (iI_rset (k := 6) (f := (upd (p1 6) (y1_1).toNatClampNeg 0)) (by decide) (iI_rset (k := 13) (f := (upd (p1 13) (y1_1).toNatClampNeg ((p1 13 (y1_1).toNatClampNeg) - 1))) (by decide) hI_1))) hP hS (lv_sub hl [0, 1] rfl)
            · have e_13 := i_eq c_12
              refine lv_aload_n hx hb dX7_boxes_65 rfl (lv_at hl 0 rfl) ?_
              refine gfX7_22 hx hb hts h_2 hown hK hP h_3 dX7_boxes_66 ?_
              refine lv_iload_n hx hb dX7_boxes_69 rfl (lv_at hl 1 rfl) ?_
              refine lv_iconst (v := 1) hx hb dX7_boxes_70 (by decide) ?_
              have v_16 : vp_in y1_1 200 := vp_in_iff.mpr (by omega)
              refine stM_6 (f := (p1 6)) hx hb hK hP hD hS (rset_ne (by decide)) v_16 dX7_boxes_71 (fun H locs hP hS => ?_)
              refine lv_aload_n hx hb dX7_boxes_72 rfl (lv_at hl 0 rfl) ?_
              refine gfX7_31 hx hb hts h_2 hown hK hP h_6 dX7_boxes_73 ?_
              refine lv_iload_n hx hb dX7_boxes_76 rfl (lv_at hl 1 rfl) ?_
              refine lv_aload_n hx hb dX7_boxes_77 rfl (lv_at hl 0 rfl) ?_
              refine gfX7_112 (v := (p1 30 0)) hx hb hts h_2 hown hK hP h_7 (congrFun ((rset_ne (by decide)).trans (rset_ne (by decide))) 0) dX7_boxes_78 ?_
              have v_17 : vp_in y1_1 200 := vp_in_iff.mpr (by omega)
              refine stM_12 (f := (p1 12)) hx hb hK hP hD hS ((rset_ne (by decide)).trans (rset_ne (by decide))) v_17 dX7_boxes_81 (fun H locs hP hS => ?_)
              refine lv_goto (tgt := 99) hx hb dX7_boxes_82 (by decide) ?_
              exact J_2 (rset (rset (rset p1 13 (upd (p1 13) (y1_1).toNatClampNeg ((p1 13 (y1_1).toNatClampNeg) - 1))) 6 (upd (p1 6) (y1_1).toNatClampNeg 1)) 12 (upd (p1 12) (y1_1).toNatClampNeg (p1 30 0))) _ _ _ (by (rw [fX7_boxes_j2, if_pos c_4, if_pos c_9, if_pos c_12]); try rfl) (iI_rset (k := 12) (f := (upd (p1 12) (y1_1).toNatClampNeg (p1 30 0))) (by decide) (iI_rset (k := 6) (f := (upd (p1 6) (y1_1).toNatClampNeg 1)) (by decide) (iI_rset (k := 13) (f := (upd (p1 13) (y1_1).toNatClampNeg ((p1 13 (y1_1).toNatClampNeg) - 1))) (by decide) hI_1))) hP hS (lv_sub hl [0, 1] rfl)
          · have e_10 := i_nle c_9
            refine lv_goto (tgt := 99) hx hb dX7_boxes_52 (by decide) ?_
            exact J_2 (rset p1 13 (upd (p1 13) (y1_1).toNatClampNeg ((p1 13 (y1_1).toNatClampNeg) - 1))) _ _ _ (by (rw [fX7_boxes_j2, if_pos c_4, if_neg c_9]); try rfl) (iI_rset (k := 13) (f := (upd (p1 13) (y1_1).toNatClampNeg ((p1 13 (y1_1).toNatClampNeg) - 1))) (by decide) hI_1) hP hS (lv_sub hl [0, 1] rfl)
        · have e_5 := i_ne c_4
          refine lv_aload_n hx hb dX7_boxes_20 rfl (lv_at hl 0 rfl) ?_
          refine gfX7_22 hx hb hts h_2 hown hK hP h_3 dX7_boxes_21 ?_
          refine lv_iload_n hx hb dX7_boxes_24 rfl (lv_at hl 1 rfl) ?_
          have v_18 : vp_in y1_1 200 := vp_in_iff.mpr (by omega)
          refine ldM_6 (f := (p1 6)) hx hb hK hP rfl v_18 dX7_boxes_25 ?_
          refine lv_iconst (v := 3) hx hb dX7_boxes_26 (by decide) ?_
          refine lv_icmp_eq (tgt := 33) hx hb dX7_boxes_27 (by decide) (fun c_19 => ?_) (fun c_19 => ?_)
          · have e_20 := i_eq c_19
            refine lv_aload_n hx hb dX7_boxes_33 rfl (lv_at hl 0 rfl) ?_
            refine gfX7_34 hx hb hts h_2 hown hK hP h_4 dX7_boxes_34 ?_
            refine lv_iload_n hx hb dX7_boxes_37 rfl (lv_at hl 1 rfl) ?_
            refine lv_dup2_11 hx hb dX7_boxes_38 rfl rfl ?_
            have v_21 : vp_in y1_1 200 := vp_in_iff.mpr (by omega)
            refine ldM_13 (f := (p1 13)) hx hb hK hP rfl v_21 dX7_boxes_39 ?_
            refine lv_iconst (v := 1) hx hb dX7_boxes_40 (by decide) ?_
            refine lv_isub hx hb dX7_boxes_41 ?_
            have v_22 : vp_in y1_1 200 := vp_in_iff.mpr (by omega)
            refine stM_13 (f := (p1 13)) hx hb hK hP hD hS rfl v_22 dX7_boxes_42 (fun H locs hP hS => ?_)
            refine lv_aload_n hx hb dX7_boxes_43 rfl (lv_at hl 0 rfl) ?_
            refine gfX7_34 hx hb hts h_2 hown hK hP h_4 dX7_boxes_44 ?_
            refine lv_iload_n hx hb dX7_boxes_47 rfl (lv_at hl 1 rfl) ?_
            have v_23 : vp_in y1_1 200 := vp_in_iff.mpr (by omega)
            refine ldM_13 (f := (upd (p1 13) (y1_1).toNatClampNeg ((p1 13 (y1_1).toNatClampNeg) - 1))) hx hb hK hP rset_eq v_23 dX7_boxes_48 ?_
            refine lv_if_le (tgt := 55) hx hb dX7_boxes_49 (by decide) (fun c_24 => ?_) (fun c_24 => ?_)
            · have e_25 := i_le c_24
              refine lv_aload_n hx hb dX7_boxes_55 rfl (lv_at hl 0 rfl) ?_
              refine gfX7_22 hx hb hts h_2 hown hK hP h_3 dX7_boxes_56 ?_
              refine lv_iload_n hx hb dX7_boxes_59 rfl (lv_at hl 1 rfl) ?_
              have v_26 : vp_in y1_1 200 := vp_in_iff.mpr (by omega)
              refine ldM_6 (f := (p1 6)) hx hb hK hP (rset_ne (by decide)) v_26 dX7_boxes_60 ?_
              refine lv_iconst (v := 2) hx hb dX7_boxes_61 (by decide) ?_
              refine lv_icmp_ne (tgt := 85) hx hb dX7_boxes_62 (by decide) (fun c_27 => ?_) (fun c_27 => ?_)
              · have e_28 := i_ne c_27
                refine lv_aload_n hx hb dX7_boxes_85 rfl (lv_at hl 0 rfl) ?_
                refine gfX7_22 hx hb hts h_2 hown hK hP h_3 dX7_boxes_86 ?_
                refine lv_iload_n hx hb dX7_boxes_89 rfl (lv_at hl 1 rfl) ?_
                refine lv_iconst (v := 0) hx hb dX7_boxes_90 (by decide) ?_
                have v_29 : vp_in y1_1 200 := vp_in_iff.mpr (by omega)
                refine stM_6 (f := (p1 6)) hx hb hK hP hD hS (rset_ne (by decide)) v_29 dX7_boxes_91 (fun H locs hP hS => ?_)
                refine lv_aload_n hx hb dX7_boxes_92 rfl (lv_at hl 0 rfl) ?_
                refine gfX7_25 hx hb hts h_2 hown hK hP h_5 dX7_boxes_93 ?_
                refine lv_iload_n hx hb dX7_boxes_96 rfl (lv_at hl 1 rfl) ?_
                refine lv_iconst (v := (-1)) hx hb dX7_boxes_97 (by decide) ?_
                have v_30 : vp_in y1_1 200 := vp_in_iff.mpr (by omega)
                refine stM_10 (f := (p1 10)) hx hb hK hP hD hS ((rset_ne (by decide)).trans (rset_ne (by decide))) v_30 dX7_boxes_98 (fun H locs hP hS => ?_)
                exact J_2 (rset (rset (rset p1 13 (upd (p1 13) (y1_1).toNatClampNeg ((p1 13 (y1_1).toNatClampNeg) - 1))) 6 (upd (p1 6) (y1_1).toNatClampNeg 0)) 10 (upd (p1 10) (y1_1).toNatClampNeg (-1))) _ _ _ (by (rw [fX7_boxes_j2, if_neg c_4, if_pos c_19, if_pos c_24, if_neg c_27]); try rfl) (iI_rset (k := 10) (f := (upd (p1 10) (y1_1).toNatClampNeg (-1))) (by decide) (iI_rset (k := 6) (f := (upd (p1 6) (y1_1).toNatClampNeg 0)) (by decide) (iI_rset (k := 13) (f := (upd (p1 13) (y1_1).toNatClampNeg ((p1 13 (y1_1).toNatClampNeg) - 1))) (by decide) hI_1))) hP hS (lv_sub hl [0, 1] rfl)
              · have e_28 := i_eq c_27
                refine lv_aload_n hx hb dX7_boxes_65 rfl (lv_at hl 0 rfl) ?_
                refine gfX7_22 hx hb hts h_2 hown hK hP h_3 dX7_boxes_66 ?_
                refine lv_iload_n hx hb dX7_boxes_69 rfl (lv_at hl 1 rfl) ?_
                refine lv_iconst (v := 1) hx hb dX7_boxes_70 (by decide) ?_
                have v_31 : vp_in y1_1 200 := vp_in_iff.mpr (by omega)
                refine stM_6 (f := (p1 6)) hx hb hK hP hD hS (rset_ne (by decide)) v_31 dX7_boxes_71 (fun H locs hP hS => ?_)
                refine lv_aload_n hx hb dX7_boxes_72 rfl (lv_at hl 0 rfl) ?_
                refine gfX7_31 hx hb hts h_2 hown hK hP h_6 dX7_boxes_73 ?_
                refine lv_iload_n hx hb dX7_boxes_76 rfl (lv_at hl 1 rfl) ?_
                refine lv_aload_n hx hb dX7_boxes_77 rfl (lv_at hl 0 rfl) ?_
                refine gfX7_112 (v := (p1 30 0)) hx hb hts h_2 hown hK hP h_7 (congrFun ((rset_ne (by decide)).trans (rset_ne (by decide))) 0) dX7_boxes_78 ?_
                have v_32 : vp_in y1_1 200 := vp_in_iff.mpr (by omega)
                refine stM_12 (f := (p1 12)) hx hb hK hP hD hS ((rset_ne (by decide)).trans (rset_ne (by decide))) v_32 dX7_boxes_81 (fun H locs hP hS => ?_)
                refine lv_goto (tgt := 99) hx hb dX7_boxes_82 (by decide) ?_
                exact J_2 (rset (rset (rset p1 13 (upd (p1 13) (y1_1).toNatClampNeg ((p1 13 (y1_1).toNatClampNeg) - 1))) 6 (upd (p1 6) (y1_1).toNatClampNeg 1)) 12 (upd (p1 12) (y1_1).toNatClampNeg (p1 30 0))) _ _ _ (by (rw [fX7_boxes_j2, if_neg c_4, if_pos c_19, if_pos c_24, if_pos c_27]); try rfl) (iI_rset (k := 12) (f := (upd (p1 12) (y1_1).toNatClampNeg (p1 30 0))) (by decide) (iI_rset (k := 6) (f := (upd (p1 6) (y1_1).toNatClampNeg 1)) (by decide) (iI_rset (k := 13) (f := (upd (p1 13) (y1_1).toNatClampNeg ((p1 13 (y1_1).toNatClampNeg) - 1))) (by decide) hI_1))) hP hS (lv_sub hl [0, 1] rfl)
            · have e_25 := i_nle c_24
              refine lv_goto (tgt := 99) hx hb dX7_boxes_52 (by decide) ?_
              exact J_2 (rset p1 13 (upd (p1 13) (y1_1).toNatClampNeg ((p1 13 (y1_1).toNatClampNeg) - 1))) _ _ _ (by (rw [fX7_boxes_j2, if_neg c_4, if_pos c_19, if_neg c_24]); try rfl) (iI_rset (k := 13) (f := (upd (p1 13) (y1_1).toNatClampNeg ((p1 13 (y1_1).toNatClampNeg) - 1))) (by decide) hI_1) hP hS (lv_sub hl [0, 1] rfl)
          · have e_20 := i_ne c_19
            refine lv_goto (tgt := 99) hx hb dX7_boxes_30 (by decide) ?_
            exact J_2 p1 _ _ _ (by (rw [fX7_boxes_j2, if_neg c_4, if_neg c_19]); try rfl) hI_1 hP hS (lv_sub hl [0, 1] rfl)
  exact L_1 ((((q 36) 0).toInt - (0 : Int32).toInt).toNat + 1) 0 q _ _ _ (by omega) hI rfl (by omega) (Eq.symm (by (rw [fX7_boxes]); try rfl)) hP hS (lv_sub hl [1, 0] rfl)
