set_option maxHeartbeats 4000000 in
set_option maxRecDepth 100000 in
theorem mX7_lose (l : Launch) (G : va_G) (cy : ClassId) (a : Nat → Nat) (sz : Nat) (q : wSt) (x1 : Int32) (hI : iI q) (hC : iC q) : CtI l yX7_lose wsX7_lose ({ frames := 2, cells := 0, slots := 0, locals := 43 }) G cy (cM cy a) mN sz q [.ref (a 0), .int x1] (fX7_lose q x1).1 (fX7_lose q x1).2 := by
  refine Met.ofW (cc := cX7_lose) (maxL := 3) (ret := (some .int)) (by decide) rfl ?_
  intro p e s m args below meth c s₁ B hml hv
  obtain ⟨rfl, hsz, hP, hK, hD0, hN⟩ := hv
  have hx := B.exec
  have hb := B.bytes
  have hr := B.returns
  have hts := atoms_spec (ws := wsX7_lose) B.pre
  have hown : s.vm.findClass RX7 = some m.cls := findClass_of_methodNamed B.named
  have hlocks := B.notSynchronized
  subst hsz
  have hD : ∀ z : wSt, va_D (wA (cM cy a) s.heap.size) ((cM cy a) z) := fun z => w_self (mOk cy a).1 hD0 z
  have hA : ∀ z : Nat, s.heap.size ≤ z → wA (cM cy a) s.heap.size z := fun _ h => Or.inr h
  have hS : va_S (wA (cM cy a) s.heap.size) s.heap s.heap [] := va_S.rf
  have hl := lv_entry ([.ref (a 0), .int x1]) (n := 3) (Nat.le_of_ble_eq_true rfl)
  rw [lg_entry_eq]
  generalize (lg_sl ([.ref (a 0), .int x1]) ++ List.replicate (3 - (lg_sl ([.ref (a 0), .int x1])).length) Slot.unset).toArray = ls at hl ⊢
  have hl : lv_has ls 3 [(0, .ref (a 0)), (1, .int x1)] := hl
  have h_1 := hts (.fieldLink RX7 22 RX7 "state" "[I") (by decide +kernel)
  have h_2 := (show ∀ w ∈ u_ws RX7 TX7 35, w ∈ wsX7_lose by decide +kernel)
  have h_3 := hts (.fieldLink RX7 19 RX7 "costOf" "[I") (by decide +kernel)
  have h_4 := hts (.fieldLink RX7 49 RX7 "owed" "[I") (by decide +kernel)
  have h_5 := hts (.fieldLink RX7 25 RX7 "readerOf" "[I") (by decide +kernel)
  have h_6 := hts (.fieldLink RX7 31 RX7 "since" "[I") (by decide +kernel)
  have h_7 := hts (.fieldLink RX7 34 RX7 "toGo" "[I") (by decide +kernel)
  have t_m1 : ((-1) : Int32).toInt = -1 := rfl
  have t_0 : (0 : Int32).toInt = 0 := rfl
  have t_1 : (1 : Int32).toInt = 1 := rfl
  have t_4 : (4 : Int32).toInt = 4 := rfl
  have t_5 : (5 : Int32).toInt = 5 := rfl
  have hB := iI_b hI
  refine lv_aload_n hx hb dX7_lose_0 rfl (lv_at hl 0 rfl) ?_
  refine lv_iload_n hx hb dX7_lose_1 rfl (lv_at hl 1 rfl) ?_
  refine w_goI (va_runV (As := [.int x1]) (rest := []) ⟨hx, hb, hml, hown, hts⟩ (mX7_isCopy l G cy a _ q x1) (cwV 1 hts gX7_lose_X7_isCopy rfl rfl rfl (by decide +kernel) ⟨Nat.le_of_ble_eq_true rfl, Nat.le_of_ble_eq_true rfl⟩) (w_pre (mOk cy a) (va_recv hK hP (ci := 7) (q0 := 0) rfl rfl) hK hP hD hS hA hN) rfl rfl hl.1 rfl (lv_room (Nat.le_of_ble_eq_true rfl)) dX7_lose_2 ⟨Nat.le_of_ble_eq_true rfl, Nat.le_of_ble_eq_true rfl⟩) hD hS hA (fun H locs hP hS => ?_)
  have e_1 := tX7_isCopy q x1 (by omega)
  refine lv_if_eq (tgt := 18) hx hb dX7_lose_5 (by decide) (fun c_2 => ?_) (fun c_2 => ?_)
  · have e_3 := i_eq c_2
    refine lv_iconst (v := (-1)) hx hb dX7_lose_18 (by decide) ?_
    have hF : (fX7_lose q x1) = ((-1), q) := (show (fX7_lose q x1) = ((-1), q) by (rw [fX7_lose, if_pos c_2]); try rfl)
    exact W.iret (v := (-1)) hx hb hr (fun t ht hW => ⟨⟨(-1), q, rfl, ⟨(p_fst hF), (p_snd hF)⟩, w_ht ht hP⟩, hS.F ht⟩) hS.2.2 dX7_lose_19
  · have e_3 := i_ne c_2
    refine lv_aload_n hx hb dX7_lose_8 rfl (lv_at hl 0 rfl) ?_
    refine gfX7_22 hx hb hts h_2 hown hK hP h_1 dX7_lose_9 ?_
    refine lv_iload_n hx hb dX7_lose_12 rfl (lv_at hl 1 rfl) ?_
    have v_4 : vp_in x1 200 := vp_in_iff.mpr (by omega)
    refine ldM_6 (f := (q 6)) hx hb hK hP rfl v_4 dX7_lose_13 ?_
    have e_5 := iC_s hC x1 (by omega) (by omega)
    refine lv_iconst (v := 4) hx hb dX7_lose_14 (by decide) ?_
    refine lv_icmp_lt (tgt := 20) hx hb dX7_lose_15 (by decide) (fun c_6 => ?_) (fun c_6 => ?_)
    · have e_7 := i_lt c_6
      refine lv_iconst (v := 0) hx hb dX7_lose_20 (by decide) ?_
      refine lv_istore_n (lv' := [(2, .int 0), (0, .ref (a 0)), (1, .int x1)]) hx hb dX7_lose_21 rfl hl (by decide) rfl (fun ls hl => ?_)
      refine lv_aload_n hx hb dX7_lose_22 rfl (lv_at hl 1 rfl) ?_
      refine gfX7_22 hx hb hts h_2 hown hK hP h_1 dX7_lose_23 ?_
      refine lv_iload_n hx hb dX7_lose_26 rfl (lv_at hl 2 rfl) ?_
      have v_8 : vp_in x1 200 := vp_in_iff.mpr (by omega)
      refine ldM_6 (f := (q 6)) hx hb hK hP rfl v_8 dX7_lose_27 ?_
      have e_9 := iC_s hC x1 (by omega) (by omega)
      have J_2 : ∀ (v1 : Int32) (v2 : wSt) (H : Heap) (ls : Array Slot) (locs : List Loc), (fX7_lose_j2 q x1) = (v1, v2) → iI v2 → va_P G vwCl ((cM cy a) v2) H → va_S (wA (cM cy a) s.heap.size) s.heap H locs → lv_has ls 3 [(0, .ref (a 0)), (1, .int x1), (2, .int v1)] → W p l e ({ frames := 2, cells := 0, slots := 0, locals := 43 }) s m [.ref (a 0), .int x1].toArray below meth c H locs 0 0 (MQ below (wQi G (cM cy a) s.heap.size (fX7_lose q x1).1 (fX7_lose q x1).2) [.ref (a 0), .int x1].toArray s 0 0 (wA (cM cy a) s.heap.size)) (F0 m 78 ls []) := by
        intro v1 v2 H ls locs hv hI_j2 hP hS hl
        obtain ⟨rfl, rfl⟩ := pr_2 hv
        refine lv_aload_n hx hb dX7_lose_78 rfl (lv_at hl 0 rfl) ?_
        refine gfX7_22 hx hb hts h_2 hown hK hP h_1 dX7_lose_79 ?_
        refine lv_iload_n hx hb dX7_lose_82 rfl (lv_at hl 1 rfl) ?_
        refine lv_iconst (v := 5) hx hb dX7_lose_83 (by decide) ?_
        have v_21 : vp_in x1 200 := vp_in_iff.mpr (by omega)
        refine stM_6 (f := ((fX7_lose_j2 q x1).2 6)) hx hb hK hP hD hS rfl v_21 dX7_lose_84 (fun H locs hP hS => ?_)
        refine lv_aload_n hx hb dX7_lose_85 rfl (lv_at hl 0 rfl) ?_
        refine gfX7_25 hx hb hts h_2 hown hK hP h_5 dX7_lose_86 ?_
        refine lv_iload_n hx hb dX7_lose_89 rfl (lv_at hl 1 rfl) ?_
        refine lv_iconst (v := (-1)) hx hb dX7_lose_90 (by decide) ?_
        have v_22 : vp_in x1 200 := vp_in_iff.mpr (by omega)
        refine stM_10 (f := ((fX7_lose_j2 q x1).2 10)) hx hb hK hP hD hS (rset_ne (by decide)) v_22 dX7_lose_91 (fun H locs hP hS => ?_)
        refine lv_aload_n hx hb dX7_lose_92 rfl (lv_at hl 0 rfl) ?_
        refine gfX7_31 hx hb hts h_2 hown hK hP h_6 dX7_lose_93 ?_
        refine lv_iload_n hx hb dX7_lose_96 rfl (lv_at hl 1 rfl) ?_
        refine lv_iconst (v := (-1)) hx hb dX7_lose_97 (by decide) ?_
        have v_23 : vp_in x1 200 := vp_in_iff.mpr (by omega)
        refine stM_12 (f := ((fX7_lose_j2 q x1).2 12)) hx hb hK hP hD hS ((rset_ne (by decide)).trans (rset_ne (by decide))) v_23 dX7_lose_98 (fun H locs hP hS => ?_)
        refine lv_aload_n hx hb dX7_lose_99 rfl (lv_at hl 0 rfl) ?_
        refine gfX7_34 hx hb hts h_2 hown hK hP h_7 dX7_lose_100 ?_
        refine lv_iload_n hx hb dX7_lose_103 rfl (lv_at hl 1 rfl) ?_
        refine lv_iconst (v := 0) hx hb dX7_lose_104 (by decide) ?_
        have v_24 : vp_in x1 200 := vp_in_iff.mpr (by omega)
        refine stM_13 (f := ((fX7_lose_j2 q x1).2 13)) hx hb hK hP hD hS ((rset_ne (by decide)).trans ((rset_ne (by decide)).trans (rset_ne (by decide)))) v_24 dX7_lose_105 (fun H locs hP hS => ?_)
        refine lv_iload_n hx hb dX7_lose_106 rfl (lv_at hl 2 rfl) ?_
        have hF : (fX7_lose q x1) = ((fX7_lose_j2 q x1).1, (rset (rset (rset (rset (fX7_lose_j2 q x1).2 6 (upd ((fX7_lose_j2 q x1).2 6) (x1).toNatClampNeg 5)) 10 (upd ((fX7_lose_j2 q x1).2 10) (x1).toNatClampNeg (-1))) 12 (upd ((fX7_lose_j2 q x1).2 12) (x1).toNatClampNeg (-1))) 13 (upd ((fX7_lose_j2 q x1).2 13) (x1).toNatClampNeg 0))) := (show (fX7_lose q x1) = ((fX7_lose_j2 q x1).1, (rset (rset (rset (rset (fX7_lose_j2 q x1).2 6 (upd ((fX7_lose_j2 q x1).2 6) (x1).toNatClampNeg 5)) 10 (upd ((fX7_lose_j2 q x1).2 10) (x1).toNatClampNeg (-1))) 12 (upd ((fX7_lose_j2 q x1).2 12) (x1).toNatClampNeg (-1))) 13 (upd ((fX7_lose_j2 q x1).2 13) (x1).toNatClampNeg 0))) by (rw [fX7_lose, if_neg c_2, if_pos c_6]); try rfl)
        exact W.iret (v := (fX7_lose_j2 q x1).1) hx hb hr (fun t ht hW => ⟨⟨(fX7_lose_j2 q x1).1, (rset (rset (rset (rset (fX7_lose_j2 q x1).2 6 (upd ((fX7_lose_j2 q x1).2 6) (x1).toNatClampNeg 5)) 10 (upd ((fX7_lose_j2 q x1).2 10) (x1).toNatClampNeg (-1))) 12 (upd ((fX7_lose_j2 q x1).2 12) (x1).toNatClampNeg (-1))) 13 (upd ((fX7_lose_j2 q x1).2 13) (x1).toNatClampNeg 0)), rfl, ⟨(p_fst hF), (p_snd hF)⟩, w_ht ht hP⟩, hS.F ht⟩) hS.2.2 dX7_lose_107
      refine lv_if_eq (tgt := 78) hx hb dX7_lose_28 (by decide) (fun c_10 => ?_) (fun c_10 => ?_)
      · have e_11 := i_eq c_10
        exact J_2 0 q _ _ _ (by (rw [fX7_lose_j2, if_pos c_10]); try rfl) hI hP hS (lv_sub hl [1, 2, 0] rfl)
      · have e_11 := i_ne c_10
        refine lv_aload_n hx hb dX7_lose_31 rfl (lv_at hl 1 rfl) ?_
        refine gfX7_19 hx hb hts h_2 hown hK hP h_3 dX7_lose_32 ?_
        refine lv_iload_n hx hb dX7_lose_35 rfl (lv_at hl 2 rfl) ?_
        have v_12 : vp_in x1 200 := vp_in_iff.mpr (by omega)
        refine ldM_9 (f := (q 9)) hx hb hK hP rfl v_12 dX7_lose_36 ?_
        refine lv_aload_n hx hb dX7_lose_37 rfl (lv_at hl 1 rfl) ?_
        refine gfX7_22 hx hb hts h_2 hown hK hP h_1 dX7_lose_38 ?_
        refine lv_iload_n hx hb dX7_lose_41 rfl (lv_at hl 2 rfl) ?_
        have v_13 : vp_in x1 200 := vp_in_iff.mpr (by omega)
        refine ldM_6 (f := (q 6)) hx hb hK hP rfl v_13 dX7_lose_42 ?_
        have e_14 := iC_s hC x1 (by omega) (by omega)
        refine lv_iconst (v := 1) hx hb dX7_lose_43 (by decide) ?_
        have J_1 : ∀ (v1 : Int32) (H : Heap) (ls : Array Slot) (locs : List Loc), (fX7_lose_j1 q x1) = v1 → va_P G vwCl ((cM cy a) q) H → va_S (wA (cM cy a) s.heap.size) s.heap H locs → lv_has ls 3 [(0, .ref (a 0)), (1, .int x1)] → W p l e ({ frames := 2, cells := 0, slots := 0, locals := 43 }) s m [.ref (a 0), .int x1].toArray below meth c H locs 0 0 (MQ below (wQi G (cM cy a) s.heap.size (fX7_lose q x1).1 (fX7_lose q x1).2) [.ref (a 0), .int x1].toArray s 0 0 (wA (cM cy a) s.heap.size)) (F0 m 56 ls [.int v1, .int (q 9 (x1).toNatClampNeg)]) := by
          intro v1 H ls locs hv hP hS hl
          subst hv
          refine lv_iadd hx hb dX7_lose_56 ?_
          refine lv_istore_n (lv' := [(2, .int ((q 9 (x1).toNatClampNeg) + (fX7_lose_j1 q x1))), (0, .ref (a 0)), (1, .int x1)]) hx hb dX7_lose_57 rfl hl (by decide) rfl (fun ls hl => ?_)
          refine lv_aload_n hx hb dX7_lose_58 rfl (lv_at hl 1 rfl) ?_
          refine gfX7_49 hx hb hts h_2 hown hK hP h_4 dX7_lose_59 ?_
          refine lv_aload_n hx hb dX7_lose_62 rfl (lv_at hl 1 rfl) ?_
          refine gfX7_25 hx hb hts h_2 hown hK hP h_5 dX7_lose_63 ?_
          refine lv_iload_n hx hb dX7_lose_66 rfl (lv_at hl 2 rfl) ?_
          have v_17 : vp_in x1 200 := vp_in_iff.mpr (by omega)
          refine ldM_10 (f := (q 10)) hx hb hK hP rfl v_17 dX7_lose_67 ?_
          have e_18 := iC_r hC x1 (by omega) (by omega)
          refine lv_dup2_11 hx hb dX7_lose_68 rfl rfl ?_
          have v_19 : vp_in (q 10 (x1).toNatClampNeg) 20 := vp_in_iff.mpr (by omega)
          refine ldM_19 (f := (q 19)) hx hb hK hP rfl v_19 dX7_lose_69 ?_
          refine lv_iload_n hx hb dX7_lose_70 rfl (lv_at hl 0 rfl) ?_
          refine lv_iadd hx hb dX7_lose_71 ?_
          have v_20 : vp_in (q 10 (x1).toNatClampNeg) 20 := vp_in_iff.mpr (by omega)
          refine stM_19 (f := (q 19)) hx hb hK hP hD hS rfl v_20 dX7_lose_72 (fun H locs hP hS => ?_)
          refine lv_aload_n hx hb dX7_lose_73 rfl (lv_at hl 1 rfl) ?_
          refine lv_iload_n hx hb dX7_lose_74 rfl (lv_at hl 2 rfl) ?_
          refine w_goV (va_runV (As := [.int x1]) (rest := []) ⟨hx, hb, hml, hown, hts⟩ (mX7_had l G cy a _ (rset q 19 (upd (q 19) (q 10 (x1).toNatClampNeg).toNatClampNeg ((q 19 (q 10 (x1).toNatClampNeg).toNatClampNeg) + ((q 9 (x1).toNatClampNeg) + (fX7_lose_j1 q x1))))) x1 (iI_rset (k := 19) (f := (upd (q 19) (q 10 (x1).toNatClampNeg).toNatClampNeg ((q 19 (q 10 (x1).toNatClampNeg).toNatClampNeg) + ((q 9 (x1).toNatClampNeg) + (fX7_lose_j1 q x1))))) (by decide) hI) (by have hB9 := iI_b (iI_rset (k := 19) (f := (upd (q 19) (q 10 (x1).toNatClampNeg).toNatClampNeg ((q 19 (q 10 (x1).toNatClampNeg).toNatClampNeg) + ((q 9 (x1).toNatClampNeg) + (fX7_lose_j1 q x1))))) (by decide) hI); omega) (by have hB9 := iI_b (iI_rset (k := 19) (f := (upd (q 19) (q 10 (x1).toNatClampNeg).toNatClampNeg ((q 19 (q 10 (x1).toNatClampNeg).toNatClampNeg) + ((q 9 (x1).toNatClampNeg) + (fX7_lose_j1 q x1))))) (by decide) hI); omega) (iC_w hC x1 (by omega) (by omega))) (cwV 1 hts gX7_lose_X7_had rfl rfl rfl (by decide +kernel) ⟨Nat.le_of_ble_eq_true rfl, Nat.le_of_ble_eq_true rfl⟩) (w_pre (mOk cy a) (va_recv hK hP (ci := 7) (q0 := 0) rfl rfl) hK hP hD hS hA hN) rfl rfl hl.1 rfl (lv_room (Nat.le_of_ble_eq_true rfl)) dX7_lose_75 ⟨Nat.le_of_ble_eq_true rfl, Nat.le_of_ble_eq_true rfl⟩) hD hS hA (fun H locs hP hS => ?_)
          exact J_2 ((q 9 (x1).toNatClampNeg) + (fX7_lose_j1 q x1)) (fX7_had (rset q 19 (upd (q 19) (q 10 (x1).toNatClampNeg).toNatClampNeg ((q 19 (q 10 (x1).toNatClampNeg).toNatClampNeg) + ((q 9 (x1).toNatClampNeg) + (fX7_lose_j1 q x1))))) x1) _ _ _ (by (rw [fX7_lose_j2, if_neg c_10]); try rfl) (iIX7_had (rset q 19 (upd (q 19) (q 10 (x1).toNatClampNeg).toNatClampNeg ((q 19 (q 10 (x1).toNatClampNeg).toNatClampNeg) + ((q 9 (x1).toNatClampNeg) + (fX7_lose_j1 q x1))))) x1 (iI_rset (k := 19) (f := (upd (q 19) (q 10 (x1).toNatClampNeg).toNatClampNeg ((q 19 (q 10 (x1).toNatClampNeg).toNatClampNeg) + ((q 9 (x1).toNatClampNeg) + (fX7_lose_j1 q x1))))) (by decide) hI)) hP hS (lv_sub hl [1, 2, 0] rfl)
        refine lv_icmp_ne (tgt := 55) hx hb dX7_lose_44 (by decide) (fun c_15 => ?_) (fun c_15 => ?_)
        · have e_16 := i_ne c_15
          refine lv_iconst (v := 0) hx hb dX7_lose_55 (by decide) ?_
          exact J_1 0 _ _ _ (by (rw [fX7_lose_j1, if_neg c_15]); try rfl) hP hS (lv_sub hl [1, 2] rfl)
        · have e_16 := i_eq c_15
          refine lv_aload_n hx hb dX7_lose_47 rfl (lv_at hl 1 rfl) ?_
          refine lv_iload_n hx hb dX7_lose_48 rfl (lv_at hl 2 rfl) ?_
          refine w_goI (va_runV (As := [.int x1]) (rest := [.int (q 9 (x1).toNatClampNeg)]) ⟨hx, hb, hml, hown, hts⟩ (mX7_late l G cy a _ q x1 (by omega) (by omega) (by have h9 := iC_r hC x1 (by omega) (by omega); omega) (by have h9 := iC_r hC x1 (by omega) (by omega); omega)) (cwV 1 hts gX7_lose_X7_late rfl rfl rfl (by decide +kernel) ⟨Nat.le_of_ble_eq_true rfl, Nat.le_of_ble_eq_true rfl⟩) (w_pre (mOk cy a) (va_recv hK hP (ci := 7) (q0 := 0) rfl rfl) hK hP hD hS hA hN) rfl rfl hl.1 rfl (lv_room (Nat.le_of_ble_eq_true rfl)) dX7_lose_49 ⟨Nat.le_of_ble_eq_true rfl, Nat.le_of_ble_eq_true rfl⟩) hD hS hA (fun H locs hP hS => ?_)
          refine lv_goto (tgt := 56) hx hb dX7_lose_52 (by decide) ?_
          exact J_1 (fX7_late q x1) _ _ _ (by (rw [fX7_lose_j1, if_pos c_15]); try rfl) hP hS (lv_sub hl [1, 2] rfl)
    · have e_7 := i_nlt c_6
      refine lv_iconst (v := (-1)) hx hb dX7_lose_18 (by decide) ?_
      have hF : (fX7_lose q x1) = ((-1), q) := (show (fX7_lose q x1) = ((-1), q) by (rw [fX7_lose, if_neg c_2, if_neg c_6]); try rfl)
      exact W.iret (v := (-1)) hx hb hr (fun t ht hW => ⟨⟨(-1), q, rfl, ⟨(p_fst hF), (p_snd hF)⟩, w_ht ht hP⟩, hS.F ht⟩) hS.2.2 dX7_lose_19
