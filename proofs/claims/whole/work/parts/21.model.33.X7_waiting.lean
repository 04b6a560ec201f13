set_option maxHeartbeats 4000000 in
set_option maxRecDepth 100000 in
theorem mX7_waiting (l : Launch) (G : va_G) (cy : ClassId) (a : Nat → Nat) (sz : Nat) (q : wSt) (x1 : Int32) (x2 : Int32) (hI : iI q) : CtI l yX7_waiting wsX7_waiting ({ frames := 2, cells := 0, slots := 0, locals := 43 }) G cy (cM cy a) mN sz q [.ref (a 0), .int x1, .int x2] (fX7_waiting q x1 x2) q := by
  refine Met.ofW (cc := cX7_waiting) (maxL := 5) (ret := (some .int)) (by decide) rfl ?_
  intro p e s m args below meth c s₁ B hml hv
  obtain ⟨rfl, hsz, hP, hK, hD0, hN⟩ := hv
  have hx := B.exec
  have hb := B.bytes
  have hr := B.returns
  have hts := atoms_spec (ws := wsX7_waiting) B.pre
  have hown : s.vm.findClass RX7 = some m.cls := findClass_of_methodNamed B.named
  have hlocks := B.notSynchronized
  subst hsz
  have hD : ∀ z : wSt, va_D (wA (cM cy a) s.heap.size) ((cM cy a) z) := fun z => w_self (mOk cy a).1 hD0 z
  have hA : ∀ z : Nat, s.heap.size ≤ z → wA (cM cy a) s.heap.size z := fun _ h => Or.inr h
  have hS : va_S (wA (cM cy a) s.heap.size) s.heap s.heap [] := va_S.rf
  have hl := lv_entry ([.ref (a 0), .int x1, .int x2]) (n := 5) (Nat.le_of_ble_eq_true rfl)
  rw [lg_entry_eq]
  generalize (lg_sl ([.ref (a 0), .int x1, .int x2]) ++ List.replicate (5 - (lg_sl ([.ref (a 0), .int x1, .int x2])).length) Slot.unset).toArray = ls at hl ⊢
  have hl : lv_has ls 5 [(0, .ref (a 0)), (1, .int x1), (2, .int x2)] := hl
  have h_1 := hts (.fieldLink RX7 9 RX7 "volumes" "[I") (by decide +kernel)
  have h_2 := (show ∀ w ∈ u_ws RX7 TX7 35, w ∈ wsX7_waiting by decide +kernel)
  have h_3 := hts (.fieldLink RX7 102 RX7 "wishes" "I") (by decide +kernel)
  have h_4 := hts (.fieldLink RX7 55 RX7 "wishTitle" "[I") (by decide +kernel)
  have h_5 := hts (.fieldLink RX7 61 RX7 "had" "[I") (by decide +kernel)
  have t_m1 : ((-1) : Int32).toInt = -1 := rfl
  have t_0 : (0 : Int32).toInt = 0 := rfl
  have t_1 : (1 : Int32).toInt = 1 := rfl
  have hB := iI_b hI
  refine lv_aload_n hx hb dX7_waiting_0 rfl (lv_at hl 0 rfl) ?_
  refine lv_iload_n hx hb dX7_waiting_1 rfl (lv_at hl 1 rfl) ?_
  refine w_goI (va_runV (As := [.int x1]) (rest := []) ⟨hx, hb, hml, hown, hts⟩ (mX7_isTitle l G cy a _ q x1) (cwV 1 hts gX7_waiting_X7_isTitle rfl rfl rfl (by decide +kernel) ⟨Nat.le_of_ble_eq_true rfl, Nat.le_of_ble_eq_true rfl⟩) (w_pre (mOk cy a) (va_recv hK hP (ci := 7) (q0 := 0) rfl rfl) hK hP hD hS hA hN) rfl rfl hl.1 rfl (lv_room (Nat.le_of_ble_eq_true rfl)) dX7_waiting_2 ⟨Nat.le_of_ble_eq_true rfl, Nat.le_of_ble_eq_true rfl⟩) hD hS hA (fun H locs hP hS => ?_)
  have e_1 := tX7_isTitle q x1 (by omega)
  refine lv_if_eq (tgt := 24) hx hb dX7_waiting_5 (by decide) (fun c_2 => ?_) (fun c_2 => ?_)
  · have e_3 := i_eq c_2
    refine lv_iconst (v := (-1)) hx hb dX7_waiting_24 (by decide) ?_
    exact W.iret (v := (-1)) hx hb hr (fun t ht hW => ⟨⟨(-1), q, rfl, ⟨(show (fX7_waiting q x1 x2) = (-1) by (rw [fX7_waiting, if_pos c_2]); try rfl).symm, rfl⟩, w_ht ht hP⟩, hS.F ht⟩) hS.2.2 dX7_waiting_25
  · have e_3 := i_ne c_2
    refine lv_iload_n hx hb dX7_waiting_8 rfl (lv_at hl 2 rfl) ?_
    refine lv_iconst (v := 0) hx hb dX7_waiting_9 (by decide) ?_
    refine lv_aload_n hx hb dX7_waiting_10 rfl (lv_at hl 0 rfl) ?_
    refine gfX7_9 hx hb hts h_2 hown hK hP h_1 dX7_waiting_11 ?_
    refine lv_iload_n hx hb dX7_waiting_14 rfl (lv_at hl 1 rfl) ?_
    have v_4 : vp_in x1 12 := vp_in_iff.mpr (by omega)
    refine ldM_0 (f := (q 0)) hx hb hK hP rfl v_4 dX7_waiting_15 ?_
    have e_5 := iI_0 hI _ (i_clamp v_4)
    refine lv_iconst (v := 1) hx hb dX7_waiting_16 (by decide) ?_
    refine lv_isub hx hb dX7_waiting_17 ?_
    refine w_goI (va_runS (As := [.int x2, .int 0, .int ((q 0 (x1).toNatClampNeg) - 1)]) (rest := []) ⟨hx, hb, hml, hown, hts⟩ (mX7_in l G cy a _ q x2 0 ((q 0 (x1).toNatClampNeg) - 1)) (va_cwS 3 hts gX7_waiting_X7_in rfl rfl rfl (by decide +kernel) ⟨Nat.le_of_ble_eq_true rfl, Nat.le_of_ble_eq_true rfl⟩) (w_preS (mOk cy a) hK hP hD hS hA hN) rfl rfl hl.1 rfl (lv_room (Nat.le_of_ble_eq_true rfl)) dX7_waiting_18 ⟨Nat.le_of_ble_eq_true rfl, Nat.le_of_ble_eq_true rfl⟩) hD hS hA (fun H locs hP hS => ?_)
    have e_6 := tX7_in q x2 0 ((q 0 (x1).toNatClampNeg) - 1)
    refine lv_if_ne (tgt := 26) hx hb dX7_waiting_21 (by decide) (fun c_7 => ?_) (fun c_7 => ?_)
    · have e_8 := i_ne c_7
      refine lv_iconst (v := 0) hx hb dX7_waiting_26 (by decide) ?_
      refine lv_istore_n (lv' := [(3, .int 0), (0, .ref (a 0)), (1, .int x1), (2, .int x2)]) hx hb dX7_waiting_27 rfl hl (by decide) rfl (fun ls hl => ?_)
      refine lv_iconst (v := 0) hx hb dX7_waiting_28 (by decide) ?_
      refine lv_istore (lv' := [(4, .int 0), (3, .int 0), (0, .ref (a 0)), (1, .int x1), (2, .int x2)]) hx hb dX7_waiting_29 hl (by decide) rfl (fun ls hl => ?_)
      have K_1 : ∀ (v1 : Int32) (H : Heap) (ls : Array Slot) (locs : List Loc), (lX7_waiting_1 q x1 x2 (((q 40 0).toInt - (0 : Int32).toInt).toNat + 1) 0 0) = v1 → va_P G vwCl ((cM cy a) q) H → va_S (wA (cM cy a) s.heap.size) s.heap H locs → lv_has ls 5 [(3, .int v1)] → W p l e ({ frames := 2, cells := 0, slots := 0, locals := 43 }) s m [.ref (a 0), .int x1, .int x2].toArray below meth c H locs 0 0 (MQ below (wQi G (cM cy a) s.heap.size (fX7_waiting q x1 x2) q) [.ref (a 0), .int x1, .int x2].toArray s 0 0 (wA (cM cy a) s.heap.size)) (F0 m 85 ls []) := by
        intro v1 H ls locs hv hP hS hl
        subst hv
        refine lv_iload_n hx hb dX7_waiting_85 rfl (lv_at hl 0 rfl) ?_
        exact W.iret (v := (lX7_waiting_1 q x1 x2 (((q 40 0).toInt - (0 : Int32).toInt).toNat + 1) 0 0)) hx hb hr (fun t ht hW => ⟨⟨(lX7_waiting_1 q x1 x2 (((q 40 0).toInt - (0 : Int32).toInt).toNat + 1) 0 0), q, rfl, ⟨(show (fX7_waiting q x1 x2) = (lX7_waiting_1 q x1 x2 (((q 40 0).toInt - (0 : Int32).toInt).toNat + 1) 0 0) by (rw [fX7_waiting, if_neg c_2, if_neg c_7]); try rfl).symm, rfl⟩, w_ht ht hP⟩, hS.F ht⟩) hS.2.2 dX7_waiting_86
      have L_1 : ∀ (n : Nat) (y3_1 : Int32) (y4_1 : Int32) (H : Heap) (ls : Array Slot) (locs : List Loc), ((q 40 0).toInt - (y4_1).toInt).toNat < n → (0 ≤ (y4_1).toInt) → lX7_waiting_1 q x1 x2 n y3_1 y4_1 = (lX7_waiting_1 q x1 x2 (((q 40 0).toInt - (0 : Int32).toInt).toNat + 1) 0 0) → va_P G vwCl ((cM cy a) q) H → va_S (wA (cM cy a) s.heap.size) s.heap H locs → lv_has ls 5 [(0, .ref (a 0)), (1, .int x1), (2, .int x2), (3, .int y3_1), (4, .int y4_1)] → W p l e ({ frames := 2, cells := 0, slots := 0, locals := 43 }) s m [.ref (a 0), .int x1, .int x2].toArray below meth c H locs 0 0 (MQ below (wQi G (cM cy a) s.heap.size (fX7_waiting q x1 x2) q) [.ref (a 0), .int x1, .int x2].toArray s 0 0 (wA (cM cy a) s.heap.size)) (F0 m 31 ls []) := by
        intro n
        induction n with
        | zero => intro y3_1 y4_1 H ls locs hm; exact absurd hm (Nat.not_lt_zero _)
        | succ n ih =>
          intro y3_1 y4_1 H ls locs hm_1 i0_1 he_1 hP hS hl
          refine lv_iload hx hb dX7_waiting_31 (lv_at hl 4 rfl) ?_
          refine lv_aload_n hx hb dX7_waiting_33 rfl (lv_at hl 0 rfl) ?_
          refine gfX7_102 (v := (q 40 0)) hx hb hts h_2 hown hK hP h_3 rfl dX7_waiting_34 ?_
          refine lv_icmp_ge (tgt := 85) hx hb dX7_waiting_37 (by decide) (fun c_9 => ?_) (fun c_9 => ?_)
          · have e_10 := i_le c_9
            exact K_1 y3_1 _ _ _ (Eq.trans (Eq.symm he_1) (by (rw [lX7_waiting_1_s, if_pos c_9]); try rfl)) hP hS (lv_sub hl [3] rfl)
          · have e_10 := i_nle c_9
            refine lv_iload_n hx hb dX7_waiting_40 rfl (lv_at hl 3 rfl) ?_
            refine lv_aload_n hx hb dX7_waiting_41 rfl (lv_at hl 0 rfl) ?_
            refine gfX7_55 hx hb hts h_2 hown hK hP h_4 dX7_waiting_42 ?_
            refine lv_iload hx hb dX7_waiting_45 (lv_at hl 4 rfl) ?_
            have v_11 : vp_in y4_1 100 := vp_in_iff.mpr (by omega)
            refine ldM_23 (f := (q 23)) hx hb hK hP rfl v_11 dX7_waiting_47 ?_
            have e_12 := iI_23 hI _ (i_clamp v_11)
            refine lv_iload_n hx hb dX7_waiting_48 rfl (lv_at hl 1 rfl) ?_
            have J_2 : ∀ (v1 : Int32) (H : Heap) (ls : Array Slot) (locs : List Loc), (fX7_waiting_j2 q x1 x2 y3_1 y4_1) = v1 → ((v1).toInt = 0 ∨ (v1).toInt = 1) → va_P G vwCl ((cM cy a) q) H → va_S (wA (cM cy a) s.heap.size) s.heap H locs → lv_has ls 5 [(0, .ref (a 0)), (1, .int x1), (2, .int x2), (4, .int y4_1)] → W p l e ({ frames := 2, cells := 0, slots := 0, locals := 43 }) s m [.ref (a 0), .int x1, .int x2].toArray below meth c H locs 0 0 (MQ below (wQi G (cM cy a) s.heap.size (fX7_waiting q x1 x2) q) [.ref (a 0), .int x1, .int x2].toArray s 0 0 (wA (cM cy a) s.heap.size)) (F0 m 77 ls [.int v1, .int y3_1]) := by
              intro v1 H ls locs hv bl_2_0 hP hS hl
              subst hv
              refine lv_iadd hx hb dX7_waiting_77 ?_
              refine lv_istore_n (lv' := [(3, .int (y3_1 + (fX7_waiting_j2 q x1 x2 y3_1 y4_1))), (0, .ref (a 0)), (1, .int x1), (2, .int x2), (4, .int y4_1)]) hx hb dX7_waiting_78 rfl hl (by decide) rfl (fun ls hl => ?_)
              refine lv_iinc (v := (y4_1 + 1)) (lv' := [(4, .int (y4_1 + 1)), (3, .int (y3_1 + (fX7_waiting_j2 q x1 x2 y3_1 y4_1))), (0, .ref (a 0)), (1, .int x1), (2, .int x2)]) hx hb dX7_waiting_79 hl (k := 4) rfl rfl (by decide) rfl (fun ls hl => ?_)
              have e_20 : (y4_1 + 1).toInt = (y4_1).toInt + 1 := i_inc (by have := i_rng y4_1; have := i_rng (q 40 0); omega)
              refine lv_goto (tgt := 31) hx hb dX7_waiting_82 (by decide) ?_
              exact ih (y3_1 + (fX7_waiting_j2 q x1 x2 y3_1 y4_1)) (y4_1 + 1) _ _ _ (by omega) (by first | omega | assumption) (Eq.trans (Eq.symm (by (rw [lX7_waiting_1_s, if_neg c_9]); try rfl)) he_1) hP hS (lv_sub hl [2, 3, 4, 1, 0] rfl)
            refine lv_icmp_ne (tgt := 76) hx hb dX7_waiting_49 (by decide) (fun c_13 => ?_) (fun c_13 => ?_)
            · have e_14 := i_ne c_13
              refine lv_iconst (v := 0) hx hb dX7_waiting_76 (by decide) ?_
              exact J_2 0 _ _ _ (by (rw [fX7_waiting_j2, if_neg c_13]); try rfl) (show (0 : Int32).toInt = 0 ∨ (0 : Int32).toInt = 1 by omega) hP hS (lv_sub hl [0, 1, 2, 4] rfl)
            · have e_14 := i_eq c_13
              refine lv_aload_n hx hb dX7_waiting_52 rfl (lv_at hl 0 rfl) ?_
              refine gfX7_61 hx hb hts h_2 hown hK hP h_5 dX7_waiting_53 ?_
              refine lv_iload hx hb dX7_waiting_56 (lv_at hl 4 rfl) ?_
              have v_15 : vp_in y4_1 100 := vp_in_iff.mpr (by omega)
              refine ldM_25 (f := (q 25)) hx hb hK hP rfl v_15 dX7_waiting_58 ?_
              refine lv_iload_n hx hb dX7_waiting_59 rfl (lv_at hl 2 rfl) ?_
              refine lv_icmp_ne (tgt := 76) hx hb dX7_waiting_60 (by decide) (fun c_16 => ?_) (fun c_16 => ?_)
              · have e_17 := i_ne c_16
                refine lv_iconst (v := 0) hx hb dX7_waiting_76 (by decide) ?_
                exact J_2 0 _ _ _ (by (rw [fX7_waiting_j2, if_pos c_13, if_neg c_16]); try rfl) (show (0 : Int32).toInt = 0 ∨ (0 : Int32).toInt = 1 by omega) hP hS (lv_sub hl [0, 1, 2, 4] rfl)
              · have e_17 := i_eq c_16
                refine lv_aload_n hx hb dX7_waiting_63 rfl (lv_at hl 0 rfl) ?_
                refine lv_iload hx hb dX7_waiting_64 (lv_at hl 4 rfl) ?_
                refine w_goI (va_runV (As := [.int y4_1]) (rest := [.int y3_1]) ⟨hx, hb, hml, hown, hts⟩ (mX7_waits l G cy a _ q y4_1 hI (by omega) (by omega)) (cwV 1 hts gX7_waiting_X7_waits rfl rfl rfl (by decide +kernel) ⟨Nat.le_of_ble_eq_true rfl, Nat.le_of_ble_eq_true rfl⟩) (w_pre (mOk cy a) (va_recv hK hP (ci := 7) (q0 := 0) rfl rfl) hK hP hD hS hA hN) rfl rfl hl.1 rfl (lv_room (Nat.le_of_ble_eq_true rfl)) dX7_waiting_66 ⟨Nat.le_of_ble_eq_true rfl, Nat.le_of_ble_eq_true rfl⟩) hD hS hA (fun H locs hP hS => ?_)
                refine lv_if_eq (tgt := 76) hx hb dX7_waiting_69 (by decide) (fun c_18 => ?_) (fun c_18 => ?_)
                · have e_19 := i_eq c_18
                  refine lv_iconst (v := 0) hx hb dX7_waiting_76 (by decide) ?_
                  exact J_2 0 _ _ _ (by (rw [fX7_waiting_j2, if_pos c_13, if_pos c_16, if_pos c_18]); try rfl) (show (0 : Int32).toInt = 0 ∨ (0 : Int32).toInt = 1 by omega) hP hS (lv_sub hl [0, 1, 2, 4] rfl)
                · have e_19 := i_ne c_18
                  refine lv_iconst (v := 1) hx hb dX7_waiting_72 (by decide) ?_
                  refine lv_goto (tgt := 77) hx hb dX7_waiting_73 (by decide) ?_
                  exact J_2 1 _ _ _ (by (rw [fX7_waiting_j2, if_pos c_13, if_pos c_16, if_neg c_18]); try rfl) (show (1 : Int32).toInt = 0 ∨ (1 : Int32).toInt = 1 by omega) hP hS (lv_sub hl [0, 1, 2, 4] rfl)
      exact L_1 (((q 40 0).toInt - (0 : Int32).toInt).toNat + 1) 0 0 _ _ _ (by omega) (by omega) rfl hP hS (lv_sub hl [2, 3, 4, 1, 0] rfl)
    · have e_8 := i_eq c_7
      refine lv_iconst (v := (-1)) hx hb dX7_waiting_24 (by decide) ?_
      exact W.iret (v := (-1)) hx hb hr (fun t ht hW => ⟨⟨(-1), q, rfl, ⟨(show (fX7_waiting q x1 x2) = (-1) by (rw [fX7_waiting, if_neg c_2, if_pos c_7]); try rfl).symm, rfl⟩, w_ht ht hP⟩, hS.F ht⟩) hS.2.2 dX7_waiting_25
