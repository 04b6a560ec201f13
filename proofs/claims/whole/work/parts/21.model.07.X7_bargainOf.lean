set_option maxHeartbeats 4000000 in
set_option maxRecDepth 100000 in
theorem mX7_bargainOf (l : Launch) (G : va_G) (cy : ClassId) (a : Nat → Nat) (sz : Nat) (q : wSt) (x1 : Int32) (g0 : (q 35 0).toInt ≤ 40) : CtI l yX7_bargainOf wsX7_bargainOf ({ frames := 0, cells := 0, slots := 0, locals := 0 }) G cy (cM cy a) mN sz q [.ref (a 0), .int x1] (fX7_bargainOf q x1) q := by
  refine Met.ofW (cc := cX7_bargainOf) (maxL := 4) (ret := (some .int)) (by decide) rfl ?_
  intro p e s m args below meth c s₁ B hml hv
  obtain ⟨rfl, hsz, hP, hK, hD0, hN⟩ := hv
  have hx := B.exec
  have hb := B.bytes
  have hr := B.returns
  have hts := atoms_spec (ws := wsX7_bargainOf) B.pre
  have hown : s.vm.findClass RX7 = some m.cls := findClass_of_methodNamed B.named
  have hlocks := B.notSynchronized
  subst hsz
  have hD : ∀ z : wSt, va_D (wA (cM cy a) s.heap.size) ((cM cy a) z) := fun z => w_self (mOk cy a).1 hD0 z
  have hA : ∀ z : Nat, s.heap.size ≤ z → wA (cM cy a) s.heap.size z := fun _ h => Or.inr h
  have hS : va_S (wA (cM cy a) s.heap.size) s.heap s.heap [] := va_S.rf
  have hl := lv_entry ([.ref (a 0), .int x1]) (n := 4) (Nat.le_of_ble_eq_true rfl)
  rw [lg_entry_eq]
  generalize (lg_sl ([.ref (a 0), .int x1]) ++ List.replicate (4 - (lg_sl ([.ref (a 0), .int x1])).length) Slot.unset).toArray = ls at hl ⊢
  have hl : lv_has ls 4 [(0, .ref (a 0)), (1, .int x1)] := hl
  have h_1 := hts (.fieldLink RX7 109 RX7 "bargains" "I") (by decide +kernel)
  have h_2 := (show ∀ w ∈ u_ws RX7 TX7 35, w ∈ wsX7_bargainOf by decide +kernel)
  have h_3 := hts (.fieldLink RX7 67 RX7 "bargainTitle" "[I") (by decide +kernel)
  have h_4 := hts (.fieldLink RX7 70 RX7 "bargainDay" "[I") (by decide +kernel)
  have h_5 := hts (.fieldLink RX7 112 RX7 "now" "I") (by decide +kernel)
  have t_m1 : ((-1) : Int32).toInt = -1 := rfl
  have t_0 : (0 : Int32).toInt = 0 := rfl
  have t_1 : (1 : Int32).toInt = 1 := rfl
  refine lv_iconst (v := (-1)) hx hb dX7_bargainOf_0 (by decide) ?_
  refine lv_istore_n (lv' := [(2, .int (-1)), (0, .ref (a 0)), (1, .int x1)]) hx hb dX7_bargainOf_1 rfl hl (by decide) rfl (fun ls hl => ?_)
  refine lv_iconst (v := 0) hx hb dX7_bargainOf_2 (by decide) ?_
  refine lv_istore_n (lv' := [(3, .int 0), (2, .int (-1)), (0, .ref (a 0)), (1, .int x1)]) hx hb dX7_bargainOf_3 rfl hl (by decide) rfl (fun ls hl => ?_)
  have K_1 : ∀ (v1 : Int32) (H : Heap) (ls : Array Slot) (locs : List Loc), (lX7_bargainOf_1 q x1 (((q 35 0).toInt - (0 : Int32).toInt).toNat + 1) (-1) 0) = v1 → ((v1).toInt = -1 ∨ (0 ≤ (v1).toInt ∧ (v1).toInt < (q 35 0).toInt)) → va_P G vwCl ((cM cy a) q) H → va_S (wA (cM cy a) s.heap.size) s.heap H locs → lv_has ls 4 [(2, .int v1)] → W p l e ({ frames := 0, cells := 0, slots := 0, locals := 0 }) s m [.ref (a 0), .int x1].toArray below meth c H locs 0 0 (MQ below (wQi G (cM cy a) s.heap.size (fX7_bargainOf q x1) q) [.ref (a 0), .int x1].toArray s 0 0 (wA (cM cy a) s.heap.size)) (F0 m 63 ls []) := by
    intro v1 H ls locs hv iv_1_x hP hS hl
    subst hv
    refine lv_iload_n hx hb dX7_bargainOf_63 rfl (lv_at hl 0 rfl) ?_
    exact W.iret (v := (lX7_bargainOf_1 q x1 (((q 35 0).toInt - (0 : Int32).toInt).toNat + 1) (-1) 0)) hx hb hr (fun t ht hW => ⟨⟨(lX7_bargainOf_1 q x1 (((q 35 0).toInt - (0 : Int32).toInt).toNat + 1) (-1) 0), q, rfl, ⟨(show (fX7_bargainOf q x1) = (lX7_bargainOf_1 q x1 (((q 35 0).toInt - (0 : Int32).toInt).toNat + 1) (-1) 0) by (rw [fX7_bargainOf]); try rfl).symm, rfl⟩, w_ht ht hP⟩, hS.F ht⟩) hS.2.2 dX7_bargainOf_64
  have L_1 : ∀ (n : Nat) (y2_1 : Int32) (y3_1 : Int32) (H : Heap) (ls : Array Slot) (locs : List Loc), ((q 35 0).toInt - (y3_1).toInt).toNat < n → (0 ≤ (y3_1).toInt) → ((y2_1).toInt = -1 ∨ (0 ≤ (y2_1).toInt ∧ (y2_1).toInt < (q 35 0).toInt)) → lX7_bargainOf_1 q x1 n y2_1 y3_1 = (lX7_bargainOf_1 q x1 (((q 35 0).toInt - (0 : Int32).toInt).toNat + 1) (-1) 0) → va_P G vwCl ((cM cy a) q) H → va_S (wA (cM cy a) s.heap.size) s.heap H locs → lv_has ls 4 [(0, .ref (a 0)), (1, .int x1), (2, .int y2_1), (3, .int y3_1)] → W p l e ({ frames := 0, cells := 0, slots := 0, locals := 0 }) s m [.ref (a 0), .int x1].toArray below meth c H locs 0 0 (MQ below (wQi G (cM cy a) s.heap.size (fX7_bargainOf q x1) q) [.ref (a 0), .int x1].toArray s 0 0 (wA (cM cy a) s.heap.size)) (F0 m 4 ls []) := by
    intro n
    induction n with
    | zero => intro y2_1 y3_1 H ls locs hm; exact absurd hm (Nat.not_lt_zero _)
    | succ n ih =>
      intro y2_1 y3_1 H ls locs hm_1 i0_1 iv_1 he_1 hP hS hl
      refine lv_iload_n hx hb dX7_bargainOf_4 rfl (lv_at hl 3 rfl) ?_
      refine lv_aload_n hx hb dX7_bargainOf_5 rfl (lv_at hl 0 rfl) ?_
      refine gfX7_109 (v := (q 35 0)) hx hb hts h_2 hown hK hP h_1 rfl dX7_bargainOf_6 ?_
      refine lv_icmp_ge (tgt := 63) hx hb dX7_bargainOf_9 (by decide) (fun c_1 => ?_) (fun c_1 => ?_)
      · have e_2 := i_le c_1
        exact K_1 y2_1 _ _ _ (Eq.trans (Eq.symm he_1) (by (rw [lX7_bargainOf_1_s, if_pos c_1]); try rfl)) (by first | omega | assumption) hP hS (lv_sub hl [2] rfl)
      · have e_2 := i_nle c_1
        refine lv_aload_n hx hb dX7_bargainOf_12 rfl (lv_at hl 0 rfl) ?_
        refine gfX7_67 hx hb hts h_2 hown hK hP h_3 dX7_bargainOf_13 ?_
        refine lv_iload_n hx hb dX7_bargainOf_16 rfl (lv_at hl 3 rfl) ?_
        have v_3 : vp_in y3_1 40 := vp_in_iff.mpr (by omega)
        refine ldM_1 (f := (q 1)) hx hb hK hP rfl v_3 dX7_bargainOf_17 ?_
        refine lv_iload_n hx hb dX7_bargainOf_18 rfl (lv_at hl 1 rfl) ?_
        have J_2 : ∀ (v1 : Int32) (H : Heap) (ls : Array Slot) (locs : List Loc), (fX7_bargainOf_j2 q x1 y2_1 y3_1) = v1 → ((v1).toInt = -1 ∨ (0 ≤ (v1).toInt ∧ (v1).toInt < (q 35 0).toInt)) → va_P G vwCl ((cM cy a) q) H → va_S (wA (cM cy a) s.heap.size) s.heap H locs → lv_has ls 4 [(0, .ref (a 0)), (1, .int x1), (2, .int v1), (3, .int y3_1)] → W p l e ({ frames := 0, cells := 0, slots := 0, locals := 0 }) s m [.ref (a 0), .int x1].toArray below meth c H locs 0 0 (MQ below (wQi G (cM cy a) s.heap.size (fX7_bargainOf q x1) q) [.ref (a 0), .int x1].toArray s 0 0 (wA (cM cy a) s.heap.size)) (F0 m 57 ls []) := by
          intro v1 H ls locs hv iv_1_j2 hP hS hl
          subst hv
          refine lv_iinc (v := (y3_1 + 1)) (lv' := [(3, .int (y3_1 + 1)), (0, .ref (a 0)), (1, .int x1), (2, .int (fX7_bargainOf_j2 q x1 y2_1 y3_1))]) hx hb dX7_bargainOf_57 hl (k := 3) rfl rfl (by decide) rfl (fun ls hl => ?_)
          have e_15 : (y3_1 + 1).toInt = (y3_1).toInt + 1 := i_inc (by have := i_rng y3_1; have := i_rng (q 35 0); omega)
          refine lv_goto (tgt := 4) hx hb dX7_bargainOf_60 (by decide) ?_
          exact ih (fX7_bargainOf_j2 q x1 y2_1 y3_1) (y3_1 + 1) _ _ _ (by omega) (by first | omega | assumption) (by first | omega | assumption) (Eq.trans (Eq.symm (by (rw [lX7_bargainOf_1_s, if_neg c_1]); try rfl)) he_1) hP hS (lv_sub hl [1, 2, 3, 0] rfl)
        refine lv_icmp_ne (tgt := 57) hx hb dX7_bargainOf_19 (by decide) (fun c_4 => ?_) (fun c_4 => ?_)
        · have e_5 := i_ne c_4
          exact J_2 y2_1 _ _ _ (by (rw [fX7_bargainOf_j2, if_neg c_4]); try rfl) (show (y2_1).toInt = -1 ∨ (0 ≤ (y2_1).toInt ∧ (y2_1).toInt < (q 35 0).toInt) by omega) hP hS (lv_sub hl [0, 1, 2, 3] rfl)
        · have e_5 := i_eq c_4
          refine lv_aload_n hx hb dX7_bargainOf_22 rfl (lv_at hl 0 rfl) ?_
          refine gfX7_70 hx hb hts h_2 hown hK hP h_4 dX7_bargainOf_23 ?_
          refine lv_iload_n hx hb dX7_bargainOf_26 rfl (lv_at hl 3 rfl) ?_
          have v_6 : vp_in y3_1 40 := vp_in_iff.mpr (by omega)
          refine ldM_2 (f := (q 2)) hx hb hK hP rfl v_6 dX7_bargainOf_27 ?_
          refine lv_aload_n hx hb dX7_bargainOf_28 rfl (lv_at hl 0 rfl) ?_
          refine gfX7_112 (v := (q 30 0)) hx hb hts h_2 hown hK hP h_5 rfl dX7_bargainOf_29 ?_
          refine lv_icmp_gt (tgt := 57) hx hb dX7_bargainOf_32 (by decide) (fun c_7 => ?_) (fun c_7 => ?_)
          · have e_8 := i_lt c_7
            exact J_2 y2_1 _ _ _ (by (rw [fX7_bargainOf_j2, if_pos c_4, if_pos c_7]); try rfl) (show (y2_1).toInt = -1 ∨ (0 ≤ (y2_1).toInt ∧ (y2_1).toInt < (q 35 0).toInt) by omega) hP hS (lv_sub hl [0, 1, 2, 3] rfl)
          · have e_8 := i_nlt c_7
            refine lv_iload_n hx hb dX7_bargainOf_35 rfl (lv_at hl 2 rfl) ?_
            refine lv_iconst (v := (-1)) hx hb dX7_bargainOf_36 (by decide) ?_
            refine lv_icmp_eq (tgt := 55) hx hb dX7_bargainOf_37 (by decide) (fun c_9 => ?_) (fun c_9 => ?_)
            · have e_10 := i_eq c_9
              refine lv_iload_n hx hb dX7_bargainOf_55 rfl (lv_at hl 3 rfl) ?_
              refine lv_istore_n (lv' := [(2, .int y3_1), (0, .ref (a 0)), (1, .int x1), (3, .int y3_1)]) hx hb dX7_bargainOf_56 rfl hl (by decide) rfl (fun ls hl => ?_)
              exact J_2 y3_1 _ _ _ (by (rw [fX7_bargainOf_j2, if_pos c_4, if_neg c_7, if_pos c_9]); try rfl) (show (y3_1).toInt = -1 ∨ (0 ≤ (y3_1).toInt ∧ (y3_1).toInt < (q 35 0).toInt) by omega) hP hS (lv_sub hl [1, 2, 0, 3] rfl)
            · have e_10 := i_ne c_9
              refine lv_aload_n hx hb dX7_bargainOf_40 rfl (lv_at hl 0 rfl) ?_
              refine gfX7_70 hx hb hts h_2 hown hK hP h_4 dX7_bargainOf_41 ?_
              refine lv_iload_n hx hb dX7_bargainOf_44 rfl (lv_at hl 3 rfl) ?_
              have v_11 : vp_in y3_1 40 := vp_in_iff.mpr (by omega)
              refine ldM_2 (f := (q 2)) hx hb hK hP rfl v_11 dX7_bargainOf_45 ?_
              refine lv_aload_n hx hb dX7_bargainOf_46 rfl (lv_at hl 0 rfl) ?_
              refine gfX7_70 hx hb hts h_2 hown hK hP h_4 dX7_bargainOf_47 ?_
              refine lv_iload_n hx hb dX7_bargainOf_50 rfl (lv_at hl 2 rfl) ?_
              have v_12 : vp_in y2_1 40 := vp_in_iff.mpr (by omega)
              refine ldM_2 (f := (q 2)) hx hb hK hP rfl v_12 dX7_bargainOf_51 ?_
              refine lv_icmp_lt (tgt := 57) hx hb dX7_bargainOf_52 (by decide) (fun c_13 => ?_) (fun c_13 => ?_)
              · have e_14 := i_lt c_13
                exact J_2 y2_1 _ _ _ (by (rw [fX7_bargainOf_j2, if_pos c_4, if_neg c_7, if_neg c_9, if_pos c_13]); try rfl) (show (y2_1).toInt = -1 ∨ (0 ≤ (y2_1).toInt ∧ (y2_1).toInt < (q 35 0).toInt) by omega) hP hS (lv_sub hl [0, 1, 2, 3] rfl)
              · have e_14 := i_nlt c_13
                refine lv_iload_n hx hb dX7_bargainOf_55 rfl (lv_at hl 3 rfl) ?_
                refine lv_istore_n (lv' := [(2, .int y3_1), (0, .ref (a 0)), (1, .int x1), (3, .int y3_1)]) hx hb dX7_bargainOf_56 rfl hl (by decide) rfl (fun ls hl => ?_)
                exact J_2 y3_1 _ _ _ (by (rw [fX7_bargainOf_j2, if_pos c_4, if_neg c_7, if_neg c_9, if_neg c_13]); try rfl) (show (y3_1).toInt = -1 ∨ (0 ≤ (y3_1).toInt ∧ (y3_1).toInt < (q 35 0).toInt) by omega) hP hS (lv_sub hl [1, 2, 0, 3] rfl)
  exact L_1 (((q 35 0).toInt - (0 : Int32).toInt).toNat + 1) (-1) 0 _ _ _ (by omega) (by omega) (by omega) rfl hP hS (lv_sub hl [2, 3, 1, 0] rfl)
