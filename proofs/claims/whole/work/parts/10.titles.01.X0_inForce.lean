set_option maxHeartbeats 4000000 in
set_option maxRecDepth 100000 in
theorem mX0_inForce (l : Launch) (G : va_G) (cy : ClassId) (a : Nat → Nat) (sz : Nat) (q : wSt) (x1 : Int32) (x2 : Int32) (g0 : (q 35 0).toInt ≤ 40) : CtI l yX0_inForce wsX0_inForce ({ frames := 0, cells := 0, slots := 0, locals := 0 }) G cy (cX cy a) xN sz q [.ref (a 2), .int x1, .int x2] (fX0_inForce q x1 x2) q := by
  refine Met.ofW (cc := cX0_inForce) (maxL := 5) (ret := (some .int)) (by decide) rfl ?_
  intro p e s m args below meth c s₁ B hml hv
  obtain ⟨rfl, hsz, hP, hK, hD0, hN⟩ := hv
  have hx := B.exec
  have hb := B.bytes
  have hr := B.returns
  have hts := atoms_spec (ws := wsX0_inForce) B.pre
  have hown : s.vm.findClass RX0 = some m.cls := findClass_of_methodNamed B.named
  have hlocks := B.notSynchronized
  subst hsz
  have hD : ∀ z : wSt, va_D (wA (cX cy a) s.heap.size) ((cX cy a) z) := fun z => w_self (xOk cy a).1 hD0 z
  have hA : ∀ z : Nat, s.heap.size ≤ z → wA (cX cy a) s.heap.size z := fun _ h => Or.inr h
  have hS : va_S (wA (cX cy a) s.heap.size) s.heap s.heap [] := va_S.rf
  have hl := lv_entry ([.ref (a 2), .int x1, .int x2]) (n := 5) (Nat.le_of_ble_eq_true rfl)
  rw [lg_entry_eq]
  generalize (lg_sl ([.ref (a 2), .int x1, .int x2]) ++ List.replicate (5 - (lg_sl ([.ref (a 2), .int x1, .int x2])).length) Slot.unset).toArray = ls at hl ⊢
  have hl : lv_has ls 5 [(0, .ref (a 2)), (1, .int x1), (2, .int x2)] := hl
  have h_1 := hts (.fieldLink RX0 27 RX0 "came" "I") (by decide +kernel)
  have h_2 := (show ∀ w ∈ u_ws RX0 TX0 6, w ∈ wsX0_inForce by decide +kernel)
  have h_3 := hts (.fieldLink RX0 9 RX0 "title" "[I") (by decide +kernel)
  have h_4 := hts (.fieldLink RX0 15 RX0 "day" "[I") (by decide +kernel)
  have t_m1 : ((-1) : Int32).toInt = -1 := rfl
  have t_0 : (0 : Int32).toInt = 0 := rfl
  have t_1 : (1 : Int32).toInt = 1 := rfl
  refine lv_iconst (v := (-1)) hx hb dX0_inForce_0 (by decide) ?_
  refine lv_istore_n (lv' := [(3, .int (-1)), (0, .ref (a 2)), (1, .int x1), (2, .int x2)]) hx hb dX0_inForce_1 rfl hl (by decide) rfl (fun ls hl => ?_)
  refine lv_iconst (v := 0) hx hb dX0_inForce_2 (by decide) ?_
  refine lv_istore (lv' := [(4, .int 0), (3, .int (-1)), (0, .ref (a 2)), (1, .int x1), (2, .int x2)]) hx hb dX0_inForce_3 hl (by decide) rfl (fun ls hl => ?_)
  have K_1 : ∀ (v1 : Int32) (H : Heap) (ls : Array Slot) (locs : List Loc), (lX0_inForce_1 q x1 x2 (((q 35 0).toInt - (0 : Int32).toInt).toNat + 1) (-1) 0) = v1 → ((v1).toInt = -1 ∨ (0 ≤ (v1).toInt ∧ (v1).toInt < (q 35 0).toInt)) → va_P G vwCl ((cX cy a) q) H → va_S (wA (cX cy a) s.heap.size) s.heap H locs → lv_has ls 5 [(3, .int v1)] → W p l e ({ frames := 0, cells := 0, slots := 0, locals := 0 }) s m [.ref (a 2), .int x1, .int x2].toArray below meth c H locs 0 0 (MQ below (wQi G (cX cy a) s.heap.size (fX0_inForce q x1 x2) q) [.ref (a 2), .int x1, .int x2].toArray s 0 0 (wA (cX cy a) s.heap.size)) (F0 m 66 ls []) := by
    intro v1 H ls locs hv iv_1_x hP hS hl
    subst hv
    refine lv_iload_n hx hb dX0_inForce_66 rfl (lv_at hl 0 rfl) ?_
    exact W.iret (v := (lX0_inForce_1 q x1 x2 (((q 35 0).toInt - (0 : Int32).toInt).toNat + 1) (-1) 0)) hx hb hr (fun t ht hW => ⟨⟨(lX0_inForce_1 q x1 x2 (((q 35 0).toInt - (0 : Int32).toInt).toNat + 1) (-1) 0), q, rfl, ⟨(show (fX0_inForce q x1 x2) = (lX0_inForce_1 q x1 x2 (((q 35 0).toInt - (0 : Int32).toInt).toNat + 1) (-1) 0) by (rw [fX0_inForce]); try rfl).symm, rfl⟩, w_ht ht hP⟩, hS.F ht⟩) hS.2.2 dX0_inForce_67
  have L_1 : ∀ (n : Nat) (y3_1 : Int32) (y4_1 : Int32) (H : Heap) (ls : Array Slot) (locs : List Loc), ((q 35 0).toInt - (y4_1).toInt).toNat < n → (0 ≤ (y4_1).toInt) → ((y3_1).toInt = -1 ∨ (0 ≤ (y3_1).toInt ∧ (y3_1).toInt < (q 35 0).toInt)) → lX0_inForce_1 q x1 x2 n y3_1 y4_1 = (lX0_inForce_1 q x1 x2 (((q 35 0).toInt - (0 : Int32).toInt).toNat + 1) (-1) 0) → va_P G vwCl ((cX cy a) q) H → va_S (wA (cX cy a) s.heap.size) s.heap H locs → lv_has ls 5 [(0, .ref (a 2)), (1, .int x1), (2, .int x2), (3, .int y3_1), (4, .int y4_1)] → W p l e ({ frames := 0, cells := 0, slots := 0, locals := 0 }) s m [.ref (a 2), .int x1, .int x2].toArray below meth c H locs 0 0 (MQ below (wQi G (cX cy a) s.heap.size (fX0_inForce q x1 x2) q) [.ref (a 2), .int x1, .int x2].toArray s 0 0 (wA (cX cy a) s.heap.size)) (F0 m 5 ls []) := by
    intro n
    induction n with
    | zero => intro y3_1 y4_1 H ls locs hm; exact absurd hm (Nat.not_lt_zero _)
    | succ n ih =>
      intro y3_1 y4_1 H ls locs hm_1 i0_1 iv_1 he_1 hP hS hl
      refine lv_iload hx hb dX0_inForce_5 (lv_at hl 4 rfl) ?_
      refine lv_aload_n hx hb dX0_inForce_7 rfl (lv_at hl 0 rfl) ?_
      refine gfX0_27 (v := (q 35 0)) hx hb hts h_2 hown hK hP h_1 rfl dX0_inForce_8 ?_
      refine lv_icmp_ge (tgt := 66) hx hb dX0_inForce_11 (by decide) (fun c_1 => ?_) (fun c_1 => ?_)
      · have e_2 := i_le c_1
        exact K_1 y3_1 _ _ _ (Eq.trans (Eq.symm he_1) (by (rw [lX0_inForce_1_s, if_pos c_1]); try rfl)) (by first | omega | assumption) hP hS (lv_sub hl [3] rfl)
      · have e_2 := i_nle c_1
        refine lv_aload_n hx hb dX0_inForce_14 rfl (lv_at hl 0 rfl) ?_
        refine gfX0_9 hx hb hts h_2 hown hK hP h_3 dX0_inForce_15 ?_
        refine lv_iload hx hb dX0_inForce_18 (lv_at hl 4 rfl) ?_
        have v_3 : vp_in y4_1 40 := vp_in_iff.mpr (by omega)
        refine ldX_1 (f := (q 1)) hx hb hK hP rfl v_3 dX0_inForce_20 ?_
        refine lv_iload_n hx hb dX0_inForce_21 rfl (lv_at hl 1 rfl) ?_
        have J_2 : ∀ (v1 : Int32) (H : Heap) (ls : Array Slot) (locs : List Loc), (fX0_inForce_j2 q x1 x2 y3_1 y4_1) = v1 → ((v1).toInt = -1 ∨ (0 ≤ (v1).toInt ∧ (v1).toInt < (q 35 0).toInt)) → va_P G vwCl ((cX cy a) q) H → va_S (wA (cX cy a) s.heap.size) s.heap H locs → lv_has ls 5 [(0, .ref (a 2)), (1, .int x1), (2, .int x2), (3, .int v1), (4, .int y4_1)] → W p l e ({ frames := 0, cells := 0, slots := 0, locals := 0 }) s m [.ref (a 2), .int x1, .int x2].toArray below meth c H locs 0 0 (MQ below (wQi G (cX cy a) s.heap.size (fX0_inForce q x1 x2) q) [.ref (a 2), .int x1, .int x2].toArray s 0 0 (wA (cX cy a) s.heap.size)) (F0 m 60 ls []) := by
          intro v1 H ls locs hv iv_1_j2 hP hS hl
          subst hv
          refine lv_iinc (v := (y4_1 + 1)) (lv' := [(4, .int (y4_1 + 1)), (0, .ref (a 2)), (1, .int x1), (2, .int x2), (3, .int (fX0_inForce_j2 q x1 x2 y3_1 y4_1))]) hx hb dX0_inForce_60 hl (k := 4) rfl rfl (by decide) rfl (fun ls hl => ?_)
          have e_15 : (y4_1 + 1).toInt = (y4_1).toInt + 1 := i_inc (by have := i_rng y4_1; have := i_rng (q 35 0); omega)
          refine lv_goto (tgt := 5) hx hb dX0_inForce_63 (by decide) ?_
          exact ih (fX0_inForce_j2 q x1 x2 y3_1 y4_1) (y4_1 + 1) _ _ _ (by omega) (by first | omega | assumption) (by first | omega | assumption) (Eq.trans (Eq.symm (by (rw [lX0_inForce_1_s, if_neg c_1]); try rfl)) he_1) hP hS (lv_sub hl [1, 2, 3, 4, 0] rfl)
        refine lv_icmp_ne (tgt := 60) hx hb dX0_inForce_22 (by decide) (fun c_4 => ?_) (fun c_4 => ?_)
        · have e_5 := i_ne c_4
          exact J_2 y3_1 _ _ _ (by (rw [fX0_inForce_j2, if_neg c_4]); try rfl) (show (y3_1).toInt = -1 ∨ (0 ≤ (y3_1).toInt ∧ (y3_1).toInt < (q 35 0).toInt) by omega) hP hS (lv_sub hl [0, 1, 2, 3, 4] rfl)
        · have e_5 := i_eq c_4
          refine lv_aload_n hx hb dX0_inForce_25 rfl (lv_at hl 0 rfl) ?_
          refine gfX0_15 hx hb hts h_2 hown hK hP h_4 dX0_inForce_26 ?_
          refine lv_iload hx hb dX0_inForce_29 (lv_at hl 4 rfl) ?_
          have v_6 : vp_in y4_1 40 := vp_in_iff.mpr (by omega)
          refine ldX_2 (f := (q 2)) hx hb hK hP rfl v_6 dX0_inForce_31 ?_
          refine lv_iload_n hx hb dX0_inForce_32 rfl (lv_at hl 2 rfl) ?_
          refine lv_icmp_gt (tgt := 60) hx hb dX0_inForce_33 (by decide) (fun c_7 => ?_) (fun c_7 => ?_)
          · have e_8 := i_lt c_7
            exact J_2 y3_1 _ _ _ (by (rw [fX0_inForce_j2, if_pos c_4, if_pos c_7]); try rfl) (show (y3_1).toInt = -1 ∨ (0 ≤ (y3_1).toInt ∧ (y3_1).toInt < (q 35 0).toInt) by omega) hP hS (lv_sub hl [0, 1, 2, 3, 4] rfl)
          · have e_8 := i_nlt c_7
            refine lv_iload_n hx hb dX0_inForce_36 rfl (lv_at hl 3 rfl) ?_
            refine lv_iconst (v := (-1)) hx hb dX0_inForce_37 (by decide) ?_
            refine lv_icmp_eq (tgt := 57) hx hb dX0_inForce_38 (by decide) (fun c_9 => ?_) (fun c_9 => ?_)
            · have e_10 := i_eq c_9
              refine lv_iload hx hb dX0_inForce_57 (lv_at hl 4 rfl) ?_
              refine lv_istore_n (lv' := [(3, .int y4_1), (0, .ref (a 2)), (1, .int x1), (2, .int x2), (4, .int y4_1)]) hx hb dX0_inForce_59 rfl hl (by decide) rfl (fun ls hl => ?_)
              exact J_2 y4_1 _ _ _ (by (rw [fX0_inForce_j2, if_pos c_4, if_neg c_7, if_pos c_9]); try rfl) (show (y4_1).toInt = -1 ∨ (0 ≤ (y4_1).toInt ∧ (y4_1).toInt < (q 35 0).toInt) by omega) hP hS (lv_sub hl [1, 2, 3, 0, 4] rfl)
            · have e_10 := i_ne c_9
              refine lv_aload_n hx hb dX0_inForce_41 rfl (lv_at hl 0 rfl) ?_
              refine gfX0_15 hx hb hts h_2 hown hK hP h_4 dX0_inForce_42 ?_
              refine lv_iload hx hb dX0_inForce_45 (lv_at hl 4 rfl) ?_
              have v_11 : vp_in y4_1 40 := vp_in_iff.mpr (by omega)
              refine ldX_2 (f := (q 2)) hx hb hK hP rfl v_11 dX0_inForce_47 ?_
              refine lv_aload_n hx hb dX0_inForce_48 rfl (lv_at hl 0 rfl) ?_
              refine gfX0_15 hx hb hts h_2 hown hK hP h_4 dX0_inForce_49 ?_
              refine lv_iload_n hx hb dX0_inForce_52 rfl (lv_at hl 3 rfl) ?_
              have v_12 : vp_in y3_1 40 := vp_in_iff.mpr (by omega)
              refine ldX_2 (f := (q 2)) hx hb hK hP rfl v_12 dX0_inForce_53 ?_
              refine lv_icmp_lt (tgt := 60) hx hb dX0_inForce_54 (by decide) (fun c_13 => ?_) (fun c_13 => ?_)
              · have e_14 := i_lt c_13
                exact J_2 y3_1 _ _ _ (by (rw [fX0_inForce_j2, if_pos c_4, if_neg c_7, if_neg c_9, if_pos c_13]); try rfl) (show (y3_1).toInt = -1 ∨ (0 ≤ (y3_1).toInt ∧ (y3_1).toInt < (q 35 0).toInt) by omega) hP hS (lv_sub hl [0, 1, 2, 3, 4] rfl)
              · have e_14 := i_nlt c_13
                refine lv_iload hx hb dX0_inForce_57 (lv_at hl 4 rfl) ?_
                refine lv_istore_n (lv' := [(3, .int y4_1), (0, .ref (a 2)), (1, .int x1), (2, .int x2), (4, .int y4_1)]) hx hb dX0_inForce_59 rfl hl (by decide) rfl (fun ls hl => ?_)
                exact J_2 y4_1 _ _ _ (by (rw [fX0_inForce_j2, if_pos c_4, if_neg c_7, if_neg c_9, if_neg c_13]); try rfl) (show (y4_1).toInt = -1 ∨ (0 ≤ (y4_1).toInt ∧ (y4_1).toInt < (q 35 0).toInt) by omega) hP hS (lv_sub hl [1, 2, 3, 0, 4] rfl)
  exact L_1 (((q 35 0).toInt - (0 : Int32).toInt).toNat + 1) (-1) 0 _ _ _ (by omega) (by omega) (by omega) rfl hP hS (lv_sub hl [2, 3, 4, 1, 0] rfl)
