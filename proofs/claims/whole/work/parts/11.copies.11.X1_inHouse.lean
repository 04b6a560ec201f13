set_option maxHeartbeats 4000000 in
set_option maxRecDepth 100000 in
theorem mX1_inHouse (l : Launch) (G : va_G) (cy : ClassId) (a : Nat → Nat) (sz : Nat) (q : wSt) (x1 : Int32) (x2 : Int32) (g0 : (q 36 0).toInt ≤ 200) : CtI l yX1_inHouse wsX1_inHouse ({ frames := 0, cells := 0, slots := 0, locals := 0 }) G cy (cX cy a) xN sz q [.ref (a 3), .int x1, .int x2] (fX1_inHouse q x1 x2) q := by
  refine Met.ofW (cc := cX1_inHouse) (maxL := 5) (ret := (some .int)) (by decide) rfl ?_
  intro p e s m args below meth c s₁ B hml hv
  obtain ⟨rfl, hsz, hP, hK, hD0, hN⟩ := hv
  have hx := B.exec
  have hb := B.bytes
  have hr := B.returns
  have hts := atoms_spec (ws := wsX1_inHouse) B.pre
  have hown : s.vm.findClass RX1 = some m.cls := findClass_of_methodNamed B.named
  have hlocks := B.notSynchronized
  subst hsz
  have hD : ∀ z : wSt, va_D (wA (cX cy a) s.heap.size) ((cX cy a) z) := fun z => w_self (xOk cy a).1 hD0 z
  have hA : ∀ z : Nat, s.heap.size ≤ z → wA (cX cy a) s.heap.size z := fun _ h => Or.inr h
  have hS : va_S (wA (cX cy a) s.heap.size) s.heap s.heap [] := va_S.rf
  have hl := lv_entry ([.ref (a 3), .int x1, .int x2]) (n := 5) (Nat.le_of_ble_eq_true rfl)
  rw [lg_entry_eq]
  generalize (lg_sl ([.ref (a 3), .int x1, .int x2]) ++ List.replicate (5 - (lg_sl ([.ref (a 3), .int x1, .int x2])).length) Slot.unset).toArray = ls at hl ⊢
  have hl : lv_has ls 5 [(0, .ref (a 3)), (1, .int x1), (2, .int x2)] := hl
  have h_1 := hts (.fieldLink RX1 42 RX1 "came" "I") (by decide +kernel)
  have h_2 := (show ∀ w ∈ u_ws RX1 TX1 13, w ∈ wsX1_inHouse by decide +kernel)
  have h_3 := hts (.fieldLink RX1 15 RX1 "title" "[I") (by decide +kernel)
  have h_4 := hts (.fieldLink RX1 18 RX1 "volume" "[I") (by decide +kernel)
  have h_5 := hts (.fieldLink RX1 9 RX1 "where" "[I") (by decide +kernel)
  have t_0 : (0 : Int32).toInt = 0 := rfl
  have t_1 : (1 : Int32).toInt = 1 := rfl
  have t_4 : (4 : Int32).toInt = 4 := rfl
  have t_5 : (5 : Int32).toInt = 5 := rfl
  refine lv_iconst (v := 0) hx hb dX1_inHouse_0 (by decide) ?_
  refine lv_istore_n (lv' := [(3, .int 0), (0, .ref (a 3)), (1, .int x1), (2, .int x2)]) hx hb dX1_inHouse_1 rfl hl (by decide) rfl (fun ls hl => ?_)
  refine lv_iconst (v := 0) hx hb dX1_inHouse_2 (by decide) ?_
  refine lv_istore (lv' := [(4, .int 0), (3, .int 0), (0, .ref (a 3)), (1, .int x1), (2, .int x2)]) hx hb dX1_inHouse_3 hl (by decide) rfl (fun ls hl => ?_)
  have K_1 : ∀ (v1 : Int32) (H : Heap) (ls : Array Slot) (locs : List Loc), (lX1_inHouse_1 q x1 x2 (((q 36 0).toInt - (0 : Int32).toInt).toNat + 1) 0 0) = v1 → va_P G vwCl ((cX cy a) q) H → va_S (wA (cX cy a) s.heap.size) s.heap H locs → lv_has ls 5 [(3, .int v1)] → W p l e ({ frames := 0, cells := 0, slots := 0, locals := 0 }) s m [.ref (a 3), .int x1, .int x2].toArray below meth c H locs 0 0 (MQ below (wQi G (cX cy a) s.heap.size (fX1_inHouse q x1 x2) q) [.ref (a 3), .int x1, .int x2].toArray s 0 0 (wA (cX cy a) s.heap.size)) (F0 m 67 ls []) := by
    intro v1 H ls locs hv hP hS hl
    subst hv
    refine lv_iload_n hx hb dX1_inHouse_67 rfl (lv_at hl 0 rfl) ?_
    exact W.iret (v := (lX1_inHouse_1 q x1 x2 (((q 36 0).toInt - (0 : Int32).toInt).toNat + 1) 0 0)) hx hb hr (fun t ht hW => ⟨⟨(lX1_inHouse_1 q x1 x2 (((q 36 0).toInt - (0 : Int32).toInt).toNat + 1) 0 0), q, rfl, ⟨(show (fX1_inHouse q x1 x2) = (lX1_inHouse_1 q x1 x2 (((q 36 0).toInt - (0 : Int32).toInt).toNat + 1) 0 0) by (rw [fX1_inHouse]); try rfl).symm, rfl⟩, w_ht ht hP⟩, hS.F ht⟩) hS.2.2 dX1_inHouse_68
  have L_1 : ∀ (n : Nat) (y3_1 : Int32) (y4_1 : Int32) (H : Heap) (ls : Array Slot) (locs : List Loc), ((q 36 0).toInt - (y4_1).toInt).toNat < n → (0 ≤ (y4_1).toInt) → lX1_inHouse_1 q x1 x2 n y3_1 y4_1 = (lX1_inHouse_1 q x1 x2 (((q 36 0).toInt - (0 : Int32).toInt).toNat + 1) 0 0) → va_P G vwCl ((cX cy a) q) H → va_S (wA (cX cy a) s.heap.size) s.heap H locs → lv_has ls 5 [(0, .ref (a 3)), (1, .int x1), (2, .int x2), (3, .int y3_1), (4, .int y4_1)] → W p l e ({ frames := 0, cells := 0, slots := 0, locals := 0 }) s m [.ref (a 3), .int x1, .int x2].toArray below meth c H locs 0 0 (MQ below (wQi G (cX cy a) s.heap.size (fX1_inHouse q x1 x2) q) [.ref (a 3), .int x1, .int x2].toArray s 0 0 (wA (cX cy a) s.heap.size)) (F0 m 5 ls []) := by
    intro n
    induction n with
    | zero => intro y3_1 y4_1 H ls locs hm; exact absurd hm (Nat.not_lt_zero _)
    | succ n ih =>
      intro y3_1 y4_1 H ls locs hm_1 i0_1 he_1 hP hS hl
      refine lv_iload hx hb dX1_inHouse_5 (lv_at hl 4 rfl) ?_
      refine lv_aload_n hx hb dX1_inHouse_7 rfl (lv_at hl 0 rfl) ?_
      refine gfX1_42 (v := (q 36 0)) hx hb hts h_2 hown hK hP h_1 rfl dX1_inHouse_8 ?_
      refine lv_icmp_ge (tgt := 67) hx hb dX1_inHouse_11 (by decide) (fun c_1 => ?_) (fun c_1 => ?_)
      · have e_2 := i_le c_1
        exact K_1 y3_1 _ _ _ (Eq.trans (Eq.symm he_1) (by (rw [lX1_inHouse_1_s, if_pos c_1]); try rfl)) hP hS (lv_sub hl [3] rfl)
      · have e_2 := i_nle c_1
        refine lv_aload_n hx hb dX1_inHouse_14 rfl (lv_at hl 0 rfl) ?_
        refine gfX1_15 hx hb hts h_2 hown hK hP h_3 dX1_inHouse_15 ?_
        refine lv_iload hx hb dX1_inHouse_18 (lv_at hl 4 rfl) ?_
        have v_3 : vp_in y4_1 200 := vp_in_iff.mpr (by omega)
        refine ldX_7 (f := (q 7)) hx hb hK hP rfl v_3 dX1_inHouse_20 ?_
        refine lv_iload_n hx hb dX1_inHouse_21 rfl (lv_at hl 1 rfl) ?_
        have J_2 : ∀ (v1 : Int32) (H : Heap) (ls : Array Slot) (locs : List Loc), (fX1_inHouse_j2 q x1 x2 y3_1 y4_1) = v1 → va_P G vwCl ((cX cy a) q) H → va_S (wA (cX cy a) s.heap.size) s.heap H locs → lv_has ls 5 [(0, .ref (a 3)), (1, .int x1), (2, .int x2), (3, .int v1), (4, .int y4_1)] → W p l e ({ frames := 0, cells := 0, slots := 0, locals := 0 }) s m [.ref (a 3), .int x1, .int x2].toArray below meth c H locs 0 0 (MQ below (wQi G (cX cy a) s.heap.size (fX1_inHouse q x1 x2) q) [.ref (a 3), .int x1, .int x2].toArray s 0 0 (wA (cX cy a) s.heap.size)) (F0 m 61 ls []) := by
          intro v1 H ls locs hv hP hS hl
          subst hv
          refine lv_iinc (v := (y4_1 + 1)) (lv' := [(4, .int (y4_1 + 1)), (0, .ref (a 3)), (1, .int x1), (2, .int x2), (3, .int (fX1_inHouse_j2 q x1 x2 y3_1 y4_1))]) hx hb dX1_inHouse_61 hl (k := 4) rfl rfl (by decide) rfl (fun ls hl => ?_)
          have e_15 : (y4_1 + 1).toInt = (y4_1).toInt + 1 := i_inc (by have := i_rng y4_1; have := i_rng (q 36 0); omega)
          refine lv_goto (tgt := 5) hx hb dX1_inHouse_64 (by decide) ?_
          exact ih (fX1_inHouse_j2 q x1 x2 y3_1 y4_1) (y4_1 + 1) _ _ _ (by omega) (by first | omega | assumption) (Eq.trans (Eq.symm (by (rw [lX1_inHouse_1_s, if_neg c_1]); try rfl)) he_1) hP hS (lv_sub hl [1, 2, 3, 4, 0] rfl)
        refine lv_icmp_ne (tgt := 61) hx hb dX1_inHouse_22 (by decide) (fun c_4 => ?_) (fun c_4 => ?_)
        · have e_5 := i_ne c_4
          exact J_2 y3_1 _ _ _ (by (rw [fX1_inHouse_j2, if_neg c_4]); try rfl) hP hS (lv_sub hl [0, 1, 2, 3, 4] rfl)
        · have e_5 := i_eq c_4
          refine lv_aload_n hx hb dX1_inHouse_25 rfl (lv_at hl 0 rfl) ?_
          refine gfX1_18 hx hb hts h_2 hown hK hP h_4 dX1_inHouse_26 ?_
          refine lv_iload hx hb dX1_inHouse_29 (lv_at hl 4 rfl) ?_
          have v_6 : vp_in y4_1 200 := vp_in_iff.mpr (by omega)
          refine ldX_8 (f := (q 8)) hx hb hK hP rfl v_6 dX1_inHouse_31 ?_
          refine lv_iload_n hx hb dX1_inHouse_32 rfl (lv_at hl 2 rfl) ?_
          refine lv_icmp_ne (tgt := 61) hx hb dX1_inHouse_33 (by decide) (fun c_7 => ?_) (fun c_7 => ?_)
          · have e_8 := i_ne c_7
            exact J_2 y3_1 _ _ _ (by (rw [fX1_inHouse_j2, if_pos c_4, if_neg c_7]); try rfl) hP hS (lv_sub hl [0, 1, 2, 3, 4] rfl)
          · have e_8 := i_eq c_7
            refine lv_aload_n hx hb dX1_inHouse_36 rfl (lv_at hl 0 rfl) ?_
            refine gfX1_9 hx hb hts h_2 hown hK hP h_5 dX1_inHouse_37 ?_
            refine lv_iload hx hb dX1_inHouse_40 (lv_at hl 4 rfl) ?_
            have v_9 : vp_in y4_1 200 := vp_in_iff.mpr (by omega)
            refine ldX_6 (f := (q 6)) hx hb hK hP rfl v_9 dX1_inHouse_42 ?_
            refine lv_iconst (v := 4) hx hb dX1_inHouse_43 (by decide) ?_
            refine lv_icmp_eq (tgt := 61) hx hb dX1_inHouse_44 (by decide) (fun c_10 => ?_) (fun c_10 => ?_)
            · have e_11 := i_eq c_10
              exact J_2 y3_1 _ _ _ (by (rw [fX1_inHouse_j2, if_pos c_4, if_pos c_7, if_pos c_10]); try rfl) hP hS (lv_sub hl [0, 1, 2, 3, 4] rfl)
            · have e_11 := i_ne c_10
              refine lv_aload_n hx hb dX1_inHouse_47 rfl (lv_at hl 0 rfl) ?_
              refine gfX1_9 hx hb hts h_2 hown hK hP h_5 dX1_inHouse_48 ?_
              refine lv_iload hx hb dX1_inHouse_51 (lv_at hl 4 rfl) ?_
              have v_12 : vp_in y4_1 200 := vp_in_iff.mpr (by omega)
              refine ldX_6 (f := (q 6)) hx hb hK hP rfl v_12 dX1_inHouse_53 ?_
              refine lv_iconst (v := 5) hx hb dX1_inHouse_54 (by decide) ?_
              refine lv_icmp_eq (tgt := 61) hx hb dX1_inHouse_55 (by decide) (fun c_13 => ?_) (fun c_13 => ?_)
              · have e_14 := i_eq c_13
                exact J_2 y3_1 _ _ _ (by (rw [fX1_inHouse_j2, if_pos c_4, if_pos c_7, if_neg c_10, if_pos c_13]); try rfl) hP hS (lv_sub hl [0, 1, 2, 3, 4] rfl)
              · have e_14 := i_ne c_13
                refine lv_iinc (v := (y3_1 + 1)) (lv' := [(3, .int (y3_1 + 1)), (0, .ref (a 3)), (1, .int x1), (2, .int x2), (4, .int y4_1)]) hx hb dX1_inHouse_58 hl (k := 3) rfl rfl (by decide) rfl (fun ls hl => ?_)
                exact J_2 (y3_1 + 1) _ _ _ (by (rw [fX1_inHouse_j2, if_pos c_4, if_pos c_7, if_neg c_10, if_neg c_13]); try rfl) hP hS (lv_sub hl [1, 2, 3, 0, 4] rfl)
  exact L_1 (((q 36 0).toInt - (0 : Int32).toInt).toNat + 1) 0 0 _ _ _ (by omega) (by omega) rfl hP hS (lv_sub hl [2, 3, 4, 1, 0] rfl)
