set_option maxHeartbeats 4000000 in
set_option maxRecDepth 100000 in
theorem mX2_weeksOf (l : Launch) (G : va_G) (cy : ClassId) (a : Nat → Nat) (sz : Nat) (q : wSt) (x1 : Int32) (x2 : Int32) : CtI l yX2_weeksOf wsX2_weeksOf ({ frames := 2, cells := 0, slots := 0, locals := 48 }) G cy (cX cy a) xN sz q [.ref (a 6), .int x1, .int x2] (fX2_weeksOf q x1 x2) q := by
  refine Met.ofW (cc := cX2_weeksOf) (maxL := 6) (ret := (some .int)) (by decide) rfl ?_
  intro p e s m args below meth c s₁ B hml hv
  obtain ⟨rfl, hsz, hP, hK, hD0, hN⟩ := hv
  have hx := B.exec
  have hb := B.bytes
  have hr := B.returns
  have hts := atoms_spec (ws := wsX2_weeksOf) B.pre
  have hown : s.vm.findClass RX2 = some m.cls := findClass_of_methodNamed B.named
  have hlocks := B.notSynchronized
  subst hsz
  have hD : ∀ z : wSt, va_D (wA (cX cy a) s.heap.size) ((cX cy a) z) := fun z => w_self (xOk cy a).1 hD0 z
  have hA : ∀ z : Nat, s.heap.size ≤ z → wA (cX cy a) s.heap.size z := fun _ h => Or.inr h
  have hS : va_S (wA (cX cy a) s.heap.size) s.heap s.heap [] := va_S.rf
  have hl := lv_entry ([.ref (a 6), .int x1, .int x2]) (n := 6) (Nat.le_of_ble_eq_true rfl)
  rw [lg_entry_eq]
  generalize (lg_sl ([.ref (a 6), .int x1, .int x2]) ++ List.replicate (6 - (lg_sl ([.ref (a 6), .int x1, .int x2])).length) Slot.unset).toArray = ls at hl ⊢
  have hl : lv_has ls 6 [(0, .ref (a 6)), (1, .int x1), (2, .int x2)] := hl
  have h_1 := hts (.fieldLink RX2 15 RX2 "sale" "[I") (by decide +kernel)
  have h_2 := (show ∀ w ∈ u_ws RX2 TX2 2, w ∈ wsX2_weeksOf by decide +kernel)
  have t_0 : (0 : Int32).toInt = 0 := rfl
  have t_1 : (1 : Int32).toInt = 1 := rfl
  have t_20 : (20 : Int32).toInt = 20 := rfl
  refine lv_aload_n hx hb dX2_weeksOf_0 rfl (lv_at hl 0 rfl) ?_
  refine lv_iload_n hx hb dX2_weeksOf_1 rfl (lv_at hl 1 rfl) ?_
  refine lv_iload_n hx hb dX2_weeksOf_2 rfl (lv_at hl 2 rfl) ?_
  refine w_goI (va_runV (As := [.int x1, .int x2]) (rest := []) ⟨hx, hb, hml, hown, hts⟩ (mX2_mostOf l G cy a _ q x1 x2) (cwV 2 hts gX2_weeksOf_X2_mostOf rfl rfl rfl (by decide +kernel) ⟨Nat.le_of_ble_eq_true rfl, Nat.le_of_ble_eq_true rfl⟩) (w_pre (xOk cy a) (va_recv hK hP (ci := 2) (q0 := 6) rfl rfl) hK hP hD hS hA hN) rfl rfl hl.1 rfl (lv_room (Nat.le_of_ble_eq_true rfl)) dX2_weeksOf_3 ⟨Nat.le_of_ble_eq_true rfl, Nat.le_of_ble_eq_true rfl⟩) hD hS hA (fun H locs hP hS => ?_)
  refine lv_istore_n (lv' := [(3, .int (fX2_mostOf q x1 x2)), (0, .ref (a 6)), (1, .int x1), (2, .int x2)]) hx hb dX2_weeksOf_6 rfl hl (by decide) rfl (fun ls hl => ?_)
  refine lv_iconst (v := 0) hx hb dX2_weeksOf_7 (by decide) ?_
  refine lv_istore (lv' := [(4, .int 0), (3, .int (fX2_mostOf q x1 x2)), (0, .ref (a 6)), (1, .int x1), (2, .int x2)]) hx hb dX2_weeksOf_8 hl (by decide) rfl (fun ls hl => ?_)
  refine lv_iconst (v := 0) hx hb dX2_weeksOf_10 (by decide) ?_
  refine lv_istore (lv' := [(5, .int 0), (4, .int 0), (3, .int (fX2_mostOf q x1 x2)), (0, .ref (a 6)), (1, .int x1), (2, .int x2)]) hx hb dX2_weeksOf_11 hl (by decide) rfl (fun ls hl => ?_)
  have L_1 : ∀ (n : Nat) (y4_1 : Int32) (y5_1 : Int32) (H : Heap) (ls : Array Slot) (locs : List Loc), ((20 : Int32).toInt - (y5_1).toInt).toNat < n → (0 ≤ (y5_1).toInt) → lX2_weeksOf_1 q x1 x2 n y4_1 y5_1 = (fX2_weeksOf q x1 x2) → va_P G vwCl ((cX cy a) q) H → va_S (wA (cX cy a) s.heap.size) s.heap H locs → lv_has ls 6 [(0, .ref (a 6)), (1, .int x1), (2, .int x2), (3, .int (fX2_mostOf q x1 x2)), (4, .int y4_1), (5, .int y5_1)] → W p l e ({ frames := 2, cells := 0, slots := 0, locals := 48 }) s m [.ref (a 6), .int x1, .int x2].toArray below meth c H locs 0 0 (MQ below (wQi G (cX cy a) s.heap.size (fX2_weeksOf q x1 x2) q) [.ref (a 6), .int x1, .int x2].toArray s 0 0 (wA (cX cy a) s.heap.size)) (F0 m 13 ls []) := by
    intro n
    induction n with
    | zero => intro y4_1 y5_1 H ls locs hm; exact absurd hm (Nat.not_lt_zero _)
    | succ n ih =>
      intro y4_1 y5_1 H ls locs hm_1 i0_1 he_1 hP hS hl
      refine lv_iload hx hb dX2_weeksOf_13 (lv_at hl 5 rfl) ?_
      refine lv_bipush (v := 20) hx hb dX2_weeksOf_15 (by decide) ?_
      refine lv_icmp_ge (tgt := 56) hx hb dX2_weeksOf_17 (by decide) (fun c_1 => ?_) (fun c_1 => ?_)
      · have e_2 := i_le c_1
        refine lv_bipush (v := 20) hx hb dX2_weeksOf_56 (by decide) ?_
        exact W.iret (v := 20) hx hb hr (fun t ht hW => ⟨⟨20, q, rfl, ⟨((Eq.symm he_1).trans (by (rw [lX2_weeksOf_1_s, if_pos c_1]); try rfl)).symm, rfl⟩, w_ht ht hP⟩, hS.F ht⟩) hS.2.2 dX2_weeksOf_58
      · have e_2 := i_nle c_1
        refine lv_iload hx hb dX2_weeksOf_20 (lv_at hl 4 rfl) ?_
        refine lv_aload_n hx hb dX2_weeksOf_22 rfl (lv_at hl 0 rfl) ?_
        refine gfX2_15 hx hb hts h_2 hown hK hP h_1 dX2_weeksOf_23 ?_
        refine lv_iload hx hb dX2_weeksOf_26 (lv_at hl 5 rfl) ?_
        have v_3 : vp_in y5_1 21 := vp_in_iff.mpr (by omega)
        refine ldX_29 (f := (q 29)) hx hb hK hP rfl v_3 dX2_weeksOf_28 ?_
        refine lv_iadd hx hb dX2_weeksOf_29 ?_
        refine lv_iload_n hx hb dX2_weeksOf_30 rfl (lv_at hl 3 rfl) ?_
        refine lv_icmp_ne (tgt := 37) hx hb dX2_weeksOf_31 (by decide) (fun c_4 => ?_) (fun c_4 => ?_)
        · have e_5 := i_ne c_4
          refine lv_iload hx hb dX2_weeksOf_37 (lv_at hl 4 rfl) ?_
          refine lv_aload_n hx hb dX2_weeksOf_39 rfl (lv_at hl 0 rfl) ?_
          refine lv_iload hx hb dX2_weeksOf_40 (lv_at hl 5 rfl) ?_
          refine lv_iload_n hx hb dX2_weeksOf_42 rfl (lv_at hl 1 rfl) ?_
          refine lv_iload_n hx hb dX2_weeksOf_43 rfl (lv_at hl 2 rfl) ?_
          refine w_goI (va_runV (As := [.int y5_1, .int x1, .int x2]) (rest := [.int y4_1]) ⟨hx, hb, hml, hown, hts⟩ (mX2_gainIn l G cy a _ q y5_1 x1 x2 (by omega) (by omega)) (cwV 3 hts gX2_weeksOf_X2_gainIn rfl rfl rfl (by decide +kernel) ⟨Nat.le_of_ble_eq_true rfl, Nat.le_of_ble_eq_true rfl⟩) (w_pre (xOk cy a) (va_recv hK hP (ci := 2) (q0 := 6) rfl rfl) hK hP hD hS hA hN) rfl rfl hl.1 rfl (lv_room (Nat.le_of_ble_eq_true rfl)) dX2_weeksOf_44 ⟨Nat.le_of_ble_eq_true rfl, Nat.le_of_ble_eq_true rfl⟩) hD hS hA (fun H locs hP hS => ?_)
          refine lv_iadd hx hb dX2_weeksOf_47 ?_
          refine lv_istore (lv' := [(4, .int (y4_1 + (fX2_gainIn q y5_1 x1 x2))), (0, .ref (a 6)), (1, .int x1), (2, .int x2), (3, .int (fX2_mostOf q x1 x2)), (5, .int y5_1)]) hx hb dX2_weeksOf_48 hl (by decide) rfl (fun ls hl => ?_)
          refine lv_iinc (v := (y5_1 + 1)) (lv' := [(5, .int (y5_1 + 1)), (4, .int (y4_1 + (fX2_gainIn q y5_1 x1 x2))), (0, .ref (a 6)), (1, .int x1), (2, .int x2), (3, .int (fX2_mostOf q x1 x2))]) hx hb dX2_weeksOf_50 hl (k := 5) rfl rfl (by decide) rfl (fun ls hl => ?_)
          have e_6 : (y5_1 + 1).toInt = (y5_1).toInt + 1 := i_inc (by have := i_rng y5_1; have := i_rng (20 : Int32); omega)
          refine lv_goto (tgt := 13) hx hb dX2_weeksOf_53 (by decide) ?_
          exact ih (y4_1 + (fX2_gainIn q y5_1 x1 x2)) (y5_1 + 1) _ _ _ (by omega) (by first | omega | assumption) (Eq.trans (Eq.symm (by (rw [lX2_weeksOf_1_s, if_neg c_1, if_neg c_4]); try rfl)) he_1) hP hS (lv_sub hl [2, 3, 4, 5, 1, 0] rfl)
        · have e_5 := i_eq c_4
          refine lv_iload hx hb dX2_weeksOf_34 (lv_at hl 5 rfl) ?_
          exact W.iret (v := y5_1) hx hb hr (fun t ht hW => ⟨⟨y5_1, q, rfl, ⟨((Eq.symm he_1).trans (by (rw [lX2_weeksOf_1_s, if_neg c_1, if_pos c_4]); try rfl)).symm, rfl⟩, w_ht ht hP⟩, hS.F ht⟩) hS.2.2 dX2_weeksOf_36
  exact L_1 (((20 : Int32).toInt - (0 : Int32).toInt).toNat + 1) 0 0 _ _ _ (by omega) (by omega) (Eq.symm (by (rw [fX2_weeksOf]); try rfl)) hP hS (lv_sub hl [3, 4, 5, 2, 1, 0] rfl)
