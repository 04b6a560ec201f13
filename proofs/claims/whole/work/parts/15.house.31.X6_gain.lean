set_option maxHeartbeats 4000000 in
set_option maxRecDepth 100000 in
theorem mX6_gain (l : Launch) (G : va_G) (cy : ClassId) (a : Nat → Nat) (sz : Nat) (q : wSt) (x1 : Int32) (x2 : Int32) : CtI l yX6_gain wsX6_gain ({ frames := 3, cells := 0, slots := 0, locals := 71 }) G cy (cX cy a) xN sz q [.ref (a 0), .int x1, .int x2] (fX6_gain q x1 x2) q := by
  refine Met.ofW (cc := cX6_gain) (maxL := 6) (ret := (some .int)) (by decide) rfl ?_
  intro p e s m args below meth c s₁ B hml hv
  obtain ⟨rfl, hsz, hP, hK, hD0, hN⟩ := hv
  have hx := B.exec
  have hb := B.bytes
  have hr := B.returns
  have hts := atoms_spec (ws := wsX6_gain) B.pre
  have hown : s.vm.findClass RX6 = some m.cls := findClass_of_methodNamed B.named
  have hlocks := B.notSynchronized
  subst hsz
  have hD : ∀ z : wSt, va_D (wA (cX cy a) s.heap.size) ((cX cy a) z) := fun z => w_self (xOk cy a).1 hD0 z
  have hA : ∀ z : Nat, s.heap.size ≤ z → wA (cX cy a) s.heap.size z := fun _ h => Or.inr h
  have hS : va_S (wA (cX cy a) s.heap.size) s.heap s.heap [] := va_S.rf
  have hl := lv_entry ([.ref (a 0), .int x1, .int x2]) (n := 6) (Nat.le_of_ble_eq_true rfl)
  rw [lg_entry_eq]
  generalize (lg_sl ([.ref (a 0), .int x1, .int x2]) ++ List.replicate (6 - (lg_sl ([.ref (a 0), .int x1, .int x2])).length) Slot.unset).toArray = ls at hl ⊢
  have hl : lv_has ls 6 [(0, .ref (a 0)), (1, .int x1), (2, .int x2)] := hl
  have h_1 := hts (.fieldLink RX6 47 RX6 "demands" "LVolumeHouse$Demands;") (by decide +kernel)
  have h_2 := (show ∀ w ∈ u_ws RX6 TX6 10, w ∈ wsX6_gain by decide +kernel)
  have h_3 := (hN.1 _ (List.mem_of_getElem? (i := 62) rfl) : va_Nw (.methodLinkNest RX6 228 yX2_setsToBuy RX6) s)
  have h_4 := hts (.initialized RX2) (by decide +kernel)
  have h_5 := hts (.instanceMethod yX2_setsToBuy) (by decide +kernel)
  have h_6 := hts (.selects RX2 yX2_setsToBuy yX2_setsToBuy) (by decide +kernel)
  have h_7 := (hN.1 _ (List.mem_of_getElem? (i := 63) rfl) : va_Nw (.methodLinkNest RX6 231 yX2_mostOf RX6) s)
  have h_8 := hts (.instanceMethod yX2_mostOf) (by decide +kernel)
  have h_9 := hts (.selects RX2 yX2_mostOf yX2_mostOf) (by decide +kernel)
  have t_m1 : ((-1) : Int32).toInt = -1 := rfl
  have t_0 : (0 : Int32).toInt = 0 := rfl
  have t_1 : (1 : Int32).toInt = 1 := rfl
  refine lv_iload_n hx hb dX6_gain_0 rfl (lv_at hl 1 rfl) ?_
  refine lv_iload_n hx hb dX6_gain_1 rfl (lv_at hl 2 rfl) ?_
  refine w_goI (va_runS (As := [.int x1, .int x2]) (rest := []) ⟨hx, hb, hml, hown, hts⟩ (mX6_canPlan l G cy a _ q x1 x2) (va_cwS 2 hts gX6_gain_X6_canPlan rfl rfl rfl (by decide +kernel) ⟨Nat.le_of_ble_eq_true rfl, Nat.le_of_ble_eq_true rfl⟩) (w_preS (xOk cy a) hK hP hD hS hA hN) rfl rfl hl.1 rfl (lv_room (Nat.le_of_ble_eq_true rfl)) dX6_gain_2 ⟨Nat.le_of_ble_eq_true rfl, Nat.le_of_ble_eq_true rfl⟩) hD hS hA (fun H locs hP hS => ?_)
  refine lv_if_ne (tgt := 10) hx hb dX6_gain_5 (by decide) (fun c_1 => ?_) (fun c_1 => ?_)
  · have e_2 := i_ne c_1
    refine lv_aload_n hx hb dX6_gain_10 rfl (lv_at hl 0 rfl) ?_
    refine gfX6_47 hx hb hts h_2 hown hK hP h_1 dX6_gain_11 ?_
    refine lv_iload_n hx hb dX6_gain_14 rfl (lv_at hl 1 rfl) ?_
    refine lv_iload_n hx hb dX6_gain_15 rfl (lv_at hl 2 rfl) ?_
    refine w_goI (va_runVN (As := [.int x1, .int x2]) (rest := []) ⟨hx, hb, hml, hown, hts⟩ (mX2_setsToBuy l G cy a _ q x1 x2) ⟨va_cnB 2 hts gX6_gain_X2_setsToBuy_n228 rfl rfl rfl h_3 h_4 (by decide +kernel) ⟨Nat.le_of_ble_eq_true rfl, Nat.le_of_ble_eq_true rfl⟩, h_5, h_6⟩ (w_pre (xOk cy a) (va_recv hK hP (ci := 2) (q0 := 6) rfl rfl) hK hP hD hS hA hN) rfl rfl hl.1 rfl (lv_room (Nat.le_of_ble_eq_true rfl)) dX6_gain_16 ⟨Nat.le_of_ble_eq_true rfl, Nat.le_of_ble_eq_true rfl⟩) hD hS hA (fun H locs hP hS => ?_)
    refine lv_istore_n (lv' := [(3, .int (fX2_setsToBuy q x1 x2)), (0, .ref (a 0)), (1, .int x1), (2, .int x2)]) hx hb dX6_gain_19 rfl hl (by decide) rfl (fun ls hl => ?_)
    refine lv_iconst (v := 0) hx hb dX6_gain_20 (by decide) ?_
    refine lv_istore (lv' := [(4, .int 0), (3, .int (fX2_setsToBuy q x1 x2)), (0, .ref (a 0)), (1, .int x1), (2, .int x2)]) hx hb dX6_gain_21 hl (by decide) rfl (fun ls hl => ?_)
    refine lv_iconst (v := 0) hx hb dX6_gain_23 (by decide) ?_
    refine lv_istore (lv' := [(5, .int 0), (4, .int 0), (3, .int (fX2_setsToBuy q x1 x2)), (0, .ref (a 0)), (1, .int x1), (2, .int x2)]) hx hb dX6_gain_24 hl (by decide) rfl (fun ls hl => ?_)
    have K_1 : ∀ (v1 : Int32) (H : Heap) (ls : Array Slot) (locs : List Loc), (lX6_gain_1 q x1 x2 (((fX2_setsToBuy q x1 x2).toInt - (0 : Int32).toInt).toNat + 1) 0 0) = v1 → va_P G vwCl ((cX cy a) q) H → va_S (wA (cX cy a) s.heap.size) s.heap H locs → lv_has ls 6 [(4, .int v1)] → W p l e ({ frames := 3, cells := 0, slots := 0, locals := 71 }) s m [.ref (a 0), .int x1, .int x2].toArray below meth c H locs 0 0 (MQ below (wQi G (cX cy a) s.heap.size (fX6_gain q x1 x2) q) [.ref (a 0), .int x1, .int x2].toArray s 0 0 (wA (cX cy a) s.heap.size)) (F0 m 55 ls []) := by
      intro v1 H ls locs hv hP hS hl
      subst hv
      refine lv_iload hx hb dX6_gain_55 (lv_at hl 0 rfl) ?_
      exact W.iret (v := (lX6_gain_1 q x1 x2 (((fX2_setsToBuy q x1 x2).toInt - (0 : Int32).toInt).toNat + 1) 0 0)) hx hb hr (fun t ht hW => ⟨⟨(lX6_gain_1 q x1 x2 (((fX2_setsToBuy q x1 x2).toInt - (0 : Int32).toInt).toNat + 1) 0 0), q, rfl, ⟨(show (fX6_gain q x1 x2) = (lX6_gain_1 q x1 x2 (((fX2_setsToBuy q x1 x2).toInt - (0 : Int32).toInt).toNat + 1) 0 0) by (rw [fX6_gain, if_neg c_1]); try rfl).symm, rfl⟩, w_ht ht hP⟩, hS.F ht⟩) hS.2.2 dX6_gain_57
    have L_1 : ∀ (n : Nat) (y4_1 : Int32) (y5_1 : Int32) (H : Heap) (ls : Array Slot) (locs : List Loc), ((fX2_setsToBuy q x1 x2).toInt - (y5_1).toInt).toNat < n → (0 ≤ (y5_1).toInt) → lX6_gain_1 q x1 x2 n y4_1 y5_1 = (lX6_gain_1 q x1 x2 (((fX2_setsToBuy q x1 x2).toInt - (0 : Int32).toInt).toNat + 1) 0 0) → va_P G vwCl ((cX cy a) q) H → va_S (wA (cX cy a) s.heap.size) s.heap H locs → lv_has ls 6 [(0, .ref (a 0)), (1, .int x1), (2, .int x2), (3, .int (fX2_setsToBuy q x1 x2)), (4, .int y4_1), (5, .int y5_1)] → W p l e ({ frames := 3, cells := 0, slots := 0, locals := 71 }) s m [.ref (a 0), .int x1, .int x2].toArray below meth c H locs 0 0 (MQ below (wQi G (cX cy a) s.heap.size (fX6_gain q x1 x2) q) [.ref (a 0), .int x1, .int x2].toArray s 0 0 (wA (cX cy a) s.heap.size)) (F0 m 26 ls []) := by
      intro n
      induction n with
      | zero => intro y4_1 y5_1 H ls locs hm; exact absurd hm (Nat.not_lt_zero _)
      | succ n ih =>
        intro y4_1 y5_1 H ls locs hm_1 i0_1 he_1 hP hS hl
        refine lv_iload hx hb dX6_gain_26 (lv_at hl 5 rfl) ?_
        refine lv_iload_n hx hb dX6_gain_28 rfl (lv_at hl 3 rfl) ?_
        refine lv_icmp_ge (tgt := 55) hx hb dX6_gain_29 (by decide) (fun c_3 => ?_) (fun c_3 => ?_)
        · have e_4 := i_le c_3
          exact K_1 y4_1 _ _ _ (Eq.trans (Eq.symm he_1) (by (rw [lX6_gain_1_s, if_pos c_3]); try rfl)) hP hS (lv_sub hl [4] rfl)
        · have e_4 := i_nle c_3
          refine lv_iload hx hb dX6_gain_32 (lv_at hl 4 rfl) ?_
          refine lv_aload_n hx hb dX6_gain_34 rfl (lv_at hl 0 rfl) ?_
          refine gfX6_47 hx hb hts h_2 hown hK hP h_1 dX6_gain_35 ?_
          refine lv_iload_n hx hb dX6_gain_38 rfl (lv_at hl 1 rfl) ?_
          refine lv_iload hx hb dX6_gain_39 (lv_at hl 5 rfl) ?_
          refine w_goI (va_runVN (As := [.int x1, .int y5_1]) (rest := [.int y4_1]) ⟨hx, hb, hml, hown, hts⟩ (mX2_mostOf l G cy a _ q x1 y5_1) ⟨va_cnB 2 hts gX6_gain_X2_mostOf_n231 rfl rfl rfl h_7 h_4 (by decide +kernel) ⟨Nat.le_of_ble_eq_true rfl, Nat.le_of_ble_eq_true rfl⟩, h_8, h_9⟩ (w_pre (xOk cy a) (va_recv hK hP (ci := 2) (q0 := 6) rfl rfl) hK hP hD hS hA hN) rfl rfl hl.1 rfl (lv_room (Nat.le_of_ble_eq_true rfl)) dX6_gain_41 ⟨Nat.le_of_ble_eq_true rfl, Nat.le_of_ble_eq_true rfl⟩) hD hS hA (fun H locs hP hS => ?_)
          refine lv_iload_n hx hb dX6_gain_44 rfl (lv_at hl 2 rfl) ?_
          refine lv_isub hx hb dX6_gain_45 ?_
          refine lv_iadd hx hb dX6_gain_46 ?_
          refine lv_istore (lv' := [(4, .int (y4_1 + ((fX2_mostOf q x1 y5_1) - x2))), (0, .ref (a 0)), (1, .int x1), (2, .int x2), (3, .int (fX2_setsToBuy q x1 x2)), (5, .int y5_1)]) hx hb dX6_gain_47 hl (by decide) rfl (fun ls hl => ?_)
          refine lv_iinc (v := (y5_1 + 1)) (lv' := [(5, .int (y5_1 + 1)), (4, .int (y4_1 + ((fX2_mostOf q x1 y5_1) - x2))), (0, .ref (a 0)), (1, .int x1), (2, .int x2), (3, .int (fX2_setsToBuy q x1 x2))]) hx hb dX6_gain_49 hl (k := 5) rfl rfl (by decide) rfl (fun ls hl => ?_)
          have e_5 : (y5_1 + 1).toInt = (y5_1).toInt + 1 := i_inc (by have := i_rng y5_1; have := i_rng (fX2_setsToBuy q x1 x2); omega)
          refine lv_goto (tgt := 26) hx hb dX6_gain_52 (by decide) ?_
          exact ih (y4_1 + ((fX2_mostOf q x1 y5_1) - x2)) (y5_1 + 1) _ _ _ (by omega) (by first | omega | assumption) (Eq.trans (Eq.symm (by (rw [lX6_gain_1_s, if_neg c_3]); try rfl)) he_1) hP hS (lv_sub hl [2, 3, 4, 5, 1, 0] rfl)
    exact L_1 (((fX2_setsToBuy q x1 x2).toInt - (0 : Int32).toInt).toNat + 1) 0 0 _ _ _ (by omega) (by omega) rfl hP hS (lv_sub hl [3, 4, 5, 2, 1, 0] rfl)
  · have e_2 := i_eq c_1
    refine lv_iconst (v := (-1)) hx hb dX6_gain_8 (by decide) ?_
    exact W.iret (v := (-1)) hx hb hr (fun t ht hW => ⟨⟨(-1), q, rfl, ⟨(show (fX6_gain q x1 x2) = (-1) by (rw [fX6_gain, if_pos c_1]); try rfl).symm, rfl⟩, w_ht ht hP⟩, hS.F ht⟩) hS.2.2 dX6_gain_9
