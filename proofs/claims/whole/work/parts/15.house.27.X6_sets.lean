set_option maxHeartbeats 4000000 in
set_option maxRecDepth 100000 in
theorem mX6_sets (l : Launch) (G : va_G) (cy : ClassId) (a : Nat → Nat) (sz : Nat) (q : wSt) (x1 : Int32) (hI : iI q) : CtI l yX6_sets wsX6_sets ({ frames := 2, cells := 0, slots := 0, locals := 42 }) G cy (cX cy a) xN sz q [.ref (a 0), .int x1] (fX6_sets q x1) q := by
  refine Met.ofW (cc := cX6_sets) (maxL := 5) (ret := (some .int)) (by decide) rfl ?_
  intro p e s m args below meth c s₁ B hml hv
  obtain ⟨rfl, hsz, hP, hK, hD0, hN⟩ := hv
  have hx := B.exec
  have hb := B.bytes
  have hr := B.returns
  have hts := atoms_spec (ws := wsX6_sets) B.pre
  have hown : s.vm.findClass RX6 = some m.cls := findClass_of_methodNamed B.named
  have hlocks := B.notSynchronized
  subst hsz
  have hD : ∀ z : wSt, va_D (wA (cX cy a) s.heap.size) ((cX cy a) z) := fun z => w_self (xOk cy a).1 hD0 z
  have hA : ∀ z : Nat, s.heap.size ≤ z → wA (cX cy a) s.heap.size z := fun _ h => Or.inr h
  have hS : va_S (wA (cX cy a) s.heap.size) s.heap s.heap [] := va_S.rf
  have hl := lv_entry ([.ref (a 0), .int x1]) (n := 5) (Nat.le_of_ble_eq_true rfl)
  rw [lg_entry_eq]
  generalize (lg_sl ([.ref (a 0), .int x1]) ++ List.replicate (5 - (lg_sl ([.ref (a 0), .int x1])).length) Slot.unset).toArray = ls at hl ⊢
  have hl : lv_has ls 5 [(0, .ref (a 0)), (1, .int x1)] := hl
  have h_1 := hts (.fieldLink RX6 10 RX6 "titles" "LVolumeHouse$Titles;") (by decide +kernel)
  have h_2 := (show ∀ w ∈ u_ws RX6 TX6 10, w ∈ wsX6_sets by decide +kernel)
  have h_3 := (hN.1 _ (List.mem_of_getElem? (i := 40) rfl) : va_Nw (.methodLinkNest RX6 75 yX4_has RX6) s)
  have h_4 := hts (.initialized RX4) (by decide +kernel)
  have h_5 := hts (.instanceMethod yX4_has) (by decide +kernel)
  have h_6 := hts (.selects RX4 yX4_has yX4_has) (by decide +kernel)
  have h_7 := (hN.1 _ (List.mem_of_getElem? (i := 42) rfl) : va_Nw (.methodLinkNest RX6 83 yX4_volumesOf RX6) s)
  have h_8 := hts (.instanceMethod yX4_volumesOf) (by decide +kernel)
  have h_9 := hts (.selects RX4 yX4_volumesOf yX4_volumesOf) (by decide +kernel)
  have h_10 := hts (.fieldLink RX6 26 RX6 "copies" "LVolumeHouse$Copies;") (by decide +kernel)
  have h_11 := (hN.1 _ (List.mem_of_getElem? (i := 61) rfl) : va_Nw (.methodLinkNest RX6 216 yX1_inHouse RX6) s)
  have h_12 := hts (.initialized RX1) (by decide +kernel)
  have h_13 := hts (.instanceMethod yX1_inHouse) (by decide +kernel)
  have h_14 := hts (.selects RX1 yX1_inHouse yX1_inHouse) (by decide +kernel)
  have h_15 := hts (.methodLink RX6 125 Lib.Math.min.name) (by decide +kernel)
  have h_16 := hts (.static Lib.Math.min.name) (by decide +kernel)
  have h_17 := hts (.initialized "java/lang/Math") (by decide +kernel)
  have h_18 := hts (.code Lib.Math.min.name Lib.Math.min.code 2 (some .int)) (by decide +kernel)
  have t_m1 : ((-1) : Int32).toInt = -1 := rfl
  have t_0 : (0 : Int32).toInt = 0 := rfl
  have t_1 : (1 : Int32).toInt = 1 := rfl
  have t_200 : (200 : Int32).toInt = 200 := rfl
  have hB := iI_b hI
  refine lv_aload_n hx hb dX6_sets_0 rfl (lv_at hl 0 rfl) ?_
  refine gfX6_10 hx hb hts h_2 hown hK hP h_1 dX6_sets_1 ?_
  refine lv_iload_n hx hb dX6_sets_4 rfl (lv_at hl 1 rfl) ?_
  refine w_goI (va_runVN (As := [.int x1]) (rest := []) ⟨hx, hb, hml, hown, hts⟩ (mX4_has l G cy a _ q x1) ⟨va_cnB 1 hts gX6_sets_X4_has_n75 rfl rfl rfl h_3 h_4 (by decide +kernel) ⟨Nat.le_of_ble_eq_true rfl, Nat.le_of_ble_eq_true rfl⟩, h_5, h_6⟩ (w_pre (xOk cy a) (va_recv hK hP (ci := 4) (q0 := 1) rfl rfl) hK hP hD hS hA hN) rfl rfl hl.1 rfl (lv_room (Nat.le_of_ble_eq_true rfl)) dX6_sets_5 ⟨Nat.le_of_ble_eq_true rfl, Nat.le_of_ble_eq_true rfl⟩) hD hS hA (fun H locs hP hS => ?_)
  have e_1 := tX4_has q x1
  refine lv_if_ne (tgt := 13) hx hb dX6_sets_8 (by decide) (fun c_2 => ?_) (fun c_2 => ?_)
  · have e_3 := i_ne c_2
    refine lv_sipush (v := 200) hx hb dX6_sets_13 (by decide) ?_
    refine lv_istore_n (lv' := [(2, .int 200), (0, .ref (a 0)), (1, .int x1)]) hx hb dX6_sets_16 rfl hl (by decide) rfl (fun ls hl => ?_)
    refine lv_aload_n hx hb dX6_sets_17 rfl (lv_at hl 1 rfl) ?_
    refine gfX6_10 hx hb hts h_2 hown hK hP h_1 dX6_sets_18 ?_
    refine lv_iload_n hx hb dX6_sets_21 rfl (lv_at hl 2 rfl) ?_
    refine w_goI (va_runVN (As := [.int x1]) (rest := []) ⟨hx, hb, hml, hown, hts⟩ (mX4_volumesOf l G cy a _ q x1 (by omega)) ⟨va_cnB 1 hts gX6_sets_X4_volumesOf_n83 rfl rfl rfl h_7 h_4 (by decide +kernel) ⟨Nat.le_of_ble_eq_true rfl, Nat.le_of_ble_eq_true rfl⟩, h_8, h_9⟩ (w_pre (xOk cy a) (va_recv hK hP (ci := 4) (q0 := 1) rfl rfl) hK hP hD hS hA hN) rfl rfl hl.1 rfl (lv_room (Nat.le_of_ble_eq_true rfl)) dX6_sets_22 ⟨Nat.le_of_ble_eq_true rfl, Nat.le_of_ble_eq_true rfl⟩) hD hS hA (fun H locs hP hS => ?_)
    refine lv_istore_n (lv' := [(3, .int (fX4_volumesOf q x1)), (2, .int 200), (0, .ref (a 0)), (1, .int x1)]) hx hb dX6_sets_25 rfl hl (by decide) rfl (fun ls hl => ?_)
    refine lv_iconst (v := 0) hx hb dX6_sets_26 (by decide) ?_
    refine lv_istore (lv' := [(4, .int 0), (3, .int (fX4_volumesOf q x1)), (2, .int 200), (0, .ref (a 0)), (1, .int x1)]) hx hb dX6_sets_27 hl (by decide) rfl (fun ls hl => ?_)
    have K_1 : ∀ (v1 : Int32) (H : Heap) (ls : Array Slot) (locs : List Loc), (lX6_sets_1 q x1 (((fX4_volumesOf q x1).toInt - (0 : Int32).toInt).toNat + 1) 200 0) = v1 → va_P G vwCl ((cX cy a) q) H → va_S (wA (cX cy a) s.heap.size) s.heap H locs → lv_has ls 5 [(2, .int v1)] → W p l e ({ frames := 2, cells := 0, slots := 0, locals := 42 }) s m [.ref (a 0), .int x1].toArray below meth c H locs 0 0 (MQ below (wQi G (cX cy a) s.heap.size (fX6_sets q x1) q) [.ref (a 0), .int x1].toArray s 0 0 (wA (cX cy a) s.heap.size)) (F0 m 56 ls []) := by
      intro v1 H ls locs hv hP hS hl
      subst hv
      refine lv_iload_n hx hb dX6_sets_56 rfl (lv_at hl 0 rfl) ?_
      exact W.iret (v := (lX6_sets_1 q x1 (((fX4_volumesOf q x1).toInt - (0 : Int32).toInt).toNat + 1) 200 0)) hx hb hr (fun t ht hW => ⟨⟨(lX6_sets_1 q x1 (((fX4_volumesOf q x1).toInt - (0 : Int32).toInt).toNat + 1) 200 0), q, rfl, ⟨(show (fX6_sets q x1) = (lX6_sets_1 q x1 (((fX4_volumesOf q x1).toInt - (0 : Int32).toInt).toNat + 1) 200 0) by (rw [fX6_sets, if_neg c_2]); try rfl).symm, rfl⟩, w_ht ht hP⟩, hS.F ht⟩) hS.2.2 dX6_sets_57
    have L_1 : ∀ (n : Nat) (y2_1 : Int32) (y4_1 : Int32) (H : Heap) (ls : Array Slot) (locs : List Loc), ((fX4_volumesOf q x1).toInt - (y4_1).toInt).toNat < n → (0 ≤ (y4_1).toInt) → lX6_sets_1 q x1 n y2_1 y4_1 = (lX6_sets_1 q x1 (((fX4_volumesOf q x1).toInt - (0 : Int32).toInt).toNat + 1) 200 0) → va_P G vwCl ((cX cy a) q) H → va_S (wA (cX cy a) s.heap.size) s.heap H locs → lv_has ls 5 [(0, .ref (a 0)), (1, .int x1), (2, .int y2_1), (3, .int (fX4_volumesOf q x1)), (4, .int y4_1)] → W p l e ({ frames := 2, cells := 0, slots := 0, locals := 42 }) s m [.ref (a 0), .int x1].toArray below meth c H locs 0 0 (MQ below (wQi G (cX cy a) s.heap.size (fX6_sets q x1) q) [.ref (a 0), .int x1].toArray s 0 0 (wA (cX cy a) s.heap.size)) (F0 m 29 ls []) := by
      intro n
      induction n with
      | zero => intro y2_1 y4_1 H ls locs hm; exact absurd hm (Nat.not_lt_zero _)
      | succ n ih =>
        intro y2_1 y4_1 H ls locs hm_1 i0_1 he_1 hP hS hl
        refine lv_iload hx hb dX6_sets_29 (lv_at hl 4 rfl) ?_
        refine lv_iload_n hx hb dX6_sets_31 rfl (lv_at hl 3 rfl) ?_
        refine lv_icmp_ge (tgt := 56) hx hb dX6_sets_32 (by decide) (fun c_4 => ?_) (fun c_4 => ?_)
        · have e_5 := i_le c_4
          exact K_1 y2_1 _ _ _ (Eq.trans (Eq.symm he_1) (by (rw [lX6_sets_1_s, if_pos c_4]); try rfl)) hP hS (lv_sub hl [2] rfl)
        · have e_5 := i_nle c_4
          refine lv_iload_n hx hb dX6_sets_35 rfl (lv_at hl 2 rfl) ?_
          refine lv_aload_n hx hb dX6_sets_36 rfl (lv_at hl 0 rfl) ?_
          refine gfX6_26 hx hb hts h_2 hown hK hP h_10 dX6_sets_37 ?_
          refine lv_iload_n hx hb dX6_sets_40 rfl (lv_at hl 1 rfl) ?_
          refine lv_iload hx hb dX6_sets_41 (lv_at hl 4 rfl) ?_
          refine w_goI (va_runVN (As := [.int x1, .int y4_1]) (rest := [.int y2_1]) ⟨hx, hb, hml, hown, hts⟩ (mX1_inHouse l G cy a _ q x1 y4_1 (by omega)) ⟨va_cnB 2 hts gX6_sets_X1_inHouse_n216 rfl rfl rfl h_11 h_12 (by decide +kernel) ⟨Nat.le_of_ble_eq_true rfl, Nat.le_of_ble_eq_true rfl⟩, h_13, h_14⟩ (w_pre (xOk cy a) (va_recv hK hP (ci := 1) (q0 := 3) rfl rfl) hK hP hD hS hA hN) rfl rfl hl.1 rfl (lv_room (Nat.le_of_ble_eq_true rfl)) dX6_sets_43 ⟨Nat.le_of_ble_eq_true rfl, Nat.le_of_ble_eq_true rfl⟩) hD hS hA (fun H locs hP hS => ?_)
          refine va_mmin hx hb (hml.trans hl.1.symm) hown h_15 h_16 h_17 h_18 (Nat.le_of_ble_eq_true rfl) (Nat.le_of_ble_eq_true rfl) (Nat.zero_le _) (Nat.zero_le _) dX6_sets_46 ?_
          refine lv_istore_n (lv' := [(2, .int (if (fX1_inHouse q x1 y4_1) < y2_1 then (fX1_inHouse q x1 y4_1) else y2_1)), (0, .ref (a 0)), (1, .int x1), (3, .int (fX4_volumesOf q x1)), (4, .int y4_1)]) hx hb dX6_sets_49 rfl hl (by decide) rfl (fun ls hl => ?_)
          refine lv_iinc (v := (y4_1 + 1)) (lv' := [(4, .int (y4_1 + 1)), (2, .int (if (fX1_inHouse q x1 y4_1) < y2_1 then (fX1_inHouse q x1 y4_1) else y2_1)), (0, .ref (a 0)), (1, .int x1), (3, .int (fX4_volumesOf q x1))]) hx hb dX6_sets_50 hl (k := 4) rfl rfl (by decide) rfl (fun ls hl => ?_)
          have e_6 : (y4_1 + 1).toInt = (y4_1).toInt + 1 := i_inc (by have := i_rng y4_1; have := i_rng (fX4_volumesOf q x1); omega)
          refine lv_goto (tgt := 29) hx hb dX6_sets_53 (by decide) ?_
          exact ih (if (fX1_inHouse q x1 y4_1) < y2_1 then (fX1_inHouse q x1 y4_1) else y2_1) (y4_1 + 1) _ _ _ (by omega) (by first | omega | assumption) (Eq.trans (Eq.symm (by (rw [lX6_sets_1_s, if_neg c_4]); try rfl)) he_1) hP hS (lv_sub hl [2, 3, 1, 4, 0] rfl)
    exact L_1 (((fX4_volumesOf q x1).toInt - (0 : Int32).toInt).toNat + 1) 200 0 _ _ _ (by omega) (by omega) rfl hP hS (lv_sub hl [3, 4, 2, 1, 0] rfl)
  · have e_3 := i_eq c_2
    refine lv_iconst (v := (-1)) hx hb dX6_sets_11 (by decide) ?_
    exact W.iret (v := (-1)) hx hb hr (fun t ht hW => ⟨⟨(-1), q, rfl, ⟨(show (fX6_sets q x1) = (-1) by (rw [fX6_sets, if_pos c_2]); try rfl).symm, rfl⟩, w_ht ht hP⟩, hS.F ht⟩) hS.2.2 dX6_sets_12
