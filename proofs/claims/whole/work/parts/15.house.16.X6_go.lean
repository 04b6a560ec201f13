set_option maxHeartbeats 4000000 in
set_option maxRecDepth 100000 in
theorem mX6_go (l : Launch) (G : va_G) (cy : ClassId) (a : Nat → Nat) (sz : Nat) (q : wSt) (x1 : Int32) (hI : iI q) : CtI l yX6_go wsX6_go ({ frames := 6, cells := 0, slots := 0, locals := 134 }) G cy (cX cy a) xN sz q [.ref (a 0), .int x1] (fX6_go q x1).1 (fX6_go q x1).2 := by
  refine Met.ofW (cc := cX6_go) (maxL := 5) (ret := (some .int)) (by decide) rfl ?_
  intro p e s m args below meth c s₁ B hml hv
  obtain ⟨rfl, hsz, hP, hK, hD0, hN⟩ := hv
  have hx := B.exec
  have hb := B.bytes
  have hr := B.returns
  have hts := atoms_spec (ws := wsX6_go) B.pre
  have hown : s.vm.findClass RX6 = some m.cls := findClass_of_methodNamed B.named
  have hlocks := B.notSynchronized
  subst hsz
  have hD : ∀ z : wSt, va_D (wA (cX cy a) s.heap.size) ((cX cy a) z) := fun z => w_self (xOk cy a).1 hD0 z
  have hA : ∀ z : Nat, s.heap.size ≤ z → wA (cX cy a) s.heap.size z := fun _ h => Or.inr h
  have hS : va_S (wA (cX cy a) s.heap.size) s.heap s.heap [] := va_S.rf
  have hl := lv_entry ([.ref (a 0), .int x1]) (n := 5) (Nat.le_of_ble_eq_true rfl)
  rw [lg_entry_eq]
  generalize (lg_sl ([.ref (a 0), .int x1]) ++ List.replicate (5 - (lg_sl ([.ref (a 0), .int x1])).length) Slot.unset).toArray = ls at hl ⊢
  have hl : lv_has ls 5 [(0, .ref (a 0)), (1, .int x1)] := hl
  have h_1 := hts (.fieldLink RX6 51 RX6 "now" "I") (by decide +kernel)
  have h_2 := (show ∀ w ∈ u_ws RX6 TX6 10, w ∈ wsX6_go by decide +kernel)
  have h_3 := hts (.methodLink RX6 125 Lib.Math.min.name) (by decide +kernel)
  have h_4 := hts (.static Lib.Math.min.name) (by decide +kernel)
  have h_5 := hts (.initialized "java/lang/Math") (by decide +kernel)
  have h_6 := hts (.code Lib.Math.min.name Lib.Math.min.code 2 (some .int)) (by decide +kernel)
  have t_m1 : ((-1) : Int32).toInt = -1 := rfl
  have t_0 : (0 : Int32).toInt = 0 := rfl
  have t_1 : (1 : Int32).toInt = 1 := rfl
  have t_100 : (100 : Int32).toInt = 100 := rfl
  have t_5000 : (5000 : Int32).toInt = 5000 := rfl
  have hB := iI_b hI
  refine lv_iload_n hx hb dX6_go_0 rfl (lv_at hl 1 rfl) ?_
  refine lv_iconst (v := 0) hx hb dX6_go_1 (by decide) ?_
  refine lv_bipush (v := 100) hx hb dX6_go_2 (by decide) ?_
  refine w_goI (va_runS (As := [.int x1, .int 0, .int 100]) (rest := []) ⟨hx, hb, hml, hown, hts⟩ (mX6_within l G cy a _ q x1 0 100) (va_cwS 3 hts gX6_go_X6_within rfl rfl rfl (by decide +kernel) ⟨Nat.le_of_ble_eq_true rfl, Nat.le_of_ble_eq_true rfl⟩) (w_preS (xOk cy a) hK hP hD hS hA hN) rfl rfl hl.1 rfl (lv_room (Nat.le_of_ble_eq_true rfl)) dX6_go_4 ⟨Nat.le_of_ble_eq_true rfl, Nat.le_of_ble_eq_true rfl⟩) hD hS hA (fun H locs hP hS => ?_)
  have e_1 := tX6_within q x1 0 100
  refine lv_if_ne (tgt := 12) hx hb dX6_go_7 (by decide) (fun c_2 => ?_) (fun c_2 => ?_)
  · have e_3 := i_ne c_2
    refine lv_iload_n hx hb dX6_go_12 rfl (lv_at hl 1 rfl) ?_
    refine lv_sipush (v := 5000) hx hb dX6_go_13 (by decide) ?_
    refine lv_aload_n hx hb dX6_go_16 rfl (lv_at hl 0 rfl) ?_
    refine gfX6_51 (v := (q 30 0)) hx hb hts h_2 hown hK hP h_1 rfl dX6_go_17 ?_
    refine lv_isub hx hb dX6_go_20 ?_
    refine va_mmin hx hb (hml.trans hl.1.symm) hown h_3 h_4 h_5 h_6 (Nat.le_of_ble_eq_true rfl) (Nat.le_of_ble_eq_true rfl) (Nat.zero_le _) (Nat.zero_le _) dX6_go_21 ?_
    refine lv_istore_n (lv' := [(2, .int (if (5000 - (q 30 0)) < x1 then (5000 - (q 30 0)) else x1)), (0, .ref (a 0)), (1, .int x1)]) hx hb dX6_go_24 rfl hl (by decide) rfl (fun ls hl => ?_)
    refine lv_iconst (v := 0) hx hb dX6_go_25 (by decide) ?_
    refine lv_istore_n (lv' := [(3, .int 0), (2, .int (if (5000 - (q 30 0)) < x1 then (5000 - (q 30 0)) else x1)), (0, .ref (a 0)), (1, .int x1)]) hx hb dX6_go_26 rfl hl (by decide) rfl (fun ls hl => ?_)
    have K_1 : ∀ (v1 : wSt) (H : Heap) (ls : Array Slot) (locs : List Loc), (lX6_go_1 q x1 (((if (5000 - (q 30 0)) < x1 then (5000 - (q 30 0)) else x1).toInt - (0 : Int32).toInt).toNat + 1) 0 q) = v1 → iI v1 → va_P G vwCl ((cX cy a) v1) H → va_S (wA (cX cy a) s.heap.size) s.heap H locs → lv_has ls 5 [(0, .ref (a 0))] → W p l e ({ frames := 6, cells := 0, slots := 0, locals := 134 }) s m [.ref (a 0), .int x1].toArray below meth c H locs 0 0 (MQ below (wQi G (cX cy a) s.heap.size (fX6_go q x1).1 (fX6_go q x1).2) [.ref (a 0), .int x1].toArray s 0 0 (wA (cX cy a) s.heap.size)) (F0 m 67 ls []) := by
      intro v1 H ls locs hv hI_x1 hP hS hl
      subst hv
      refine lv_aload_n hx hb dX6_go_67 rfl (lv_at hl 0 rfl) ?_
      refine gfX6_51 (v := ((lX6_go_1 q x1 (((if (5000 - (q 30 0)) < x1 then (5000 - (q 30 0)) else x1).toInt - (0 : Int32).toInt).toNat + 1) 0 q) 30 0)) hx hb hts h_2 hown hK hP h_1 rfl dX6_go_68 ?_
      have hF : (fX6_go q x1) = (((lX6_go_1 q x1 (((if (5000 - (q 30 0)) < x1 then (5000 - (q 30 0)) else x1).toInt - (0 : Int32).toInt).toNat + 1) 0 q) 30 0), (lX6_go_1 q x1 (((if (5000 - (q 30 0)) < x1 then (5000 - (q 30 0)) else x1).toInt - (0 : Int32).toInt).toNat + 1) 0 q)) := (show (fX6_go q x1) = (((lX6_go_1 q x1 (((if (5000 - (q 30 0)) < x1 then (5000 - (q 30 0)) else x1).toInt - (0 : Int32).toInt).toNat + 1) 0 q) 30 0), (lX6_go_1 q x1 (((if (5000 - (q 30 0)) < x1 then (5000 - (q 30 0)) else x1).toInt - (0 : Int32).toInt).toNat + 1) 0 q)) by (rw [fX6_go, if_neg c_2]); try rfl)
      exact W.iret (v := ((lX6_go_1 q x1 (((if (5000 - (q 30 0)) < x1 then (5000 - (q 30 0)) else x1).toInt - (0 : Int32).toInt).toNat + 1) 0 q) 30 0)) hx hb hr (fun t ht hW => ⟨⟨((lX6_go_1 q x1 (((if (5000 - (q 30 0)) < x1 then (5000 - (q 30 0)) else x1).toInt - (0 : Int32).toInt).toNat + 1) 0 q) 30 0), (lX6_go_1 q x1 (((if (5000 - (q 30 0)) < x1 then (5000 - (q 30 0)) else x1).toInt - (0 : Int32).toInt).toNat + 1) 0 q), rfl, ⟨(p_fst hF), (p_snd hF)⟩, w_ht ht hP⟩, hS.F ht⟩) hS.2.2 dX6_go_71
    have L_1 : ∀ (n : Nat) (y3_1 : Int32) (p1 : wSt) (H : Heap) (ls : Array Slot) (locs : List Loc), ((if (5000 - (q 30 0)) < x1 then (5000 - (q 30 0)) else x1).toInt - (y3_1).toInt).toNat < n → iI p1 → (0 ≤ (y3_1).toInt) → lX6_go_1 q x1 n y3_1 p1 = (lX6_go_1 q x1 (((if (5000 - (q 30 0)) < x1 then (5000 - (q 30 0)) else x1).toInt - (0 : Int32).toInt).toNat + 1) 0 q) → va_P G vwCl ((cX cy a) p1) H → va_S (wA (cX cy a) s.heap.size) s.heap H locs → lv_has ls 5 [(0, .ref (a 0)), (2, .int (if (5000 - (q 30 0)) < x1 then (5000 - (q 30 0)) else x1)), (3, .int y3_1)] → W p l e ({ frames := 6, cells := 0, slots := 0, locals := 134 }) s m [.ref (a 0), .int x1].toArray below meth c H locs 0 0 (MQ below (wQi G (cX cy a) s.heap.size (fX6_go q x1).1 (fX6_go q x1).2) [.ref (a 0), .int x1].toArray s 0 0 (wA (cX cy a) s.heap.size)) (F0 m 27 ls []) := by
      intro n
      induction n with
      | zero => intro y3_1 p1 H ls locs hm; exact absurd hm (Nat.not_lt_zero _)
      | succ n ih =>
        intro y3_1 p1 H ls locs hm_1 hI_1 i0_1 he_1 hP hS hl
        refine lv_iload_n hx hb dX6_go_27 rfl (lv_at hl 2 rfl) ?_
        refine lv_iload_n hx hb dX6_go_28 rfl (lv_at hl 1 rfl) ?_
        refine lv_icmp_ge (tgt := 67) hx hb dX6_go_29 (by decide) (fun c_4 => ?_) (fun c_4 => ?_)
        · have e_5 := i_le c_4
          exact K_1 p1 _ _ _ (Eq.trans (Eq.symm he_1) (by (rw [lX6_go_1_s, if_pos c_4]); try rfl)) hI_1 hP hS (lv_sub hl [0] rfl)
        · have e_5 := i_nle c_4
          refine lv_aload_n hx hb dX6_go_32 rfl (lv_at hl 0 rfl) ?_
          refine w_goI (va_runV (As := []) (rest := []) ⟨hx, hb, hml, hown, hts⟩ (mX6_moveBoxes l G cy a _ p1 hI_1) (cwV 0 hts gX6_go_X6_moveBoxes rfl rfl rfl (by decide +kernel) ⟨Nat.le_of_ble_eq_true rfl, Nat.le_of_ble_eq_true rfl⟩) (w_pre (xOk cy a) (va_recv hK hP (ci := 6) (q0 := 0) rfl rfl) hK hP hD hS hA hN) rfl rfl hl.1 rfl (lv_room (Nat.le_of_ble_eq_true rfl)) dX6_go_33 ⟨Nat.le_of_ble_eq_true rfl, Nat.le_of_ble_eq_true rfl⟩) hD hS hA (fun H locs hP hS => ?_)
          refine lv_istore (lv' := [(4, .int (fX6_moveBoxes p1).1), (0, .ref (a 0)), (2, .int (if (5000 - (q 30 0)) < x1 then (5000 - (q 30 0)) else x1)), (3, .int y3_1)]) hx hb dX6_go_36 hl (by decide) rfl (fun ls hl => ?_)
          refine lv_iload_n hx hb dX6_go_38 rfl (lv_at hl 3 rfl) ?_
          have J_2 : ∀ (v1 : wSt) (H : Heap) (ls : Array Slot) (locs : List Loc), (fX6_go_j2 q x1 y3_1 p1) = v1 → iI v1 → va_P G vwCl ((cX cy a) v1) H → va_S (wA (cX cy a) s.heap.size) s.heap H locs → lv_has ls 5 [(0, .ref (a 0)), (2, .int (if (5000 - (q 30 0)) < x1 then (5000 - (q 30 0)) else x1)), (3, .int y3_1)] → W p l e ({ frames := 6, cells := 0, slots := 0, locals := 134 }) s m [.ref (a 0), .int x1].toArray below meth c H locs 0 0 (MQ below (wQi G (cX cy a) s.heap.size (fX6_go q x1).1 (fX6_go q x1).2) [.ref (a 0), .int x1].toArray s 0 0 (wA (cX cy a) s.heap.size)) (F0 m 51 ls []) := by
            intro v1 H ls locs hv hI_j2 hP hS hl
            subst hv
            refine lv_aload_n hx hb dX6_go_51 rfl (lv_at hl 0 rfl) ?_
            refine lv_dup hx hb dX6_go_52 rfl ?_
            refine gfX6_51 (v := ((fX6_go_j2 q x1 y3_1 p1) 30 0)) hx hb hts h_2 hown hK hP h_1 rfl dX6_go_53 ?_
            refine lv_iconst (v := 1) hx hb dX6_go_56 (by decide) ?_
            refine lv_iadd hx hb dX6_go_57 ?_
            refine pfX6_51 hx hb hts h_2 hown hK hP hD hS h_1 dX6_go_58 (fun H locs hP hS => ?_)
            refine lv_iinc (v := (y3_1 + 1)) (lv' := [(3, .int (y3_1 + 1)), (0, .ref (a 0)), (2, .int (if (5000 - (q 30 0)) < x1 then (5000 - (q 30 0)) else x1))]) hx hb dX6_go_61 hl (k := 2) rfl rfl (by decide) rfl (fun ls hl => ?_)
            have e_10 : (y3_1 + 1).toInt = (y3_1).toInt + 1 := i_inc (by have := i_rng y3_1; have := i_rng (if (5000 - (q 30 0)) < x1 then (5000 - (q 30 0)) else x1); omega)
            refine lv_goto (tgt := 27) hx hb dX6_go_64 (by decide) ?_
            exact ih (y3_1 + 1) (rset (fX6_go_j2 q x1 y3_1 p1) 30 (fun _ => (((fX6_go_j2 q x1 y3_1 p1) 30 0) + 1))) _ _ _ (by omega) (iI_rset (k := 30) (f := (fun _ => (((fX6_go_j2 q x1 y3_1 p1) 30 0) + 1))) (by decide) hI_j2) (by first | omega | assumption) (Eq.trans (Eq.symm (by (rw [lX6_go_1_s, if_neg c_4]); try rfl)) he_1) hP hS (lv_sub hl [1, 2, 0] rfl)
          refine lv_if_eq (tgt := 47) hx hb dX6_go_39 (by decide) (fun c_6 => ?_) (fun c_6 => ?_)
          · have e_7 := i_eq c_6
            refine lv_aload_n hx hb dX6_go_47 rfl (lv_at hl 1 rfl) ?_
            refine w_goV (va_runV (As := []) (rest := []) ⟨hx, hb, hml, hown, hts⟩ (mX6_takeTurns l G cy a _ (fX6_moveBoxes p1).2 (iIX6_moveBoxes p1 hI_1)) (cwV 0 hts gX6_go_X6_takeTurns rfl rfl rfl (by decide +kernel) ⟨Nat.le_of_ble_eq_true rfl, Nat.le_of_ble_eq_true rfl⟩) (w_pre (xOk cy a) (va_recv hK hP (ci := 6) (q0 := 0) rfl rfl) hK hP hD hS hA hN) rfl rfl hl.1 rfl (lv_room (Nat.le_of_ble_eq_true rfl)) dX6_go_48 ⟨Nat.le_of_ble_eq_true rfl, Nat.le_of_ble_eq_true rfl⟩) hD hS hA (fun H locs hP hS => ?_)
            exact J_2 (fX6_takeTurns (fX6_moveBoxes p1).2) _ _ _ (by (rw [fX6_go_j2, if_pos c_6]); try rfl) (iIX6_takeTurns (fX6_moveBoxes p1).2 (iIX6_moveBoxes p1 hI_1)) hP hS (lv_sub hl [1, 2, 3] rfl)
          · have e_7 := i_ne c_6
            refine lv_iload hx hb dX6_go_42 (lv_at hl 0 rfl) ?_
            refine lv_if_eq (tgt := 51) hx hb dX6_go_44 (by decide) (fun c_8 => ?_) (fun c_8 => ?_)
            · have e_9 := i_eq c_8
              exact J_2 (fX6_moveBoxes p1).2 _ _ _ (by (rw [fX6_go_j2, if_neg c_6, if_pos c_8]); try rfl) (iIX6_moveBoxes p1 hI_1) hP hS (lv_sub hl [1, 2, 3] rfl)
            · have e_9 := i_ne c_8
              refine lv_aload_n hx hb dX6_go_47 rfl (lv_at hl 1 rfl) ?_
              refine w_goV (va_runV (As := []) (rest := []) ⟨hx, hb, hml, hown, hts⟩ (mX6_takeTurns l G cy a _ (fX6_moveBoxes p1).2 (iIX6_moveBoxes p1 hI_1)) (cwV 0 hts gX6_go_X6_takeTurns rfl rfl rfl (by decide +kernel) ⟨Nat.le_of_ble_eq_true rfl, Nat.le_of_ble_eq_true rfl⟩) (w_pre (xOk cy a) (va_recv hK hP (ci := 6) (q0 := 0) rfl rfl) hK hP hD hS hA hN) rfl rfl hl.1 rfl (lv_room (Nat.le_of_ble_eq_true rfl)) dX6_go_48 ⟨Nat.le_of_ble_eq_true rfl, Nat.le_of_ble_eq_true rfl⟩) hD hS hA (fun H locs hP hS => ?_)
              exact J_2 (fX6_takeTurns (fX6_moveBoxes p1).2) _ _ _ (by (rw [fX6_go_j2, if_neg c_6, if_neg c_8]); try rfl) (iIX6_takeTurns (fX6_moveBoxes p1).2 (iIX6_moveBoxes p1 hI_1)) hP hS (lv_sub hl [1, 2, 3] rfl)
    exact L_1 (((if (5000 - (q 30 0)) < x1 then (5000 - (q 30 0)) else x1).toInt - (0 : Int32).toInt).toNat + 1) 0 q _ _ _ (by omega) hI (by omega) rfl hP hS (lv_sub hl [2, 1, 0] rfl)
  · have e_3 := i_eq c_2
    refine lv_iconst (v := (-1)) hx hb dX6_go_10 (by decide) ?_
    have hF : (fX6_go q x1) = ((-1), q) := (show (fX6_go q x1) = ((-1), q) by (rw [fX6_go, if_pos c_2]); try rfl)
    exact W.iret (v := (-1)) hx hb hr (fun t ht hW => ⟨⟨(-1), q, rfl, ⟨(p_fst hF), (p_snd hF)⟩, w_ht ht hP⟩, hS.F ht⟩) hS.2.2 dX6_go_11
