set_option maxHeartbeats 4000000 in
set_option maxRecDepth 100000 in
theorem mX7_go (l : Launch) (G : va_G) (cy : ClassId) (a : Nat → Nat) (sz : Nat) (q : wSt) (x1 : Int32) (hI : iI q) : CtI l yX7_go wsX7_go ({ frames := 4, cells := 0, slots := 0, locals := 87 }) G cy (cM cy a) mN sz q [.ref (a 0), .int x1] (fX7_go q x1).1 (fX7_go q x1).2 := by
  refine Met.ofW (cc := cX7_go) (maxL := 3) (ret := (some .int)) (by decide) rfl ?_
  intro p e s m args below meth c s₁ B hml hv
  obtain ⟨rfl, hsz, hP, hK, hD0, hN⟩ := hv
  have hx := B.exec
  have hb := B.bytes
  have hr := B.returns
  have hts := atoms_spec (ws := wsX7_go) B.pre
  have hown : s.vm.findClass RX7 = some m.cls := findClass_of_methodNamed B.named
  have hlocks := B.notSynchronized
  subst hsz
  have hD : ∀ z : wSt, va_D (wA (cM cy a) s.heap.size) ((cM cy a) z) := fun z => w_self (mOk cy a).1 hD0 z
  have hA : ∀ z : Nat, s.heap.size ≤ z → wA (cM cy a) s.heap.size z := fun _ h => Or.inr h
  have hS : va_S (wA (cM cy a) s.heap.size) s.heap s.heap [] := va_S.rf
  have hl := lv_entry ([.ref (a 0), .int x1]) (n := 3) (Nat.le_of_ble_eq_true rfl)
  rw [lg_entry_eq]
  generalize (lg_sl ([.ref (a 0), .int x1]) ++ List.replicate (3 - (lg_sl ([.ref (a 0), .int x1])).length) Slot.unset).toArray = ls at hl ⊢
  have hl : lv_has ls 3 [(0, .ref (a 0)), (1, .int x1)] := hl
  have h_1 := hts (.fieldLink RX7 112 RX7 "now" "I") (by decide +kernel)
  have h_2 := (show ∀ w ∈ u_ws RX7 TX7 35, w ∈ wsX7_go by decide +kernel)
  have t_m1 : ((-1) : Int32).toInt = -1 := rfl
  have t_0 : (0 : Int32).toInt = 0 := rfl
  have t_1 : (1 : Int32).toInt = 1 := rfl
  have t_100 : (100 : Int32).toInt = 100 := rfl
  have t_5000 : (5000 : Int32).toInt = 5000 := rfl
  have hB := iI_b hI
  refine lv_iload_n hx hb dX7_go_0 rfl (lv_at hl 1 rfl) ?_
  refine lv_iconst (v := 0) hx hb dX7_go_1 (by decide) ?_
  refine lv_bipush (v := 100) hx hb dX7_go_2 (by decide) ?_
  refine w_goI (va_runS (As := [.int x1, .int 0, .int 100]) (rest := []) ⟨hx, hb, hml, hown, hts⟩ (mX7_in l G cy a _ q x1 0 100) (va_cwS 3 hts gX7_go_X7_in rfl rfl rfl (by decide +kernel) ⟨Nat.le_of_ble_eq_true rfl, Nat.le_of_ble_eq_true rfl⟩) (w_preS (mOk cy a) hK hP hD hS hA hN) rfl rfl hl.1 rfl (lv_room (Nat.le_of_ble_eq_true rfl)) dX7_go_4 ⟨Nat.le_of_ble_eq_true rfl, Nat.le_of_ble_eq_true rfl⟩) hD hS hA (fun H locs hP hS => ?_)
  have e_1 := tX7_in q x1 0 100
  refine lv_if_ne (tgt := 12) hx hb dX7_go_7 (by decide) (fun c_2 => ?_) (fun c_2 => ?_)
  · have e_3 := i_ne c_2
    refine lv_iconst (v := 0) hx hb dX7_go_12 (by decide) ?_
    refine lv_istore_n (lv' := [(2, .int 0), (0, .ref (a 0)), (1, .int x1)]) hx hb dX7_go_13 rfl hl (by decide) rfl (fun ls hl => ?_)
    have K_1 : ∀ (v1 : wSt) (H : Heap) (ls : Array Slot) (locs : List Loc), (lX7_go_1 q x1 (((x1).toInt - (0 : Int32).toInt).toNat + 1) 0 q) = v1 → iI v1 → va_P G vwCl ((cM cy a) v1) H → va_S (wA (cM cy a) s.heap.size) s.heap H locs → lv_has ls 3 [(0, .ref (a 0))] → W p l e ({ frames := 4, cells := 0, slots := 0, locals := 87 }) s m [.ref (a 0), .int x1].toArray below meth c H locs 0 0 (MQ below (wQi G (cM cy a) s.heap.size (fX7_go q x1).1 (fX7_go q x1).2) [.ref (a 0), .int x1].toArray s 0 0 (wA (cM cy a) s.heap.size)) (F0 m 53 ls []) := by
      intro v1 H ls locs hv hI_x1 hP hS hl
      subst hv
      refine lv_aload_n hx hb dX7_go_53 rfl (lv_at hl 0 rfl) ?_
      refine gfX7_112 (v := ((lX7_go_1 q x1 (((x1).toInt - (0 : Int32).toInt).toNat + 1) 0 q) 30 0)) hx hb hts h_2 hown hK hP h_1 rfl dX7_go_54 ?_
      have hF : (fX7_go q x1) = (((lX7_go_1 q x1 (((x1).toInt - (0 : Int32).toInt).toNat + 1) 0 q) 30 0), (lX7_go_1 q x1 (((x1).toInt - (0 : Int32).toInt).toNat + 1) 0 q)) := (show (fX7_go q x1) = (((lX7_go_1 q x1 (((x1).toInt - (0 : Int32).toInt).toNat + 1) 0 q) 30 0), (lX7_go_1 q x1 (((x1).toInt - (0 : Int32).toInt).toNat + 1) 0 q)) by (rw [fX7_go, if_neg c_2]); try rfl)
      exact W.iret (v := ((lX7_go_1 q x1 (((x1).toInt - (0 : Int32).toInt).toNat + 1) 0 q) 30 0)) hx hb hr (fun t ht hW => ⟨⟨((lX7_go_1 q x1 (((x1).toInt - (0 : Int32).toInt).toNat + 1) 0 q) 30 0), (lX7_go_1 q x1 (((x1).toInt - (0 : Int32).toInt).toNat + 1) 0 q), rfl, ⟨(p_fst hF), (p_snd hF)⟩, w_ht ht hP⟩, hS.F ht⟩) hS.2.2 dX7_go_57
    have L_1 : ∀ (n : Nat) (y2_1 : Int32) (p1 : wSt) (H : Heap) (ls : Array Slot) (locs : List Loc), ((x1).toInt - (y2_1).toInt).toNat < n → iI p1 → (0 ≤ (y2_1).toInt) → lX7_go_1 q x1 n y2_1 p1 = (lX7_go_1 q x1 (((x1).toInt - (0 : Int32).toInt).toNat + 1) 0 q) → va_P G vwCl ((cM cy a) p1) H → va_S (wA (cM cy a) s.heap.size) s.heap H locs → lv_has ls 3 [(0, .ref (a 0)), (1, .int x1), (2, .int y2_1)] → W p l e ({ frames := 4, cells := 0, slots := 0, locals := 87 }) s m [.ref (a 0), .int x1].toArray below meth c H locs 0 0 (MQ below (wQi G (cM cy a) s.heap.size (fX7_go q x1).1 (fX7_go q x1).2) [.ref (a 0), .int x1].toArray s 0 0 (wA (cM cy a) s.heap.size)) (F0 m 14 ls []) := by
      intro n
      induction n with
      | zero => intro y2_1 p1 H ls locs hm; exact absurd hm (Nat.not_lt_zero _)
      | succ n ih =>
        intro y2_1 p1 H ls locs hm_1 hI_1 i0_1 he_1 hP hS hl
        refine lv_iload_n hx hb dX7_go_14 rfl (lv_at hl 2 rfl) ?_
        refine lv_iload_n hx hb dX7_go_15 rfl (lv_at hl 1 rfl) ?_
        refine lv_icmp_ge (tgt := 53) hx hb dX7_go_16 (by decide) (fun c_4 => ?_) (fun c_4 => ?_)
        · have e_5 := i_le c_4
          exact K_1 p1 _ _ _ (Eq.trans (Eq.symm he_1) (by (rw [lX7_go_1_s, if_pos c_4]); try rfl)) hI_1 hP hS (lv_sub hl [0] rfl)
        · have e_5 := i_nle c_4
          refine lv_aload_n hx hb dX7_go_19 rfl (lv_at hl 0 rfl) ?_
          refine gfX7_112 (v := (p1 30 0)) hx hb hts h_2 hown hK hP h_1 rfl dX7_go_20 ?_
          refine lv_sipush (v := 5000) hx hb dX7_go_23 (by decide) ?_
          refine lv_icmp_ge (tgt := 53) hx hb dX7_go_26 (by decide) (fun c_6 => ?_) (fun c_6 => ?_)
          · have e_7 := i_le c_6
            exact K_1 p1 _ _ _ (Eq.trans (Eq.symm he_1) (by (rw [lX7_go_1_s, if_neg c_4, if_pos c_6]); try rfl)) hI_1 hP hS (lv_sub hl [0] rfl)
          · have e_7 := i_nle c_6
            refine lv_aload_n hx hb dX7_go_29 rfl (lv_at hl 0 rfl) ?_
            refine w_goV (va_runV (As := []) (rest := []) ⟨hx, hb, hml, hown, hts⟩ (mX7_boxes l G cy a _ p1 hI_1) (cwV 0 hts gX7_go_X7_boxes rfl rfl rfl (by decide +kernel) ⟨Nat.le_of_ble_eq_true rfl, Nat.le_of_ble_eq_true rfl⟩) (w_pre (mOk cy a) (va_recv hK hP (ci := 7) (q0 := 0) rfl rfl) hK hP hD hS hA hN) rfl rfl hl.1 rfl (lv_room (Nat.le_of_ble_eq_true rfl)) dX7_go_30 ⟨Nat.le_of_ble_eq_true rfl, Nat.le_of_ble_eq_true rfl⟩) hD hS hA (fun H locs hP hS => ?_)
            refine lv_aload_n hx hb dX7_go_33 rfl (lv_at hl 0 rfl) ?_
            refine w_goV (va_runV (As := []) (rest := []) ⟨hx, hb, hml, hown, hts⟩ (mX7_turns l G cy a _ (fX7_boxes p1) (iIX7_boxes p1 hI_1)) (cwV 0 hts gX7_go_X7_turns rfl rfl rfl (by decide +kernel) ⟨Nat.le_of_ble_eq_true rfl, Nat.le_of_ble_eq_true rfl⟩) (w_pre (mOk cy a) (va_recv hK hP (ci := 7) (q0 := 0) rfl rfl) hK hP hD hS hA hN) rfl rfl hl.1 rfl (lv_room (Nat.le_of_ble_eq_true rfl)) dX7_go_34 ⟨Nat.le_of_ble_eq_true rfl, Nat.le_of_ble_eq_true rfl⟩) hD hS hA (fun H locs hP hS => ?_)
            refine lv_aload_n hx hb dX7_go_37 rfl (lv_at hl 0 rfl) ?_
            refine lv_dup hx hb dX7_go_38 rfl ?_
            refine gfX7_112 (v := ((fX7_turns (fX7_boxes p1)) 30 0)) hx hb hts h_2 hown hK hP h_1 rfl dX7_go_39 ?_
            refine lv_iconst (v := 1) hx hb dX7_go_42 (by decide) ?_
            refine lv_iadd hx hb dX7_go_43 ?_
            refine pfX7_112 hx hb hts h_2 hown hK hP hD hS h_1 dX7_go_44 (fun H locs hP hS => ?_)
            refine lv_iinc (v := (y2_1 + 1)) (lv' := [(2, .int (y2_1 + 1)), (0, .ref (a 0)), (1, .int x1)]) hx hb dX7_go_47 hl (k := 2) rfl rfl (by decide) rfl (fun ls hl => ?_)
            have e_8 : (y2_1 + 1).toInt = (y2_1).toInt + 1 := i_inc (by have := i_rng y2_1; have := i_rng (x1); omega)
            refine lv_goto (tgt := 14) hx hb dX7_go_50 (by decide) ?_
            exact ih (y2_1 + 1) (rset (fX7_turns (fX7_boxes p1)) 30 (fun _ => (((fX7_turns (fX7_boxes p1)) 30 0) + 1))) _ _ _ (by omega) (iI_rset (k := 30) (f := (fun _ => (((fX7_turns (fX7_boxes p1)) 30 0) + 1))) (by decide) (iIX7_turns (fX7_boxes p1) (iIX7_boxes p1 hI_1))) (by first | omega | assumption) (Eq.trans (Eq.symm (by (rw [lX7_go_1_s, if_neg c_4, if_neg c_6]); try rfl)) he_1) hP hS (lv_sub hl [1, 2, 0] rfl)
    exact L_1 (((x1).toInt - (0 : Int32).toInt).toNat + 1) 0 q _ _ _ (by omega) hI (by omega) rfl hP hS (lv_sub hl [1, 2, 0] rfl)
  · have e_3 := i_eq c_2
    refine lv_iconst (v := (-1)) hx hb dX7_go_10 (by decide) ?_
    have hF : (fX7_go q x1) = ((-1), q) := (show (fX7_go q x1) = ((-1), q) by (rw [fX7_go, if_pos c_2]); try rfl)
    exact W.iret (v := (-1)) hx hb hr (fun t ht hW => ⟨⟨(-1), q, rfl, ⟨(p_fst hF), (p_snd hF)⟩, w_ht ht hP⟩, hS.F ht⟩) hS.2.2 dX7_go_11
