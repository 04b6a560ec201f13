set_option maxHeartbeats 4000000 in
set_option maxRecDepth 100000 in
theorem mX6_moveBoxes (l : Launch) (G : va_G) (cy : ClassId) (a : Nat → Nat) (sz : Nat) (q : wSt) (hI : iI q) : CtI l yX6_moveBoxes wsX6_moveBoxes ({ frames := 5, cells := 0, slots := 0, locals := 111 }) G cy (cX cy a) xN sz q [.ref (a 0)] (fX6_moveBoxes q).1 (fX6_moveBoxes q).2 := by
  refine Met.ofW (cc := cX6_moveBoxes) (maxL := 3) (ret := (some .boolean)) (by decide) rfl ?_
  intro p e s m args below meth c s₁ B hml hv
  obtain ⟨rfl, hsz, hP, hK, hD0, hN⟩ := hv
  have hx := B.exec
  have hb := B.bytes
  have hr := B.returns
  have hts := atoms_spec (ws := wsX6_moveBoxes) B.pre
  have hown : s.vm.findClass RX6 = some m.cls := findClass_of_methodNamed B.named
  have hlocks := B.notSynchronized
  subst hsz
  have hD : ∀ z : wSt, va_D (wA (cX cy a) s.heap.size) ((cX cy a) z) := fun z => w_self (xOk cy a).1 hD0 z
  have hA : ∀ z : Nat, s.heap.size ≤ z → wA (cX cy a) s.heap.size z := fun _ h => Or.inr h
  have hS : va_S (wA (cX cy a) s.heap.size) s.heap s.heap [] := va_S.rf
  have hl := lv_entry ([.ref (a 0)]) (n := 3) (Nat.le_of_ble_eq_true rfl)
  rw [lg_entry_eq]
  generalize (lg_sl ([.ref (a 0)]) ++ List.replicate (3 - (lg_sl ([.ref (a 0)])).length) Slot.unset).toArray = ls at hl ⊢
  have hl : lv_has ls 3 [(0, .ref (a 0))] := hl
  have h_1 := hts (.fieldLink RX6 26 RX6 "copies" "LVolumeHouse$Copies;") (by decide +kernel)
  have h_2 := (show ∀ w ∈ u_ws RX6 TX6 10, w ∈ wsX6_moveBoxes by decide +kernel)
  have h_3 := (hN.1 _ (List.mem_of_getElem? (i := 30) rfl) : va_Nw (.fieldLinkNest RX6 240 RX1 "inBoxes" "I" RX6) s)
  have h_4 := (show ∀ w ∈ u_ws RX1 TX1 13, w ∈ wsX6_moveBoxes by decide +kernel)
  have h_5 := (hN.1 _ (List.mem_of_getElem? (i := 5) rfl) : va_Nw (.fieldLinkNest RX6 86 RX1 "came" "I" RX6) s)
  have h_6 := (hN.1 _ (List.mem_of_getElem? (i := 65) rfl) : va_Nw (.methodLinkNest RX6 242 yX1_comesToday RX6) s)
  have h_7 := hts (.initialized RX1) (by decide +kernel)
  have h_8 := hts (.instanceMethod yX1_comesToday) (by decide +kernel)
  have h_9 := hts (.selects RX1 yX1_comesToday yX1_comesToday) (by decide +kernel)
  have h_10 := (hN.1 _ (List.mem_of_getElem? (i := 17) rfl) : va_Nw (.fieldLinkNest RX6 175 RX1 "where" "[I" RX6) s)
  have t_0 : (0 : Int32).toInt = 0 := rfl
  have t_1 : (1 : Int32).toInt = 1 := rfl
  have t_3 : (3 : Int32).toInt = 3 := rfl
  have hB := iI_b hI
  refine lv_iconst (v := 0) hx hb dX6_moveBoxes_0 (by decide) ?_
  refine lv_istore_n (lv' := [(1, .int 0), (0, .ref (a 0))]) hx hb dX6_moveBoxes_1 rfl hl (by decide) rfl (fun ls hl => ?_)
  refine lv_aload_n hx hb dX6_moveBoxes_2 rfl (lv_at hl 1 rfl) ?_
  refine gfX6_26 hx hb hts h_2 hown hK hP h_1 dX6_moveBoxes_3 ?_
  refine gfX6_240 (v := (q 37 0)) hx hb hts h_4 hown hK hP h_3 rfl dX6_moveBoxes_6 ?_
  refine lv_if_ne (tgt := 14) hx hb dX6_moveBoxes_9 (by decide) (fun c_1 => ?_) (fun c_1 => ?_)
  · have e_2 := i_ne c_1
    refine lv_iconst (v := 0) hx hb dX6_moveBoxes_14 (by decide) ?_
    refine lv_istore_n (lv' := [(2, .int 0), (1, .int 0), (0, .ref (a 0))]) hx hb dX6_moveBoxes_15 rfl hl (by decide) rfl (fun ls hl => ?_)
    have K_1 : ∀ (v1 : Int32) (v2 : wSt) (H : Heap) (ls : Array Slot) (locs : List Loc), (lX6_moveBoxes_1 q ((((q 36) 0).toInt - (0 : Int32).toInt).toNat + 1) 0 0 q) = (v1, v2) → iI v2 → ((v1).toInt = 0 ∨ (v1).toInt = 1) → va_P G vwCl ((cX cy a) v2) H → va_S (wA (cX cy a) s.heap.size) s.heap H locs → lv_has ls 3 [(1, .int v1)] → W p l e ({ frames := 5, cells := 0, slots := 0, locals := 111 }) s m [.ref (a 0)].toArray below meth c H locs 0 0 (MQ below (wQi G (cX cy a) s.heap.size (fX6_moveBoxes q).1 (fX6_moveBoxes q).2) [.ref (a 0)].toArray s 0 0 (wA (cX cy a) s.heap.size)) (F0 m 72 ls []) := by
      intro v1 v2 H ls locs hv hI_x1 bz_1_x hP hS hl
      obtain ⟨rfl, rfl⟩ := p_2 hv
      refine lv_iload_n hx hb dX6_moveBoxes_72 rfl (lv_at hl 0 rfl) ?_
      have hF : (fX6_moveBoxes q) = ((lX6_moveBoxes_1 q ((((q 36) 0).toInt - (0 : Int32).toInt).toNat + 1) 0 0 q).1, (lX6_moveBoxes_1 q ((((q 36) 0).toInt - (0 : Int32).toInt).toNat + 1) 0 0 q).2) := (show (fX6_moveBoxes q) = ((lX6_moveBoxes_1 q ((((q 36) 0).toInt - (0 : Int32).toInt).toNat + 1) 0 0 q).1, (lX6_moveBoxes_1 q ((((q 36) 0).toInt - (0 : Int32).toInt).toNat + 1) 0 0 q).2) by (rw [fX6_moveBoxes, if_neg c_1]); try rfl)
      exact W.zret (v := (lX6_moveBoxes_1 q ((((q 36) 0).toInt - (0 : Int32).toInt).toNat + 1) 0 0 q).1) hx hb hr (w_bool (by omega)) (fun t ht hW => ⟨⟨(lX6_moveBoxes_1 q ((((q 36) 0).toInt - (0 : Int32).toInt).toNat + 1) 0 0 q).1, (lX6_moveBoxes_1 q ((((q 36) 0).toInt - (0 : Int32).toInt).toNat + 1) 0 0 q).2, rfl, ⟨(p_fst hF), (p_snd hF)⟩, w_ht ht hP⟩, hS.F ht⟩) hS.2.2 dX6_moveBoxes_73
    have L_1 : ∀ (n : Nat) (y1_1 : Int32) (y2_1 : Int32) (p1 : wSt) (H : Heap) (ls : Array Slot) (locs : List Loc), (((q 36) 0).toInt - (y2_1).toInt).toNat < n → iI p1 → p1 36 = (q 36) → (0 ≤ (y2_1).toInt) → ((y1_1).toInt = 0 ∨ (y1_1).toInt = 1) → lX6_moveBoxes_1 q n y1_1 y2_1 p1 = (lX6_moveBoxes_1 q ((((q 36) 0).toInt - (0 : Int32).toInt).toNat + 1) 0 0 q) → va_P G vwCl ((cX cy a) p1) H → va_S (wA (cX cy a) s.heap.size) s.heap H locs → lv_has ls 3 [(0, .ref (a 0)), (1, .int y1_1), (2, .int y2_1)] → W p l e ({ frames := 5, cells := 0, slots := 0, locals := 111 }) s m [.ref (a 0)].toArray below meth c H locs 0 0 (MQ below (wQi G (cX cy a) s.heap.size (fX6_moveBoxes q).1 (fX6_moveBoxes q).2) [.ref (a 0)].toArray s 0 0 (wA (cX cy a) s.heap.size)) (F0 m 16 ls []) := by
      intro n
      induction n with
      | zero => intro y1_1 y2_1 p1 H ls locs hm; exact absurd hm (Nat.not_lt_zero _)
      | succ n ih =>
        intro y1_1 y2_1 p1 H ls locs hm_1 hI_1 hc36_1 i0_1 bz_1 he_1 hP hS hl
        have e_13 : (p1 36 0).toInt = ((q 36) 0).toInt := by rw [hc36_1]
        refine lv_iload_n hx hb dX6_moveBoxes_16 rfl (lv_at hl 2 rfl) ?_
        refine lv_aload_n hx hb dX6_moveBoxes_17 rfl (lv_at hl 0 rfl) ?_
        refine gfX6_26 hx hb hts h_2 hown hK hP h_1 dX6_moveBoxes_18 ?_
        refine gfX6_86 (v := (p1 36 0)) hx hb hts h_4 hown hK hP h_5 rfl dX6_moveBoxes_21 ?_
        refine lv_icmp_ge (tgt := 72) hx hb dX6_moveBoxes_24 (by decide) (fun c_3 => ?_) (fun c_3 => ?_)
        · have e_4 := i_le c_3
          exact K_1 y1_1 p1 _ _ _ (Eq.trans (Eq.symm he_1) (by (rw [lX6_moveBoxes_1_s, if_pos c_3]); try rfl)) hI_1 (by first | omega | assumption) hP hS (lv_sub hl [1] rfl)
        · have e_4 := i_nle c_3
          refine lv_aload_n hx hb dX6_moveBoxes_27 rfl (lv_at hl 0 rfl) ?_
          refine gfX6_26 hx hb hts h_2 hown hK hP h_1 dX6_moveBoxes_28 ?_
          refine lv_iload_n hx hb dX6_moveBoxes_31 rfl (lv_at hl 2 rfl) ?_
          refine w_goI (va_runVN (As := [.int y2_1]) (rest := []) ⟨hx, hb, hml, hown, hts⟩ (mX1_comesToday l G cy a _ p1 y2_1 (by have hB9 := iI_b hI_1; omega) (by have hB9 := iI_b hI_1; omega)) ⟨va_cnB 1 hts gX6_moveBoxes_X1_comesToday_n242 rfl rfl rfl h_6 h_7 (by decide +kernel) ⟨Nat.le_of_ble_eq_true rfl, Nat.le_of_ble_eq_true rfl⟩, h_8, h_9⟩ (w_pre (xOk cy a) (va_recv hK hP (ci := 1) (q0 := 3) rfl rfl) hK hP hD hS hA hN) rfl rfl hl.1 rfl (lv_room (Nat.le_of_ble_eq_true rfl)) dX6_moveBoxes_32 ⟨Nat.le_of_ble_eq_true rfl, Nat.le_of_ble_eq_true rfl⟩) hD hS hA (fun H locs hP hS => ?_)
          have J_3 : ∀ (v1 : Int32) (v2 : wSt) (H : Heap) (ls : Array Slot) (locs : List Loc), (fX6_moveBoxes_j3 q y1_1 y2_1 p1) = (v1, v2) → iI v2 → ((v1).toInt = 0 ∨ (v1).toInt = 1) → va_P G vwCl ((cX cy a) v2) H → va_S (wA (cX cy a) s.heap.size) s.heap H locs → lv_has ls 3 [(0, .ref (a 0)), (1, .int v1), (2, .int y2_1)] → W p l e ({ frames := 5, cells := 0, slots := 0, locals := 111 }) s m [.ref (a 0)].toArray below meth c H locs 0 0 (MQ below (wQi G (cX cy a) s.heap.size (fX6_moveBoxes q).1 (fX6_moveBoxes q).2) [.ref (a 0)].toArray s 0 0 (wA (cX cy a) s.heap.size)) (F0 m 66 ls []) := by
            intro v1 v2 H ls locs hv hI_j3 bz_1_j3 hP hS hl
            obtain ⟨rfl, rfl⟩ := p_2 hv
            refine lv_iinc (v := (y2_1 + 1)) (lv' := [(2, .int (y2_1 + 1)), (0, .ref (a 0)), (1, .int (fX6_moveBoxes_j3 q y1_1 y2_1 p1).1)]) hx hb dX6_moveBoxes_66 hl (k := 2) rfl rfl (by decide) rfl (fun ls hl => ?_)
            have e_12 : (y2_1 + 1).toInt = (y2_1).toInt + 1 := i_inc (by have := i_rng y2_1; have := i_rng (p1 36 0); omega)
            refine lv_goto (tgt := 16) hx hb dX6_moveBoxes_69 (by decide) ?_
            exact ih (fX6_moveBoxes_j3 q y1_1 y2_1 p1).1 (y2_1 + 1) (fX6_moveBoxes_j3 q y1_1 y2_1 p1).2 _ _ _ (by omega) hI_j3 ((frX6_moveBoxes_j3 q y1_1 y2_1 p1 36 (by decide)).trans hc36_1) (by first | omega | assumption) (by first | omega | assumption) (Eq.trans (Eq.symm (by (rw [lX6_moveBoxes_1_s, if_neg c_3]); try rfl)) he_1) hP hS (lv_sub hl [1, 2, 0] rfl)
          refine lv_if_eq (tgt := 66) hx hb dX6_moveBoxes_35 (by decide) (fun c_5 => ?_) (fun c_5 => ?_)
          · have e_6 := i_eq c_5
            exact J_3 y1_1 (fX1_comesToday p1 y2_1).2 _ _ _ (by (rw [fX6_moveBoxes_j3, if_pos c_5]); try rfl) (iIX1_comesToday p1 y2_1 hI_1) (show (y1_1).toInt = 0 ∨ (y1_1).toInt = 1 by omega) hP hS (lv_sub hl [0, 1, 2] rfl)
          · have e_6 := i_ne c_5
            refine lv_iload_n hx hb dX6_moveBoxes_38 rfl (lv_at hl 1 rfl) ?_
            have J_2 : ∀ (v1 : Int32) (H : Heap) (ls : Array Slot) (locs : List Loc), (fX6_moveBoxes_j2 q y1_1 y2_1 p1) = v1 → ((v1).toInt = 0 ∨ (v1).toInt = 1) → va_P G vwCl ((cX cy a) (fX1_comesToday p1 y2_1).2) H → va_S (wA (cX cy a) s.heap.size) s.heap H locs → lv_has ls 3 [(0, .ref (a 0)), (2, .int y2_1)] → W p l e ({ frames := 5, cells := 0, slots := 0, locals := 111 }) s m [.ref (a 0)].toArray below meth c H locs 0 0 (MQ below (wQi G (cX cy a) s.heap.size (fX6_moveBoxes q).1 (fX6_moveBoxes q).2) [.ref (a 0)].toArray s 0 0 (wA (cX cy a) s.heap.size)) (F0 m 60 ls [.int v1]) := by
              intro v1 H ls locs hv bl_2_0 hP hS hl
              subst hv
              refine lv_istore_n (lv' := [(1, .int (fX6_moveBoxes_j2 q y1_1 y2_1 p1)), (0, .ref (a 0)), (2, .int y2_1)]) hx hb dX6_moveBoxes_60 rfl hl (by decide) rfl (fun ls hl => ?_)
              refine lv_aload_n hx hb dX6_moveBoxes_61 rfl (lv_at hl 1 rfl) ?_
              refine lv_iload_n hx hb dX6_moveBoxes_62 rfl (lv_at hl 2 rfl) ?_
              refine w_goV (va_runV (As := [.int y2_1]) (rest := []) ⟨hx, hb, hml, hown, hts⟩ (mX6_unpack l G cy a _ (fX1_comesToday p1 y2_1).2 y2_1 (iIX1_comesToday p1 y2_1 hI_1) (by have hB9 := iI_b (iIX1_comesToday p1 y2_1 hI_1); omega) (by have hB9 := iI_b (iIX1_comesToday p1 y2_1 hI_1); omega)) (cwV 1 hts gX6_moveBoxes_X6_unpack rfl rfl rfl (by decide +kernel) ⟨Nat.le_of_ble_eq_true rfl, Nat.le_of_ble_eq_true rfl⟩) (w_pre (xOk cy a) (va_recv hK hP (ci := 6) (q0 := 0) rfl rfl) hK hP hD hS hA hN) rfl rfl hl.1 rfl (lv_room (Nat.le_of_ble_eq_true rfl)) dX6_moveBoxes_63 ⟨Nat.le_of_ble_eq_true rfl, Nat.le_of_ble_eq_true rfl⟩) hD hS hA (fun H locs hP hS => ?_)
              exact J_3 (fX6_moveBoxes_j2 q y1_1 y2_1 p1) (fX6_unpack (fX1_comesToday p1 y2_1).2 y2_1) _ _ _ (by (rw [fX6_moveBoxes_j3, if_neg c_5]); try rfl) (iIX6_unpack (fX1_comesToday p1 y2_1).2 y2_1 (iIX1_comesToday p1 y2_1 hI_1)) (show ((fX6_moveBoxes_j2 q y1_1 y2_1 p1)).toInt = 0 ∨ ((fX6_moveBoxes_j2 q y1_1 y2_1 p1)).toInt = 1 by omega) hP hS (lv_sub hl [1, 0, 2] rfl)
            refine lv_if_ne (tgt := 55) hx hb dX6_moveBoxes_39 (by decide) (fun c_7 => ?_) (fun c_7 => ?_)
            · have e_8 := i_ne c_7
              refine lv_iconst (v := 1) hx hb dX6_moveBoxes_55 (by decide) ?_
              refine lv_goto (tgt := 60) hx hb dX6_moveBoxes_56 (by decide) ?_
              exact J_2 1 _ _ _ (by (rw [fX6_moveBoxes_j2, if_neg c_7]); try rfl) (show (1 : Int32).toInt = 0 ∨ (1 : Int32).toInt = 1 by omega) hP hS (lv_sub hl [0, 2] rfl)
            · have e_8 := i_eq c_7
              refine lv_aload_n hx hb dX6_moveBoxes_42 rfl (lv_at hl 0 rfl) ?_
              refine gfX6_26 hx hb hts h_2 hown hK hP h_1 dX6_moveBoxes_43 ?_
              refine gfX6_175 hx hb hts h_4 hown hK hP h_10 dX6_moveBoxes_46 ?_
              refine lv_iload_n hx hb dX6_moveBoxes_49 rfl (lv_at hl 2 rfl) ?_
              have v_9 : vp_in y2_1 200 := vp_in_iff.mpr (by omega)
              refine ldX_6 (f := ((fX1_comesToday p1 y2_1).2 6)) hx hb hK hP rfl v_9 dX6_moveBoxes_50 ?_
              refine lv_iconst (v := 3) hx hb dX6_moveBoxes_51 (by decide) ?_
              refine lv_icmp_ne (tgt := 59) hx hb dX6_moveBoxes_52 (by decide) (fun c_10 => ?_) (fun c_10 => ?_)
              · have e_11 := i_ne c_10
                refine lv_iconst (v := 0) hx hb dX6_moveBoxes_59 (by decide) ?_
                exact J_2 0 _ _ _ (by (rw [fX6_moveBoxes_j2, if_pos c_7, if_neg c_10]); try rfl) (show (0 : Int32).toInt = 0 ∨ (0 : Int32).toInt = 1 by omega) hP hS (lv_sub hl [0, 2] rfl)
              · have e_11 := i_eq c_10
                refine lv_iconst (v := 1) hx hb dX6_moveBoxes_55 (by decide) ?_
                refine lv_goto (tgt := 60) hx hb dX6_moveBoxes_56 (by decide) ?_
                exact J_2 1 _ _ _ (by (rw [fX6_moveBoxes_j2, if_pos c_7, if_pos c_10]); try rfl) (show (1 : Int32).toInt = 0 ∨ (1 : Int32).toInt = 1 by omega) hP hS (lv_sub hl [0, 2] rfl)
    exact L_1 ((((q 36) 0).toInt - (0 : Int32).toInt).toNat + 1) 0 0 q _ _ _ (by omega) hI rfl (by omega) (by omega) rfl hP hS (lv_sub hl [2, 1, 0] rfl)
  · have e_2 := i_eq c_1
    refine lv_iload_n hx hb dX6_moveBoxes_12 rfl (lv_at hl 0 rfl) ?_
    have hF : (fX6_moveBoxes q) = (0, q) := (show (fX6_moveBoxes q) = (0, q) by (rw [fX6_moveBoxes, if_pos c_1]); try rfl)
    exact W.zret (v := 0) hx hb hr rfl (fun t ht hW => ⟨⟨0, q, rfl, ⟨(p_fst hF), (p_snd hF)⟩, w_ht ht hP⟩, hS.F ht⟩) hS.2.2 dX6_moveBoxes_13
