set_option maxHeartbeats 4000000 in
set_option maxRecDepth 100000 in
theorem mX5_waitingFor (l : Launch) (G : va_G) (cy : ClassId) (a : Nat → Nat) (sz : Nat) (q : wSt) (x1 : Int32) (x2 : Int32) (g0 : (q 40 0).toInt ≤ 100) : CtI l yX5_waitingFor wsX5_waitingFor ({ frames := 3, cells := 0, slots := 0, locals := 63 }) G cy (cX cy a) xN sz q [.ref (a 5), .int x1, .int x2] (fX5_waitingFor q x1 x2) q := by
  refine Met.ofW (cc := cX5_waitingFor) (maxL := 5) (ret := (some .int)) (by decide) rfl ?_
  intro p e s m args below meth c s₁ B hml hv
  obtain ⟨rfl, hsz, hP, hK, hD0, hN⟩ := hv
  have hx := B.exec
  have hb := B.bytes
  have hr := B.returns
  have hts := atoms_spec (ws := wsX5_waitingFor) B.pre
  have hown : s.vm.findClass RX5 = some m.cls := findClass_of_methodNamed B.named
  have hlocks := B.notSynchronized
  subst hsz
  have hD : ∀ z : wSt, va_D (wA (cX cy a) s.heap.size) ((cX cy a) z) := fun z => w_self (xOk cy a).1 hD0 z
  have hA : ∀ z : Nat, s.heap.size ≤ z → wA (cX cy a) s.heap.size z := fun _ h => Or.inr h
  have hS : va_S (wA (cX cy a) s.heap.size) s.heap s.heap [] := va_S.rf
  have hl := lv_entry ([.ref (a 5), .int x1, .int x2]) (n := 5) (Nat.le_of_ble_eq_true rfl)
  rw [lg_entry_eq]
  generalize (lg_sl ([.ref (a 5), .int x1, .int x2]) ++ List.replicate (5 - (lg_sl ([.ref (a 5), .int x1, .int x2])).length) Slot.unset).toArray = ls at hl ⊢
  have hl : lv_has ls 5 [(0, .ref (a 5)), (1, .int x1), (2, .int x2)] := hl
  have h_1 := hts (.fieldLink RX5 30 RX5 "came" "I") (by decide +kernel)
  have h_2 := (show ∀ w ∈ u_ws RX5 TX5 7, w ∈ wsX5_waitingFor by decide +kernel)
  have h_3 := hts (.fieldLink RX5 15 RX5 "title" "[I") (by decide +kernel)
  have h_4 := hts (.fieldLink RX5 21 RX5 "had" "[I") (by decide +kernel)
  have t_0 : (0 : Int32).toInt = 0 := rfl
  have t_1 : (1 : Int32).toInt = 1 := rfl
  refine lv_iconst (v := 0) hx hb dX5_waitingFor_0 (by decide) ?_
  refine lv_istore_n (lv' := [(3, .int 0), (0, .ref (a 5)), (1, .int x1), (2, .int x2)]) hx hb dX5_waitingFor_1 rfl hl (by decide) rfl (fun ls hl => ?_)
  refine lv_iconst (v := 0) hx hb dX5_waitingFor_2 (by decide) ?_
  refine lv_istore (lv' := [(4, .int 0), (3, .int 0), (0, .ref (a 5)), (1, .int x1), (2, .int x2)]) hx hb dX5_waitingFor_3 hl (by decide) rfl (fun ls hl => ?_)
  have K_1 : ∀ (v1 : Int32) (H : Heap) (ls : Array Slot) (locs : List Loc), (lX5_waitingFor_1 q x1 x2 (((q 40 0).toInt - (0 : Int32).toInt).toNat + 1) 0 0) = v1 → va_P G vwCl ((cX cy a) q) H → va_S (wA (cX cy a) s.heap.size) s.heap H locs → lv_has ls 5 [(3, .int v1)] → W p l e ({ frames := 3, cells := 0, slots := 0, locals := 63 }) s m [.ref (a 5), .int x1, .int x2].toArray below meth c H locs 0 0 (MQ below (wQi G (cX cy a) s.heap.size (fX5_waitingFor q x1 x2) q) [.ref (a 5), .int x1, .int x2].toArray s 0 0 (wA (cX cy a) s.heap.size)) (F0 m 54 ls []) := by
    intro v1 H ls locs hv hP hS hl
    subst hv
    refine lv_iload_n hx hb dX5_waitingFor_54 rfl (lv_at hl 0 rfl) ?_
    exact W.iret (v := (lX5_waitingFor_1 q x1 x2 (((q 40 0).toInt - (0 : Int32).toInt).toNat + 1) 0 0)) hx hb hr (fun t ht hW => ⟨⟨(lX5_waitingFor_1 q x1 x2 (((q 40 0).toInt - (0 : Int32).toInt).toNat + 1) 0 0), q, rfl, ⟨(show (fX5_waitingFor q x1 x2) = (lX5_waitingFor_1 q x1 x2 (((q 40 0).toInt - (0 : Int32).toInt).toNat + 1) 0 0) by (rw [fX5_waitingFor]); try rfl).symm, rfl⟩, w_ht ht hP⟩, hS.F ht⟩) hS.2.2 dX5_waitingFor_55
  have L_1 : ∀ (n : Nat) (y3_1 : Int32) (y4_1 : Int32) (H : Heap) (ls : Array Slot) (locs : List Loc), ((q 40 0).toInt - (y4_1).toInt).toNat < n → (0 ≤ (y4_1).toInt) → lX5_waitingFor_1 q x1 x2 n y3_1 y4_1 = (lX5_waitingFor_1 q x1 x2 (((q 40 0).toInt - (0 : Int32).toInt).toNat + 1) 0 0) → va_P G vwCl ((cX cy a) q) H → va_S (wA (cX cy a) s.heap.size) s.heap H locs → lv_has ls 5 [(0, .ref (a 5)), (1, .int x1), (2, .int x2), (3, .int y3_1), (4, .int y4_1)] → W p l e ({ frames := 3, cells := 0, slots := 0, locals := 63 }) s m [.ref (a 5), .int x1, .int x2].toArray below meth c H locs 0 0 (MQ below (wQi G (cX cy a) s.heap.size (fX5_waitingFor q x1 x2) q) [.ref (a 5), .int x1, .int x2].toArray s 0 0 (wA (cX cy a) s.heap.size)) (F0 m 5 ls []) := by
    intro n
    induction n with
    | zero => intro y3_1 y4_1 H ls locs hm; exact absurd hm (Nat.not_lt_zero _)
    | succ n ih =>
      intro y3_1 y4_1 H ls locs hm_1 i0_1 he_1 hP hS hl
      refine lv_iload hx hb dX5_waitingFor_5 (lv_at hl 4 rfl) ?_
      refine lv_aload_n hx hb dX5_waitingFor_7 rfl (lv_at hl 0 rfl) ?_
      refine gfX5_30 (v := (q 40 0)) hx hb hts h_2 hown hK hP h_1 rfl dX5_waitingFor_8 ?_
      refine lv_icmp_ge (tgt := 54) hx hb dX5_waitingFor_11 (by decide) (fun c_1 => ?_) (fun c_1 => ?_)
      · have e_2 := i_le c_1
        exact K_1 y3_1 _ _ _ (Eq.trans (Eq.symm he_1) (by (rw [lX5_waitingFor_1_s, if_pos c_1]); try rfl)) hP hS (lv_sub hl [3] rfl)
      · have e_2 := i_nle c_1
        refine lv_aload_n hx hb dX5_waitingFor_14 rfl (lv_at hl 0 rfl) ?_
        refine lv_iload hx hb dX5_waitingFor_15 (lv_at hl 4 rfl) ?_
        refine w_goI (va_runV (As := [.int y4_1]) (rest := []) ⟨hx, hb, hml, hown, hts⟩ (mX5_waits l G cy a _ q y4_1 (by omega)) (cwV 1 hts gX5_waitingFor_X5_waits rfl rfl rfl (by decide +kernel) ⟨Nat.le_of_ble_eq_true rfl, Nat.le_of_ble_eq_true rfl⟩) (w_pre (xOk cy a) (va_recv hK hP (ci := 5) (q0 := 5) rfl rfl) hK hP hD hS hA hN) rfl rfl hl.1 rfl (lv_room (Nat.le_of_ble_eq_true rfl)) dX5_waitingFor_17 ⟨Nat.le_of_ble_eq_true rfl, Nat.le_of_ble_eq_true rfl⟩) hD hS hA (fun H locs hP hS => ?_)
        have e_3 := tX5_waits q y4_1
        have J_2 : ∀ (v1 : Int32) (H : Heap) (ls : Array Slot) (locs : List Loc), (fX5_waitingFor_j2 q x1 x2 y3_1 y4_1) = v1 → va_P G vwCl ((cX cy a) q) H → va_S (wA (cX cy a) s.heap.size) s.heap H locs → lv_has ls 5 [(0, .ref (a 5)), (1, .int x1), (2, .int x2), (3, .int v1), (4, .int y4_1)] → W p l e ({ frames := 3, cells := 0, slots := 0, locals := 63 }) s m [.ref (a 5), .int x1, .int x2].toArray below meth c H locs 0 0 (MQ below (wQi G (cX cy a) s.heap.size (fX5_waitingFor q x1 x2) q) [.ref (a 5), .int x1, .int x2].toArray s 0 0 (wA (cX cy a) s.heap.size)) (F0 m 48 ls []) := by
          intro v1 H ls locs hv hP hS hl
          subst hv
          refine lv_iinc (v := (y4_1 + 1)) (lv' := [(4, .int (y4_1 + 1)), (0, .ref (a 5)), (1, .int x1), (2, .int x2), (3, .int (fX5_waitingFor_j2 q x1 x2 y3_1 y4_1))]) hx hb dX5_waitingFor_48 hl (k := 4) rfl rfl (by decide) rfl (fun ls hl => ?_)
          have e_12 : (y4_1 + 1).toInt = (y4_1).toInt + 1 := i_inc (by have := i_rng y4_1; have := i_rng (q 40 0); omega)
          refine lv_goto (tgt := 5) hx hb dX5_waitingFor_51 (by decide) ?_
          exact ih (fX5_waitingFor_j2 q x1 x2 y3_1 y4_1) (y4_1 + 1) _ _ _ (by omega) (by first | omega | assumption) (Eq.trans (Eq.symm (by (rw [lX5_waitingFor_1_s, if_neg c_1]); try rfl)) he_1) hP hS (lv_sub hl [1, 2, 3, 4, 0] rfl)
        refine lv_if_eq (tgt := 48) hx hb dX5_waitingFor_20 (by decide) (fun c_4 => ?_) (fun c_4 => ?_)
        · have e_5 := i_eq c_4
          exact J_2 y3_1 _ _ _ (by (rw [fX5_waitingFor_j2, if_pos c_4]); try rfl) hP hS (lv_sub hl [0, 1, 2, 3, 4] rfl)
        · have e_5 := i_ne c_4
          refine lv_aload_n hx hb dX5_waitingFor_23 rfl (lv_at hl 0 rfl) ?_
          refine gfX5_15 hx hb hts h_2 hown hK hP h_3 dX5_waitingFor_24 ?_
          refine lv_iload hx hb dX5_waitingFor_27 (lv_at hl 4 rfl) ?_
          have v_6 : vp_in y4_1 100 := vp_in_iff.mpr (by omega)
          refine ldX_23 (f := (q 23)) hx hb hK hP rfl v_6 dX5_waitingFor_29 ?_
          refine lv_iload_n hx hb dX5_waitingFor_30 rfl (lv_at hl 1 rfl) ?_
          refine lv_icmp_ne (tgt := 48) hx hb dX5_waitingFor_31 (by decide) (fun c_7 => ?_) (fun c_7 => ?_)
          · have e_8 := i_ne c_7
            exact J_2 y3_1 _ _ _ (by (rw [fX5_waitingFor_j2, if_neg c_4, if_neg c_7]); try rfl) hP hS (lv_sub hl [0, 1, 2, 3, 4] rfl)
          · have e_8 := i_eq c_7
            refine lv_aload_n hx hb dX5_waitingFor_34 rfl (lv_at hl 0 rfl) ?_
            refine gfX5_21 hx hb hts h_2 hown hK hP h_4 dX5_waitingFor_35 ?_
            refine lv_iload hx hb dX5_waitingFor_38 (lv_at hl 4 rfl) ?_
            have v_9 : vp_in y4_1 100 := vp_in_iff.mpr (by omega)
            refine ldX_25 (f := (q 25)) hx hb hK hP rfl v_9 dX5_waitingFor_40 ?_
            refine lv_iload_n hx hb dX5_waitingFor_41 rfl (lv_at hl 2 rfl) ?_
            refine lv_icmp_ne (tgt := 48) hx hb dX5_waitingFor_42 (by decide) (fun c_10 => ?_) (fun c_10 => ?_)
            · have e_11 := i_ne c_10
              exact J_2 y3_1 _ _ _ (by (rw [fX5_waitingFor_j2, if_neg c_4, if_pos c_7, if_neg c_10]); try rfl) hP hS (lv_sub hl [0, 1, 2, 3, 4] rfl)
            · have e_11 := i_eq c_10
              refine lv_iinc (v := (y3_1 + 1)) (lv' := [(3, .int (y3_1 + 1)), (0, .ref (a 5)), (1, .int x1), (2, .int x2), (4, .int y4_1)]) hx hb dX5_waitingFor_45 hl (k := 3) rfl rfl (by decide) rfl (fun ls hl => ?_)
              exact J_2 (y3_1 + 1) _ _ _ (by (rw [fX5_waitingFor_j2, if_neg c_4, if_pos c_7, if_pos c_10]); try rfl) hP hS (lv_sub hl [1, 2, 3, 0, 4] rfl)
  exact L_1 (((q 40 0).toInt - (0 : Int32).toInt).toNat + 1) 0 0 _ _ _ (by omega) (by omega) rfl hP hS (lv_sub hl [2, 3, 4, 1, 0] rfl)
