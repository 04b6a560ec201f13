set_option maxHeartbeats 4000000 in
set_option maxRecDepth 100000 in
theorem mX7_best (l : Launch) (G : va_G) (cy : ClassId) (a : Nat → Nat) (sz : Nat) (q : wSt) (x1 : Int32) (x2 : Int32) : CtI l yX7_best wsX7_best ({ frames := 2, cells := 0, slots := 0, locals := 49 }) G cy (cM cy a) mN sz q [.ref (a 0), .int x1, .int x2] (fX7_best q x1 x2) q := by
  refine Met.ofW (cc := cX7_best) (maxL := 7) (ret := (some .int)) (by decide) rfl ?_
  intro p e s m args below meth c s₁ B hml hv
  obtain ⟨rfl, hsz, hP, hK, hD0, hN⟩ := hv
  have hx := B.exec
  have hb := B.bytes
  have hr := B.returns
  have hts := atoms_spec (ws := wsX7_best) B.pre
  have hown : s.vm.findClass RX7 = some m.cls := findClass_of_methodNamed B.named
  have hlocks := B.notSynchronized
  subst hsz
  have hD : ∀ z : wSt, va_D (wA (cM cy a) s.heap.size) ((cM cy a) z) := fun z => w_self (mOk cy a).1 hD0 z
  have hA : ∀ z : Nat, s.heap.size ≤ z → wA (cM cy a) s.heap.size z := fun _ h => Or.inr h
  have hS : va_S (wA (cM cy a) s.heap.size) s.heap s.heap [] := va_S.rf
  have hl := lv_entry ([.ref (a 0), .int x1, .int x2]) (n := 7) (Nat.le_of_ble_eq_true rfl)
  rw [lg_entry_eq]
  generalize (lg_sl ([.ref (a 0), .int x1, .int x2]) ++ List.replicate (7 - (lg_sl ([.ref (a 0), .int x1, .int x2])).length) Slot.unset).toArray = ls at hl ⊢
  have hl : lv_has ls 7 [(0, .ref (a 0)), (1, .int x1), (2, .int x2)] := hl
  have t_m1 : ((-1) : Int32).toInt = -1 := rfl
  have t_0 : (0 : Int32).toInt = 0 := rfl
  have t_1 : (1 : Int32).toInt = 1 := rfl
  have t_50 : (50 : Int32).toInt = 50 := rfl
  refine lv_iload_n hx hb dX7_best_0 rfl (lv_at hl 1 rfl) ?_
  refine lv_iload_n hx hb dX7_best_1 rfl (lv_at hl 2 rfl) ?_
  refine w_goI (va_runS (As := [.int x1, .int x2]) (rest := []) ⟨hx, hb, hml, hown, hts⟩ (mX7_isAny l G cy a _ q x1 x2) (va_cwS 2 hts gX7_best_X7_isAny rfl rfl rfl (by decide +kernel) ⟨Nat.le_of_ble_eq_true rfl, Nat.le_of_ble_eq_true rfl⟩) (w_preS (mOk cy a) hK hP hD hS hA hN) rfl rfl hl.1 rfl (lv_room (Nat.le_of_ble_eq_true rfl)) dX7_best_2 ⟨Nat.le_of_ble_eq_true rfl, Nat.le_of_ble_eq_true rfl⟩) hD hS hA (fun H locs hP hS => ?_)
  refine lv_if_ne (tgt := 10) hx hb dX7_best_5 (by decide) (fun c_1 => ?_) (fun c_1 => ?_)
  · have e_2 := i_ne c_1
    refine lv_iconst (v := 0) hx hb dX7_best_10 (by decide) ?_
    refine lv_istore_n (lv' := [(3, .int 0), (0, .ref (a 0)), (1, .int x1), (2, .int x2)]) hx hb dX7_best_11 rfl hl (by decide) rfl (fun ls hl => ?_)
    refine lv_iconst (v := 0) hx hb dX7_best_12 (by decide) ?_
    refine lv_istore (lv' := [(4, .int 0), (3, .int 0), (0, .ref (a 0)), (1, .int x1), (2, .int x2)]) hx hb dX7_best_13 hl (by decide) rfl (fun ls hl => ?_)
    refine lv_iconst (v := 0) hx hb dX7_best_15 (by decide) ?_
    refine lv_istore (lv' := [(5, .int 0), (4, .int 0), (3, .int 0), (0, .ref (a 0)), (1, .int x1), (2, .int x2)]) hx hb dX7_best_16 hl (by decide) rfl (fun ls hl => ?_)
    refine lv_iconst (v := 0) hx hb dX7_best_18 (by decide) ?_
    refine lv_istore (lv' := [(6, .int 0), (5, .int 0), (4, .int 0), (3, .int 0), (0, .ref (a 0)), (1, .int x1), (2, .int x2)]) hx hb dX7_best_19 hl (by decide) rfl (fun ls hl => ?_)
    have K_1 : ∀ (v1 : Int32) (H : Heap) (ls : Array Slot) (locs : List Loc), (lX7_best_1 q x1 x2 (((50 : Int32).toInt - (0 : Int32).toInt).toNat + 1) 0 0 0 0) = v1 → va_P G vwCl ((cM cy a) q) H → va_S (wA (cM cy a) s.heap.size) s.heap H locs → lv_has ls 7 [(3, .int v1)] → W p l e ({ frames := 2, cells := 0, slots := 0, locals := 49 }) s m [.ref (a 0), .int x1, .int x2].toArray below meth c H locs 0 0 (MQ below (wQi G (cM cy a) s.heap.size (fX7_best q x1 x2) q) [.ref (a 0), .int x1, .int x2].toArray s 0 0 (wA (cM cy a) s.heap.size)) (F0 m 74 ls []) := by
      intro v1 H ls locs hv hP hS hl
      subst hv
      refine lv_iload_n hx hb dX7_best_74 rfl (lv_at hl 0 rfl) ?_
      exact W.iret (v := (lX7_best_1 q x1 x2 (((50 : Int32).toInt - (0 : Int32).toInt).toNat + 1) 0 0 0 0)) hx hb hr (fun t ht hW => ⟨⟨(lX7_best_1 q x1 x2 (((50 : Int32).toInt - (0 : Int32).toInt).toNat + 1) 0 0 0 0), q, rfl, ⟨(show (fX7_best q x1 x2) = (lX7_best_1 q x1 x2 (((50 : Int32).toInt - (0 : Int32).toInt).toNat + 1) 0 0 0 0) by (rw [fX7_best, if_neg c_1]); try rfl).symm, rfl⟩, w_ht ht hP⟩, hS.F ht⟩) hS.2.2 dX7_best_75
    have L_1 : ∀ (n : Nat) (y3_1 : Int32) (y4_1 : Int32) (y5_1 : Int32) (y6_1 : Int32) (H : Heap) (ls : Array Slot) (locs : List Loc), ((50 : Int32).toInt - (y6_1).toInt).toNat < n → (0 ≤ (y6_1).toInt) → lX7_best_1 q x1 x2 n y3_1 y4_1 y5_1 y6_1 = (lX7_best_1 q x1 x2 (((50 : Int32).toInt - (0 : Int32).toInt).toNat + 1) 0 0 0 0) → va_P G vwCl ((cM cy a) q) H → va_S (wA (cM cy a) s.heap.size) s.heap H locs → lv_has ls 7 [(0, .ref (a 0)), (1, .int x1), (2, .int x2), (3, .int y3_1), (4, .int y4_1), (5, .int y5_1), (6, .int y6_1)] → W p l e ({ frames := 2, cells := 0, slots := 0, locals := 49 }) s m [.ref (a 0), .int x1, .int x2].toArray below meth c H locs 0 0 (MQ below (wQi G (cM cy a) s.heap.size (fX7_best q x1 x2) q) [.ref (a 0), .int x1, .int x2].toArray s 0 0 (wA (cM cy a) s.heap.size)) (F0 m 21 ls []) := by
      intro n
      induction n with
      | zero => intro y3_1 y4_1 y5_1 y6_1 H ls locs hm; exact absurd hm (Nat.not_lt_zero _)
      | succ n ih =>
        intro y3_1 y4_1 y5_1 y6_1 H ls locs hm_1 i0_1 he_1 hP hS hl
        refine lv_iload hx hb dX7_best_21 (lv_at hl 6 rfl) ?_
        refine lv_bipush (v := 50) hx hb dX7_best_23 (by decide) ?_
        refine lv_icmp_ge (tgt := 74) hx hb dX7_best_25 (by decide) (fun c_3 => ?_) (fun c_3 => ?_)
        · have e_4 := i_le c_3
          exact K_1 y3_1 _ _ _ (Eq.trans (Eq.symm he_1) (by (rw [lX7_best_1_s, if_pos c_3]); try rfl)) hP hS (lv_sub hl [3] rfl)
        · have e_4 := i_nle c_3
          refine lv_iload hx hb dX7_best_28 (lv_at hl 5 rfl) ?_
          refine lv_aload_n hx hb dX7_best_30 rfl (lv_at hl 0 rfl) ?_
          refine lv_iload_n hx hb dX7_best_31 rfl (lv_at hl 1 rfl) ?_
          refine lv_iload hx hb dX7_best_32 (lv_at hl 6 rfl) ?_
          refine lv_aload_n hx hb dX7_best_34 rfl (lv_at hl 0 rfl) ?_
          refine lv_iload_n hx hb dX7_best_35 rfl (lv_at hl 1 rfl) ?_
          refine lv_iload hx hb dX7_best_36 (lv_at hl 6 rfl) ?_
          refine w_goI (va_runV (As := [.int x1, .int y6_1]) (rest := [.int y6_1, .int x1, .ref (a 0), .int y5_1]) ⟨hx, hb, hml, hown, hts⟩ (mX7_weeksOf l G cy a _ q x1 y6_1) (cwV 2 hts gX7_best_X7_weeksOf rfl rfl rfl (by decide +kernel) ⟨Nat.le_of_ble_eq_true rfl, Nat.le_of_ble_eq_true rfl⟩) (w_pre (mOk cy a) (va_recv hK hP (ci := 7) (q0 := 0) rfl rfl) hK hP hD hS hA hN) rfl rfl hl.1 rfl (lv_room (Nat.le_of_ble_eq_true rfl)) dX7_best_38 ⟨Nat.le_of_ble_eq_true rfl, Nat.le_of_ble_eq_true rfl⟩) hD hS hA (fun H locs hP hS => ?_)
          have e_5 := tX7_weeksOf q x1 y6_1
          refine w_goI (va_runV (As := [.int x1, .int y6_1, .int (fX7_weeksOf q x1 y6_1)]) (rest := [.int y5_1]) ⟨hx, hb, hml, hown, hts⟩ (mX7_brings l G cy a _ q x1 y6_1 (fX7_weeksOf q x1 y6_1) (by omega) (by omega)) (cwV 3 hts gX7_best_X7_brings rfl rfl rfl (by decide +kernel) ⟨Nat.le_of_ble_eq_true rfl, Nat.le_of_ble_eq_true rfl⟩) (w_pre (mOk cy a) (va_recv hK hP (ci := 7) (q0 := 0) rfl rfl) hK hP hD hS hA hN) rfl rfl hl.1 rfl (lv_room (Nat.le_of_ble_eq_true rfl)) dX7_best_41 ⟨Nat.le_of_ble_eq_true rfl, Nat.le_of_ble_eq_true rfl⟩) hD hS hA (fun H locs hP hS => ?_)
          refine lv_iload_n hx hb dX7_best_44 rfl (lv_at hl 2 rfl) ?_
          refine lv_isub hx hb dX7_best_45 ?_
          refine lv_iadd hx hb dX7_best_46 ?_
          refine lv_istore (lv' := [(5, .int (y5_1 + ((fX7_brings q x1 y6_1 (fX7_weeksOf q x1 y6_1)) - x2))), (0, .ref (a 0)), (1, .int x1), (2, .int x2), (3, .int y3_1), (4, .int y4_1), (6, .int y6_1)]) hx hb dX7_best_47 hl (by decide) rfl (fun ls hl => ?_)
          refine lv_iload hx hb dX7_best_49 (lv_at hl 0 rfl) ?_
          refine lv_iload hx hb dX7_best_51 (lv_at hl 5 rfl) ?_
          have J_2 : ∀ (v1 : Int32) (v2 : Int32) (H : Heap) (ls : Array Slot) (locs : List Loc), (fX7_best_j2 q x1 x2 y3_1 y4_1 y5_1 y6_1) = (v1, v2) → va_P G vwCl ((cM cy a) q) H → va_S (wA (cM cy a) s.heap.size) s.heap H locs → lv_has ls 7 [(0, .ref (a 0)), (1, .int x1), (2, .int x2), (3, .int v1), (4, .int v2), (5, .int (y5_1 + ((fX7_brings q x1 y6_1 (fX7_weeksOf q x1 y6_1)) - x2))), (6, .int y6_1)] → W p l e ({ frames := 2, cells := 0, slots := 0, locals := 49 }) s m [.ref (a 0), .int x1, .int x2].toArray below meth c H locs 0 0 (MQ below (wQi G (cM cy a) s.heap.size (fX7_best q x1 x2) q) [.ref (a 0), .int x1, .int x2].toArray s 0 0 (wA (cM cy a) s.heap.size)) (F0 m 68 ls []) := by
            intro v1 v2 H ls locs hv hP hS hl
            obtain ⟨rfl, rfl⟩ := pr_2 hv
            refine lv_iinc (v := (y6_1 + 1)) (lv' := [(6, .int (y6_1 + 1)), (0, .ref (a 0)), (1, .int x1), (2, .int x2), (3, .int (fX7_best_j2 q x1 x2 y3_1 y4_1 y5_1 y6_1).1), (4, .int (fX7_best_j2 q x1 x2 y3_1 y4_1 y5_1 y6_1).2), (5, .int (y5_1 + ((fX7_brings q x1 y6_1 (fX7_weeksOf q x1 y6_1)) - x2)))]) hx hb dX7_best_68 hl (k := 6) rfl rfl (by decide) rfl (fun ls hl => ?_)
            have e_8 : (y6_1 + 1).toInt = (y6_1).toInt + 1 := i_inc (by have := i_rng y6_1; have := i_rng (50 : Int32); omega)
            refine lv_goto (tgt := 21) hx hb dX7_best_71 (by decide) ?_
            exact ih (fX7_best_j2 q x1 x2 y3_1 y4_1 y5_1 y6_1).1 (fX7_best_j2 q x1 x2 y3_1 y4_1 y5_1 y6_1).2 (y5_1 + ((fX7_brings q x1 y6_1 (fX7_weeksOf q x1 y6_1)) - x2)) (y6_1 + 1) _ _ _ (by omega) (by first | omega | assumption) (Eq.trans (Eq.symm (by (rw [lX7_best_1_s, if_neg c_3]); try rfl)) he_1) hP hS (lv_sub hl [1, 2, 3, 4, 5, 6, 0] rfl)
          refine lv_icmp_gt (tgt := 59) hx hb dX7_best_53 (by decide) (fun c_6 => ?_) (fun c_6 => ?_)
          · have e_7 := i_lt c_6
            refine lv_iload hx hb dX7_best_59 (lv_at hl 0 rfl) ?_
            refine lv_istore (lv' := [(4, .int (y5_1 + ((fX7_brings q x1 y6_1 (fX7_weeksOf q x1 y6_1)) - x2))), (5, .int (y5_1 + ((fX7_brings q x1 y6_1 (fX7_weeksOf q x1 y6_1)) - x2))), (0, .ref (a 0)), (1, .int x1), (2, .int x2), (3, .int y3_1), (6, .int y6_1)]) hx hb dX7_best_61 hl (by decide) rfl (fun ls hl => ?_)
            refine lv_iload hx hb dX7_best_63 (lv_at hl 6 rfl) ?_
            refine lv_iconst (v := 1) hx hb dX7_best_65 (by decide) ?_
            refine lv_iadd hx hb dX7_best_66 ?_
            refine lv_istore_n (lv' := [(3, .int (y6_1 + 1)), (4, .int (y5_1 + ((fX7_brings q x1 y6_1 (fX7_weeksOf q x1 y6_1)) - x2))), (5, .int (y5_1 + ((fX7_brings q x1 y6_1 (fX7_weeksOf q x1 y6_1)) - x2))), (0, .ref (a 0)), (1, .int x1), (2, .int x2), (6, .int y6_1)]) hx hb dX7_best_67 rfl hl (by decide) rfl (fun ls hl => ?_)
            exact J_2 (y6_1 + 1) (y5_1 + ((fX7_brings q x1 y6_1 (fX7_weeksOf q x1 y6_1)) - x2)) _ _ _ (by (rw [fX7_best_j2, if_pos c_6]); try rfl) hP hS (lv_sub hl [3, 4, 5, 0, 1, 2, 6] rfl)
          · have e_7 := i_nlt c_6
            refine lv_goto (tgt := 68) hx hb dX7_best_56 (by decide) ?_
            exact J_2 y3_1 y4_1 _ _ _ (by (rw [fX7_best_j2, if_neg c_6]); try rfl) hP hS (lv_sub hl [1, 2, 3, 4, 5, 0, 6] rfl)
    exact L_1 (((50 : Int32).toInt - (0 : Int32).toInt).toNat + 1) 0 0 0 0 _ _ _ (by omega) (by omega) rfl hP hS (lv_sub hl [4, 5, 6, 3, 2, 1, 0] rfl)
  · have e_2 := i_eq c_1
    refine lv_iconst (v := (-1)) hx hb dX7_best_8 (by decide) ?_
    exact W.iret (v := (-1)) hx hb hr (fun t ht hW => ⟨⟨(-1), q, rfl, ⟨(show (fX7_best q x1 x2) = (-1) by (rw [fX7_best, if_pos c_1]); try rfl).symm, rfl⟩, w_ht ht hP⟩, hS.F ht⟩) hS.2.2 dX7_best_9
