set_option maxHeartbeats 4000000 in
set_option maxRecDepth 100000 in
theorem mX5_openOf (l : Launch) (G : va_G) (cy : ClassId) (a : Nat → Nat) (sz : Nat) (q : wSt) (x1 : Int32) (g0 : (q 40 0).toInt ≤ 100) : CtI l yX5_openOf wsX5_openOf ({ frames := 0, cells := 0, slots := 0, locals := 0 }) G cy (cX cy a) xN sz q [.ref (a 5), .int x1] (fX5_openOf q x1) q := by
  refine Met.ofW (cc := cX5_openOf) (maxL := 4) (ret := (some .int)) (by decide) rfl ?_
  intro p e s m args below meth c s₁ B hml hv
  obtain ⟨rfl, hsz, hP, hK, hD0, hN⟩ := hv
  have hx := B.exec
  have hb := B.bytes
  have hr := B.returns
  have hts := atoms_spec (ws := wsX5_openOf) B.pre
  have hown : s.vm.findClass RX5 = some m.cls := findClass_of_methodNamed B.named
  have hlocks := B.notSynchronized
  subst hsz
  have hD : ∀ z : wSt, va_D (wA (cX cy a) s.heap.size) ((cX cy a) z) := fun z => w_self (xOk cy a).1 hD0 z
  have hA : ∀ z : Nat, s.heap.size ≤ z → wA (cX cy a) s.heap.size z := fun _ h => Or.inr h
  have hS : va_S (wA (cX cy a) s.heap.size) s.heap s.heap [] := va_S.rf
  have hl := lv_entry ([.ref (a 5), .int x1]) (n := 4) (Nat.le_of_ble_eq_true rfl)
  rw [lg_entry_eq]
  generalize (lg_sl ([.ref (a 5), .int x1]) ++ List.replicate (4 - (lg_sl ([.ref (a 5), .int x1])).length) Slot.unset).toArray = ls at hl ⊢
  have hl : lv_has ls 4 [(0, .ref (a 5)), (1, .int x1)] := hl
  have h_1 := hts (.fieldLink RX5 30 RX5 "came" "I") (by decide +kernel)
  have h_2 := (show ∀ w ∈ u_ws RX5 TX5 7, w ∈ wsX5_openOf by decide +kernel)
  have h_3 := hts (.fieldLink RX5 18 RX5 "state" "[I") (by decide +kernel)
  have h_4 := hts (.fieldLink RX5 9 RX5 "reader" "[I") (by decide +kernel)
  have t_0 : (0 : Int32).toInt = 0 := rfl
  have t_1 : (1 : Int32).toInt = 1 := rfl
  refine lv_iconst (v := 0) hx hb dX5_openOf_0 (by decide) ?_
  refine lv_istore_n (lv' := [(2, .int 0), (0, .ref (a 5)), (1, .int x1)]) hx hb dX5_openOf_1 rfl hl (by decide) rfl (fun ls hl => ?_)
  refine lv_iconst (v := 0) hx hb dX5_openOf_2 (by decide) ?_
  refine lv_istore_n (lv' := [(3, .int 0), (2, .int 0), (0, .ref (a 5)), (1, .int x1)]) hx hb dX5_openOf_3 rfl hl (by decide) rfl (fun ls hl => ?_)
  have K_1 : ∀ (v1 : Int32) (H : Heap) (ls : Array Slot) (locs : List Loc), (lX5_openOf_1 q x1 (((q 40 0).toInt - (0 : Int32).toInt).toNat + 1) 0 0) = v1 → va_P G vwCl ((cX cy a) q) H → va_S (wA (cX cy a) s.heap.size) s.heap H locs → lv_has ls 4 [(2, .int v1)] → W p l e ({ frames := 0, cells := 0, slots := 0, locals := 0 }) s m [.ref (a 5), .int x1].toArray below meth c H locs 0 0 (MQ below (wQi G (cX cy a) s.heap.size (fX5_openOf q x1) q) [.ref (a 5), .int x1].toArray s 0 0 (wA (cX cy a) s.heap.size)) (F0 m 40 ls []) := by
    intro v1 H ls locs hv hP hS hl
    subst hv
    refine lv_iload_n hx hb dX5_openOf_40 rfl (lv_at hl 0 rfl) ?_
    exact W.iret (v := (lX5_openOf_1 q x1 (((q 40 0).toInt - (0 : Int32).toInt).toNat + 1) 0 0)) hx hb hr (fun t ht hW => ⟨⟨(lX5_openOf_1 q x1 (((q 40 0).toInt - (0 : Int32).toInt).toNat + 1) 0 0), q, rfl, ⟨(show (fX5_openOf q x1) = (lX5_openOf_1 q x1 (((q 40 0).toInt - (0 : Int32).toInt).toNat + 1) 0 0) by (rw [fX5_openOf]); try rfl).symm, rfl⟩, w_ht ht hP⟩, hS.F ht⟩) hS.2.2 dX5_openOf_41
  have L_1 : ∀ (n : Nat) (y2_1 : Int32) (y3_1 : Int32) (H : Heap) (ls : Array Slot) (locs : List Loc), ((q 40 0).toInt - (y3_1).toInt).toNat < n → (0 ≤ (y3_1).toInt) → lX5_openOf_1 q x1 n y2_1 y3_1 = (lX5_openOf_1 q x1 (((q 40 0).toInt - (0 : Int32).toInt).toNat + 1) 0 0) → va_P G vwCl ((cX cy a) q) H → va_S (wA (cX cy a) s.heap.size) s.heap H locs → lv_has ls 4 [(0, .ref (a 5)), (1, .int x1), (2, .int y2_1), (3, .int y3_1)] → W p l e ({ frames := 0, cells := 0, slots := 0, locals := 0 }) s m [.ref (a 5), .int x1].toArray below meth c H locs 0 0 (MQ below (wQi G (cX cy a) s.heap.size (fX5_openOf q x1) q) [.ref (a 5), .int x1].toArray s 0 0 (wA (cX cy a) s.heap.size)) (F0 m 4 ls []) := by
    intro n
    induction n with
    | zero => intro y2_1 y3_1 H ls locs hm; exact absurd hm (Nat.not_lt_zero _)
    | succ n ih =>
      intro y2_1 y3_1 H ls locs hm_1 i0_1 he_1 hP hS hl
      refine lv_iload_n hx hb dX5_openOf_4 rfl (lv_at hl 3 rfl) ?_
      refine lv_aload_n hx hb dX5_openOf_5 rfl (lv_at hl 0 rfl) ?_
      refine gfX5_30 (v := (q 40 0)) hx hb hts h_2 hown hK hP h_1 rfl dX5_openOf_6 ?_
      refine lv_icmp_ge (tgt := 40) hx hb dX5_openOf_9 (by decide) (fun c_1 => ?_) (fun c_1 => ?_)
      · have e_2 := i_le c_1
        exact K_1 y2_1 _ _ _ (Eq.trans (Eq.symm he_1) (by (rw [lX5_openOf_1_s, if_pos c_1]); try rfl)) hP hS (lv_sub hl [2] rfl)
      · have e_2 := i_nle c_1
        refine lv_aload_n hx hb dX5_openOf_12 rfl (lv_at hl 0 rfl) ?_
        refine gfX5_18 hx hb hts h_2 hown hK hP h_3 dX5_openOf_13 ?_
        refine lv_iload_n hx hb dX5_openOf_16 rfl (lv_at hl 3 rfl) ?_
        have v_3 : vp_in y3_1 100 := vp_in_iff.mpr (by omega)
        refine ldX_24 (f := (q 24)) hx hb hK hP rfl v_3 dX5_openOf_17 ?_
        have J_2 : ∀ (v1 : Int32) (H : Heap) (ls : Array Slot) (locs : List Loc), (fX5_openOf_j2 q x1 y2_1 y3_1) = v1 → va_P G vwCl ((cX cy a) q) H → va_S (wA (cX cy a) s.heap.size) s.heap H locs → lv_has ls 4 [(0, .ref (a 5)), (1, .int x1), (2, .int v1), (3, .int y3_1)] → W p l e ({ frames := 0, cells := 0, slots := 0, locals := 0 }) s m [.ref (a 5), .int x1].toArray below meth c H locs 0 0 (MQ below (wQi G (cX cy a) s.heap.size (fX5_openOf q x1) q) [.ref (a 5), .int x1].toArray s 0 0 (wA (cX cy a) s.heap.size)) (F0 m 34 ls []) := by
          intro v1 H ls locs hv hP hS hl
          subst hv
          refine lv_iinc (v := (y3_1 + 1)) (lv' := [(3, .int (y3_1 + 1)), (0, .ref (a 5)), (1, .int x1), (2, .int (fX5_openOf_j2 q x1 y2_1 y3_1))]) hx hb dX5_openOf_34 hl (k := 3) rfl rfl (by decide) rfl (fun ls hl => ?_)
          have e_9 : (y3_1 + 1).toInt = (y3_1).toInt + 1 := i_inc (by have := i_rng y3_1; have := i_rng (q 40 0); omega)
          refine lv_goto (tgt := 4) hx hb dX5_openOf_37 (by decide) ?_
          exact ih (fX5_openOf_j2 q x1 y2_1 y3_1) (y3_1 + 1) _ _ _ (by omega) (by first | omega | assumption) (Eq.trans (Eq.symm (by (rw [lX5_openOf_1_s, if_neg c_1]); try rfl)) he_1) hP hS (lv_sub hl [1, 2, 3, 0] rfl)
        refine lv_if_ne (tgt := 34) hx hb dX5_openOf_18 (by decide) (fun c_4 => ?_) (fun c_4 => ?_)
        · have e_5 := i_ne c_4
          exact J_2 y2_1 _ _ _ (by (rw [fX5_openOf_j2, if_neg c_4]); try rfl) hP hS (lv_sub hl [0, 1, 2, 3] rfl)
        · have e_5 := i_eq c_4
          refine lv_aload_n hx hb dX5_openOf_21 rfl (lv_at hl 0 rfl) ?_
          refine gfX5_9 hx hb hts h_2 hown hK hP h_4 dX5_openOf_22 ?_
          refine lv_iload_n hx hb dX5_openOf_25 rfl (lv_at hl 3 rfl) ?_
          have v_6 : vp_in y3_1 100 := vp_in_iff.mpr (by omega)
          refine ldX_22 (f := (q 22)) hx hb hK hP rfl v_6 dX5_openOf_26 ?_
          refine lv_iload_n hx hb dX5_openOf_27 rfl (lv_at hl 1 rfl) ?_
          refine lv_icmp_ne (tgt := 34) hx hb dX5_openOf_28 (by decide) (fun c_7 => ?_) (fun c_7 => ?_)
          · have e_8 := i_ne c_7
            exact J_2 y2_1 _ _ _ (by (rw [fX5_openOf_j2, if_pos c_4, if_neg c_7]); try rfl) hP hS (lv_sub hl [0, 1, 2, 3] rfl)
          · have e_8 := i_eq c_7
            refine lv_iinc (v := (y2_1 + 1)) (lv' := [(2, .int (y2_1 + 1)), (0, .ref (a 5)), (1, .int x1), (3, .int y3_1)]) hx hb dX5_openOf_31 hl (k := 2) rfl rfl (by decide) rfl (fun ls hl => ?_)
            exact J_2 (y2_1 + 1) _ _ _ (by (rw [fX5_openOf_j2, if_pos c_4, if_pos c_7]); try rfl) hP hS (lv_sub hl [1, 2, 0, 3] rfl)
  exact L_1 (((q 40 0).toInt - (0 : Int32).toInt).toNat + 1) 0 0 _ _ _ (by omega) (by omega) rfl hP hS (lv_sub hl [2, 3, 1, 0] rfl)
