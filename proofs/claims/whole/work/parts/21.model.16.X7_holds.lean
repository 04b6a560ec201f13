set_option maxHeartbeats 4000000 in
set_option maxRecDepth 100000 in
theorem mX7_holds (l : Launch) (G : va_G) (cy : ClassId) (a : Nat → Nat) (sz : Nat) (q : wSt) (x1 : Int32) (x2 : Int32) (g0 : (q 36 0).toInt ≤ 200) : CtI l yX7_holds wsX7_holds ({ frames := 0, cells := 0, slots := 0, locals := 0 }) G cy (cM cy a) mN sz q [.ref (a 0), .int x1, .int x2] (fX7_holds q x1 x2) q := by
  refine Met.ofW (cc := cX7_holds) (maxL := 5) (ret := (some .int)) (by decide) rfl ?_
  intro p e s m args below meth c s₁ B hml hv
  obtain ⟨rfl, hsz, hP, hK, hD0, hN⟩ := hv
  have hx := B.exec
  have hb := B.bytes
  have hr := B.returns
  have hts := atoms_spec (ws := wsX7_holds) B.pre
  have hown : s.vm.findClass RX7 = some m.cls := findClass_of_methodNamed B.named
  have hlocks := B.notSynchronized
  subst hsz
  have hD : ∀ z : wSt, va_D (wA (cM cy a) s.heap.size) ((cM cy a) z) := fun z => w_self (mOk cy a).1 hD0 z
  have hA : ∀ z : Nat, s.heap.size ≤ z → wA (cM cy a) s.heap.size z := fun _ h => Or.inr h
  have hS : va_S (wA (cM cy a) s.heap.size) s.heap s.heap [] := va_S.rf
  have hl := lv_entry ([.ref (a 0), .int x1, .int x2]) (n := 5) (Nat.le_of_ble_eq_true rfl)
  rw [lg_entry_eq]
  generalize (lg_sl ([.ref (a 0), .int x1, .int x2]) ++ List.replicate (5 - (lg_sl ([.ref (a 0), .int x1, .int x2])).length) Slot.unset).toArray = ls at hl ⊢
  have hl : lv_has ls 5 [(0, .ref (a 0)), (1, .int x1), (2, .int x2)] := hl
  have h_1 := hts (.fieldLink RX7 99 RX7 "copies" "I") (by decide +kernel)
  have h_2 := (show ∀ w ∈ u_ws RX7 TX7 35, w ∈ wsX7_holds by decide +kernel)
  have h_3 := hts (.fieldLink RX7 25 RX7 "readerOf" "[I") (by decide +kernel)
  have h_4 := hts (.fieldLink RX7 22 RX7 "state" "[I") (by decide +kernel)
  have t_0 : (0 : Int32).toInt = 0 := rfl
  have t_1 : (1 : Int32).toInt = 1 := rfl
  refine lv_iconst (v := 0) hx hb dX7_holds_0 (by decide) ?_
  refine lv_istore_n (lv' := [(3, .int 0), (0, .ref (a 0)), (1, .int x1), (2, .int x2)]) hx hb dX7_holds_1 rfl hl (by decide) rfl (fun ls hl => ?_)
  refine lv_iconst (v := 0) hx hb dX7_holds_2 (by decide) ?_
  refine lv_istore (lv' := [(4, .int 0), (3, .int 0), (0, .ref (a 0)), (1, .int x1), (2, .int x2)]) hx hb dX7_holds_3 hl (by decide) rfl (fun ls hl => ?_)
  have K_1 : ∀ (v1 : Int32) (H : Heap) (ls : Array Slot) (locs : List Loc), (lX7_holds_1 q x1 x2 (((q 36 0).toInt - (0 : Int32).toInt).toNat + 1) 0 0) = v1 → va_P G vwCl ((cM cy a) q) H → va_S (wA (cM cy a) s.heap.size) s.heap H locs → lv_has ls 5 [(3, .int v1)] → W p l e ({ frames := 0, cells := 0, slots := 0, locals := 0 }) s m [.ref (a 0), .int x1, .int x2].toArray below meth c H locs 0 0 (MQ below (wQi G (cM cy a) s.heap.size (fX7_holds q x1 x2) q) [.ref (a 0), .int x1, .int x2].toArray s 0 0 (wA (cM cy a) s.heap.size)) (F0 m 50 ls []) := by
    intro v1 H ls locs hv hP hS hl
    subst hv
    refine lv_iload_n hx hb dX7_holds_50 rfl (lv_at hl 0 rfl) ?_
    exact W.iret (v := (lX7_holds_1 q x1 x2 (((q 36 0).toInt - (0 : Int32).toInt).toNat + 1) 0 0)) hx hb hr (fun t ht hW => ⟨⟨(lX7_holds_1 q x1 x2 (((q 36 0).toInt - (0 : Int32).toInt).toNat + 1) 0 0), q, rfl, ⟨(show (fX7_holds q x1 x2) = (lX7_holds_1 q x1 x2 (((q 36 0).toInt - (0 : Int32).toInt).toNat + 1) 0 0) by (rw [fX7_holds]); try rfl).symm, rfl⟩, w_ht ht hP⟩, hS.F ht⟩) hS.2.2 dX7_holds_51
  have L_1 : ∀ (n : Nat) (y3_1 : Int32) (y4_1 : Int32) (H : Heap) (ls : Array Slot) (locs : List Loc), ((q 36 0).toInt - (y4_1).toInt).toNat < n → (0 ≤ (y4_1).toInt) → lX7_holds_1 q x1 x2 n y3_1 y4_1 = (lX7_holds_1 q x1 x2 (((q 36 0).toInt - (0 : Int32).toInt).toNat + 1) 0 0) → va_P G vwCl ((cM cy a) q) H → va_S (wA (cM cy a) s.heap.size) s.heap H locs → lv_has ls 5 [(0, .ref (a 0)), (1, .int x1), (2, .int x2), (3, .int y3_1), (4, .int y4_1)] → W p l e ({ frames := 0, cells := 0, slots := 0, locals := 0 }) s m [.ref (a 0), .int x1, .int x2].toArray below meth c H locs 0 0 (MQ below (wQi G (cM cy a) s.heap.size (fX7_holds q x1 x2) q) [.ref (a 0), .int x1, .int x2].toArray s 0 0 (wA (cM cy a) s.heap.size)) (F0 m 5 ls []) := by
    intro n
    induction n with
    | zero => intro y3_1 y4_1 H ls locs hm; exact absurd hm (Nat.not_lt_zero _)
    | succ n ih =>
      intro y3_1 y4_1 H ls locs hm_1 i0_1 he_1 hP hS hl
      refine lv_iload hx hb dX7_holds_5 (lv_at hl 4 rfl) ?_
      refine lv_aload_n hx hb dX7_holds_7 rfl (lv_at hl 0 rfl) ?_
      refine gfX7_99 (v := (q 36 0)) hx hb hts h_2 hown hK hP h_1 rfl dX7_holds_8 ?_
      refine lv_icmp_ge (tgt := 50) hx hb dX7_holds_11 (by decide) (fun c_1 => ?_) (fun c_1 => ?_)
      · have e_2 := i_le c_1
        exact K_1 y3_1 _ _ _ (Eq.trans (Eq.symm he_1) (by (rw [lX7_holds_1_s, if_pos c_1]); try rfl)) hP hS (lv_sub hl [3] rfl)
      · have e_2 := i_nle c_1
        refine lv_iload_n hx hb dX7_holds_14 rfl (lv_at hl 3 rfl) ?_
        refine lv_aload_n hx hb dX7_holds_15 rfl (lv_at hl 0 rfl) ?_
        refine gfX7_25 hx hb hts h_2 hown hK hP h_3 dX7_holds_16 ?_
        refine lv_iload hx hb dX7_holds_19 (lv_at hl 4 rfl) ?_
        have v_3 : vp_in y4_1 200 := vp_in_iff.mpr (by omega)
        refine ldM_10 (f := (q 10)) hx hb hK hP rfl v_3 dX7_holds_21 ?_
        refine lv_iload_n hx hb dX7_holds_22 rfl (lv_at hl 1 rfl) ?_
        have J_2 : ∀ (v1 : Int32) (H : Heap) (ls : Array Slot) (locs : List Loc), (fX7_holds_j2 q x1 x2 y3_1 y4_1) = v1 → ((v1).toInt = 0 ∨ (v1).toInt = 1) → va_P G vwCl ((cM cy a) q) H → va_S (wA (cM cy a) s.heap.size) s.heap H locs → lv_has ls 5 [(0, .ref (a 0)), (1, .int x1), (2, .int x2), (4, .int y4_1)] → W p l e ({ frames := 0, cells := 0, slots := 0, locals := 0 }) s m [.ref (a 0), .int x1, .int x2].toArray below meth c H locs 0 0 (MQ below (wQi G (cM cy a) s.heap.size (fX7_holds q x1 x2) q) [.ref (a 0), .int x1, .int x2].toArray s 0 0 (wA (cM cy a) s.heap.size)) (F0 m 42 ls [.int v1, .int y3_1]) := by
          intro v1 H ls locs hv bl_2_0 hP hS hl
          subst hv
          refine lv_iadd hx hb dX7_holds_42 ?_
          refine lv_istore_n (lv' := [(3, .int (y3_1 + (fX7_holds_j2 q x1 x2 y3_1 y4_1))), (0, .ref (a 0)), (1, .int x1), (2, .int x2), (4, .int y4_1)]) hx hb dX7_holds_43 rfl hl (by decide) rfl (fun ls hl => ?_)
          refine lv_iinc (v := (y4_1 + 1)) (lv' := [(4, .int (y4_1 + 1)), (3, .int (y3_1 + (fX7_holds_j2 q x1 x2 y3_1 y4_1))), (0, .ref (a 0)), (1, .int x1), (2, .int x2)]) hx hb dX7_holds_44 hl (k := 4) rfl rfl (by decide) rfl (fun ls hl => ?_)
          have e_9 : (y4_1 + 1).toInt = (y4_1).toInt + 1 := i_inc (by have := i_rng y4_1; have := i_rng (q 36 0); omega)
          refine lv_goto (tgt := 5) hx hb dX7_holds_47 (by decide) ?_
          exact ih (y3_1 + (fX7_holds_j2 q x1 x2 y3_1 y4_1)) (y4_1 + 1) _ _ _ (by omega) (by first | omega | assumption) (Eq.trans (Eq.symm (by (rw [lX7_holds_1_s, if_neg c_1]); try rfl)) he_1) hP hS (lv_sub hl [2, 3, 4, 1, 0] rfl)
        refine lv_icmp_ne (tgt := 41) hx hb dX7_holds_23 (by decide) (fun c_4 => ?_) (fun c_4 => ?_)
        · have e_5 := i_ne c_4
          refine lv_iconst (v := 0) hx hb dX7_holds_41 (by decide) ?_
          exact J_2 0 _ _ _ (by (rw [fX7_holds_j2, if_neg c_4]); try rfl) (show (0 : Int32).toInt = 0 ∨ (0 : Int32).toInt = 1 by omega) hP hS (lv_sub hl [0, 1, 2, 4] rfl)
        · have e_5 := i_eq c_4
          refine lv_aload_n hx hb dX7_holds_26 rfl (lv_at hl 0 rfl) ?_
          refine gfX7_22 hx hb hts h_2 hown hK hP h_4 dX7_holds_27 ?_
          refine lv_iload hx hb dX7_holds_30 (lv_at hl 4 rfl) ?_
          have v_6 : vp_in y4_1 200 := vp_in_iff.mpr (by omega)
          refine ldM_6 (f := (q 6)) hx hb hK hP rfl v_6 dX7_holds_32 ?_
          refine lv_iload_n hx hb dX7_holds_33 rfl (lv_at hl 2 rfl) ?_
          refine lv_icmp_ne (tgt := 41) hx hb dX7_holds_34 (by decide) (fun c_7 => ?_) (fun c_7 => ?_)
          · have e_8 := i_ne c_7
            refine lv_iconst (v := 0) hx hb dX7_holds_41 (by decide) ?_
            exact J_2 0 _ _ _ (by (rw [fX7_holds_j2, if_pos c_4, if_neg c_7]); try rfl) (show (0 : Int32).toInt = 0 ∨ (0 : Int32).toInt = 1 by omega) hP hS (lv_sub hl [0, 1, 2, 4] rfl)
          · have e_8 := i_eq c_7
            refine lv_iconst (v := 1) hx hb dX7_holds_37 (by decide) ?_
            refine lv_goto (tgt := 42) hx hb dX7_holds_38 (by decide) ?_
            exact J_2 1 _ _ _ (by (rw [fX7_holds_j2, if_pos c_4, if_pos c_7]); try rfl) (show (1 : Int32).toInt = 0 ∨ (1 : Int32).toInt = 1 by omega) hP hS (lv_sub hl [0, 1, 2, 4] rfl)
  exact L_1 (((q 36 0).toInt - (0 : Int32).toInt).toNat + 1) 0 0 _ _ _ (by omega) (by omega) rfl hP hS (lv_sub hl [2, 3, 4, 1, 0] rfl)
