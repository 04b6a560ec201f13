set_option maxHeartbeats 4000000 in
set_option maxRecDepth 100000 in
theorem mX7_brings (l : Launch) (G : va_G) (cy : ClassId) (a : Nat → Nat) (sz : Nat) (q : wSt) (x1 : Int32) (x2 : Int32) (x3 : Int32) (g0 : 0 ≤ (x3).toInt) (g1 : (x3).toInt < 21) : CtI l yX7_brings wsX7_brings ({ frames := 0, cells := 0, slots := 0, locals := 0 }) G cy (cM cy a) mN sz q [.ref (a 0), .int x1, .int x2, .int x3] (fX7_brings q x1 x2 x3) q := by
  refine Met.ofW (cc := cX7_brings) (maxL := 6) (ret := (some .int)) (by decide) rfl ?_
  intro p e s m args below meth c s₁ B hml hv
  obtain ⟨rfl, hsz, hP, hK, hD0, hN⟩ := hv
  have hx := B.exec
  have hb := B.bytes
  have hr := B.returns
  have hts := atoms_spec (ws := wsX7_brings) B.pre
  have hown : s.vm.findClass RX7 = some m.cls := findClass_of_methodNamed B.named
  have hlocks := B.notSynchronized
  subst hsz
  have hD : ∀ z : wSt, va_D (wA (cM cy a) s.heap.size) ((cM cy a) z) := fun z => w_self (mOk cy a).1 hD0 z
  have hA : ∀ z : Nat, s.heap.size ≤ z → wA (cM cy a) s.heap.size z := fun _ h => Or.inr h
  have hS : va_S (wA (cM cy a) s.heap.size) s.heap s.heap [] := va_S.rf
  have hl := lv_entry ([.ref (a 0), .int x1, .int x2, .int x3]) (n := 6) (Nat.le_of_ble_eq_true rfl)
  rw [lg_entry_eq]
  generalize (lg_sl ([.ref (a 0), .int x1, .int x2, .int x3]) ++ List.replicate (6 - (lg_sl ([.ref (a 0), .int x1, .int x2, .int x3])).length) Slot.unset).toArray = ls at hl ⊢
  have hl : lv_has ls 6 [(0, .ref (a 0)), (1, .int x1), (2, .int x2), (3, .int x3)] := hl
  have h_1 := hts (.fieldLink RX7 85 RX7 "sale" "[I") (by decide +kernel)
  have h_2 := (show ∀ w ∈ u_ws RX7 TX7 35, w ∈ wsX7_brings by decide +kernel)
  have h_3 := hts (.fieldLink RX7 82 RX7 "wanted" "[I") (by decide +kernel)
  have t_0 : (0 : Int32).toInt = 0 := rfl
  have t_1 : (1 : Int32).toInt = 1 := rfl
  refine lv_aload_n hx hb dX7_brings_0 rfl (lv_at hl 0 rfl) ?_
  refine gfX7_85 hx hb hts h_2 hown hK hP h_1 dX7_brings_1 ?_
  refine lv_iload_n hx hb dX7_brings_4 rfl (lv_at hl 3 rfl) ?_
  have v_1 : vp_in x3 21 := vp_in_iff.mpr (by omega)
  refine ldM_29 (f := (q 29)) hx hb hK hP rfl v_1 dX7_brings_5 ?_
  refine lv_istore (lv' := [(4, .int (q 29 (x3).toNatClampNeg)), (0, .ref (a 0)), (1, .int x1), (2, .int x2), (3, .int x3)]) hx hb dX7_brings_6 hl (by decide) rfl (fun ls hl => ?_)
  refine lv_iconst (v := 0) hx hb dX7_brings_8 (by decide) ?_
  refine lv_istore (lv' := [(5, .int 0), (4, .int (q 29 (x3).toNatClampNeg)), (0, .ref (a 0)), (1, .int x1), (2, .int x2), (3, .int x3)]) hx hb dX7_brings_9 hl (by decide) rfl (fun ls hl => ?_)
  have K_1 : ∀ (v1 : Int32) (H : Heap) (ls : Array Slot) (locs : List Loc), (lX7_brings_1 q x1 x2 x3 (((x3).toInt - (0 : Int32).toInt).toNat + 1) (q 29 (x3).toNatClampNeg) 0) = v1 → va_P G vwCl ((cM cy a) q) H → va_S (wA (cM cy a) s.heap.size) s.heap H locs → lv_has ls 6 [(4, .int v1)] → W p l e ({ frames := 0, cells := 0, slots := 0, locals := 0 }) s m [.ref (a 0), .int x1, .int x2, .int x3].toArray below meth c H locs 0 0 (MQ below (wQi G (cM cy a) s.heap.size (fX7_brings q x1 x2 x3) q) [.ref (a 0), .int x1, .int x2, .int x3].toArray s 0 0 (wA (cM cy a) s.heap.size)) (F0 m 44 ls []) := by
    intro v1 H ls locs hv hP hS hl
    subst hv
    refine lv_iload hx hb dX7_brings_44 (lv_at hl 0 rfl) ?_
    exact W.iret (v := (lX7_brings_1 q x1 x2 x3 (((x3).toInt - (0 : Int32).toInt).toNat + 1) (q 29 (x3).toNatClampNeg) 0)) hx hb hr (fun t ht hW => ⟨⟨(lX7_brings_1 q x1 x2 x3 (((x3).toInt - (0 : Int32).toInt).toNat + 1) (q 29 (x3).toNatClampNeg) 0), q, rfl, ⟨(show (fX7_brings q x1 x2 x3) = (lX7_brings_1 q x1 x2 x3 (((x3).toInt - (0 : Int32).toInt).toNat + 1) (q 29 (x3).toNatClampNeg) 0) by (rw [fX7_brings]); try rfl).symm, rfl⟩, w_ht ht hP⟩, hS.F ht⟩) hS.2.2 dX7_brings_46
  have L_1 : ∀ (n : Nat) (y4_1 : Int32) (y5_1 : Int32) (H : Heap) (ls : Array Slot) (locs : List Loc), ((x3).toInt - (y5_1).toInt).toNat < n → (0 ≤ (y5_1).toInt) → lX7_brings_1 q x1 x2 x3 n y4_1 y5_1 = (lX7_brings_1 q x1 x2 x3 (((x3).toInt - (0 : Int32).toInt).toNat + 1) (q 29 (x3).toNatClampNeg) 0) → va_P G vwCl ((cM cy a) q) H → va_S (wA (cM cy a) s.heap.size) s.heap H locs → lv_has ls 6 [(0, .ref (a 0)), (1, .int x1), (2, .int x2), (3, .int x3), (4, .int y4_1), (5, .int y5_1)] → W p l e ({ frames := 0, cells := 0, slots := 0, locals := 0 }) s m [.ref (a 0), .int x1, .int x2, .int x3].toArray below meth c H locs 0 0 (MQ below (wQi G (cM cy a) s.heap.size (fX7_brings q x1 x2 x3) q) [.ref (a 0), .int x1, .int x2, .int x3].toArray s 0 0 (wA (cM cy a) s.heap.size)) (F0 m 11 ls []) := by
    intro n
    induction n with
    | zero => intro y4_1 y5_1 H ls locs hm; exact absurd hm (Nat.not_lt_zero _)
    | succ n ih =>
      intro y4_1 y5_1 H ls locs hm_1 i0_1 he_1 hP hS hl
      refine lv_iload hx hb dX7_brings_11 (lv_at hl 5 rfl) ?_
      refine lv_iload_n hx hb dX7_brings_13 rfl (lv_at hl 3 rfl) ?_
      refine lv_icmp_ge (tgt := 44) hx hb dX7_brings_14 (by decide) (fun c_2 => ?_) (fun c_2 => ?_)
      · have e_3 := i_le c_2
        exact K_1 y4_1 _ _ _ (Eq.trans (Eq.symm he_1) (by (rw [lX7_brings_1_s, if_pos c_2]); try rfl)) hP hS (lv_sub hl [4] rfl)
      · have e_3 := i_nle c_2
        refine lv_iload hx hb dX7_brings_17 (lv_at hl 4 rfl) ?_
        refine lv_aload_n hx hb dX7_brings_19 rfl (lv_at hl 0 rfl) ?_
        refine gfX7_82 hx hb hts h_2 hown hK hP h_3 dX7_brings_20 ?_
        refine lv_iload hx hb dX7_brings_23 (lv_at hl 5 rfl) ?_
        have v_4 : vp_in y5_1 21 := vp_in_iff.mpr (by omega)
        refine ldM_28 (f := (q 28)) hx hb hK hP rfl v_4 dX7_brings_25 ?_
        refine lv_iload_n hx hb dX7_brings_26 rfl (lv_at hl 2 rfl) ?_
        have J_2 : ∀ (v1 : Int32) (H : Heap) (ls : Array Slot) (locs : List Loc), (fX7_brings_j2 q x1 x2 x3 y4_1 y5_1) = v1 → va_P G vwCl ((cM cy a) q) H → va_S (wA (cM cy a) s.heap.size) s.heap H locs → lv_has ls 6 [(0, .ref (a 0)), (1, .int x1), (2, .int x2), (3, .int x3), (5, .int y5_1)] → W p l e ({ frames := 0, cells := 0, slots := 0, locals := 0 }) s m [.ref (a 0), .int x1, .int x2, .int x3].toArray below meth c H locs 0 0 (MQ below (wQi G (cM cy a) s.heap.size (fX7_brings q x1 x2 x3) q) [.ref (a 0), .int x1, .int x2, .int x3].toArray s 0 0 (wA (cM cy a) s.heap.size)) (F0 m 35 ls [.int v1, .int y4_1]) := by
          intro v1 H ls locs hv hP hS hl
          subst hv
          refine lv_iadd hx hb dX7_brings_35 ?_
          refine lv_istore (lv' := [(4, .int (y4_1 + (fX7_brings_j2 q x1 x2 x3 y4_1 y5_1))), (0, .ref (a 0)), (1, .int x1), (2, .int x2), (3, .int x3), (5, .int y5_1)]) hx hb dX7_brings_36 hl (by decide) rfl (fun ls hl => ?_)
          refine lv_iinc (v := (y5_1 + 1)) (lv' := [(5, .int (y5_1 + 1)), (4, .int (y4_1 + (fX7_brings_j2 q x1 x2 x3 y4_1 y5_1))), (0, .ref (a 0)), (1, .int x1), (2, .int x2), (3, .int x3)]) hx hb dX7_brings_38 hl (k := 5) rfl rfl (by decide) rfl (fun ls hl => ?_)
          have e_7 : (y5_1 + 1).toInt = (y5_1).toInt + 1 := i_inc (by have := i_rng y5_1; have := i_rng (x3); omega)
          refine lv_goto (tgt := 11) hx hb dX7_brings_41 (by decide) ?_
          exact ih (y4_1 + (fX7_brings_j2 q x1 x2 x3 y4_1 y5_1)) (y5_1 + 1) _ _ _ (by omega) (by first | omega | assumption) (Eq.trans (Eq.symm (by (rw [lX7_brings_1_s, if_neg c_2]); try rfl)) he_1) hP hS (lv_sub hl [2, 3, 4, 5, 1, 0] rfl)
        refine lv_icmp_le (tgt := 34) hx hb dX7_brings_27 (by decide) (fun c_5 => ?_) (fun c_5 => ?_)
        · have e_6 := i_le c_5
          refine lv_iconst (v := 0) hx hb dX7_brings_34 (by decide) ?_
          exact J_2 0 _ _ _ (by (rw [fX7_brings_j2, if_pos c_5]); try rfl) hP hS (lv_sub hl [0, 1, 2, 3, 5] rfl)
        · have e_6 := i_nle c_5
          refine lv_iload_n hx hb dX7_brings_30 rfl (lv_at hl 1 rfl) ?_
          refine lv_goto (tgt := 35) hx hb dX7_brings_31 (by decide) ?_
          exact J_2 x1 _ _ _ (by (rw [fX7_brings_j2, if_neg c_5]); try rfl) hP hS (lv_sub hl [0, 1, 2, 3, 5] rfl)
  exact L_1 (((x3).toInt - (0 : Int32).toInt).toNat + 1) (q 29 (x3).toNatClampNeg) 0 _ _ _ (by omega) (by omega) rfl hP hS (lv_sub hl [2, 3, 4, 5, 1, 0] rfl)
