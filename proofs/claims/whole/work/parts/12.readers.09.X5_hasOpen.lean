set_option maxHeartbeats 4000000 in
set_option maxRecDepth 100000 in
theorem mX5_hasOpen (l : Launch) (G : va_G) (cy : ClassId) (a : Nat → Nat) (sz : Nat) (q : wSt) (x1 : Int32) (x2 : Int32) (g0 : (q 40 0).toInt ≤ 100) : CtI l yX5_hasOpen wsX5_hasOpen ({ frames := 0, cells := 0, slots := 0, locals := 0 }) G cy (cX cy a) xN sz q [.ref (a 5), .int x1, .int x2] (fX5_hasOpen q x1 x2) q := by
  refine Met.ofW (cc := cX5_hasOpen) (maxL := 4) (ret := (some .boolean)) (by decide) rfl ?_
  intro p e s m args below meth c s₁ B hml hv
  obtain ⟨rfl, hsz, hP, hK, hD0, hN⟩ := hv
  have hx := B.exec
  have hb := B.bytes
  have hr := B.returns
  have hts := atoms_spec (ws := wsX5_hasOpen) B.pre
  have hown : s.vm.findClass RX5 = some m.cls := findClass_of_methodNamed B.named
  have hlocks := B.notSynchronized
  subst hsz
  have hD : ∀ z : wSt, va_D (wA (cX cy a) s.heap.size) ((cX cy a) z) := fun z => w_self (xOk cy a).1 hD0 z
  have hA : ∀ z : Nat, s.heap.size ≤ z → wA (cX cy a) s.heap.size z := fun _ h => Or.inr h
  have hS : va_S (wA (cX cy a) s.heap.size) s.heap s.heap [] := va_S.rf
  have hl := lv_entry ([.ref (a 5), .int x1, .int x2]) (n := 4) (Nat.le_of_ble_eq_true rfl)
  rw [lg_entry_eq]
  generalize (lg_sl ([.ref (a 5), .int x1, .int x2]) ++ List.replicate (4 - (lg_sl ([.ref (a 5), .int x1, .int x2])).length) Slot.unset).toArray = ls at hl ⊢
  have hl : lv_has ls 4 [(0, .ref (a 5)), (1, .int x1), (2, .int x2)] := hl
  have h_1 := hts (.fieldLink RX5 30 RX5 "came" "I") (by decide +kernel)
  have h_2 := (show ∀ w ∈ u_ws RX5 TX5 7, w ∈ wsX5_hasOpen by decide +kernel)
  have h_3 := hts (.fieldLink RX5 18 RX5 "state" "[I") (by decide +kernel)
  have h_4 := hts (.fieldLink RX5 9 RX5 "reader" "[I") (by decide +kernel)
  have h_5 := hts (.fieldLink RX5 15 RX5 "title" "[I") (by decide +kernel)
  have t_0 : (0 : Int32).toInt = 0 := rfl
  have t_1 : (1 : Int32).toInt = 1 := rfl
  refine lv_iconst (v := 0) hx hb dX5_hasOpen_0 (by decide) ?_
  refine lv_istore_n (lv' := [(3, .int 0), (0, .ref (a 5)), (1, .int x1), (2, .int x2)]) hx hb dX5_hasOpen_1 rfl hl (by decide) rfl (fun ls hl => ?_)
  have L_1 : ∀ (n : Nat) (y3_1 : Int32) (H : Heap) (ls : Array Slot) (locs : List Loc), ((q 40 0).toInt - (y3_1).toInt).toNat < n → (0 ≤ (y3_1).toInt) → lX5_hasOpen_1 q x1 x2 n y3_1 = (fX5_hasOpen q x1 x2) → va_P G vwCl ((cX cy a) q) H → va_S (wA (cX cy a) s.heap.size) s.heap H locs → lv_has ls 4 [(0, .ref (a 5)), (1, .int x1), (2, .int x2), (3, .int y3_1)] → W p l e ({ frames := 0, cells := 0, slots := 0, locals := 0 }) s m [.ref (a 5), .int x1, .int x2].toArray below meth c H locs 0 0 (MQ below (wQi G (cX cy a) s.heap.size (fX5_hasOpen q x1 x2) q) [.ref (a 5), .int x1, .int x2].toArray s 0 0 (wA (cX cy a) s.heap.size)) (F0 m 2 ls []) := by
    intro n
    induction n with
    | zero => intro y3_1 H ls locs hm; exact absurd hm (Nat.not_lt_zero _)
    | succ n ih =>
      intro y3_1 H ls locs hm_1 i0_1 he_1 hP hS hl
      refine lv_iload_n hx hb dX5_hasOpen_2 rfl (lv_at hl 3 rfl) ?_
      refine lv_aload_n hx hb dX5_hasOpen_3 rfl (lv_at hl 0 rfl) ?_
      refine gfX5_30 (v := (q 40 0)) hx hb hts h_2 hown hK hP h_1 rfl dX5_hasOpen_4 ?_
      refine lv_icmp_ge (tgt := 47) hx hb dX5_hasOpen_7 (by decide) (fun c_1 => ?_) (fun c_1 => ?_)
      · have e_2 := i_le c_1
        refine lv_iconst (v := 0) hx hb dX5_hasOpen_47 (by decide) ?_
        exact W.zret (v := 0) hx hb hr rfl (fun t ht hW => ⟨⟨0, q, rfl, ⟨((Eq.symm he_1).trans (by (rw [lX5_hasOpen_1_s, if_pos c_1]); try rfl)).symm, rfl⟩, w_ht ht hP⟩, hS.F ht⟩) hS.2.2 dX5_hasOpen_48
      · have e_2 := i_nle c_1
        refine lv_aload_n hx hb dX5_hasOpen_10 rfl (lv_at hl 0 rfl) ?_
        refine gfX5_18 hx hb hts h_2 hown hK hP h_3 dX5_hasOpen_11 ?_
        refine lv_iload_n hx hb dX5_hasOpen_14 rfl (lv_at hl 3 rfl) ?_
        have v_3 : vp_in y3_1 100 := vp_in_iff.mpr (by omega)
        refine ldX_24 (f := (q 24)) hx hb hK hP rfl v_3 dX5_hasOpen_15 ?_
        refine lv_if_ne (tgt := 41) hx hb dX5_hasOpen_16 (by decide) (fun c_4 => ?_) (fun c_4 => ?_)
        · have e_5 := i_ne c_4
          refine lv_iinc (v := (y3_1 + 1)) (lv' := [(3, .int (y3_1 + 1)), (0, .ref (a 5)), (1, .int x1), (2, .int x2)]) hx hb dX5_hasOpen_41 hl (k := 3) rfl rfl (by decide) rfl (fun ls hl => ?_)
          have e_6 : (y3_1 + 1).toInt = (y3_1).toInt + 1 := i_inc (by have := i_rng y3_1; have := i_rng (q 40 0); omega)
          refine lv_goto (tgt := 2) hx hb dX5_hasOpen_44 (by decide) ?_
          exact ih (y3_1 + 1) _ _ _ (by omega) (by first | omega | assumption) (Eq.trans (Eq.symm (by (rw [lX5_hasOpen_1_s, if_neg c_1, if_neg c_4]); try rfl)) he_1) hP hS (lv_sub hl [1, 2, 3, 0] rfl)
        · have e_5 := i_eq c_4
          refine lv_aload_n hx hb dX5_hasOpen_19 rfl (lv_at hl 0 rfl) ?_
          refine gfX5_9 hx hb hts h_2 hown hK hP h_4 dX5_hasOpen_20 ?_
          refine lv_iload_n hx hb dX5_hasOpen_23 rfl (lv_at hl 3 rfl) ?_
          have v_7 : vp_in y3_1 100 := vp_in_iff.mpr (by omega)
          refine ldX_22 (f := (q 22)) hx hb hK hP rfl v_7 dX5_hasOpen_24 ?_
          refine lv_iload_n hx hb dX5_hasOpen_25 rfl (lv_at hl 1 rfl) ?_
          refine lv_icmp_ne (tgt := 41) hx hb dX5_hasOpen_26 (by decide) (fun c_8 => ?_) (fun c_8 => ?_)
          · have e_9 := i_ne c_8
            refine lv_iinc (v := (y3_1 + 1)) (lv' := [(3, .int (y3_1 + 1)), (0, .ref (a 5)), (1, .int x1), (2, .int x2)]) hx hb dX5_hasOpen_41 hl (k := 3) rfl rfl (by decide) rfl (fun ls hl => ?_)
            have e_10 : (y3_1 + 1).toInt = (y3_1).toInt + 1 := i_inc (by have := i_rng y3_1; have := i_rng (q 40 0); omega)
            refine lv_goto (tgt := 2) hx hb dX5_hasOpen_44 (by decide) ?_
            exact ih (y3_1 + 1) _ _ _ (by omega) (by first | omega | assumption) (Eq.trans (Eq.symm (by (rw [lX5_hasOpen_1_s, if_neg c_1, if_pos c_4, if_neg c_8]); try rfl)) he_1) hP hS (lv_sub hl [1, 2, 3, 0] rfl)
          · have e_9 := i_eq c_8
            refine lv_aload_n hx hb dX5_hasOpen_29 rfl (lv_at hl 0 rfl) ?_
            refine gfX5_15 hx hb hts h_2 hown hK hP h_5 dX5_hasOpen_30 ?_
            refine lv_iload_n hx hb dX5_hasOpen_33 rfl (lv_at hl 3 rfl) ?_
            have v_11 : vp_in y3_1 100 := vp_in_iff.mpr (by omega)
            refine ldX_23 (f := (q 23)) hx hb hK hP rfl v_11 dX5_hasOpen_34 ?_
            refine lv_iload_n hx hb dX5_hasOpen_35 rfl (lv_at hl 2 rfl) ?_
            refine lv_icmp_ne (tgt := 41) hx hb dX5_hasOpen_36 (by decide) (fun c_12 => ?_) (fun c_12 => ?_)
            · have e_13 := i_ne c_12
              refine lv_iinc (v := (y3_1 + 1)) (lv' := [(3, .int (y3_1 + 1)), (0, .ref (a 5)), (1, .int x1), (2, .int x2)]) hx hb dX5_hasOpen_41 hl (k := 3) rfl rfl (by decide) rfl (fun ls hl => ?_)
              have e_14 : (y3_1 + 1).toInt = (y3_1).toInt + 1 := i_inc (by have := i_rng y3_1; have := i_rng (q 40 0); omega)
              refine lv_goto (tgt := 2) hx hb dX5_hasOpen_44 (by decide) ?_
              exact ih (y3_1 + 1) _ _ _ (by omega) (by first | omega | assumption) (Eq.trans (Eq.symm (by (rw [lX5_hasOpen_1_s, if_neg c_1, if_pos c_4, if_pos c_8, if_neg c_12]); try rfl)) he_1) hP hS (lv_sub hl [1, 2, 3, 0] rfl)
            · have e_13 := i_eq c_12
              refine lv_iconst (v := 1) hx hb dX5_hasOpen_39 (by decide) ?_
              exact W.zret (v := 1) hx hb hr rfl (fun t ht hW => ⟨⟨1, q, rfl, ⟨((Eq.symm he_1).trans (by (rw [lX5_hasOpen_1_s, if_neg c_1, if_pos c_4, if_pos c_8, if_pos c_12]); try rfl)).symm, rfl⟩, w_ht ht hP⟩, hS.F ht⟩) hS.2.2 dX5_hasOpen_40
  exact L_1 (((q 40 0).toInt - (0 : Int32).toInt).toNat + 1) 0 _ _ _ (by omega) (by omega) (Eq.symm (by (rw [fX5_hasOpen]); try rfl)) hP hS (lv_sub hl [1, 2, 3, 0] rfl)
