set_option maxHeartbeats 4000000 in
set_option maxRecDepth 100000 in
theorem mX7_shelved (l : Launch) (G : va_G) (cy : ClassId) (a : Nat → Nat) (sz : Nat) (q : wSt) (x1 : Int32) (x2 : Int32) (g0 : (q 36 0).toInt ≤ 200) : CtI l yX7_shelved wsX7_shelved ({ frames := 0, cells := 0, slots := 0, locals := 0 }) G cy (cM cy a) mN sz q [.ref (a 0), .int x1, .int x2] (fX7_shelved q x1 x2) q := by
  refine Met.ofW (cc := cX7_shelved) (maxL := 4) (ret := (some .int)) (by decide) rfl ?_
  intro p e s m args below meth c s₁ B hml hv
  obtain ⟨rfl, hsz, hP, hK, hD0, hN⟩ := hv
  have hx := B.exec
  have hb := B.bytes
  have hr := B.returns
  have hts := atoms_spec (ws := wsX7_shelved) B.pre
  have hown : s.vm.findClass RX7 = some m.cls := findClass_of_methodNamed B.named
  have hlocks := B.notSynchronized
  subst hsz
  have hD : ∀ z : wSt, va_D (wA (cM cy a) s.heap.size) ((cM cy a) z) := fun z => w_self (mOk cy a).1 hD0 z
  have hA : ∀ z : Nat, s.heap.size ≤ z → wA (cM cy a) s.heap.size z := fun _ h => Or.inr h
  have hS : va_S (wA (cM cy a) s.heap.size) s.heap s.heap [] := va_S.rf
  have hl := lv_entry ([.ref (a 0), .int x1, .int x2]) (n := 4) (Nat.le_of_ble_eq_true rfl)
  rw [lg_entry_eq]
  generalize (lg_sl ([.ref (a 0), .int x1, .int x2]) ++ List.replicate (4 - (lg_sl ([.ref (a 0), .int x1, .int x2])).length) Slot.unset).toArray = ls at hl ⊢
  have hl : lv_has ls 4 [(0, .ref (a 0)), (1, .int x1), (2, .int x2)] := hl
  have h_1 := hts (.fieldLink RX7 99 RX7 "copies" "I") (by decide +kernel)
  have h_2 := (show ∀ w ∈ u_ws RX7 TX7 35, w ∈ wsX7_shelved by decide +kernel)
  have h_3 := hts (.fieldLink RX7 13 RX7 "titleOf" "[I") (by decide +kernel)
  have h_4 := hts (.fieldLink RX7 16 RX7 "volumeOf" "[I") (by decide +kernel)
  have h_5 := hts (.fieldLink RX7 22 RX7 "state" "[I") (by decide +kernel)
  have t_m1 : ((-1) : Int32).toInt = -1 := rfl
  have t_0 : (0 : Int32).toInt = 0 := rfl
  have t_1 : (1 : Int32).toInt = 1 := rfl
  refine lv_iconst (v := 0) hx hb dX7_shelved_0 (by decide) ?_
  refine lv_istore_n (lv' := [(3, .int 0), (0, .ref (a 0)), (1, .int x1), (2, .int x2)]) hx hb dX7_shelved_1 rfl hl (by decide) rfl (fun ls hl => ?_)
  have L_1 : ∀ (n : Nat) (y3_1 : Int32) (H : Heap) (ls : Array Slot) (locs : List Loc), ((q 36 0).toInt - (y3_1).toInt).toNat < n → (0 ≤ (y3_1).toInt) → lX7_shelved_1 q x1 x2 n y3_1 = (fX7_shelved q x1 x2) → va_P G vwCl ((cM cy a) q) H → va_S (wA (cM cy a) s.heap.size) s.heap H locs → lv_has ls 4 [(0, .ref (a 0)), (1, .int x1), (2, .int x2), (3, .int y3_1)] → W p l e ({ frames := 0, cells := 0, slots := 0, locals := 0 }) s m [.ref (a 0), .int x1, .int x2].toArray below meth c H locs 0 0 (MQ below (wQi G (cM cy a) s.heap.size (fX7_shelved q x1 x2) q) [.ref (a 0), .int x1, .int x2].toArray s 0 0 (wA (cM cy a) s.heap.size)) (F0 m 2 ls []) := by
    intro n
    induction n with
    | zero => intro y3_1 H ls locs hm; exact absurd hm (Nat.not_lt_zero _)
    | succ n ih =>
      intro y3_1 H ls locs hm_1 i0_1 he_1 hP hS hl
      refine lv_iload_n hx hb dX7_shelved_2 rfl (lv_at hl 3 rfl) ?_
      refine lv_aload_n hx hb dX7_shelved_3 rfl (lv_at hl 0 rfl) ?_
      refine gfX7_99 (v := (q 36 0)) hx hb hts h_2 hown hK hP h_1 rfl dX7_shelved_4 ?_
      refine lv_icmp_ge (tgt := 47) hx hb dX7_shelved_7 (by decide) (fun c_1 => ?_) (fun c_1 => ?_)
      · have e_2 := i_le c_1
        refine lv_iconst (v := (-1)) hx hb dX7_shelved_47 (by decide) ?_
        exact W.iret (v := (-1)) hx hb hr (fun t ht hW => ⟨⟨(-1), q, rfl, ⟨((Eq.symm he_1).trans (by (rw [lX7_shelved_1_s, if_pos c_1]); try rfl)).symm, rfl⟩, w_ht ht hP⟩, hS.F ht⟩) hS.2.2 dX7_shelved_48
      · have e_2 := i_nle c_1
        refine lv_aload_n hx hb dX7_shelved_10 rfl (lv_at hl 0 rfl) ?_
        refine gfX7_13 hx hb hts h_2 hown hK hP h_3 dX7_shelved_11 ?_
        refine lv_iload_n hx hb dX7_shelved_14 rfl (lv_at hl 3 rfl) ?_
        have v_3 : vp_in y3_1 200 := vp_in_iff.mpr (by omega)
        refine ldM_7 (f := (q 7)) hx hb hK hP rfl v_3 dX7_shelved_15 ?_
        refine lv_iload_n hx hb dX7_shelved_16 rfl (lv_at hl 1 rfl) ?_
        refine lv_icmp_ne (tgt := 41) hx hb dX7_shelved_17 (by decide) (fun c_4 => ?_) (fun c_4 => ?_)
        · have e_5 := i_ne c_4
          refine lv_iinc (v := (y3_1 + 1)) (lv' := [(3, .int (y3_1 + 1)), (0, .ref (a 0)), (1, .int x1), (2, .int x2)]) hx hb dX7_shelved_41 hl (k := 3) rfl rfl (by decide) rfl (fun ls hl => ?_)
          have e_6 : (y3_1 + 1).toInt = (y3_1).toInt + 1 := i_inc (by have := i_rng y3_1; have := i_rng (q 36 0); omega)
          refine lv_goto (tgt := 2) hx hb dX7_shelved_44 (by decide) ?_
          exact ih (y3_1 + 1) _ _ _ (by omega) (by first | omega | assumption) (Eq.trans (Eq.symm (by (rw [lX7_shelved_1_s, if_neg c_1, if_neg c_4]); try rfl)) he_1) hP hS (lv_sub hl [1, 2, 3, 0] rfl)
        · have e_5 := i_eq c_4
          refine lv_aload_n hx hb dX7_shelved_20 rfl (lv_at hl 0 rfl) ?_
          refine gfX7_16 hx hb hts h_2 hown hK hP h_4 dX7_shelved_21 ?_
          refine lv_iload_n hx hb dX7_shelved_24 rfl (lv_at hl 3 rfl) ?_
          have v_7 : vp_in y3_1 200 := vp_in_iff.mpr (by omega)
          refine ldM_8 (f := (q 8)) hx hb hK hP rfl v_7 dX7_shelved_25 ?_
          refine lv_iload_n hx hb dX7_shelved_26 rfl (lv_at hl 2 rfl) ?_
          refine lv_icmp_ne (tgt := 41) hx hb dX7_shelved_27 (by decide) (fun c_8 => ?_) (fun c_8 => ?_)
          · have e_9 := i_ne c_8
            refine lv_iinc (v := (y3_1 + 1)) (lv' := [(3, .int (y3_1 + 1)), (0, .ref (a 0)), (1, .int x1), (2, .int x2)]) hx hb dX7_shelved_41 hl (k := 3) rfl rfl (by decide) rfl (fun ls hl => ?_)
            have e_10 : (y3_1 + 1).toInt = (y3_1).toInt + 1 := i_inc (by have := i_rng y3_1; have := i_rng (q 36 0); omega)
            refine lv_goto (tgt := 2) hx hb dX7_shelved_44 (by decide) ?_
            exact ih (y3_1 + 1) _ _ _ (by omega) (by first | omega | assumption) (Eq.trans (Eq.symm (by (rw [lX7_shelved_1_s, if_neg c_1, if_pos c_4, if_neg c_8]); try rfl)) he_1) hP hS (lv_sub hl [1, 2, 3, 0] rfl)
          · have e_9 := i_eq c_8
            refine lv_aload_n hx hb dX7_shelved_30 rfl (lv_at hl 0 rfl) ?_
            refine gfX7_22 hx hb hts h_2 hown hK hP h_5 dX7_shelved_31 ?_
            refine lv_iload_n hx hb dX7_shelved_34 rfl (lv_at hl 3 rfl) ?_
            have v_11 : vp_in y3_1 200 := vp_in_iff.mpr (by omega)
            refine ldM_6 (f := (q 6)) hx hb hK hP rfl v_11 dX7_shelved_35 ?_
            refine lv_if_ne (tgt := 41) hx hb dX7_shelved_36 (by decide) (fun c_12 => ?_) (fun c_12 => ?_)
            · have e_13 := i_ne c_12
              refine lv_iinc (v := (y3_1 + 1)) (lv' := [(3, .int (y3_1 + 1)), (0, .ref (a 0)), (1, .int x1), (2, .int x2)]) hx hb dX7_shelved_41 hl (k := 3) rfl rfl (by decide) rfl (fun ls hl => ?_)
              have e_14 : (y3_1 + 1).toInt = (y3_1).toInt + 1 := i_inc (by have := i_rng y3_1; have := i_rng (q 36 0); omega)
              refine lv_goto (tgt := 2) hx hb dX7_shelved_44 (by decide) ?_
              exact ih (y3_1 + 1) _ _ _ (by omega) (by first | omega | assumption) (Eq.trans (Eq.symm (by (rw [lX7_shelved_1_s, if_neg c_1, if_pos c_4, if_pos c_8, if_neg c_12]); try rfl)) he_1) hP hS (lv_sub hl [1, 2, 3, 0] rfl)
            · have e_13 := i_eq c_12
              refine lv_iload_n hx hb dX7_shelved_39 rfl (lv_at hl 3 rfl) ?_
              exact W.iret (v := y3_1) hx hb hr (fun t ht hW => ⟨⟨y3_1, q, rfl, ⟨((Eq.symm he_1).trans (by (rw [lX7_shelved_1_s, if_neg c_1, if_pos c_4, if_pos c_8, if_pos c_12]); try rfl)).symm, rfl⟩, w_ht ht hP⟩, hS.F ht⟩) hS.2.2 dX7_shelved_40
  exact L_1 (((q 36 0).toInt - (0 : Int32).toInt).toNat + 1) 0 _ _ _ (by omega) (by omega) (Eq.symm (by (rw [fX7_shelved]); try rfl)) hP hS (lv_sub hl [1, 2, 3, 0] rfl)
