set_option maxHeartbeats 4000000 in
set_option maxRecDepth 100000 in
theorem mX7_count (l : Launch) (G : va_G) (cy : ClassId) (a : Nat → Nat) (sz : Nat) (q : wSt) (x1 : Int32) (hI : iI q) : CtI l yX7_count wsX7_count ({ frames := 0, cells := 0, slots := 0, locals := 0 }) G cy (cM cy a) mN sz q [.ref (a 0), .int x1] (fX7_count q x1) q := by
  refine Met.ofW (cc := cX7_count) (maxL := 4) (ret := (some .int)) (by decide) rfl ?_
  intro p e s m args below meth c s₁ B hml hv
  obtain ⟨rfl, hsz, hP, hK, hD0, hN⟩ := hv
  have hx := B.exec
  have hb := B.bytes
  have hr := B.returns
  have hts := atoms_spec (ws := wsX7_count) B.pre
  have hown : s.vm.findClass RX7 = some m.cls := findClass_of_methodNamed B.named
  have hlocks := B.notSynchronized
  subst hsz
  have hD : ∀ z : wSt, va_D (wA (cM cy a) s.heap.size) ((cM cy a) z) := fun z => w_self (mOk cy a).1 hD0 z
  have hA : ∀ z : Nat, s.heap.size ≤ z → wA (cM cy a) s.heap.size z := fun _ h => Or.inr h
  have hS : va_S (wA (cM cy a) s.heap.size) s.heap s.heap [] := va_S.rf
  have hl := lv_entry ([.ref (a 0), .int x1]) (n := 4) (Nat.le_of_ble_eq_true rfl)
  rw [lg_entry_eq]
  generalize (lg_sl ([.ref (a 0), .int x1]) ++ List.replicate (4 - (lg_sl ([.ref (a 0), .int x1])).length) Slot.unset).toArray = ls at hl ⊢
  have hl : lv_has ls 4 [(0, .ref (a 0)), (1, .int x1)] := hl
  have h_1 := hts (.fieldLink RX7 112 RX7 "now" "I") (by decide +kernel)
  have h_2 := (show ∀ w ∈ u_ws RX7 TX7 35, w ∈ wsX7_count by decide +kernel)
  have h_3 := hts (.fieldLink RX7 88 RX7 "titles" "I") (by decide +kernel)
  have h_4 := hts (.fieldLink RX7 99 RX7 "copies" "I") (by decide +kernel)
  have h_5 := hts (.fieldLink RX7 96 RX7 "readers" "I") (by decide +kernel)
  have h_6 := hts (.fieldLink RX7 102 RX7 "wishes" "I") (by decide +kernel)
  have h_7 := hts (.fieldLink RX7 119 RX7 "spent" "I") (by decide +kernel)
  have h_8 := hts (.fieldLink RX7 125 RX7 "earned" "I") (by decide +kernel)
  have h_9 := hts (.fieldLink RX7 171 RX7 "paid" "I") (by decide +kernel)
  have h_10 := hts (.fieldLink RX7 22 RX7 "state" "[I") (by decide +kernel)
  have t_m1 : ((-1) : Int32).toInt = -1 := rfl
  have t_0 : (0 : Int32).toInt = 0 := rfl
  have t_1 : (1 : Int32).toInt = 1 := rfl
  have t_2 : (2 : Int32).toInt = 2 := rfl
  have t_3 : (3 : Int32).toInt = 3 := rfl
  have t_4 : (4 : Int32).toInt = 4 := rfl
  have t_5 : (5 : Int32).toInt = 5 := rfl
  have t_6 : (6 : Int32).toInt = 6 := rfl
  have t_7 : (7 : Int32).toInt = 7 := rfl
  have t_8 : (8 : Int32).toInt = 8 := rfl
  have hB := iI_b hI
  refine lv_iconst (v := 0) hx hb dX7_count_0 (by decide) ?_
  refine lv_istore_n (lv' := [(2, .int 0), (0, .ref (a 0)), (1, .int x1)]) hx hb dX7_count_1 rfl hl (by decide) rfl (fun ls hl => ?_)
  refine lv_iload_n hx hb dX7_count_2 rfl (lv_at hl 2 rfl) ?_
  refine dite (x1 = 0) (fun c_1 => ?_) (fun c_1 => ?_)
  · refine lv_tableIn (off := 49) (tgt := 52) hx hb dX7_count_3 (by rw [c_1]; decide) (by rw [c_1]; decide) (by rw [c_1]; decide) (by decide) ?_
    refine lv_aload_n hx hb dX7_count_52 rfl (lv_at hl 1 rfl) ?_
    refine gfX7_112 (v := (q 30 0)) hx hb hts h_2 hown hK hP h_1 rfl dX7_count_53 ?_
    exact W.iret (v := (q 30 0)) hx hb hr (fun t ht hW => ⟨⟨(q 30 0), q, rfl, ⟨(show (fX7_count q x1) = (q 30 0) by (rw [fX7_count, if_pos c_1]); try rfl).symm, rfl⟩, w_ht ht hP⟩, hS.F ht⟩) hS.2.2 dX7_count_56
  · have e_16 := i_ne c_1
    refine dite (x1 = 1) (fun c_2 => ?_) (fun c_2 => ?_)
    · refine lv_tableIn (off := 54) (tgt := 57) hx hb dX7_count_3 (by rw [c_2]; decide) (by rw [c_2]; decide) (by rw [c_2]; decide) (by decide) ?_
      refine lv_aload_n hx hb dX7_count_57 rfl (lv_at hl 1 rfl) ?_
      refine gfX7_88 (v := (q 34 0)) hx hb hts h_2 hown hK hP h_3 rfl dX7_count_58 ?_
      exact W.iret (v := (q 34 0)) hx hb hr (fun t ht hW => ⟨⟨(q 34 0), q, rfl, ⟨(show (fX7_count q x1) = (q 34 0) by (rw [fX7_count, if_neg c_1, if_pos c_2]); try rfl).symm, rfl⟩, w_ht ht hP⟩, hS.F ht⟩) hS.2.2 dX7_count_61
    · have e_17 := i_ne c_2
      refine dite (x1 = 2) (fun c_3 => ?_) (fun c_3 => ?_)
      · refine lv_tableIn (off := 59) (tgt := 62) hx hb dX7_count_3 (by rw [c_3]; decide) (by rw [c_3]; decide) (by rw [c_3]; decide) (by decide) ?_
        refine lv_aload_n hx hb dX7_count_62 rfl (lv_at hl 1 rfl) ?_
        refine gfX7_99 (v := (q 36 0)) hx hb hts h_2 hown hK hP h_4 rfl dX7_count_63 ?_
        exact W.iret (v := (q 36 0)) hx hb hr (fun t ht hW => ⟨⟨(q 36 0), q, rfl, ⟨(show (fX7_count q x1) = (q 36 0) by (rw [fX7_count, if_neg c_1, if_neg c_2, if_pos c_3]); try rfl).symm, rfl⟩, w_ht ht hP⟩, hS.F ht⟩) hS.2.2 dX7_count_66
      · have e_18 := i_ne c_3
        refine dite (x1 = 3) (fun c_4 => ?_) (fun c_4 => ?_)
        · refine lv_tableIn (off := 64) (tgt := 67) hx hb dX7_count_3 (by rw [c_4]; decide) (by rw [c_4]; decide) (by rw [c_4]; decide) (by decide) ?_
          refine lv_aload_n hx hb dX7_count_67 rfl (lv_at hl 1 rfl) ?_
          refine gfX7_96 (v := (q 39 0)) hx hb hts h_2 hown hK hP h_5 rfl dX7_count_68 ?_
          exact W.iret (v := (q 39 0)) hx hb hr (fun t ht hW => ⟨⟨(q 39 0), q, rfl, ⟨(show (fX7_count q x1) = (q 39 0) by (rw [fX7_count, if_neg c_1, if_neg c_2, if_neg c_3, if_pos c_4]); try rfl).symm, rfl⟩, w_ht ht hP⟩, hS.F ht⟩) hS.2.2 dX7_count_71
        · have e_19 := i_ne c_4
          refine dite (x1 = 4) (fun c_5 => ?_) (fun c_5 => ?_)
          · refine lv_tableIn (off := 69) (tgt := 72) hx hb dX7_count_3 (by rw [c_5]; decide) (by rw [c_5]; decide) (by rw [c_5]; decide) (by decide) ?_
            refine lv_aload_n hx hb dX7_count_72 rfl (lv_at hl 1 rfl) ?_
            refine gfX7_102 (v := (q 40 0)) hx hb hts h_2 hown hK hP h_6 rfl dX7_count_73 ?_
            exact W.iret (v := (q 40 0)) hx hb hr (fun t ht hW => ⟨⟨(q 40 0), q, rfl, ⟨(show (fX7_count q x1) = (q 40 0) by (rw [fX7_count, if_neg c_1, if_neg c_2, if_neg c_3, if_neg c_4, if_pos c_5]); try rfl).symm, rfl⟩, w_ht ht hP⟩, hS.F ht⟩) hS.2.2 dX7_count_76
          · have e_20 := i_ne c_5
            refine dite (x1 = 5) (fun c_6 => ?_) (fun c_6 => ?_)
            · refine lv_tableIn (off := 74) (tgt := 77) hx hb dX7_count_3 (by rw [c_6]; decide) (by rw [c_6]; decide) (by rw [c_6]; decide) (by decide) ?_
              refine lv_aload_n hx hb dX7_count_77 rfl (lv_at hl 1 rfl) ?_
              refine gfX7_119 (v := (q 31 0)) hx hb hts h_2 hown hK hP h_7 rfl dX7_count_78 ?_
              exact W.iret (v := (q 31 0)) hx hb hr (fun t ht hW => ⟨⟨(q 31 0), q, rfl, ⟨(show (fX7_count q x1) = (q 31 0) by (rw [fX7_count, if_neg c_1, if_neg c_2, if_neg c_3, if_neg c_4, if_neg c_5, if_pos c_6]); try rfl).symm, rfl⟩, w_ht ht hP⟩, hS.F ht⟩) hS.2.2 dX7_count_81
            · have e_21 := i_ne c_6
              refine dite (x1 = 6) (fun c_7 => ?_) (fun c_7 => ?_)
              · refine lv_tableIn (off := 79) (tgt := 82) hx hb dX7_count_3 (by rw [c_7]; decide) (by rw [c_7]; decide) (by rw [c_7]; decide) (by decide) ?_
                refine lv_aload_n hx hb dX7_count_82 rfl (lv_at hl 1 rfl) ?_
                refine gfX7_125 (v := (q 32 0)) hx hb hts h_2 hown hK hP h_8 rfl dX7_count_83 ?_
                exact W.iret (v := (q 32 0)) hx hb hr (fun t ht hW => ⟨⟨(q 32 0), q, rfl, ⟨(show (fX7_count q x1) = (q 32 0) by (rw [fX7_count, if_neg c_1, if_neg c_2, if_neg c_3, if_neg c_4, if_neg c_5, if_neg c_6, if_pos c_7]); try rfl).symm, rfl⟩, w_ht ht hP⟩, hS.F ht⟩) hS.2.2 dX7_count_86
              · have e_22 := i_ne c_7
                refine dite (x1 = 7) (fun c_8 => ?_) (fun c_8 => ?_)
                · refine lv_tableIn (off := 84) (tgt := 87) hx hb dX7_count_3 (by rw [c_8]; decide) (by rw [c_8]; decide) (by rw [c_8]; decide) (by decide) ?_
                  refine lv_aload_n hx hb dX7_count_87 rfl (lv_at hl 1 rfl) ?_
                  refine gfX7_171 (v := (q 33 0)) hx hb hts h_2 hown hK hP h_9 rfl dX7_count_88 ?_
                  exact W.iret (v := (q 33 0)) hx hb hr (fun t ht hW => ⟨⟨(q 33 0), q, rfl, ⟨(show (fX7_count q x1) = (q 33 0) by (rw [fX7_count, if_neg c_1, if_neg c_2, if_neg c_3, if_neg c_4, if_neg c_5, if_neg c_6, if_neg c_7, if_pos c_8]); try rfl).symm, rfl⟩, w_ht ht hP⟩, hS.F ht⟩) hS.2.2 dX7_count_91
                · have e_23 := i_ne c_8
                  refine dite (x1 = 8) (fun c_9 => ?_) (fun c_9 => ?_)
                  · refine lv_tableIn (off := 89) (tgt := 92) hx hb dX7_count_3 (by rw [c_9]; decide) (by rw [c_9]; decide) (by rw [c_9]; decide) (by decide) ?_
                    refine lv_iconst (v := 0) hx hb dX7_count_92 (by decide) ?_
                    refine lv_istore_n (lv' := [(3, .int 0), (2, .int 0), (0, .ref (a 0)), (1, .int x1)]) hx hb dX7_count_93 rfl hl (by decide) rfl (fun ls hl => ?_)
                    have K_1 : ∀ (v1 : Int32) (H : Heap) (ls : Array Slot) (locs : List Loc), (lX7_count_1 q x1 (((q 36 0).toInt - (0 : Int32).toInt).toNat + 1) 0 0) = v1 → va_P G vwCl ((cM cy a) q) H → va_S (wA (cM cy a) s.heap.size) s.heap H locs → lv_has ls 4 [(2, .int v1)] → W p l e ({ frames := 0, cells := 0, slots := 0, locals := 0 }) s m [.ref (a 0), .int x1].toArray below meth c H locs 0 0 (MQ below (wQi G (cM cy a) s.heap.size (fX7_count q x1) q) [.ref (a 0), .int x1].toArray s 0 0 (wA (cM cy a) s.heap.size)) (F0 m 126 ls []) := by
                      intro v1 H ls locs hv hP hS hl
                      subst hv
                      refine lv_iload_n hx hb dX7_count_126 rfl (lv_at hl 0 rfl) ?_
                      exact W.iret (v := (lX7_count_1 q x1 (((q 36 0).toInt - (0 : Int32).toInt).toNat + 1) 0 0)) hx hb hr (fun t ht hW => ⟨⟨(lX7_count_1 q x1 (((q 36 0).toInt - (0 : Int32).toInt).toNat + 1) 0 0), q, rfl, ⟨(show (fX7_count q x1) = (lX7_count_1 q x1 (((q 36 0).toInt - (0 : Int32).toInt).toNat + 1) 0 0) by (rw [fX7_count, if_neg c_1, if_neg c_2, if_neg c_3, if_neg c_4, if_neg c_5, if_neg c_6, if_neg c_7, if_neg c_8, if_pos c_9]); try rfl).symm, rfl⟩, w_ht ht hP⟩, hS.F ht⟩) hS.2.2 dX7_count_127
                    have L_1 : ∀ (n : Nat) (y2_1 : Int32) (y3_1 : Int32) (H : Heap) (ls : Array Slot) (locs : List Loc), ((q 36 0).toInt - (y3_1).toInt).toNat < n → (0 ≤ (y3_1).toInt) → lX7_count_1 q x1 n y2_1 y3_1 = (lX7_count_1 q x1 (((q 36 0).toInt - (0 : Int32).toInt).toNat + 1) 0 0) → va_P G vwCl ((cM cy a) q) H → va_S (wA (cM cy a) s.heap.size) s.heap H locs → lv_has ls 4 [(0, .ref (a 0)), (2, .int y2_1), (3, .int y3_1)] → W p l e ({ frames := 0, cells := 0, slots := 0, locals := 0 }) s m [.ref (a 0), .int x1].toArray below meth c H locs 0 0 (MQ below (wQi G (cM cy a) s.heap.size (fX7_count q x1) q) [.ref (a 0), .int x1].toArray s 0 0 (wA (cM cy a) s.heap.size)) (F0 m 94 ls []) := by
                      intro n
                      induction n with
                      | zero => intro y2_1 y3_1 H ls locs hm; exact absurd hm (Nat.not_lt_zero _)
                      | succ n ih =>
                        intro y2_1 y3_1 H ls locs hm_1 i0_1 he_1 hP hS hl
                        refine lv_iload_n hx hb dX7_count_94 rfl (lv_at hl 2 rfl) ?_
                        refine lv_aload_n hx hb dX7_count_95 rfl (lv_at hl 0 rfl) ?_
                        refine gfX7_99 (v := (q 36 0)) hx hb hts h_2 hown hK hP h_4 rfl dX7_count_96 ?_
                        refine lv_icmp_ge (tgt := 126) hx hb dX7_count_99 (by decide) (fun c_10 => ?_) (fun c_10 => ?_)
                        · have e_11 := i_le c_10
                          exact K_1 y2_1 _ _ _ (Eq.trans (Eq.symm he_1) (by (rw [lX7_count_1_s, if_pos c_10]); try rfl)) hP hS (lv_sub hl [1] rfl)
                        · have e_11 := i_nle c_10
                          refine lv_iload_n hx hb dX7_count_102 rfl (lv_at hl 1 rfl) ?_
                          refine lv_aload_n hx hb dX7_count_103 rfl (lv_at hl 0 rfl) ?_
                          refine gfX7_22 hx hb hts h_2 hown hK hP h_10 dX7_count_104 ?_
                          refine lv_iload_n hx hb dX7_count_107 rfl (lv_at hl 2 rfl) ?_
                          have v_12 : vp_in y3_1 200 := vp_in_iff.mpr (by omega)
                          refine ldM_6 (f := (q 6)) hx hb hK hP rfl v_12 dX7_count_108 ?_
                          refine lv_iconst (v := 5) hx hb dX7_count_109 (by decide) ?_
                          have J_2 : ∀ (v1 : Int32) (H : Heap) (ls : Array Slot) (locs : List Loc), (fX7_count_j2 q x1 y2_1 y3_1) = v1 → ((v1).toInt = 0 ∨ (v1).toInt = 1) → va_P G vwCl ((cM cy a) q) H → va_S (wA (cM cy a) s.heap.size) s.heap H locs → lv_has ls 4 [(0, .ref (a 0)), (3, .int y3_1)] → W p l e ({ frames := 0, cells := 0, slots := 0, locals := 0 }) s m [.ref (a 0), .int x1].toArray below meth c H locs 0 0 (MQ below (wQi G (cM cy a) s.heap.size (fX7_count q x1) q) [.ref (a 0), .int x1].toArray s 0 0 (wA (cM cy a) s.heap.size)) (F0 m 118 ls [.int v1, .int y2_1]) := by
                            intro v1 H ls locs hv bl_2_0 hP hS hl
                            subst hv
                            refine lv_iadd hx hb dX7_count_118 ?_
                            refine lv_istore_n (lv' := [(2, .int (y2_1 + (fX7_count_j2 q x1 y2_1 y3_1))), (0, .ref (a 0)), (3, .int y3_1)]) hx hb dX7_count_119 rfl hl (by decide) rfl (fun ls hl => ?_)
                            refine lv_iinc (v := (y3_1 + 1)) (lv' := [(3, .int (y3_1 + 1)), (2, .int (y2_1 + (fX7_count_j2 q x1 y2_1 y3_1))), (0, .ref (a 0))]) hx hb dX7_count_120 hl (k := 2) rfl rfl (by decide) rfl (fun ls hl => ?_)
                            have e_15 : (y3_1 + 1).toInt = (y3_1).toInt + 1 := i_inc (by have := i_rng y3_1; have := i_rng (q 36 0); omega)
                            refine lv_goto (tgt := 94) hx hb dX7_count_123 (by decide) ?_
                            exact ih (y2_1 + (fX7_count_j2 q x1 y2_1 y3_1)) (y3_1 + 1) _ _ _ (by omega) (by first | omega | assumption) (Eq.trans (Eq.symm (by (rw [lX7_count_1_s, if_neg c_10]); try rfl)) he_1) hP hS (lv_sub hl [2, 1, 0] rfl)
                          refine lv_icmp_ne (tgt := 117) hx hb dX7_count_110 (by decide) (fun c_13 => ?_) (fun c_13 => ?_)
                          · have e_14 := i_ne c_13
                            refine lv_iconst (v := 0) hx hb dX7_count_117 (by decide) ?_
                            exact J_2 0 _ _ _ (by (rw [fX7_count_j2, if_neg c_13]); try rfl) (show (0 : Int32).toInt = 0 ∨ (0 : Int32).toInt = 1 by omega) hP hS (lv_sub hl [0, 2] rfl)
                          · have e_14 := i_eq c_13
                            refine lv_iconst (v := 1) hx hb dX7_count_113 (by decide) ?_
                            refine lv_goto (tgt := 118) hx hb dX7_count_114 (by decide) ?_
                            exact J_2 1 _ _ _ (by (rw [fX7_count_j2, if_pos c_13]); try rfl) (show (1 : Int32).toInt = 0 ∨ (1 : Int32).toInt = 1 by omega) hP hS (lv_sub hl [0, 2] rfl)
                    exact L_1 (((q 36 0).toInt - (0 : Int32).toInt).toNat + 1) 0 0 _ _ _ (by omega) (by omega) rfl hP hS (lv_sub hl [2, 1, 0] rfl)
                  · have e_24 := i_ne c_9
                    refine lv_tableOut (tgt := 128) hx hb dX7_count_3 (by omega) (by decide) ?_
                    refine lv_iconst (v := (-1)) hx hb dX7_count_128 (by decide) ?_
                    exact W.iret (v := (-1)) hx hb hr (fun t ht hW => ⟨⟨(-1), q, rfl, ⟨(show (fX7_count q x1) = (-1) by (rw [fX7_count, if_neg c_1, if_neg c_2, if_neg c_3, if_neg c_4, if_neg c_5, if_neg c_6, if_neg c_7, if_neg c_8, if_neg c_9]); try rfl).symm, rfl⟩, w_ht ht hP⟩, hS.F ht⟩) hS.2.2 dX7_count_129
