set_option maxHeartbeats 4000000 in
set_option maxRecDepth 100000 in
theorem mX7_title (l : Launch) (G : va_G) (cy : ClassId) (a : Nat → Nat) (sz : Nat) (q : wSt) (x1 : Int32) (hI : iI q) : CtI l yX7_title wsX7_title ({ frames := 1, cells := 0, slots := 0, locals := 22 }) G cy (cM cy a) mN sz q [.ref (a 0), .int x1] (fX7_title q x1).1 (fX7_title q x1).2 := by
  refine Met.ofW (cc := cX7_title) (maxL := 2) (ret := (some .int)) (by decide) rfl ?_
  intro p e s m args below meth c s₁ B hml hv
  obtain ⟨rfl, hsz, hP, hK, hD0, hN⟩ := hv
  have hx := B.exec
  have hb := B.bytes
  have hr := B.returns
  have hts := atoms_spec (ws := wsX7_title) B.pre
  have hown : s.vm.findClass RX7 = some m.cls := findClass_of_methodNamed B.named
  have hlocks := B.notSynchronized
  subst hsz
  have hD : ∀ z : wSt, va_D (wA (cM cy a) s.heap.size) ((cM cy a) z) := fun z => w_self (mOk cy a).1 hD0 z
  have hA : ∀ z : Nat, s.heap.size ≤ z → wA (cM cy a) s.heap.size z := fun _ h => Or.inr h
  have hS : va_S (wA (cM cy a) s.heap.size) s.heap s.heap [] := va_S.rf
  have hl := lv_entry ([.ref (a 0), .int x1]) (n := 2) (Nat.le_of_ble_eq_true rfl)
  rw [lg_entry_eq]
  generalize (lg_sl ([.ref (a 0), .int x1]) ++ List.replicate (2 - (lg_sl ([.ref (a 0), .int x1])).length) Slot.unset).toArray = ls at hl ⊢
  have hl : lv_has ls 2 [(0, .ref (a 0)), (1, .int x1)] := hl
  have h_1 := hts (.fieldLink RX7 88 RX7 "titles" "I") (by decide +kernel)
  have h_2 := (show ∀ w ∈ u_ws RX7 TX7 35, w ∈ wsX7_title by decide +kernel)
  have h_3 := hts (.fieldLink RX7 9 RX7 "volumes" "[I") (by decide +kernel)
  have t_m1 : ((-1) : Int32).toInt = -1 := rfl
  have t_0 : (0 : Int32).toInt = 0 := rfl
  have t_1 : (1 : Int32).toInt = 1 := rfl
  have t_4 : (4 : Int32).toInt = 4 := rfl
  have t_12 : (12 : Int32).toInt = 12 := rfl
  have hB := iI_b hI
  refine lv_iload_n hx hb dX7_title_0 rfl (lv_at hl 1 rfl) ?_
  refine lv_iconst (v := 1) hx hb dX7_title_1 (by decide) ?_
  refine lv_iconst (v := 4) hx hb dX7_title_2 (by decide) ?_
  refine w_goI (va_runS (As := [.int x1, .int 1, .int 4]) (rest := []) ⟨hx, hb, hml, hown, hts⟩ (mX7_in l G cy a _ q x1 1 4) (va_cwS 3 hts gX7_title_X7_in rfl rfl rfl (by decide +kernel) ⟨Nat.le_of_ble_eq_true rfl, Nat.le_of_ble_eq_true rfl⟩) (w_preS (mOk cy a) hK hP hD hS hA hN) rfl rfl hl.1 rfl (lv_room (Nat.le_of_ble_eq_true rfl)) dX7_title_3 ⟨Nat.le_of_ble_eq_true rfl, Nat.le_of_ble_eq_true rfl⟩) hD hS hA (fun H locs hP hS => ?_)
  have e_1 := tX7_in q x1 1 4
  refine lv_if_eq (tgt := 18) hx hb dX7_title_6 (by decide) (fun c_2 => ?_) (fun c_2 => ?_)
  · have e_3 := i_eq c_2
    refine lv_iconst (v := (-1)) hx hb dX7_title_18 (by decide) ?_
    have hF : (fX7_title q x1) = ((-1), q) := (show (fX7_title q x1) = ((-1), q) by (rw [fX7_title, if_pos c_2]); try rfl)
    exact W.iret (v := (-1)) hx hb hr (fun t ht hW => ⟨⟨(-1), q, rfl, ⟨(p_fst hF), (p_snd hF)⟩, w_ht ht hP⟩, hS.F ht⟩) hS.2.2 dX7_title_19
  · have e_3 := i_ne c_2
    refine lv_aload_n hx hb dX7_title_9 rfl (lv_at hl 0 rfl) ?_
    refine gfX7_88 (v := (q 34 0)) hx hb hts h_2 hown hK hP h_1 rfl dX7_title_10 ?_
    refine lv_bipush (v := 12) hx hb dX7_title_13 (by decide) ?_
    refine lv_icmp_ne (tgt := 20) hx hb dX7_title_15 (by decide) (fun c_4 => ?_) (fun c_4 => ?_)
    · have e_5 := i_ne c_4
      refine lv_aload_n hx hb dX7_title_20 rfl (lv_at hl 0 rfl) ?_
      refine gfX7_9 hx hb hts h_2 hown hK hP h_3 dX7_title_21 ?_
      refine lv_aload_n hx hb dX7_title_24 rfl (lv_at hl 0 rfl) ?_
      refine gfX7_88 (v := (q 34 0)) hx hb hts h_2 hown hK hP h_1 rfl dX7_title_25 ?_
      refine lv_iload_n hx hb dX7_title_28 rfl (lv_at hl 1 rfl) ?_
      have v_6 : vp_in (q 34 0) 12 := vp_in_iff.mpr (by omega)
      refine stM_0 (f := (q 0)) hx hb hK hP hD hS rfl v_6 dX7_title_29 (fun H locs hP hS => ?_)
      refine lv_aload_n hx hb dX7_title_30 rfl (lv_at hl 0 rfl) ?_
      refine lv_dup hx hb dX7_title_31 rfl ?_
      refine gfX7_88 (v := (q 34 0)) hx hb hts h_2 hown hK hP h_1 (congrFun (rset_ne (by decide)) 0) dX7_title_32 ?_
      refine lv_iconst (v := 1) hx hb dX7_title_35 (by decide) ?_
      refine lv_iadd hx hb dX7_title_36 ?_
      refine pfX7_88 hx hb hts h_2 hown hK hP hD hS h_1 dX7_title_37 (fun H locs hP hS => ?_)
      refine lv_aload_n hx hb dX7_title_40 rfl (lv_at hl 0 rfl) ?_
      refine gfX7_88 (v := ((q 34 0) + 1)) hx hb hts h_2 hown hK hP h_1 (congrFun rset_eq 0) dX7_title_41 ?_
      refine lv_iconst (v := 1) hx hb dX7_title_44 (by decide) ?_
      refine lv_isub hx hb dX7_title_45 ?_
      have hF : (fX7_title q x1) = ((((q 34 0) + 1) - 1), (rset (rset q 0 (upd (q 0) (q 34 0).toNatClampNeg x1)) 34 (fun _ => ((q 34 0) + 1)))) := (show (fX7_title q x1) = ((((q 34 0) + 1) - 1), (rset (rset q 0 (upd (q 0) (q 34 0).toNatClampNeg x1)) 34 (fun _ => ((q 34 0) + 1)))) by (rw [fX7_title, if_neg c_2, if_neg c_4]); try rfl)
      exact W.iret (v := (((q 34 0) + 1) - 1)) hx hb hr (fun t ht hW => ⟨⟨(((q 34 0) + 1) - 1), (rset (rset q 0 (upd (q 0) (q 34 0).toNatClampNeg x1)) 34 (fun _ => ((q 34 0) + 1))), rfl, ⟨(p_fst hF), (p_snd hF)⟩, w_ht ht hP⟩, hS.F ht⟩) hS.2.2 dX7_title_46
    · have e_5 := i_eq c_4
      refine lv_iconst (v := (-1)) hx hb dX7_title_18 (by decide) ?_
      have hF : (fX7_title q x1) = ((-1), q) := (show (fX7_title q x1) = ((-1), q) by (rw [fX7_title, if_neg c_2, if_pos c_4]); try rfl)
      exact W.iret (v := (-1)) hx hb hr (fun t ht hW => ⟨⟨(-1), q, rfl, ⟨(p_fst hF), (p_snd hF)⟩, w_ht ht hP⟩, hS.F ht⟩) hS.2.2 dX7_title_19
