set_option maxHeartbeats 4000000 in
set_option maxRecDepth 100000 in
theorem mX1_inBox (l : Launch) (G : va_G) (cy : ClassId) (a : Nat → Nat) (sz : Nat) (q : wSt) (x1 : Int32) (g0 : 0 ≤ (x1).toInt) (g1 : (x1).toInt < 200) : CtI l yX1_inBox wsX1_inBox ({ frames := 0, cells := 0, slots := 0, locals := 0 }) G cy (cX cy a) xN sz q [.ref (a 3), .int x1] (fX1_inBox q x1) q := by
  refine Met.ofW (cc := cX1_inBox) (maxL := 2) (ret := (some .boolean)) (by decide) rfl ?_
  intro p e s m args below meth c s₁ B hml hv
  obtain ⟨rfl, hsz, hP, hK, hD0, hN⟩ := hv
  have hx := B.exec
  have hb := B.bytes
  have hr := B.returns
  have hts := atoms_spec (ws := wsX1_inBox) B.pre
  have hown : s.vm.findClass RX1 = some m.cls := findClass_of_methodNamed B.named
  have hlocks := B.notSynchronized
  subst hsz
  have hD : ∀ z : wSt, va_D (wA (cX cy a) s.heap.size) ((cX cy a) z) := fun z => w_self (xOk cy a).1 hD0 z
  have hA : ∀ z : Nat, s.heap.size ≤ z → wA (cX cy a) s.heap.size z := fun _ h => Or.inr h
  have hS : va_S (wA (cX cy a) s.heap.size) s.heap s.heap [] := va_S.rf
  have hl := lv_entry ([.ref (a 3), .int x1]) (n := 2) (Nat.le_of_ble_eq_true rfl)
  rw [lg_entry_eq]
  generalize (lg_sl ([.ref (a 3), .int x1]) ++ List.replicate (2 - (lg_sl ([.ref (a 3), .int x1])).length) Slot.unset).toArray = ls at hl ⊢
  have hl : lv_has ls 2 [(0, .ref (a 3)), (1, .int x1)] := hl
  have h_1 := hts (.fieldLink RX1 9 RX1 "where" "[I") (by decide +kernel)
  have h_2 := (show ∀ w ∈ u_ws RX1 TX1 13, w ∈ wsX1_inBox by decide +kernel)
  have t_0 : (0 : Int32).toInt = 0 := rfl
  have t_1 : (1 : Int32).toInt = 1 := rfl
  have t_2 : (2 : Int32).toInt = 2 := rfl
  have t_3 : (3 : Int32).toInt = 3 := rfl
  refine lv_aload_n hx hb dX1_inBox_0 rfl (lv_at hl 0 rfl) ?_
  refine gfX1_9 hx hb hts h_2 hown hK hP h_1 dX1_inBox_1 ?_
  refine lv_iload_n hx hb dX1_inBox_4 rfl (lv_at hl 1 rfl) ?_
  have v_1 : vp_in x1 200 := vp_in_iff.mpr (by omega)
  refine ldX_6 (f := (q 6)) hx hb hK hP rfl v_1 dX1_inBox_5 ?_
  refine lv_iconst (v := 2) hx hb dX1_inBox_6 (by decide) ?_
  refine lv_icmp_eq (tgt := 20) hx hb dX1_inBox_7 (by decide) (fun c_2 => ?_) (fun c_2 => ?_)
  · have e_3 := i_eq c_2
    refine lv_iconst (v := 1) hx hb dX1_inBox_20 (by decide) ?_
    refine lv_goto (tgt := 25) hx hb dX1_inBox_21 (by decide) ?_
    exact W.zret (v := 1) hx hb hr rfl (fun t ht hW => ⟨⟨1, q, rfl, ⟨(show (fX1_inBox q x1) = 1 by (rw [fX1_inBox, if_pos c_2]); try rfl).symm, rfl⟩, w_ht ht hP⟩, hS.F ht⟩) hS.2.2 dX1_inBox_25
  · have e_3 := i_ne c_2
    refine lv_aload_n hx hb dX1_inBox_10 rfl (lv_at hl 0 rfl) ?_
    refine gfX1_9 hx hb hts h_2 hown hK hP h_1 dX1_inBox_11 ?_
    refine lv_iload_n hx hb dX1_inBox_14 rfl (lv_at hl 1 rfl) ?_
    have v_4 : vp_in x1 200 := vp_in_iff.mpr (by omega)
    refine ldX_6 (f := (q 6)) hx hb hK hP rfl v_4 dX1_inBox_15 ?_
    refine lv_iconst (v := 3) hx hb dX1_inBox_16 (by decide) ?_
    refine lv_icmp_ne (tgt := 24) hx hb dX1_inBox_17 (by decide) (fun c_5 => ?_) (fun c_5 => ?_)
    · have e_6 := i_ne c_5
      refine lv_iconst (v := 0) hx hb dX1_inBox_24 (by decide) ?_
      exact W.zret (v := 0) hx hb hr rfl (fun t ht hW => ⟨⟨0, q, rfl, ⟨(show (fX1_inBox q x1) = 0 by (rw [fX1_inBox, if_neg c_2, if_neg c_5]); try rfl).symm, rfl⟩, w_ht ht hP⟩, hS.F ht⟩) hS.2.2 dX1_inBox_25
    · have e_6 := i_eq c_5
      refine lv_iconst (v := 1) hx hb dX1_inBox_20 (by decide) ?_
      refine lv_goto (tgt := 25) hx hb dX1_inBox_21 (by decide) ?_
      exact W.zret (v := 1) hx hb hr rfl (fun t ht hW => ⟨⟨1, q, rfl, ⟨(show (fX1_inBox q x1) = 1 by (rw [fX1_inBox, if_neg c_2, if_pos c_5]); try rfl).symm, rfl⟩, w_ht ht hP⟩, hS.F ht⟩) hS.2.2 dX1_inBox_25
