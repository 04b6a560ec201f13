set_option maxHeartbeats 4000000 in
set_option maxRecDepth 100000 in
theorem mX7_most (l : Launch) (G : va_G) (cy : ClassId) (a : Nat → Nat) (sz : Nat) (q : wSt) (x1 : Int32) (g0 : 0 ≤ (x1).toInt) (g1 : (x1).toInt < 20) : CtI l yX7_most wsX7_most ({ frames := 0, cells := 0, slots := 0, locals := 0 }) G cy (cM cy a) mN sz q [.ref (a 0), .int x1] (fX7_most q x1) q := by
  refine Met.ofW (cc := cX7_most) (maxL := 2) (ret := (some .int)) (by decide) rfl ?_
  intro p e s m args below meth c s₁ B hml hv
  obtain ⟨rfl, hsz, hP, hK, hD0, hN⟩ := hv
  have hx := B.exec
  have hb := B.bytes
  have hr := B.returns
  have hts := atoms_spec (ws := wsX7_most) B.pre
  have hown : s.vm.findClass RX7 = some m.cls := findClass_of_methodNamed B.named
  have hlocks := B.notSynchronized
  subst hsz
  have hD : ∀ z : wSt, va_D (wA (cM cy a) s.heap.size) ((cM cy a) z) := fun z => w_self (mOk cy a).1 hD0 z
  have hA : ∀ z : Nat, s.heap.size ≤ z → wA (cM cy a) s.heap.size z := fun _ h => Or.inr h
  have hS : va_S (wA (cM cy a) s.heap.size) s.heap s.heap [] := va_S.rf
  have hl := lv_entry ([.ref (a 0), .int x1]) (n := 2) (Nat.le_of_ble_eq_true rfl)
  rw [lg_entry_eq]
  generalize (lg_sl ([.ref (a 0), .int x1]) ++ List.replicate (2 - (lg_sl ([.ref (a 0), .int x1])).length) Slot.unset).toArray = ls at hl ⊢
  have hl : lv_has ls 2 [(0, .ref (a 0)), (1, .int x1)] := hl
  have h_1 := hts (.fieldLink RX7 40 RX7 "rank" "[I") (by decide +kernel)
  have h_2 := (show ∀ w ∈ u_ws RX7 TX7 35, w ∈ wsX7_most by decide +kernel)
  have t_0 : (0 : Int32).toInt = 0 := rfl
  have t_1 : (1 : Int32).toInt = 1 := rfl
  have t_3 : (3 : Int32).toInt = 3 := rfl
  have t_6 : (6 : Int32).toInt = 6 := rfl
  refine lv_aload_n hx hb dX7_most_0 rfl (lv_at hl 0 rfl) ?_
  refine gfX7_40 hx hb hts h_2 hown hK hP h_1 dX7_most_1 ?_
  refine lv_iload_n hx hb dX7_most_4 rfl (lv_at hl 1 rfl) ?_
  have v_1 : vp_in x1 20 := vp_in_iff.mpr (by omega)
  refine ldM_16 (f := (q 16)) hx hb hK hP rfl v_1 dX7_most_5 ?_
  refine lv_if_ne (tgt := 13) hx hb dX7_most_6 (by decide) (fun c_2 => ?_) (fun c_2 => ?_)
  · have e_3 := i_ne c_2
    refine lv_aload_n hx hb dX7_most_13 rfl (lv_at hl 0 rfl) ?_
    refine gfX7_40 hx hb hts h_2 hown hK hP h_1 dX7_most_14 ?_
    refine lv_iload_n hx hb dX7_most_17 rfl (lv_at hl 1 rfl) ?_
    have v_4 : vp_in x1 20 := vp_in_iff.mpr (by omega)
    refine ldM_16 (f := (q 16)) hx hb hK hP rfl v_4 dX7_most_18 ?_
    refine lv_iconst (v := 1) hx hb dX7_most_19 (by decide) ?_
    refine lv_icmp_ne (tgt := 27) hx hb dX7_most_20 (by decide) (fun c_5 => ?_) (fun c_5 => ?_)
    · have e_6 := i_ne c_5
      refine lv_bipush (v := 6) hx hb dX7_most_27 (by decide) ?_
      exact W.iret (v := 6) hx hb hr (fun t ht hW => ⟨⟨6, q, rfl, ⟨(show (fX7_most q x1) = 6 by (rw [fX7_most, if_neg c_2, if_neg c_5]); try rfl).symm, rfl⟩, w_ht ht hP⟩, hS.F ht⟩) hS.2.2 dX7_most_29
    · have e_6 := i_eq c_5
      refine lv_iconst (v := 3) hx hb dX7_most_23 (by decide) ?_
      refine lv_goto (tgt := 29) hx hb dX7_most_24 (by decide) ?_
      exact W.iret (v := 3) hx hb hr (fun t ht hW => ⟨⟨3, q, rfl, ⟨(show (fX7_most q x1) = 3 by (rw [fX7_most, if_neg c_2, if_pos c_5]); try rfl).symm, rfl⟩, w_ht ht hP⟩, hS.F ht⟩) hS.2.2 dX7_most_29
  · have e_3 := i_eq c_2
    refine lv_iconst (v := 1) hx hb dX7_most_9 (by decide) ?_
    refine lv_goto (tgt := 29) hx hb dX7_most_10 (by decide) ?_
    exact W.iret (v := 1) hx hb hr (fun t ht hW => ⟨⟨1, q, rfl, ⟨(show (fX7_most q x1) = 1 by (rw [fX7_most, if_pos c_2]); try rfl).symm, rfl⟩, w_ht ht hP⟩, hS.F ht⟩) hS.2.2 dX7_most_29
