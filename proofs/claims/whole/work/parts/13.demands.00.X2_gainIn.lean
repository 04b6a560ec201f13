set_option maxHeartbeats 4000000 in
set_option maxRecDepth 100000 in
theorem mX2_gainIn (l : Launch) (G : va_G) (cy : ClassId) (a : Nat → Nat) (sz : Nat) (q : wSt) (x1 : Int32) (x2 : Int32) (x3 : Int32) (g0 : 0 ≤ (x1).toInt) (g1 : (x1).toInt < 21) : CtI l yX2_gainIn wsX2_gainIn ({ frames := 0, cells := 0, slots := 0, locals := 0 }) G cy (cX cy a) xN sz q [.ref (a 6), .int x1, .int x2, .int x3] (fX2_gainIn q x1 x2 x3) q := by
  refine Met.ofW (cc := cX2_gainIn) (maxL := 4) (ret := (some .int)) (by decide) rfl ?_
  intro p e s m args below meth c s₁ B hml hv
  obtain ⟨rfl, hsz, hP, hK, hD0, hN⟩ := hv
  have hx := B.exec
  have hb := B.bytes
  have hr := B.returns
  have hts := atoms_spec (ws := wsX2_gainIn) B.pre
  have hown : s.vm.findClass RX2 = some m.cls := findClass_of_methodNamed B.named
  have hlocks := B.notSynchronized
  subst hsz
  have hD : ∀ z : wSt, va_D (wA (cX cy a) s.heap.size) ((cX cy a) z) := fun z => w_self (xOk cy a).1 hD0 z
  have hA : ∀ z : Nat, s.heap.size ≤ z → wA (cX cy a) s.heap.size z := fun _ h => Or.inr h
  have hS : va_S (wA (cX cy a) s.heap.size) s.heap s.heap [] := va_S.rf
  have hl := lv_entry ([.ref (a 6), .int x1, .int x2, .int x3]) (n := 4) (Nat.le_of_ble_eq_true rfl)
  rw [lg_entry_eq]
  generalize (lg_sl ([.ref (a 6), .int x1, .int x2, .int x3]) ++ List.replicate (4 - (lg_sl ([.ref (a 6), .int x1, .int x2, .int x3])).length) Slot.unset).toArray = ls at hl ⊢
  have hl : lv_has ls 4 [(0, .ref (a 6)), (1, .int x1), (2, .int x2), (3, .int x3)] := hl
  have h_1 := hts (.fieldLink RX2 9 RX2 "wanted" "[I") (by decide +kernel)
  have h_2 := (show ∀ w ∈ u_ws RX2 TX2 2, w ∈ wsX2_gainIn by decide +kernel)
  have t_0 : (0 : Int32).toInt = 0 := rfl
  refine lv_aload_n hx hb dX2_gainIn_0 rfl (lv_at hl 0 rfl) ?_
  refine gfX2_9 hx hb hts h_2 hown hK hP h_1 dX2_gainIn_1 ?_
  refine lv_iload_n hx hb dX2_gainIn_4 rfl (lv_at hl 1 rfl) ?_
  have v_1 : vp_in x1 21 := vp_in_iff.mpr (by omega)
  refine ldX_28 (f := (q 28)) hx hb hK hP rfl v_1 dX2_gainIn_5 ?_
  refine lv_iload_n hx hb dX2_gainIn_6 rfl (lv_at hl 3 rfl) ?_
  refine lv_icmp_le (tgt := 14) hx hb dX2_gainIn_7 (by decide) (fun c_2 => ?_) (fun c_2 => ?_)
  · have e_3 := i_le c_2
    refine lv_iconst (v := 0) hx hb dX2_gainIn_14 (by decide) ?_
    exact W.iret (v := 0) hx hb hr (fun t ht hW => ⟨⟨0, q, rfl, ⟨(show (fX2_gainIn q x1 x2 x3) = 0 by (rw [fX2_gainIn, if_pos c_2]); try rfl).symm, rfl⟩, w_ht ht hP⟩, hS.F ht⟩) hS.2.2 dX2_gainIn_15
  · have e_3 := i_nle c_2
    refine lv_iload_n hx hb dX2_gainIn_10 rfl (lv_at hl 2 rfl) ?_
    refine lv_goto (tgt := 15) hx hb dX2_gainIn_11 (by decide) ?_
    exact W.iret (v := x2) hx hb hr (fun t ht hW => ⟨⟨x2, q, rfl, ⟨(show (fX2_gainIn q x1 x2 x3) = x2 by (rw [fX2_gainIn, if_neg c_2]); try rfl).symm, rfl⟩, w_ht ht hP⟩, hS.F ht⟩) hS.2.2 dX2_gainIn_15
