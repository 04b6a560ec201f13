set_option maxHeartbeats 4000000 in
set_option maxRecDepth 100000 in
theorem mX7_term (l : Launch) (G : va_G) (cy : ClassId) (a : Nat → Nat) (sz : Nat) (q : wSt) (x0 : Int32) : CtI l yX7_term wsX7_term ({ frames := 0, cells := 0, slots := 0, locals := 0 }) G cy (cM cy a) mN sz q [.int x0] (fX7_term q x0) q := by
  refine Met.ofW (cc := cX7_term) (maxL := 1) (ret := (some .int)) (by decide) rfl ?_
  intro p e s m args below meth c s₁ B hml hv
  obtain ⟨rfl, hsz, hP, hK, hD0, hN⟩ := hv
  have hx := B.exec
  have hb := B.bytes
  have hr := B.returns
  have hts := atoms_spec (ws := wsX7_term) B.pre
  have hown : s.vm.findClass RX7 = some m.cls := findClass_of_methodNamed B.named
  have hlocks := B.notSynchronized
  subst hsz
  have hD : ∀ z : wSt, va_D (wA (cM cy a) s.heap.size) ((cM cy a) z) := fun z => w_self (mOk cy a).1 hD0 z
  have hA : ∀ z : Nat, s.heap.size ≤ z → wA (cM cy a) s.heap.size z := fun _ h => Or.inr h
  have hS : va_S (wA (cM cy a) s.heap.size) s.heap s.heap [] := va_S.rf
  have hl := lv_entry ([.int x0]) (n := 1) (Nat.le_of_ble_eq_true rfl)
  rw [lg_entry_eq]
  generalize (lg_sl ([.int x0]) ++ List.replicate (1 - (lg_sl ([.int x0])).length) Slot.unset).toArray = ls at hl ⊢
  have hl : lv_has ls 1 [(0, .int x0)] := hl
  have t_0 : (0 : Int32).toInt = 0 := rfl
  have t_1 : (1 : Int32).toInt = 1 := rfl
  have t_7 : (7 : Int32).toInt = 7 := rfl
  have t_14 : (14 : Int32).toInt = 14 := rfl
  have t_28 : (28 : Int32).toInt = 28 := rfl
  refine lv_iload_n hx hb dX7_term_0 rfl (lv_at hl 0 rfl) ?_
  refine lv_if_ne (tgt := 9) hx hb dX7_term_1 (by decide) (fun c_1 => ?_) (fun c_1 => ?_)
  · have e_2 := i_ne c_1
    refine lv_iload_n hx hb dX7_term_9 rfl (lv_at hl 0 rfl) ?_
    refine lv_iconst (v := 1) hx hb dX7_term_10 (by decide) ?_
    refine lv_icmp_ne (tgt := 19) hx hb dX7_term_11 (by decide) (fun c_3 => ?_) (fun c_3 => ?_)
    · have e_4 := i_ne c_3
      refine lv_bipush (v := 28) hx hb dX7_term_19 (by decide) ?_
      exact W.iret (v := 28) hx hb hr (fun t ht hW => ⟨⟨28, q, rfl, ⟨(show (fX7_term q x0) = 28 by (rw [fX7_term, if_neg c_1, if_neg c_3]); try rfl).symm, rfl⟩, w_ht ht hP⟩, hS.F ht⟩) hS.2.2 dX7_term_21
    · have e_4 := i_eq c_3
      refine lv_bipush (v := 14) hx hb dX7_term_14 (by decide) ?_
      refine lv_goto (tgt := 21) hx hb dX7_term_16 (by decide) ?_
      exact W.iret (v := 14) hx hb hr (fun t ht hW => ⟨⟨14, q, rfl, ⟨(show (fX7_term q x0) = 14 by (rw [fX7_term, if_neg c_1, if_pos c_3]); try rfl).symm, rfl⟩, w_ht ht hP⟩, hS.F ht⟩) hS.2.2 dX7_term_21
  · have e_2 := i_eq c_1
    refine lv_bipush (v := 7) hx hb dX7_term_4 (by decide) ?_
    refine lv_goto (tgt := 21) hx hb dX7_term_6 (by decide) ?_
    exact W.iret (v := 7) hx hb hr (fun t ht hW => ⟨⟨7, q, rfl, ⟨(show (fX7_term q x0) = 7 by (rw [fX7_term, if_pos c_1]); try rfl).symm, rfl⟩, w_ht ht hP⟩, hS.F ht⟩) hS.2.2 dX7_term_21
