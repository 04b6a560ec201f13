set_option maxHeartbeats 4000000 in
set_option maxRecDepth 100000 in
theorem mX6_unwish (l : Launch) (G : va_G) (cy : ClassId) (a : Nat → Nat) (sz : Nat) (q : wSt) (x1 : Int32) (hI : iI q) : CtI l yX6_unwish wsX6_unwish ({ frames := 2, cells := 0, slots := 0, locals := 42 }) G cy (cX cy a) xN sz q [.ref (a 0), .int x1] (fX6_unwish q x1).1 (fX6_unwish q x1).2 := by
  refine Met.ofW (cc := cX6_unwish) (maxL := 2) (ret := (some .boolean)) (by decide) rfl ?_
  intro p e s m args below meth c s₁ B hml hv
  obtain ⟨rfl, hsz, hP, hK, hD0, hN⟩ := hv
  have hx := B.exec
  have hb := B.bytes
  have hr := B.returns
  have hts := atoms_spec (ws := wsX6_unwish) B.pre
  have hown : s.vm.findClass RX6 = some m.cls := findClass_of_methodNamed B.named
  have hlocks := B.notSynchronized
  subst hsz
  have hD : ∀ z : wSt, va_D (wA (cX cy a) s.heap.size) ((cX cy a) z) := fun z => w_self (xOk cy a).1 hD0 z
  have hA : ∀ z : Nat, s.heap.size ≤ z → wA (cX cy a) s.heap.size z := fun _ h => Or.inr h
  have hS : va_S (wA (cX cy a) s.heap.size) s.heap s.heap [] := va_S.rf
  have hl := lv_entry ([.ref (a 0), .int x1]) (n := 2) (Nat.le_of_ble_eq_true rfl)
  rw [lg_entry_eq]
  generalize (lg_sl ([.ref (a 0), .int x1]) ++ List.replicate (2 - (lg_sl ([.ref (a 0), .int x1])).length) Slot.unset).toArray = ls at hl ⊢
  have hl : lv_has ls 2 [(0, .ref (a 0)), (1, .int x1)] := hl
  have h_1 := hts (.fieldLink RX6 40 RX6 "wishes" "LVolumeHouse$Wishes;") (by decide +kernel)
  have h_2 := (show ∀ w ∈ u_ws RX6 TX6 10, w ∈ wsX6_unwish by decide +kernel)
  have h_3 := (hN.1 _ (List.mem_of_getElem? (i := 52) rfl) : va_Nw (.methodLinkNest RX6 119 yX5_isOpen RX6) s)
  have h_4 := hts (.initialized RX5) (by decide +kernel)
  have h_5 := hts (.instanceMethod yX5_isOpen) (by decide +kernel)
  have h_6 := hts (.selects RX5 yX5_isOpen yX5_isOpen) (by decide +kernel)
  have h_7 := (hN.1 _ (List.mem_of_getElem? (i := 9) rfl) : va_Nw (.fieldLinkNest RX6 122 RX5 "state" "[I" RX6) s)
  have h_8 := (show ∀ w ∈ u_ws RX5 TX5 7, w ∈ wsX6_unwish by decide +kernel)
  have t_0 : (0 : Int32).toInt = 0 := rfl
  have t_1 : (1 : Int32).toInt = 1 := rfl
  have t_2 : (2 : Int32).toInt = 2 := rfl
  have hB := iI_b hI
  refine lv_aload_n hx hb dX6_unwish_0 rfl (lv_at hl 0 rfl) ?_
  refine gfX6_40 hx hb hts h_2 hown hK hP h_1 dX6_unwish_1 ?_
  refine lv_iload_n hx hb dX6_unwish_4 rfl (lv_at hl 1 rfl) ?_
  refine w_goI (va_runVN (As := [.int x1]) (rest := []) ⟨hx, hb, hml, hown, hts⟩ (mX5_isOpen l G cy a _ q x1 (by omega)) ⟨va_cnB 1 hts gX6_unwish_X5_isOpen_n119 rfl rfl rfl h_3 h_4 (by decide +kernel) ⟨Nat.le_of_ble_eq_true rfl, Nat.le_of_ble_eq_true rfl⟩, h_5, h_6⟩ (w_pre (xOk cy a) (va_recv hK hP (ci := 5) (q0 := 5) rfl rfl) hK hP hD hS hA hN) rfl rfl hl.1 rfl (lv_room (Nat.le_of_ble_eq_true rfl)) dX6_unwish_5 ⟨Nat.le_of_ble_eq_true rfl, Nat.le_of_ble_eq_true rfl⟩) hD hS hA (fun H locs hP hS => ?_)
  have e_1 := tX5_isOpen q x1
  refine lv_if_ne (tgt := 13) hx hb dX6_unwish_8 (by decide) (fun c_2 => ?_) (fun c_2 => ?_)
  · have e_3 := i_ne c_2
    refine lv_aload_n hx hb dX6_unwish_13 rfl (lv_at hl 0 rfl) ?_
    refine gfX6_40 hx hb hts h_2 hown hK hP h_1 dX6_unwish_14 ?_
    refine gfX6_122 hx hb hts h_8 hown hK hP h_7 dX6_unwish_17 ?_
    refine lv_iload_n hx hb dX6_unwish_20 rfl (lv_at hl 1 rfl) ?_
    refine lv_iconst (v := 2) hx hb dX6_unwish_21 (by decide) ?_
    have v_4 : vp_in x1 100 := vp_in_iff.mpr (by omega)
    refine stX_24 (f := (q 24)) hx hb hK hP hD hS rfl v_4 dX6_unwish_22 (fun H locs hP hS => ?_)
    refine lv_iconst (v := 1) hx hb dX6_unwish_23 (by decide) ?_
    have hF : (fX6_unwish q x1) = (1, (rset q 24 (upd (q 24) (x1).toNatClampNeg 2))) := (show (fX6_unwish q x1) = (1, (rset q 24 (upd (q 24) (x1).toNatClampNeg 2))) by (rw [fX6_unwish, if_neg c_2]); try rfl)
    exact W.zret (v := 1) hx hb hr rfl (fun t ht hW => ⟨⟨1, (rset q 24 (upd (q 24) (x1).toNatClampNeg 2)), rfl, ⟨(p_fst hF), (p_snd hF)⟩, w_ht ht hP⟩, hS.F ht⟩) hS.2.2 dX6_unwish_24
  · have e_3 := i_eq c_2
    refine lv_iconst (v := 0) hx hb dX6_unwish_11 (by decide) ?_
    have hF : (fX6_unwish q x1) = (0, q) := (show (fX6_unwish q x1) = (0, q) by (rw [fX6_unwish, if_pos c_2]); try rfl)
    exact W.zret (v := 0) hx hb hr rfl (fun t ht hW => ⟨⟨0, q, rfl, ⟨(p_fst hF), (p_snd hF)⟩, w_ht ht hP⟩, hS.F ht⟩) hS.2.2 dX6_unwish_12
