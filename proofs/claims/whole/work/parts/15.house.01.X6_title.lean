set_option maxHeartbeats 4000000 in
set_option maxRecDepth 100000 in
theorem mX6_title (l : Launch) (G : va_G) (cy : ClassId) (a : Nat → Nat) (sz : Nat) (q : wSt) (x1 : Int32) (hI : iI q) : CtI l yX6_title wsX6_title ({ frames := 1, cells := 0, slots := 0, locals := 22 }) G cy (cX cy a) xN sz q [.ref (a 0), .int x1] (fX6_title q x1).1 (fX6_title q x1).2 := by
  refine Met.ofW (cc := cX6_title) (maxL := 2) (ret := (some .int)) (by decide) rfl ?_
  intro p e s m args below meth c s₁ B hml hv
  obtain ⟨rfl, hsz, hP, hK, hD0, hN⟩ := hv
  have hx := B.exec
  have hb := B.bytes
  have hr := B.returns
  have hts := atoms_spec (ws := wsX6_title) B.pre
  have hown : s.vm.findClass RX6 = some m.cls := findClass_of_methodNamed B.named
  have hlocks := B.notSynchronized
  subst hsz
  have hD : ∀ z : wSt, va_D (wA (cX cy a) s.heap.size) ((cX cy a) z) := fun z => w_self (xOk cy a).1 hD0 z
  have hA : ∀ z : Nat, s.heap.size ≤ z → wA (cX cy a) s.heap.size z := fun _ h => Or.inr h
  have hS : va_S (wA (cX cy a) s.heap.size) s.heap s.heap [] := va_S.rf
  have hl := lv_entry ([.ref (a 0), .int x1]) (n := 2) (Nat.le_of_ble_eq_true rfl)
  rw [lg_entry_eq]
  generalize (lg_sl ([.ref (a 0), .int x1]) ++ List.replicate (2 - (lg_sl ([.ref (a 0), .int x1])).length) Slot.unset).toArray = ls at hl ⊢
  have hl : lv_has ls 2 [(0, .ref (a 0)), (1, .int x1)] := hl
  have h_1 := hts (.fieldLink RX6 10 RX6 "titles" "LVolumeHouse$Titles;") (by decide +kernel)
  have h_2 := (show ∀ w ∈ u_ws RX6 TX6 10, w ∈ wsX6_title by decide +kernel)
  have h_3 := (hN.1 _ (List.mem_of_getElem? (i := 3) rfl) : va_Nw (.fieldLinkNest RX6 68 RX4 "came" "I" RX6) s)
  have h_4 := (show ∀ w ∈ u_ws RX4 TX4 2, w ∈ wsX6_title by decide +kernel)
  have h_5 := (hN.1 _ (List.mem_of_getElem? (i := 39) rfl) : va_Nw (.methodLinkNest RX6 71 yX4_add RX6) s)
  have h_6 := hts (.initialized RX4) (by decide +kernel)
  have h_7 := hts (.instanceMethod yX4_add) (by decide +kernel)
  have h_8 := hts (.selects RX4 yX4_add yX4_add) (by decide +kernel)
  have t_m1 : ((-1) : Int32).toInt = -1 := rfl
  have t_0 : (0 : Int32).toInt = 0 := rfl
  have t_1 : (1 : Int32).toInt = 1 := rfl
  have t_4 : (4 : Int32).toInt = 4 := rfl
  have t_12 : (12 : Int32).toInt = 12 := rfl
  have hB := iI_b hI
  refine lv_iload_n hx hb dX6_title_0 rfl (lv_at hl 1 rfl) ?_
  refine lv_iconst (v := 1) hx hb dX6_title_1 (by decide) ?_
  refine lv_iconst (v := 4) hx hb dX6_title_2 (by decide) ?_
  refine w_goI (va_runS (As := [.int x1, .int 1, .int 4]) (rest := []) ⟨hx, hb, hml, hown, hts⟩ (mX6_within l G cy a _ q x1 1 4) (va_cwS 3 hts gX6_title_X6_within rfl rfl rfl (by decide +kernel) ⟨Nat.le_of_ble_eq_true rfl, Nat.le_of_ble_eq_true rfl⟩) (w_preS (xOk cy a) hK hP hD hS hA hN) rfl rfl hl.1 rfl (lv_room (Nat.le_of_ble_eq_true rfl)) dX6_title_3 ⟨Nat.le_of_ble_eq_true rfl, Nat.le_of_ble_eq_true rfl⟩) hD hS hA (fun H locs hP hS => ?_)
  have e_1 := tX6_within q x1 1 4
  refine lv_if_eq (tgt := 21) hx hb dX6_title_6 (by decide) (fun c_2 => ?_) (fun c_2 => ?_)
  · have e_3 := i_eq c_2
    refine lv_iconst (v := (-1)) hx hb dX6_title_21 (by decide) ?_
    have hF : (fX6_title q x1) = ((-1), q) := (show (fX6_title q x1) = ((-1), q) by (rw [fX6_title, if_pos c_2]); try rfl)
    exact W.iret (v := (-1)) hx hb hr (fun t ht hW => ⟨⟨(-1), q, rfl, ⟨(p_fst hF), (p_snd hF)⟩, w_ht ht hP⟩, hS.F ht⟩) hS.2.2 dX6_title_22
  · have e_3 := i_ne c_2
    refine lv_aload_n hx hb dX6_title_9 rfl (lv_at hl 0 rfl) ?_
    refine gfX6_10 hx hb hts h_2 hown hK hP h_1 dX6_title_10 ?_
    refine gfX6_68 (v := (q 34 0)) hx hb hts h_4 hown hK hP h_3 rfl dX6_title_13 ?_
    refine lv_bipush (v := 12) hx hb dX6_title_16 (by decide) ?_
    refine lv_icmp_lt (tgt := 23) hx hb dX6_title_18 (by decide) (fun c_4 => ?_) (fun c_4 => ?_)
    · have e_5 := i_lt c_4
      refine lv_aload_n hx hb dX6_title_23 rfl (lv_at hl 0 rfl) ?_
      refine gfX6_10 hx hb hts h_2 hown hK hP h_1 dX6_title_24 ?_
      refine lv_iload_n hx hb dX6_title_27 rfl (lv_at hl 1 rfl) ?_
      refine w_goI (va_runVN (As := [.int x1]) (rest := []) ⟨hx, hb, hml, hown, hts⟩ (mX4_add l G cy a _ q x1 (by omega) (by omega)) ⟨va_cnB 1 hts gX6_title_X4_add_n71 rfl rfl rfl h_5 h_6 (by decide +kernel) ⟨Nat.le_of_ble_eq_true rfl, Nat.le_of_ble_eq_true rfl⟩, h_7, h_8⟩ (w_pre (xOk cy a) (va_recv hK hP (ci := 4) (q0 := 1) rfl rfl) hK hP hD hS hA hN) rfl rfl hl.1 rfl (lv_room (Nat.le_of_ble_eq_true rfl)) dX6_title_28 ⟨Nat.le_of_ble_eq_true rfl, Nat.le_of_ble_eq_true rfl⟩) hD hS hA (fun H locs hP hS => ?_)
      have hF : (fX6_title q x1) = ((fX4_add q x1).1, (fX4_add q x1).2) := (show (fX6_title q x1) = ((fX4_add q x1).1, (fX4_add q x1).2) by (rw [fX6_title, if_neg c_2, if_pos c_4]); try rfl)
      exact W.iret (v := (fX4_add q x1).1) hx hb hr (fun t ht hW => ⟨⟨(fX4_add q x1).1, (fX4_add q x1).2, rfl, ⟨(p_fst hF), (p_snd hF)⟩, w_ht ht hP⟩, hS.F ht⟩) hS.2.2 dX6_title_31
    · have e_5 := i_nlt c_4
      refine lv_iconst (v := (-1)) hx hb dX6_title_21 (by decide) ?_
      have hF : (fX6_title q x1) = ((-1), q) := (show (fX6_title q x1) = ((-1), q) by (rw [fX6_title, if_neg c_2, if_neg c_4]); try rfl)
      exact W.iret (v := (-1)) hx hb hr (fun t ht hW => ⟨⟨(-1), q, rfl, ⟨(p_fst hF), (p_snd hF)⟩, w_ht ht hP⟩, hS.F ht⟩) hS.2.2 dX6_title_22
