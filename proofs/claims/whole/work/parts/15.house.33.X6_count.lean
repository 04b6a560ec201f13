set_option maxHeartbeats 4000000 in
set_option maxRecDepth 100000 in
theorem mX6_count (l : Launch) (G : va_G) (cy : ClassId) (a : Nat → Nat) (sz : Nat) (q : wSt) (x1 : Int32) : CtI l yX6_count wsX6_count ({ frames := 0, cells := 0, slots := 0, locals := 0 }) G cy (cX cy a) xN sz q [.ref (a 0), .int x1] (fX6_count q x1) q := by
  refine Met.ofW (cc := cX6_count) (maxL := 2) (ret := (some .int)) (by decide) rfl ?_
  intro p e s m args below meth c s₁ B hml hv
  obtain ⟨rfl, hsz, hP, hK, hD0, hN⟩ := hv
  have hx := B.exec
  have hb := B.bytes
  have hr := B.returns
  have hts := atoms_spec (ws := wsX6_count) B.pre
  have hown : s.vm.findClass RX6 = some m.cls := findClass_of_methodNamed B.named
  have hlocks := B.notSynchronized
  subst hsz
  have hD : ∀ z : wSt, va_D (wA (cX cy a) s.heap.size) ((cX cy a) z) := fun z => w_self (xOk cy a).1 hD0 z
  have hA : ∀ z : Nat, s.heap.size ≤ z → wA (cX cy a) s.heap.size z := fun _ h => Or.inr h
  have hS : va_S (wA (cX cy a) s.heap.size) s.heap s.heap [] := va_S.rf
  have hl := lv_entry ([.ref (a 0), .int x1]) (n := 2) (Nat.le_of_ble_eq_true rfl)
  rw [lg_entry_eq]
  generalize (lg_sl ([.ref (a 0), .int x1]) ++ List.replicate (2 - (lg_sl ([.ref (a 0), .int x1])).length) Slot.unset).toArray = ls at hl ⊢
  have hl : lv_has ls 2 [(0, .ref (a 0)), (1, .int x1)] := hl
  have h_1 := hts (.fieldLink RX6 51 RX6 "now" "I") (by decide +kernel)
  have h_2 := (show ∀ w ∈ u_ws RX6 TX6 10, w ∈ wsX6_count by decide +kernel)
  have h_3 := hts (.fieldLink RX6 10 RX6 "titles" "LVolumeHouse$Titles;") (by decide +kernel)
  have h_4 := (hN.1 _ (List.mem_of_getElem? (i := 3) rfl) : va_Nw (.fieldLinkNest RX6 68 RX4 "came" "I" RX6) s)
  have h_5 := (show ∀ w ∈ u_ws RX4 TX4 2, w ∈ wsX6_count by decide +kernel)
  have h_6 := hts (.fieldLink RX6 26 RX6 "copies" "LVolumeHouse$Copies;") (by decide +kernel)
  have h_7 := (hN.1 _ (List.mem_of_getElem? (i := 5) rfl) : va_Nw (.fieldLinkNest RX6 86 RX1 "came" "I" RX6) s)
  have h_8 := (show ∀ w ∈ u_ws RX1 TX1 13, w ∈ wsX6_count by decide +kernel)
  have h_9 := hts (.fieldLink RX6 33 RX6 "readers" "LVolumeHouse$Readers;") (by decide +kernel)
  have h_10 := (hN.1 _ (List.mem_of_getElem? (i := 6) rfl) : va_Nw (.fieldLinkNest RX6 105 RX3 "came" "I" RX6) s)
  have h_11 := (show ∀ w ∈ u_ws RX3 TX3 7, w ∈ wsX6_count by decide +kernel)
  have h_12 := hts (.fieldLink RX6 40 RX6 "wishes" "LVolumeHouse$Wishes;") (by decide +kernel)
  have h_13 := (hN.1 _ (List.mem_of_getElem? (i := 8) rfl) : va_Nw (.fieldLinkNest RX6 114 RX5 "came" "I" RX6) s)
  have h_14 := (show ∀ w ∈ u_ws RX5 TX5 7, w ∈ wsX6_count by decide +kernel)
  have h_15 := hts (.fieldLink RX6 55 RX6 "spent" "I") (by decide +kernel)
  have h_16 := hts (.fieldLink RX6 58 RX6 "earned" "I") (by decide +kernel)
  have h_17 := hts (.fieldLink RX6 61 RX6 "paid" "I") (by decide +kernel)
  have h_18 := (hN.1 _ (List.mem_of_getElem? (i := 29) rfl) : va_Nw (.fieldLinkNest RX6 237 RX1 "lost" "I" RX6) s)
  have t_m1 : ((-1) : Int32).toInt = -1 := rfl
  have t_0 : (0 : Int32).toInt = 0 := rfl
  have t_1 : (1 : Int32).toInt = 1 := rfl
  have t_2 : (2 : Int32).toInt = 2 := rfl
  have t_3 : (3 : Int32).toInt = 3 := rfl
  have t_4 : (4 : Int32).toInt = 4 := rfl
  have t_5 : (5 : Int32).toInt = 5 := rfl
  have t_6 : (6 : Int32).toInt = 6 := rfl
  have t_7 : (7 : Int32).toInt = 7 := rfl
  have t_8 : (8 : Int32).toInt = 8 := rfl
  refine lv_iload_n hx hb dX6_count_0 rfl (lv_at hl 1 rfl) ?_
  refine dite (x1 = 0) (fun c_1 => ?_) (fun c_1 => ?_)
  · refine lv_tableIn (off := 51) (tgt := 52) hx hb dX6_count_1 (by rw [c_1]; decide) (by rw [c_1]; decide) (by rw [c_1]; decide) (by decide) ?_
    refine lv_aload_n hx hb dX6_count_52 rfl (lv_at hl 0 rfl) ?_
    refine gfX6_51 (v := (q 30 0)) hx hb hts h_2 hown hK hP h_1 rfl dX6_count_53 ?_
    exact W.iret (v := (q 30 0)) hx hb hr (fun t ht hW => ⟨⟨(q 30 0), q, rfl, ⟨(show (fX6_count q x1) = (q 30 0) by (rw [fX6_count, if_pos c_1]); try rfl).symm, rfl⟩, w_ht ht hP⟩, hS.F ht⟩) hS.2.2 dX6_count_56
  · have e_10 := i_ne c_1
    refine dite (x1 = 1) (fun c_2 => ?_) (fun c_2 => ?_)
    · refine lv_tableIn (off := 56) (tgt := 57) hx hb dX6_count_1 (by rw [c_2]; decide) (by rw [c_2]; decide) (by rw [c_2]; decide) (by decide) ?_
      refine lv_aload_n hx hb dX6_count_57 rfl (lv_at hl 0 rfl) ?_
      refine gfX6_10 hx hb hts h_2 hown hK hP h_3 dX6_count_58 ?_
      refine gfX6_68 (v := (q 34 0)) hx hb hts h_5 hown hK hP h_4 rfl dX6_count_61 ?_
      exact W.iret (v := (q 34 0)) hx hb hr (fun t ht hW => ⟨⟨(q 34 0), q, rfl, ⟨(show (fX6_count q x1) = (q 34 0) by (rw [fX6_count, if_neg c_1, if_pos c_2]); try rfl).symm, rfl⟩, w_ht ht hP⟩, hS.F ht⟩) hS.2.2 dX6_count_64
    · have e_11 := i_ne c_2
      refine dite (x1 = 2) (fun c_3 => ?_) (fun c_3 => ?_)
      · refine lv_tableIn (off := 64) (tgt := 65) hx hb dX6_count_1 (by rw [c_3]; decide) (by rw [c_3]; decide) (by rw [c_3]; decide) (by decide) ?_
        refine lv_aload_n hx hb dX6_count_65 rfl (lv_at hl 0 rfl) ?_
        refine gfX6_26 hx hb hts h_2 hown hK hP h_6 dX6_count_66 ?_
        refine gfX6_86 (v := (q 36 0)) hx hb hts h_8 hown hK hP h_7 rfl dX6_count_69 ?_
        exact W.iret (v := (q 36 0)) hx hb hr (fun t ht hW => ⟨⟨(q 36 0), q, rfl, ⟨(show (fX6_count q x1) = (q 36 0) by (rw [fX6_count, if_neg c_1, if_neg c_2, if_pos c_3]); try rfl).symm, rfl⟩, w_ht ht hP⟩, hS.F ht⟩) hS.2.2 dX6_count_72
      · have e_12 := i_ne c_3
        refine dite (x1 = 3) (fun c_4 => ?_) (fun c_4 => ?_)
        · refine lv_tableIn (off := 72) (tgt := 73) hx hb dX6_count_1 (by rw [c_4]; decide) (by rw [c_4]; decide) (by rw [c_4]; decide) (by decide) ?_
          refine lv_aload_n hx hb dX6_count_73 rfl (lv_at hl 0 rfl) ?_
          refine gfX6_33 hx hb hts h_2 hown hK hP h_9 dX6_count_74 ?_
          refine gfX6_105 (v := (q 39 0)) hx hb hts h_11 hown hK hP h_10 rfl dX6_count_77 ?_
          exact W.iret (v := (q 39 0)) hx hb hr (fun t ht hW => ⟨⟨(q 39 0), q, rfl, ⟨(show (fX6_count q x1) = (q 39 0) by (rw [fX6_count, if_neg c_1, if_neg c_2, if_neg c_3, if_pos c_4]); try rfl).symm, rfl⟩, w_ht ht hP⟩, hS.F ht⟩) hS.2.2 dX6_count_80
        · have e_13 := i_ne c_4
          refine dite (x1 = 4) (fun c_5 => ?_) (fun c_5 => ?_)
          · refine lv_tableIn (off := 80) (tgt := 81) hx hb dX6_count_1 (by rw [c_5]; decide) (by rw [c_5]; decide) (by rw [c_5]; decide) (by decide) ?_
            refine lv_aload_n hx hb dX6_count_81 rfl (lv_at hl 0 rfl) ?_
            refine gfX6_40 hx hb hts h_2 hown hK hP h_12 dX6_count_82 ?_
            refine gfX6_114 (v := (q 40 0)) hx hb hts h_14 hown hK hP h_13 rfl dX6_count_85 ?_
            exact W.iret (v := (q 40 0)) hx hb hr (fun t ht hW => ⟨⟨(q 40 0), q, rfl, ⟨(show (fX6_count q x1) = (q 40 0) by (rw [fX6_count, if_neg c_1, if_neg c_2, if_neg c_3, if_neg c_4, if_pos c_5]); try rfl).symm, rfl⟩, w_ht ht hP⟩, hS.F ht⟩) hS.2.2 dX6_count_88
          · have e_14 := i_ne c_5
            refine dite (x1 = 5) (fun c_6 => ?_) (fun c_6 => ?_)
            · refine lv_tableIn (off := 88) (tgt := 89) hx hb dX6_count_1 (by rw [c_6]; decide) (by rw [c_6]; decide) (by rw [c_6]; decide) (by decide) ?_
              refine lv_aload_n hx hb dX6_count_89 rfl (lv_at hl 0 rfl) ?_
              refine gfX6_55 (v := (q 31 0)) hx hb hts h_2 hown hK hP h_15 rfl dX6_count_90 ?_
              exact W.iret (v := (q 31 0)) hx hb hr (fun t ht hW => ⟨⟨(q 31 0), q, rfl, ⟨(show (fX6_count q x1) = (q 31 0) by (rw [fX6_count, if_neg c_1, if_neg c_2, if_neg c_3, if_neg c_4, if_neg c_5, if_pos c_6]); try rfl).symm, rfl⟩, w_ht ht hP⟩, hS.F ht⟩) hS.2.2 dX6_count_93
            · have e_15 := i_ne c_6
              refine dite (x1 = 6) (fun c_7 => ?_) (fun c_7 => ?_)
              · refine lv_tableIn (off := 93) (tgt := 94) hx hb dX6_count_1 (by rw [c_7]; decide) (by rw [c_7]; decide) (by rw [c_7]; decide) (by decide) ?_
                refine lv_aload_n hx hb dX6_count_94 rfl (lv_at hl 0 rfl) ?_
                refine gfX6_58 (v := (q 32 0)) hx hb hts h_2 hown hK hP h_16 rfl dX6_count_95 ?_
                exact W.iret (v := (q 32 0)) hx hb hr (fun t ht hW => ⟨⟨(q 32 0), q, rfl, ⟨(show (fX6_count q x1) = (q 32 0) by (rw [fX6_count, if_neg c_1, if_neg c_2, if_neg c_3, if_neg c_4, if_neg c_5, if_neg c_6, if_pos c_7]); try rfl).symm, rfl⟩, w_ht ht hP⟩, hS.F ht⟩) hS.2.2 dX6_count_98
              · have e_16 := i_ne c_7
                refine dite (x1 = 7) (fun c_8 => ?_) (fun c_8 => ?_)
                · refine lv_tableIn (off := 98) (tgt := 99) hx hb dX6_count_1 (by rw [c_8]; decide) (by rw [c_8]; decide) (by rw [c_8]; decide) (by decide) ?_
                  refine lv_aload_n hx hb dX6_count_99 rfl (lv_at hl 0 rfl) ?_
                  refine gfX6_61 (v := (q 33 0)) hx hb hts h_2 hown hK hP h_17 rfl dX6_count_100 ?_
                  exact W.iret (v := (q 33 0)) hx hb hr (fun t ht hW => ⟨⟨(q 33 0), q, rfl, ⟨(show (fX6_count q x1) = (q 33 0) by (rw [fX6_count, if_neg c_1, if_neg c_2, if_neg c_3, if_neg c_4, if_neg c_5, if_neg c_6, if_neg c_7, if_pos c_8]); try rfl).symm, rfl⟩, w_ht ht hP⟩, hS.F ht⟩) hS.2.2 dX6_count_103
                · have e_17 := i_ne c_8
                  refine dite (x1 = 8) (fun c_9 => ?_) (fun c_9 => ?_)
                  · refine lv_tableIn (off := 103) (tgt := 104) hx hb dX6_count_1 (by rw [c_9]; decide) (by rw [c_9]; decide) (by rw [c_9]; decide) (by decide) ?_
                    refine lv_aload_n hx hb dX6_count_104 rfl (lv_at hl 0 rfl) ?_
                    refine gfX6_26 hx hb hts h_2 hown hK hP h_6 dX6_count_105 ?_
                    refine gfX6_237 (v := (q 38 0)) hx hb hts h_8 hown hK hP h_18 rfl dX6_count_108 ?_
                    exact W.iret (v := (q 38 0)) hx hb hr (fun t ht hW => ⟨⟨(q 38 0), q, rfl, ⟨(show (fX6_count q x1) = (q 38 0) by (rw [fX6_count, if_neg c_1, if_neg c_2, if_neg c_3, if_neg c_4, if_neg c_5, if_neg c_6, if_neg c_7, if_neg c_8, if_pos c_9]); try rfl).symm, rfl⟩, w_ht ht hP⟩, hS.F ht⟩) hS.2.2 dX6_count_111
                  · have e_18 := i_ne c_9
                    refine lv_tableOut (tgt := 112) hx hb dX6_count_1 (by omega) (by decide) ?_
                    refine lv_iconst (v := (-1)) hx hb dX6_count_112 (by decide) ?_
                    exact W.iret (v := (-1)) hx hb hr (fun t ht hW => ⟨⟨(-1), q, rfl, ⟨(show (fX6_count q x1) = (-1) by (rw [fX6_count, if_neg c_1, if_neg c_2, if_neg c_3, if_neg c_4, if_neg c_5, if_neg c_6, if_neg c_7, if_neg c_8, if_neg c_9]); try rfl).symm, rfl⟩, w_ht ht hP⟩, hS.F ht⟩) hS.2.2 dX6_count_113
