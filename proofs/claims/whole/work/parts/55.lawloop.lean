set_option maxHeartbeats 8000000 in
set_option maxRecDepth 100000 in
theorem law_loop {Rel : wSt → wSt → Prop} (hi : Sim_inv Rel) (s0 : Sim_title Rel) (s1 : Sim_bargain Rel) (s2 : Sim_buy Rel) (s3 : Sim_sell Rel) (s4 : Sim_reader Rel) (s5 : Sim_renew Rel) (s6 : Sim_wish Rel) (s7 : Sim_unwish Rel) (s8 : Sim_go Rel) (s9 : Sim_back Rel) (s10 : Sim_lose Rel) (s11 : Sim_pay Rel) (s12 : Sim_copy Rel) (s13 : Sim_told Rel) (s14 : Sim_wished Rel) (s15 : Sim_waiting Rel) (s16 : Sim_sets Rel) (s17 : Sim_demand Rel) (s18 : Sim_best Rel) (s19 : Sim_gain Rel) (s20 : Sim_kept Rel) (s21 : Sim_count Rel) {p : Program} {e : Env} {s : State} {m : MethodId} {below : List Frame} {meth : Method} {c : Code} (l : Launch) {bb L : Nat} {xs : Nat → Int32} {G : va_G} {cy : ClassId} {a b : Nat → Nat} (C : lCtx p s m meth c bb L xs G cy a b) : ∀ (n : Nat) (i : Int32) (x y : wSt) (H : Heap) (locs : List Loc) (ls : Array Slot), ((L : Int) - i.toInt).toNat < n → 0 ≤ i.toInt → i.toInt ≤ (L : Int) → lWorld Rel s G cy a b x y H locs → lv_has ls 4 [(0, .ref bb), (1, .ref (a 0)), (2, .ref (b 0)), (3, .int i)] → W p l e room_1 s m #[Value.ref bb] below meth c H locs 64 5538 (lw_Z below #[Value.ref bb] s) (F0 m 18 ls []) := by
  obtain ⟨C0, hL, hK, hN, hDx, hDy, hap⟩ := id C
  obtain ⟨hx, hb, hr, hml, hown0, hts0, hX, hbl, hlocks, hgv⟩ := id C0
  have hown : s.vm.findClass RL = some m.cls := hown0
  have hts : ∀ w ∈ wsL_law, w.before #[Value.ref bb] s = true := fun w h => hts0 w (wsL_law_in w h)
  have hA : ∀ z : Nat, s.heap.size ≤ z → lA s z := fun _ h => h
  have hbA : ¬ lA s bb := Nat.not_le.mpr hbl
  have t_6 : (6 : Int32).toInt = 6 := rfl
  have t_L : (Int32.ofNat L).toInt = (L : Int) := nI_toInt (by omega)
  have t_L6 : (Int32.ofNat L - 6).toInt = (L : Int) - 6 := by rw [i_sub (by omega)]; omega
  intro n
  induction n with
  | zero => intro i x y H locs ls hm; exact absurd hm (Nat.not_lt_zero _)
  | succ n ih =>
    intro i x y H locs ls hm h0 h1 hw hl
    have hS := hw.2.2.2
    refine lv_iload_n hx hb dL_law_18 rfl (lv_at hl 3 rfl) ?_
    refine lv_aload_n hx hb dL_law_19 rfl (lv_at hl 0 rfl) ?_
    refine va_slen hx hb hX hbl hbA hS dL_law_20 ?_
    refine lv_bipush (v := 6) hx hb dL_law_21 (by decide) ?_
    refine lv_isub hx hb dL_law_23 ?_
    refine lv_icmp_gt (tgt := 858) hx hb dL_law_24 (by decide) (fun c_1 => ?_) (fun c_1 => ?_)
    · refine lv_iconst (v := 1) hx hb dL_law_858 (by decide) ?_
      refine va_forget hS.2.2 ?_
      exact lw_ret hx hb hr hlocks dL_law_859
    · have e_1 := i_nlt c_1
      have h6 : i.toInt + 6 ≤ (L : Int) := by omega
      have v_0 : vp_in i L := vp_in_iff.mpr (by omega)
      have kk : ∀ (x1 y1 : wSt) (H1 : Heap) (locs1 : List Loc), lWorld Rel s G cy a b x1 y1 H1 locs1 → W p l e room_1 s m #[Value.ref bb] below meth c H1 locs1 64 5538 (lw_Z below #[Value.ref bb] s) (F0 m 852 ls []) := by
        intro x1 y1 H1 locs1 hw1
        have a_6 : (i + 6).toInt = i.toInt + 6 := i_add (by omega)
        refine lv_iinc (v := (i + 6)) (lv' := [(3, .int (i + 6)), (0, .ref bb), (1, .ref (a 0)), (2, .ref (b 0))]) hx hb dL_law_852 hl (k := 3) rfl rfl (by decide) rfl (fun ls hl => ?_)
        refine lv_goto (tgt := 18) hx hb dL_law_855 (by decide) ?_
        exact ih (i + 6) x1 y1 H1 locs1 ls (by omega) (by omega) (by omega) hw1 (lv_sub hl [1, 2, 3, 0] rfl)
      refine lv_aload_n hx hb dL_law_27 rfl (lv_at hl 0 rfl) ?_
      refine lv_iload_n hx hb dL_law_28 rfl (lv_at hl 3 rfl) ?_
      refine va_sld hx hb hX hbl hbA hS v_0 dL_law_29 ?_
      refine lv_bipush (v := 31) hx hb dL_law_30 (by decide) ?_
      refine lv_iand hx hb dL_law_32 ?_
      refine lv_topi (fun z ez => ?_)
      have u_0 : (0 : Int32).toInt = 0 := rfl
      have u_1 : (1 : Int32).toInt = 1 := rfl
      have u_2 : (2 : Int32).toInt = 2 := rfl
      have u_3 : (3 : Int32).toInt = 3 := rfl
      have u_4 : (4 : Int32).toInt = 4 := rfl
      have u_5 : (5 : Int32).toInt = 5 := rfl
      have u_6 : (6 : Int32).toInt = 6 := rfl
      have u_7 : (7 : Int32).toInt = 7 := rfl
      have u_8 : (8 : Int32).toInt = 8 := rfl
      have u_9 : (9 : Int32).toInt = 9 := rfl
      have u_10 : (10 : Int32).toInt = 10 := rfl
      have u_11 : (11 : Int32).toInt = 11 := rfl
      have u_12 : (12 : Int32).toInt = 12 := rfl
      have u_13 : (13 : Int32).toInt = 13 := rfl
      have u_14 : (14 : Int32).toInt = 14 := rfl
      have u_15 : (15 : Int32).toInt = 15 := rfl
      have u_16 : (16 : Int32).toInt = 16 := rfl
      have u_17 : (17 : Int32).toInt = 17 := rfl
      have u_18 : (18 : Int32).toInt = 18 := rfl
      have u_19 : (19 : Int32).toInt = 19 := rfl
      have u_20 : (20 : Int32).toInt = 20 := rfl
      have u_21 : (21 : Int32).toInt = 21 := rfl
      refine dite (z = 0) (fun c_10 => ?_) (fun c_10 => ?_)
      · refine lv_tableIn (off := 103) (tgt := 136) hx hb dL_law_33 (by rw [c_10]; decide) (by rw [c_10]; decide) (by rw [c_10]; decide) (by decide) ?_
        exact law_title hi s0 l C h0 h6 hw hl kk
      have d_0 := i_ne c_10
      refine dite (z = 1) (fun c_11 => ?_) (fun c_11 => ?_)
      · refine lv_tableIn (off := 126) (tgt := 159) hx hb dL_law_33 (by rw [c_11]; decide) (by rw [c_11]; decide) (by rw [c_11]; decide) (by decide) ?_
        exact law_bargain hi s1 l C h0 h6 hw hl kk
      have d_1 := i_ne c_11
      refine dite (z = 2) (fun c_12 => ?_) (fun c_12 => ?_)
      · refine lv_tableIn (off := 189) (tgt := 222) hx hb dL_law_33 (by rw [c_12]; decide) (by rw [c_12]; decide) (by rw [c_12]; decide) (by decide) ?_
        exact law_buy hi s2 l C h0 h6 hw hl kk
      have d_2 := i_ne c_12
      refine dite (z = 3) (fun c_13 => ?_) (fun c_13 => ?_)
      · refine lv_tableIn (off := 222) (tgt := 255) hx hb dL_law_33 (by rw [c_13]; decide) (by rw [c_13]; decide) (by rw [c_13]; decide) (by decide) ?_
        exact law_sell hi s3 l C h0 h6 hw hl kk
      have d_3 := i_ne c_13
      refine dite (z = 4) (fun c_14 => ?_) (fun c_14 => ?_)
      · refine lv_tableIn (off := 255) (tgt := 288) hx hb dL_law_33 (by rw [c_14]; decide) (by rw [c_14]; decide) (by rw [c_14]; decide) (by decide) ?_
        exact law_reader hi s4 l C h0 h6 hw hl kk
      have d_4 := i_ne c_14
      refine dite (z = 5) (fun c_15 => ?_) (fun c_15 => ?_)
      · refine lv_tableIn (off := 298) (tgt := 331) hx hb dL_law_33 (by rw [c_15]; decide) (by rw [c_15]; decide) (by rw [c_15]; decide) (by decide) ?_
        exact law_renew hi s5 l C h0 h6 hw hl kk
      have d_5 := i_ne c_15
      refine dite (z = 6) (fun c_16 => ?_) (fun c_16 => ?_)
      · refine lv_tableIn (off := 331) (tgt := 364) hx hb dL_law_33 (by rw [c_16]; decide) (by rw [c_16]; decide) (by rw [c_16]; decide) (by decide) ?_
        exact law_wish hi s6 l C h0 h6 hw hl kk
      have d_6 := i_ne c_16
      refine dite (z = 7) (fun c_17 => ?_) (fun c_17 => ?_)
      · refine lv_tableIn (off := 364) (tgt := 397) hx hb dL_law_33 (by rw [c_17]; decide) (by rw [c_17]; decide) (by rw [c_17]; decide) (by decide) ?_
        exact law_unwish hi s7 l C h0 h6 hw hl kk
      have d_7 := i_ne c_17
      refine dite (z = 8) (fun c_18 => ?_) (fun c_18 => ?_)
      · refine lv_tableIn (off := 387) (tgt := 420) hx hb dL_law_33 (by rw [c_18]; decide) (by rw [c_18]; decide) (by rw [c_18]; decide) (by decide) ?_
        exact law_go hi s8 l C h0 h6 hw hl kk
      have d_8 := i_ne c_18
      refine dite (z = 9) (fun c_19 => ?_) (fun c_19 => ?_)
      · refine lv_tableIn (off := 410) (tgt := 443) hx hb dL_law_33 (by rw [c_19]; decide) (by rw [c_19]; decide) (by rw [c_19]; decide) (by decide) ?_
        exact law_back hi s9 l C h0 h6 hw hl kk
      have d_9 := i_ne c_19
      refine dite (z = 10) (fun c_20 => ?_) (fun c_20 => ?_)
      · refine lv_tableIn (off := 433) (tgt := 466) hx hb dL_law_33 (by rw [c_20]; decide) (by rw [c_20]; decide) (by rw [c_20]; decide) (by decide) ?_
        exact law_lose hi s10 l C h0 h6 hw hl kk
      have d_10 := i_ne c_20
      refine dite (z = 11) (fun c_21 => ?_) (fun c_21 => ?_)
      · refine lv_tableIn (off := 456) (tgt := 489) hx hb dL_law_33 (by rw [c_21]; decide) (by rw [c_21]; decide) (by rw [c_21]; decide) (by decide) ?_
        exact law_pay hi s11 l C h0 h6 hw hl kk
      have d_11 := i_ne c_21
      refine dite (z = 12) (fun c_22 => ?_) (fun c_22 => ?_)
      · refine lv_tableIn (off := 489) (tgt := 522) hx hb dL_law_33 (by rw [c_22]; decide) (by rw [c_22]; decide) (by rw [c_22]; decide) (by decide) ?_
        exact law_copy hi s12 l C h0 h6 hw hl kk
      have d_12 := i_ne c_22
      refine dite (z = 13) (fun c_23 => ?_) (fun c_23 => ?_)
      · refine lv_tableIn (off := 522) (tgt := 555) hx hb dL_law_33 (by rw [c_23]; decide) (by rw [c_23]; decide) (by rw [c_23]; decide) (by decide) ?_
        exact law_told hi s13 l C h0 h6 hw hl kk
      have d_13 := i_ne c_23
      refine dite (z = 14) (fun c_24 => ?_) (fun c_24 => ?_)
      · refine lv_tableIn (off := 555) (tgt := 588) hx hb dL_law_33 (by rw [c_24]; decide) (by rw [c_24]; decide) (by rw [c_24]; decide) (by decide) ?_
        exact law_wished hi s14 l C h0 h6 hw hl kk
      have d_14 := i_ne c_24
      refine dite (z = 15) (fun c_25 => ?_) (fun c_25 => ?_)
      · refine lv_tableIn (off := 588) (tgt := 621) hx hb dL_law_33 (by rw [c_25]; decide) (by rw [c_25]; decide) (by rw [c_25]; decide) (by decide) ?_
        exact law_waiting hi s15 l C h0 h6 hw hl kk
      have d_15 := i_ne c_25
      refine dite (z = 16) (fun c_26 => ?_) (fun c_26 => ?_)
      · refine lv_tableIn (off := 621) (tgt := 654) hx hb dL_law_33 (by rw [c_26]; decide) (by rw [c_26]; decide) (by rw [c_26]; decide) (by decide) ?_
        exact law_sets hi s16 l C h0 h6 hw hl kk
      have d_16 := i_ne c_26
      refine dite (z = 17) (fun c_27 => ?_) (fun c_27 => ?_)
      · refine lv_tableIn (off := 644) (tgt := 677) hx hb dL_law_33 (by rw [c_27]; decide) (by rw [c_27]; decide) (by rw [c_27]; decide) (by decide) ?_
        exact law_demand hi s17 l C h0 h6 hw hl kk
      have d_17 := i_ne c_27
      refine dite (z = 18) (fun c_28 => ?_) (fun c_28 => ?_)
      · refine lv_tableIn (off := 687) (tgt := 720) hx hb dL_law_33 (by rw [c_28]; decide) (by rw [c_28]; decide) (by rw [c_28]; decide) (by decide) ?_
        exact law_best hi s18 l C h0 h6 hw hl kk
      have d_18 := i_ne c_28
      refine dite (z = 19) (fun c_29 => ?_) (fun c_29 => ?_)
      · refine lv_tableIn (off := 720) (tgt := 753) hx hb dL_law_33 (by rw [c_29]; decide) (by rw [c_29]; decide) (by rw [c_29]; decide) (by decide) ?_
        exact law_gain hi s19 l C h0 h6 hw hl kk
      have d_19 := i_ne c_29
      refine dite (z = 20) (fun c_30 => ?_) (fun c_30 => ?_)
      · refine lv_tableIn (off := 753) (tgt := 786) hx hb dL_law_33 (by rw [c_30]; decide) (by rw [c_30]; decide) (by rw [c_30]; decide) (by decide) ?_
        exact law_kept hi s20 l C h0 h6 hw hl kk
      have d_20 := i_ne c_30
      refine dite (z = 21) (fun c_31 => ?_) (fun c_31 => ?_)
      · refine lv_tableIn (off := 796) (tgt := 829) hx hb dL_law_33 (by rw [c_31]; decide) (by rw [c_31]; decide) (by rw [c_31]; decide) (by decide) ?_
        exact law_count hi s21 l C h0 h6 hw hl kk
      have d_21 := i_ne c_31
      refine lv_tableOut (tgt := 852) hx hb dL_law_33 (by omega) (by decide) ?_
      exact kk x y H locs hw
