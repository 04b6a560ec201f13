set_option maxHeartbeats 4000000 in
set_option maxRecDepth 100000 in
theorem law_buy {Rel : wSt → wSt → Prop} (hi : Sim_inv Rel) (hs : Sim_buy Rel) {p : Program} {e : Env} {s : State} {m : MethodId} {below : List Frame} {meth : Method} {c : Code} (l : Launch) {bb L : Nat} {xs : Nat → Int32} {G : va_G} {cy : ClassId} {a b : Nat → Nat} (C : lCtx p s m meth c bb L xs G cy a b) {i : Int32} (h0 : 0 ≤ i.toInt) (h6 : i.toInt + 6 ≤ (L : Int)) {x y : wSt} {H : Heap} {locs : List Loc} (hw : lWorld Rel s G cy a b x y H locs) {ls : Array Slot} (hl : lv_has ls 4 [(0, .ref bb), (1, .ref (a 0)), (2, .ref (b 0)), (3, .int i)]) (kk : ∀ (x1 y1 : wSt) (H1 : Heap) (locs1 : List Loc), lWorld Rel s G cy a b x1 y1 H1 locs1 → W p l e room_1 s m #[Value.ref bb] below meth c H1 locs1 64 5538 (lw_Z below #[Value.ref bb] s) (F0 m 852 ls [])) : W p l e room_1 s m #[Value.ref bb] below meth c H locs 64 5538 (lw_Z below #[Value.ref bb] s) (F0 m 222 ls []) := by
  obtain ⟨C0, hL, hK, hN, hDx, hDy, hap⟩ := id C
  obtain ⟨hx, hb, hr, hml, hown0, hts0, hX, hbl, hlocks, hgv⟩ := id C0
  have hown : s.vm.findClass RL = some m.cls := hown0
  have hts : ∀ w ∈ wsL_law, w.before #[Value.ref bb] s = true := fun w h => hts0 w (wsL_law_in w h)
  have hA : ∀ z : Nat, s.heap.size ≤ z → lA s z := fun _ h => h
  have hbA : ¬ lA s bb := Nat.not_le.mpr hbl
  obtain ⟨hR, hPx, hPy, hS⟩ := hw
  obtain ⟨hI, hJ, hC⟩ := hi x y hR
  have t_1 : (1 : Int32).toInt = 1 := rfl
  have a_1 : (i + 1).toInt = i.toInt + 1 := i_add (by omega)
  have v_1 : vp_in (i + 1) L := vp_in_iff.mpr (by omega)
  have t_2 : (2 : Int32).toInt = 2 := rfl
  have a_2 : (i + 2).toInt = i.toInt + 2 := i_add (by omega)
  have v_2 : vp_in (i + 2) L := vp_in_iff.mpr (by omega)
  refine lv_aload_n hx hb dL_law_222 rfl (lv_at hl 1 rfl) ?_
  refine lv_aload_n hx hb dL_law_223 rfl (lv_at hl 0 rfl) ?_
  refine lv_iload_n hx hb dL_law_224 rfl (lv_at hl 3 rfl) ?_
  refine lv_iconst (v := 1) hx hb dL_law_225 (by decide) ?_
  refine lv_iadd hx hb dL_law_226 ?_
  refine va_sld hx hb hX hbl hbA hS v_1 dL_law_227 ?_
  refine lv_aload_n hx hb dL_law_228 rfl (lv_at hl 0 rfl) ?_
  refine lv_iload_n hx hb dL_law_229 rfl (lv_at hl 3 rfl) ?_
  refine lv_iconst (v := 2) hx hb dL_law_230 (by decide) ?_
  refine lv_iadd hx hb dL_law_231 ?_
  refine va_sld hx hb hX hbl hbA hS v_2 dL_law_232 ?_
  refine w_goI2 (va_runV (As := [.int (xs (i + 1).toNatClampNeg), .int (xs (i + 2).toNatClampNeg)]) (rest := []) ⟨hx, hb, hml, hown, hts⟩ (mX6_buy l G cy a _ x (xs (i + 1).toNatClampNeg) (xs (i + 2).toNatClampNeg) hI) (cwV 2 hts gL_law_X6_buy rfl rfl rfl (by decide +kernel) ⟨(Nat.le_of_ble_eq_true rfl), (Nat.le_of_ble_eq_true rfl)⟩) (w_pre (xOk cy a) (va_recv hK hPx (ci := 6) (q0 := 0) rfl rfl) hK hPx hDx hS hA hN) rfl rfl hl.1 rfl (lv_room (Nat.le_of_ble_eq_true rfl)) dL_law_233 ⟨(Nat.le_of_ble_eq_true rfl), (Nat.le_of_ble_eq_true rfl)⟩) hDx hS hA (fun H locs hPx hk hS => ?_)
  have hPy := w_keep (hap.1 y) hPy hk
  refine lv_aload_n hx hb dL_law_236 rfl (lv_at hl 2 rfl) ?_
  refine lv_aload_n hx hb dL_law_237 rfl (lv_at hl 0 rfl) ?_
  refine lv_iload_n hx hb dL_law_238 rfl (lv_at hl 3 rfl) ?_
  refine lv_iconst (v := 1) hx hb dL_law_239 (by decide) ?_
  refine lv_iadd hx hb dL_law_240 ?_
  refine va_sld hx hb hX hbl hbA hS v_1 dL_law_241 ?_
  refine lv_aload_n hx hb dL_law_242 rfl (lv_at hl 0 rfl) ?_
  refine lv_iload_n hx hb dL_law_243 rfl (lv_at hl 3 rfl) ?_
  refine lv_iconst (v := 2) hx hb dL_law_244 (by decide) ?_
  refine lv_iadd hx hb dL_law_245 ?_
  refine va_sld hx hb hX hbl hbA hS v_2 dL_law_246 ?_
  refine w_goI2 (va_runV (As := [.int (xs (i + 1).toNatClampNeg), .int (xs (i + 2).toNatClampNeg)]) (rest := [.int (fX6_buy x (xs (i + 1).toNatClampNeg) (xs (i + 2).toNatClampNeg)).1]) ⟨hx, hb, hml, hown, hts⟩ (mX7_buy l G cy b _ y (xs (i + 1).toNatClampNeg) (xs (i + 2).toNatClampNeg) hJ) (cwV 2 hts gL_law_X7_buy rfl rfl rfl (by decide +kernel) ⟨(Nat.le_of_ble_eq_true rfl), (Nat.le_of_ble_eq_true rfl)⟩) (w_pre (mOk cy b) (va_recv hK hPy (ci := 7) (q0 := 0) rfl rfl) hK hPy hDy hS hA trivial) rfl rfl hl.1 rfl (lv_room (Nat.le_of_ble_eq_true rfl)) dL_law_247 ⟨(Nat.le_of_ble_eq_true rfl), (Nat.le_of_ble_eq_true rfl)⟩) hDy hS hA (fun H locs hPy hk hS => ?_)
  have hPx := w_keep (hap.2 _) hPx hk
  refine lv_icmp_eq (tgt := 852) hx hb dL_law_250 (by decide) (fun c_1 => ?_) (fun c_1 => ?_)
  · exact kk _ _ _ _ ⟨(hs x y hR (xs (i + 1).toNatClampNeg) (xs (i + 2).toNatClampNeg)).2, hPx, hPy, hS⟩
  · exact absurd (hs x y hR (xs (i + 1).toNatClampNeg) (xs (i + 2).toNatClampNeg)).1 c_1
