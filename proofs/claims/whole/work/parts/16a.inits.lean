theorem w_cA {G : va_G} {cl : List vw_C} {s : State} {c1 c2 : ClassId} (h : va_K G cl ([(c1, .int)] ++ [(c2, .int)]) s) : c2 = c1 := by
  have h1 : s.vm.findClass ("[" ++ FieldType.int.toString) = some c1 := (h.2 0 _ rfl).2
  have h2 : s.vm.findClass ("[" ++ FieldType.int.toString) = some c2 := (h.2 1 _ rfl).2
  exact Option.some.inj (h2.symm.trans h1)
def iX4 (cy : ClassId) (h0 : Nat) (b : Nat → Nat) : va_W := [(h0, .inr (4, [.ref (b 0), .int 0])), (b 0, .inl (cy, 12, .inl (fun _ => 0)))]
set_option maxHeartbeats 4000000 in
set_option maxRecDepth 100000 in
theorem mX4_init (l : Launch) (G : va_G) (cy : ClassId) (h0 sz : Nat) : Met l yX4_init wsX4_init ({ frames := 1, cells := 1, slots := 12, locals := 20 }) (va_Pc [.ref h0] (fun U => U.heap.size = sz ∧ va_P G vwCl [(h0, .inr (4, [.null, .int 0]))] U.heap ∧ va_K G vwCl [(cy, .int)] U ∧ va_D (fun _ => True) [(h0, .inr (4, [.null, .int 0]))])) (va_Qv (fun (_ : Nat → Nat) => True) (fun b t => va_P G vwCl (iX4 cy h0 b) t.heap ∧ va_D (va_A [(h0, .inr (4, [.null, .int 0]))] sz) (iX4 cy h0 b)) (va_A [(h0, .inr (4, [.null, .int 0]))] sz)) 1 12 (va_A [(h0, .inr (4, [.null, .int 0]))] sz) := by
  refine Met.ofW (cc := cX4_init) (maxL := 1) (ret := none) (by decide) rfl ?_
  intro p e s m args below meth c s₁ B hml hv
  obtain ⟨rfl, hsz, hP, hK, hD0⟩ := hv
  have hx := B.exec
  have hb := B.bytes
  have hr := B.returns
  have hts := atoms_spec (ws := wsX4_init) B.pre
  have hown : s.vm.findClass RX4 = some m.cls := findClass_of_methodNamed B.named
  have hlocks := B.notSynchronized
  have hin : meth.name = "<init>" := (name_of_methodNamed B.named B.method).1
  subst hsz
  have hD := hD0.self (sz := s.heap.size)
  generalize hAe : va_A [(h0, .inr (4, [.null, .int 0]))] s.heap.size = A at hD ⊢
  have hA : ∀ q : Nat, s.heap.size ≤ q → A q := fun q h => by rw [← hAe]; exact Or.inr h
  have hS : va_S A s.heap s.heap [] := va_S.rf
  have hl := lv_entry ([.ref h0]) (n := 1) (Nat.le_of_ble_eq_true rfl)
  rw [lg_entry_eq]
  generalize (lg_sl ([.ref h0]) ++ List.replicate (1 - (lg_sl ([.ref h0])).length) Slot.unset).toArray = ls at hl ⊢
  have hl : lv_has ls 1 [(0, .ref h0)] := hl
  have hi : ∀ w ∈ u_ws RX4 TX4 2, w ∈ wsX4_init := by decide +kernel
  refine lv_aload_n hx hb dX4_init_0 rfl (lv_at hl 0 rfl) ?_
  refine W.objInit hx hb hown (hts (.methodLink RX4 3 objectInit) (by decide +kernel)) (hts (.instanceMethod objectInit) (by decide +kernel)) (hts (.code objectInit ⟨#[0xb1]⟩ 1 none) (by decide +kernel)) rfl (by rw [hml]; exact hl.1) rfl dX4_init_1 (Nat.le_of_ble_eq_true rfl) (Nat.le_of_ble_eq_true rfl) ?_
  refine W.eq (g2 := F0 m 4 ls []) rfl ?_
  refine lv_aload_n hx hb dX4_init_4 rfl (lv_at hl 0 rfl) ?_
  refine lv_bipush (v := 12) hx hb dX4_init_5 (by decide) ?_
  refine va_newa (ty := .int) (a0 := (12, .inl (fun _ => 0))) (N' := 12) hx hb (hts (.arrayClass .int) (by decide +kernel)) rfl hK hP hD hS hA (fun _ => rfl) (by decide) (by decide) (by decide) (Nat.le_of_ble_eq_true rfl) (Nat.le_of_ble_eq_true rfl) dX4_init_7 (fun q1 cA1 H hK hP hD hS => ?_)
  obtain rfl : cA1 = cy := w_cA hK
  have hK := hK.sub (tys' := [(cy, .int)]) [0] rfl
  have hP : va_P G vwCl [(h0, .inr (4, [.null, .int 0])), (q1, .inl (cy, 12, .inl (fun _ => 0)))] H := hP
  have hD : va_D A [(h0, .inr (4, [.null, .int 0])), (q1, .inl (cy, 12, .inl (fun _ => 0)))] := hD
  refine W.widen (k := 1) (n := 12) (Nat.le_of_ble_eq_true rfl) (Nat.le_of_ble_eq_true rfl) ?_
  refine va_putF (D := G) (ci := 4) (v := .ref q1) (ty := .array .int) (C := RX4) (T := TX4) (N := 2) hx hb hts hi tyX4 tyX4_ok nmX4 hown hK hP hD hS 0 rfl rfl 0 (by decide) (hts (.fieldLink RX4 9 RX4 "volumes" "[I") (by decide +kernel)) (fun _ h9 => h9) rfl hin rfl (by decide +kernel) rfl rfl (Nat.le_of_ble_eq_true rfl) dX4_init_9 (fun H locs hP hD hS => ?_)
  have hP : va_P G vwCl [(h0, .inr (4, [.ref q1, .int 0])), (q1, .inl (cy, 12, .inl (fun _ => 0)))] H := hP
  have hD : va_D A [(h0, .inr (4, [.ref q1, .int 0])), (q1, .inl (cy, 12, .inl (fun _ => 0)))] := hD
  refine lv_aload_n hx hb dX4_init_12 rfl (lv_at hl 0 rfl) ?_
  refine lv_iconst (v := 0) hx hb dX4_init_13 (by decide) ?_
  refine va_put (D := G) (ci := 4) (v := .int 0) (ty := .int) (C := RX4) (T := TX4) (N := 2) hx hb hts hi tyX4 tyX4_ok nmX4 hown hK hP hD hS 0 rfl rfl 1 (by decide) (hts (.fieldLink RX4 15 RX4 "came" "I") (by decide +kernel)) (fun _ h9 => h9) rfl (by decide +kernel) rfl rfl (Nat.le_of_ble_eq_true rfl) dX4_init_14 (fun H locs hP hD hS => ?_)
  have hP : va_P G vwCl [(h0, .inr (4, [.ref q1, .int 0])), (q1, .inl (cy, 12, .inl (fun _ => 0)))] H := hP
  have hD : va_D A [(h0, .inr (4, [.ref q1, .int 0])), (q1, .inl (cy, 12, .inl (fun _ => 0)))] := hD
  exact W.vret hx hb hr (fun t ht hW => ⟨⟨(fun k => [q1].getD k 0), rfl, trivial, (show va_P G vwCl [(h0, .inr (4, [.ref q1, .int 0])), (q1, .inl (cy, 12, .inl (fun _ => 0)))] t.heap by rw [ht]; exact hP), hD⟩, hS.F ht⟩) hS.2.2 dX4_init_17
def iX0 (cy : ClassId) (h0 : Nat) (b : Nat → Nat) : va_W := [(h0, .inr (0, [.ref (b 0), .ref (b 1), .ref (b 2), .ref (b 3), .ref (b 4), .int 0])), (b 0, .inl (cy, 40, .inl (fun _ => 0))), (b 1, .inl (cy, 40, .inl (fun _ => 0))), (b 2, .inl (cy, 40, .inl (fun _ => 0))), (b 3, .inl (cy, 40, .inl (fun _ => 0))), (b 4, .inl (cy, 40, .inl (fun _ => 0)))]
set_option maxHeartbeats 4000000 in
set_option maxRecDepth 100000 in
theorem mX0_init (l : Launch) (G : va_G) (cy : ClassId) (h0 sz : Nat) : Met l yX0_init wsX0_init ({ frames := 1, cells := 5, slots := 200, locals := 20 }) (va_Pc [.ref h0] (fun U => U.heap.size = sz ∧ va_P G vwCl [(h0, .inr (0, [.null, .null, .null, .null, .null, .int 0]))] U.heap ∧ va_K G vwCl [(cy, .int)] U ∧ va_D (fun _ => True) [(h0, .inr (0, [.null, .null, .null, .null, .null, .int 0]))])) (va_Qv (fun (_ : Nat → Nat) => True) (fun b t => va_P G vwCl (iX0 cy h0 b) t.heap ∧ va_D (va_A [(h0, .inr (0, [.null, .null, .null, .null, .null, .int 0]))] sz) (iX0 cy h0 b)) (va_A [(h0, .inr (0, [.null, .null, .null, .null, .null, .int 0]))] sz)) 5 200 (va_A [(h0, .inr (0, [.null, .null, .null, .null, .null, .int 0]))] sz) := by
  refine Met.ofW (cc := cX0_init) (maxL := 1) (ret := none) (by decide) rfl ?_
  intro p e s m args below meth c s₁ B hml hv
  obtain ⟨rfl, hsz, hP, hK, hD0⟩ := hv
  have hx := B.exec
  have hb := B.bytes
  have hr := B.returns
  have hts := atoms_spec (ws := wsX0_init) B.pre
  have hown : s.vm.findClass RX0 = some m.cls := findClass_of_methodNamed B.named
  have hlocks := B.notSynchronized
  have hin : meth.name = "<init>" := (name_of_methodNamed B.named B.method).1
  subst hsz
  have hD := hD0.self (sz := s.heap.size)
  generalize hAe : va_A [(h0, .inr (0, [.null, .null, .null, .null, .null, .int 0]))] s.heap.size = A at hD ⊢
  have hA : ∀ q : Nat, s.heap.size ≤ q → A q := fun q h => by rw [← hAe]; exact Or.inr h
  have hS : va_S A s.heap s.heap [] := va_S.rf
  have hl := lv_entry ([.ref h0]) (n := 1) (Nat.le_of_ble_eq_true rfl)
  rw [lg_entry_eq]
  generalize (lg_sl ([.ref h0]) ++ List.replicate (1 - (lg_sl ([.ref h0])).length) Slot.unset).toArray = ls at hl ⊢
  have hl : lv_has ls 1 [(0, .ref h0)] := hl
  have hi : ∀ w ∈ u_ws RX0 TX0 6, w ∈ wsX0_init := by decide +kernel
  refine lv_aload_n hx hb dX0_init_0 rfl (lv_at hl 0 rfl) ?_
  refine W.objInit hx hb hown (hts (.methodLink RX0 3 objectInit) (by decide +kernel)) (hts (.instanceMethod objectInit) (by decide +kernel)) (hts (.code objectInit ⟨#[0xb1]⟩ 1 none) (by decide +kernel)) rfl (by rw [hml]; exact hl.1) rfl dX0_init_1 (Nat.le_of_ble_eq_true rfl) (Nat.le_of_ble_eq_true rfl) ?_
  refine W.eq (g2 := F0 m 4 ls []) rfl ?_
  refine lv_aload_n hx hb dX0_init_4 rfl (lv_at hl 0 rfl) ?_
  refine lv_bipush (v := 40) hx hb dX0_init_5 (by decide) ?_
  refine va_newa (ty := .int) (a0 := (40, .inl (fun _ => 0))) (N' := 40) hx hb (hts (.arrayClass .int) (by decide +kernel)) rfl hK hP hD hS hA (fun _ => rfl) (by decide) (by decide) (by decide) (Nat.le_of_ble_eq_true rfl) (Nat.le_of_ble_eq_true rfl) dX0_init_7 (fun q1 cA1 H hK hP hD hS => ?_)
  obtain rfl : cA1 = cy := w_cA hK
  have hK := hK.sub (tys' := [(cy, .int)]) [0] rfl
  have hP : va_P G vwCl [(h0, .inr (0, [.null, .null, .null, .null, .null, .int 0])), (q1, .inl (cy, 40, .inl (fun _ => 0)))] H := hP
  have hD : va_D A [(h0, .inr (0, [.null, .null, .null, .null, .null, .int 0])), (q1, .inl (cy, 40, .inl (fun _ => 0)))] := hD
  refine W.widen (k := 1) (n := 40) (Nat.le_of_ble_eq_true rfl) (Nat.le_of_ble_eq_true rfl) ?_
  refine va_putF (D := G) (ci := 0) (v := .ref q1) (ty := .array .int) (C := RX0) (T := TX0) (N := 6) hx hb hts hi tyX0 tyX0_ok nmX0 hown hK hP hD hS 0 rfl rfl 0 (by decide) (hts (.fieldLink RX0 9 RX0 "title" "[I") (by decide +kernel)) (fun _ h9 => h9) rfl hin rfl (by decide +kernel) rfl rfl (Nat.le_of_ble_eq_true rfl) dX0_init_9 (fun H locs hP hD hS => ?_)
  have hP : va_P G vwCl [(h0, .inr (0, [.ref q1, .null, .null, .null, .null, .int 0])), (q1, .inl (cy, 40, .inl (fun _ => 0)))] H := hP
  have hD : va_D A [(h0, .inr (0, [.ref q1, .null, .null, .null, .null, .int 0])), (q1, .inl (cy, 40, .inl (fun _ => 0)))] := hD
  refine lv_aload_n hx hb dX0_init_12 rfl (lv_at hl 0 rfl) ?_
  refine lv_bipush (v := 40) hx hb dX0_init_13 (by decide) ?_
  refine va_newa (ty := .int) (a0 := (40, .inl (fun _ => 0))) (N' := 40) hx hb (hts (.arrayClass .int) (by decide +kernel)) rfl hK hP hD hS hA (fun _ => rfl) (by decide) (by decide) (by decide) (Nat.le_of_ble_eq_true rfl) (Nat.le_of_ble_eq_true rfl) dX0_init_15 (fun q2 cA2 H hK hP hD hS => ?_)
  obtain rfl : cA2 = cy := w_cA hK
  have hK := hK.sub (tys' := [(cy, .int)]) [0] rfl
  have hP : va_P G vwCl [(h0, .inr (0, [.ref q1, .null, .null, .null, .null, .int 0])), (q1, .inl (cy, 40, .inl (fun _ => 0))), (q2, .inl (cy, 40, .inl (fun _ => 0)))] H := hP
  have hD : va_D A [(h0, .inr (0, [.ref q1, .null, .null, .null, .null, .int 0])), (q1, .inl (cy, 40, .inl (fun _ => 0))), (q2, .inl (cy, 40, .inl (fun _ => 0)))] := hD
  refine W.widen (k := 2) (n := 80) (Nat.le_of_ble_eq_true rfl) (Nat.le_of_ble_eq_true rfl) ?_
  refine va_putF (D := G) (ci := 0) (v := .ref q2) (ty := .array .int) (C := RX0) (T := TX0) (N := 6) hx hb hts hi tyX0 tyX0_ok nmX0 hown hK hP hD hS 0 rfl rfl 1 (by decide) (hts (.fieldLink RX0 15 RX0 "day" "[I") (by decide +kernel)) (fun _ h9 => h9) rfl hin rfl (by decide +kernel) rfl rfl (Nat.le_of_ble_eq_true rfl) dX0_init_17 (fun H locs hP hD hS => ?_)
  have hP : va_P G vwCl [(h0, .inr (0, [.ref q1, .ref q2, .null, .null, .null, .int 0])), (q1, .inl (cy, 40, .inl (fun _ => 0))), (q2, .inl (cy, 40, .inl (fun _ => 0)))] H := hP
  have hD : va_D A [(h0, .inr (0, [.ref q1, .ref q2, .null, .null, .null, .int 0])), (q1, .inl (cy, 40, .inl (fun _ => 0))), (q2, .inl (cy, 40, .inl (fun _ => 0)))] := hD
  refine lv_aload_n hx hb dX0_init_20 rfl (lv_at hl 0 rfl) ?_
  refine lv_bipush (v := 40) hx hb dX0_init_21 (by decide) ?_
  refine va_newa (ty := .int) (a0 := (40, .inl (fun _ => 0))) (N' := 40) hx hb (hts (.arrayClass .int) (by decide +kernel)) rfl hK hP hD hS hA (fun _ => rfl) (by decide) (by decide) (by decide) (Nat.le_of_ble_eq_true rfl) (Nat.le_of_ble_eq_true rfl) dX0_init_23 (fun q3 cA3 H hK hP hD hS => ?_)
  obtain rfl : cA3 = cy := w_cA hK
  have hK := hK.sub (tys' := [(cy, .int)]) [0] rfl
  have hP : va_P G vwCl [(h0, .inr (0, [.ref q1, .ref q2, .null, .null, .null, .int 0])), (q1, .inl (cy, 40, .inl (fun _ => 0))), (q2, .inl (cy, 40, .inl (fun _ => 0))), (q3, .inl (cy, 40, .inl (fun _ => 0)))] H := hP
  have hD : va_D A [(h0, .inr (0, [.ref q1, .ref q2, .null, .null, .null, .int 0])), (q1, .inl (cy, 40, .inl (fun _ => 0))), (q2, .inl (cy, 40, .inl (fun _ => 0))), (q3, .inl (cy, 40, .inl (fun _ => 0)))] := hD
  refine W.widen (k := 3) (n := 120) (Nat.le_of_ble_eq_true rfl) (Nat.le_of_ble_eq_true rfl) ?_
  refine va_putF (D := G) (ci := 0) (v := .ref q3) (ty := .array .int) (C := RX0) (T := TX0) (N := 6) hx hb hts hi tyX0 tyX0_ok nmX0 hown hK hP hD hS 0 rfl rfl 2 (by decide) (hts (.fieldLink RX0 18 RX0 "atFirstPrice" "[I") (by decide +kernel)) (fun _ h9 => h9) rfl hin rfl (by decide +kernel) rfl rfl (Nat.le_of_ble_eq_true rfl) dX0_init_25 (fun H locs hP hD hS => ?_)
  have hP : va_P G vwCl [(h0, .inr (0, [.ref q1, .ref q2, .ref q3, .null, .null, .int 0])), (q1, .inl (cy, 40, .inl (fun _ => 0))), (q2, .inl (cy, 40, .inl (fun _ => 0))), (q3, .inl (cy, 40, .inl (fun _ => 0)))] H := hP
  have hD : va_D A [(h0, .inr (0, [.ref q1, .ref q2, .ref q3, .null, .null, .int 0])), (q1, .inl (cy, 40, .inl (fun _ => 0))), (q2, .inl (cy, 40, .inl (fun _ => 0))), (q3, .inl (cy, 40, .inl (fun _ => 0)))] := hD
  refine lv_aload_n hx hb dX0_init_28 rfl (lv_at hl 0 rfl) ?_
  refine lv_bipush (v := 40) hx hb dX0_init_29 (by decide) ?_
  refine va_newa (ty := .int) (a0 := (40, .inl (fun _ => 0))) (N' := 40) hx hb (hts (.arrayClass .int) (by decide +kernel)) rfl hK hP hD hS hA (fun _ => rfl) (by decide) (by decide) (by decide) (Nat.le_of_ble_eq_true rfl) (Nat.le_of_ble_eq_true rfl) dX0_init_31 (fun q4 cA4 H hK hP hD hS => ?_)
  obtain rfl : cA4 = cy := w_cA hK
  have hK := hK.sub (tys' := [(cy, .int)]) [0] rfl
  have hP : va_P G vwCl [(h0, .inr (0, [.ref q1, .ref q2, .ref q3, .null, .null, .int 0])), (q1, .inl (cy, 40, .inl (fun _ => 0))), (q2, .inl (cy, 40, .inl (fun _ => 0))), (q3, .inl (cy, 40, .inl (fun _ => 0))), (q4, .inl (cy, 40, .inl (fun _ => 0)))] H := hP
  have hD : va_D A [(h0, .inr (0, [.ref q1, .ref q2, .ref q3, .null, .null, .int 0])), (q1, .inl (cy, 40, .inl (fun _ => 0))), (q2, .inl (cy, 40, .inl (fun _ => 0))), (q3, .inl (cy, 40, .inl (fun _ => 0))), (q4, .inl (cy, 40, .inl (fun _ => 0)))] := hD
  refine W.widen (k := 4) (n := 160) (Nat.le_of_ble_eq_true rfl) (Nat.le_of_ble_eq_true rfl) ?_
  refine va_putF (D := G) (ci := 0) (v := .ref q4) (ty := .array .int) (C := RX0) (T := TX0) (N := 6) hx hb hts hi tyX0 tyX0_ok nmX0 hown hK hP hD hS 0 rfl rfl 3 (by decide) (hts (.fieldLink RX0 21 RX0 "price" "[I") (by decide +kernel)) (fun _ h9 => h9) rfl hin rfl (by decide +kernel) rfl rfl (Nat.le_of_ble_eq_true rfl) dX0_init_33 (fun H locs hP hD hS => ?_)
  have hP : va_P G vwCl [(h0, .inr (0, [.ref q1, .ref q2, .ref q3, .ref q4, .null, .int 0])), (q1, .inl (cy, 40, .inl (fun _ => 0))), (q2, .inl (cy, 40, .inl (fun _ => 0))), (q3, .inl (cy, 40, .inl (fun _ => 0))), (q4, .inl (cy, 40, .inl (fun _ => 0)))] H := hP
  have hD : va_D A [(h0, .inr (0, [.ref q1, .ref q2, .ref q3, .ref q4, .null, .int 0])), (q1, .inl (cy, 40, .inl (fun _ => 0))), (q2, .inl (cy, 40, .inl (fun _ => 0))), (q3, .inl (cy, 40, .inl (fun _ => 0))), (q4, .inl (cy, 40, .inl (fun _ => 0)))] := hD
  refine lv_aload_n hx hb dX0_init_36 rfl (lv_at hl 0 rfl) ?_
  refine lv_bipush (v := 40) hx hb dX0_init_37 (by decide) ?_
  refine va_newa (ty := .int) (a0 := (40, .inl (fun _ => 0))) (N' := 40) hx hb (hts (.arrayClass .int) (by decide +kernel)) rfl hK hP hD hS hA (fun _ => rfl) (by decide) (by decide) (by decide) (Nat.le_of_ble_eq_true rfl) (Nat.le_of_ble_eq_true rfl) dX0_init_39 (fun q5 cA5 H hK hP hD hS => ?_)
  obtain rfl : cA5 = cy := w_cA hK
  have hK := hK.sub (tys' := [(cy, .int)]) [0] rfl
  have hP : va_P G vwCl [(h0, .inr (0, [.ref q1, .ref q2, .ref q3, .ref q4, .null, .int 0])), (q1, .inl (cy, 40, .inl (fun _ => 0))), (q2, .inl (cy, 40, .inl (fun _ => 0))), (q3, .inl (cy, 40, .inl (fun _ => 0))), (q4, .inl (cy, 40, .inl (fun _ => 0))), (q5, .inl (cy, 40, .inl (fun _ => 0)))] H := hP
  have hD : va_D A [(h0, .inr (0, [.ref q1, .ref q2, .ref q3, .ref q4, .null, .int 0])), (q1, .inl (cy, 40, .inl (fun _ => 0))), (q2, .inl (cy, 40, .inl (fun _ => 0))), (q3, .inl (cy, 40, .inl (fun _ => 0))), (q4, .inl (cy, 40, .inl (fun _ => 0))), (q5, .inl (cy, 40, .inl (fun _ => 0)))] := hD
  refine W.widen (k := 5) (n := 200) (Nat.le_of_ble_eq_true rfl) (Nat.le_of_ble_eq_true rfl) ?_
  refine va_putF (D := G) (ci := 0) (v := .ref q5) (ty := .array .int) (C := RX0) (T := TX0) (N := 6) hx hb hts hi tyX0 tyX0_ok nmX0 hown hK hP hD hS 0 rfl rfl 4 (by decide) (hts (.fieldLink RX0 24 RX0 "priceBeyond" "[I") (by decide +kernel)) (fun _ h9 => h9) rfl hin rfl (by decide +kernel) rfl rfl (Nat.le_of_ble_eq_true rfl) dX0_init_41 (fun H locs hP hD hS => ?_)
  have hP : va_P G vwCl [(h0, .inr (0, [.ref q1, .ref q2, .ref q3, .ref q4, .ref q5, .int 0])), (q1, .inl (cy, 40, .inl (fun _ => 0))), (q2, .inl (cy, 40, .inl (fun _ => 0))), (q3, .inl (cy, 40, .inl (fun _ => 0))), (q4, .inl (cy, 40, .inl (fun _ => 0))), (q5, .inl (cy, 40, .inl (fun _ => 0)))] H := hP
  have hD : va_D A [(h0, .inr (0, [.ref q1, .ref q2, .ref q3, .ref q4, .ref q5, .int 0])), (q1, .inl (cy, 40, .inl (fun _ => 0))), (q2, .inl (cy, 40, .inl (fun _ => 0))), (q3, .inl (cy, 40, .inl (fun _ => 0))), (q4, .inl (cy, 40, .inl (fun _ => 0))), (q5, .inl (cy, 40, .inl (fun _ => 0)))] := hD
  refine lv_aload_n hx hb dX0_init_44 rfl (lv_at hl 0 rfl) ?_
  refine lv_iconst (v := 0) hx hb dX0_init_45 (by decide) ?_
  refine va_put (D := G) (ci := 0) (v := .int 0) (ty := .int) (C := RX0) (T := TX0) (N := 6) hx hb hts hi tyX0 tyX0_ok nmX0 hown hK hP hD hS 0 rfl rfl 5 (by decide) (hts (.fieldLink RX0 27 RX0 "came" "I") (by decide +kernel)) (fun _ h9 => h9) rfl (by decide +kernel) rfl rfl (Nat.le_of_ble_eq_true rfl) dX0_init_46 (fun H locs hP hD hS => ?_)
  have hP : va_P G vwCl [(h0, .inr (0, [.ref q1, .ref q2, .ref q3, .ref q4, .ref q5, .int 0])), (q1, .inl (cy, 40, .inl (fun _ => 0))), (q2, .inl (cy, 40, .inl (fun _ => 0))), (q3, .inl (cy, 40, .inl (fun _ => 0))), (q4, .inl (cy, 40, .inl (fun _ => 0))), (q5, .inl (cy, 40, .inl (fun _ => 0)))] H := hP
  have hD : va_D A [(h0, .inr (0, [.ref q1, .ref q2, .ref q3, .ref q4, .ref q5, .int 0])), (q1, .inl (cy, 40, .inl (fun _ => 0))), (q2, .inl (cy, 40, .inl (fun _ => 0))), (q3, .inl (cy, 40, .inl (fun _ => 0))), (q4, .inl (cy, 40, .inl (fun _ => 0))), (q5, .inl (cy, 40, .inl (fun _ => 0)))] := hD
  exact W.vret hx hb hr (fun t ht hW => ⟨⟨(fun k => [q1, q2, q3, q4, q5].getD k 0), rfl, trivial, (show va_P G vwCl [(h0, .inr (0, [.ref q1, .ref q2, .ref q3, .ref q4, .ref q5, .int 0])), (q1, .inl (cy, 40, .inl (fun _ => 0))), (q2, .inl (cy, 40, .inl (fun _ => 0))), (q3, .inl (cy, 40, .inl (fun _ => 0))), (q4, .inl (cy, 40, .inl (fun _ => 0))), (q5, .inl (cy, 40, .inl (fun _ => 0)))] t.heap by rw [ht]; exact hP), hD⟩, hS.F ht⟩) hS.2.2 dX0_init_49
def iX1 (cy : ClassId) (h0 : Nat) (b : Nat → Nat) : va_W := [(h0, .inr (1, [.ref (b 0), .ref (b 1), .ref (b 2), .ref (b 3), .ref (b 4), .ref (b 5), .ref (b 6), .ref (b 7), .ref (b 8), .ref (b 9), .int 0, .int 0, .int 0])), (b 0, .inl (cy, 200, .inl (fun _ => 0))), (b 1, .inl (cy, 200, .inl (fun _ => 0))), (b 2, .inl (cy, 200, .inl (fun _ => 0))), (b 3, .inl (cy, 200, .inl (fun _ => 0))), (b 4, .inl (cy, 200, .inl (fun _ => 0))), (b 5, .inl (cy, 200, .inl (fun _ => 0))), (b 6, .inl (cy, 200, .inl (fun _ => 0))), (b 7, .inl (cy, 200, .inl (fun _ => 0))), (b 8, .inl (cy, 200, .inl (fun _ => 0))), (b 9, .inl (cy, 48, .inl (fun _ => 0)))]
set_option maxHeartbeats 4000000 in
set_option maxRecDepth 100000 in
theorem mX1_init (l : Launch) (G : va_G) (cy : ClassId) (h0 sz : Nat) : Met l yX1_init wsX1_init ({ frames := 1, cells := 10, slots := 1848, locals := 20 }) (va_Pc [.ref h0] (fun U => U.heap.size = sz ∧ va_P G vwCl [(h0, .inr (1, [.null, .null, .null, .null, .null, .null, .null, .null, .null, .null, .int 0, .int 0, .int 0]))] U.heap ∧ va_K G vwCl [(cy, .int)] U ∧ va_D (fun _ => True) [(h0, .inr (1, [.null, .null, .null, .null, .null, .null, .null, .null, .null, .null, .int 0, .int 0, .int 0]))])) (va_Qv (fun (_ : Nat → Nat) => True) (fun b t => va_P G vwCl (iX1 cy h0 b) t.heap ∧ va_D (va_A [(h0, .inr (1, [.null, .null, .null, .null, .null, .null, .null, .null, .null, .null, .int 0, .int 0, .int 0]))] sz) (iX1 cy h0 b)) (va_A [(h0, .inr (1, [.null, .null, .null, .null, .null, .null, .null, .null, .null, .null, .int 0, .int 0, .int 0]))] sz)) 10 1848 (va_A [(h0, .inr (1, [.null, .null, .null, .null, .null, .null, .null, .null, .null, .null, .int 0, .int 0, .int 0]))] sz) := by
  refine Met.ofW (cc := cX1_init) (maxL := 1) (ret := none) (by decide) rfl ?_
  intro p e s m args below meth c s₁ B hml hv
  obtain ⟨rfl, hsz, hP, hK, hD0⟩ := hv
  have hx := B.exec
  have hb := B.bytes
  have hr := B.returns
  have hts := atoms_spec (ws := wsX1_init) B.pre
  have hown : s.vm.findClass RX1 = some m.cls := findClass_of_methodNamed B.named
  have hlocks := B.notSynchronized
  have hin : meth.name = "<init>" := (name_of_methodNamed B.named B.method).1
  subst hsz
  have hD := hD0.self (sz := s.heap.size)
  generalize hAe : va_A [(h0, .inr (1, [.null, .null, .null, .null, .null, .null, .null, .null, .null, .null, .int 0, .int 0, .int 0]))] s.heap.size = A at hD ⊢
  have hA : ∀ q : Nat, s.heap.size ≤ q → A q := fun q h => by rw [← hAe]; exact Or.inr h
  have hS : va_S A s.heap s.heap [] := va_S.rf
  have hl := lv_entry ([.ref h0]) (n := 1) (Nat.le_of_ble_eq_true rfl)
  rw [lg_entry_eq]
  generalize (lg_sl ([.ref h0]) ++ List.replicate (1 - (lg_sl ([.ref h0])).length) Slot.unset).toArray = ls at hl ⊢
  have hl : lv_has ls 1 [(0, .ref h0)] := hl
  have hi : ∀ w ∈ u_ws RX1 TX1 13, w ∈ wsX1_init := by decide +kernel
  refine lv_aload_n hx hb dX1_init_0 rfl (lv_at hl 0 rfl) ?_
  refine W.objInit hx hb hown (hts (.methodLink RX1 3 objectInit) (by decide +kernel)) (hts (.instanceMethod objectInit) (by decide +kernel)) (hts (.code objectInit ⟨#[0xb1]⟩ 1 none) (by decide +kernel)) rfl (by rw [hml]; exact hl.1) rfl dX1_init_1 (Nat.le_of_ble_eq_true rfl) (Nat.le_of_ble_eq_true rfl) ?_
  refine W.eq (g2 := F0 m 4 ls []) rfl ?_
  refine lv_aload_n hx hb dX1_init_4 rfl (lv_at hl 0 rfl) ?_
  refine lv_sipush (v := 200) hx hb dX1_init_5 (by decide) ?_
  refine va_newa (ty := .int) (a0 := (200, .inl (fun _ => 0))) (N' := 200) hx hb (hts (.arrayClass .int) (by decide +kernel)) rfl hK hP hD hS hA (fun _ => rfl) (by decide) (by decide) (by decide) (Nat.le_of_ble_eq_true rfl) (Nat.le_of_ble_eq_true rfl) dX1_init_8 (fun q1 cA1 H hK hP hD hS => ?_)
  obtain rfl : cA1 = cy := w_cA hK
  have hK := hK.sub (tys' := [(cy, .int)]) [0] rfl
  have hP : va_P G vwCl [(h0, .inr (1, [.null, .null, .null, .null, .null, .null, .null, .null, .null, .null, .int 0, .int 0, .int 0])), (q1, .inl (cy, 200, .inl (fun _ => 0)))] H := hP
  have hD : va_D A [(h0, .inr (1, [.null, .null, .null, .null, .null, .null, .null, .null, .null, .null, .int 0, .int 0, .int 0])), (q1, .inl (cy, 200, .inl (fun _ => 0)))] := hD
  refine W.widen (k := 1) (n := 200) (Nat.le_of_ble_eq_true rfl) (Nat.le_of_ble_eq_true rfl) ?_
  refine va_putF (D := G) (ci := 1) (v := .ref q1) (ty := .array .int) (C := RX1) (T := TX1) (N := 13) hx hb hts hi tyX1 tyX1_ok nmX1 hown hK hP hD hS 0 rfl rfl 0 (by decide) (hts (.fieldLink RX1 9 RX1 "where" "[I") (by decide +kernel)) (fun _ h9 => h9) rfl hin rfl (by decide +kernel) rfl rfl (Nat.le_of_ble_eq_true rfl) dX1_init_10 (fun H locs hP hD hS => ?_)
  have hP : va_P G vwCl [(h0, .inr (1, [.ref q1, .null, .null, .null, .null, .null, .null, .null, .null, .null, .int 0, .int 0, .int 0])), (q1, .inl (cy, 200, .inl (fun _ => 0)))] H := hP
  have hD : va_D A [(h0, .inr (1, [.ref q1, .null, .null, .null, .null, .null, .null, .null, .null, .null, .int 0, .int 0, .int 0])), (q1, .inl (cy, 200, .inl (fun _ => 0)))] := hD
  refine lv_aload_n hx hb dX1_init_13 rfl (lv_at hl 0 rfl) ?_
  refine lv_sipush (v := 200) hx hb dX1_init_14 (by decide) ?_
  refine va_newa (ty := .int) (a0 := (200, .inl (fun _ => 0))) (N' := 200) hx hb (hts (.arrayClass .int) (by decide +kernel)) rfl hK hP hD hS hA (fun _ => rfl) (by decide) (by decide) (by decide) (Nat.le_of_ble_eq_true rfl) (Nat.le_of_ble_eq_true rfl) dX1_init_17 (fun q2 cA2 H hK hP hD hS => ?_)
  obtain rfl : cA2 = cy := w_cA hK
  have hK := hK.sub (tys' := [(cy, .int)]) [0] rfl
  have hP : va_P G vwCl [(h0, .inr (1, [.ref q1, .null, .null, .null, .null, .null, .null, .null, .null, .null, .int 0, .int 0, .int 0])), (q1, .inl (cy, 200, .inl (fun _ => 0))), (q2, .inl (cy, 200, .inl (fun _ => 0)))] H := hP
  have hD : va_D A [(h0, .inr (1, [.ref q1, .null, .null, .null, .null, .null, .null, .null, .null, .null, .int 0, .int 0, .int 0])), (q1, .inl (cy, 200, .inl (fun _ => 0))), (q2, .inl (cy, 200, .inl (fun _ => 0)))] := hD
  refine W.widen (k := 2) (n := 400) (Nat.le_of_ble_eq_true rfl) (Nat.le_of_ble_eq_true rfl) ?_
  refine va_putF (D := G) (ci := 1) (v := .ref q2) (ty := .array .int) (C := RX1) (T := TX1) (N := 13) hx hb hts hi tyX1 tyX1_ok nmX1 hown hK hP hD hS 0 rfl rfl 1 (by decide) (hts (.fieldLink RX1 15 RX1 "title" "[I") (by decide +kernel)) (fun _ h9 => h9) rfl hin rfl (by decide +kernel) rfl rfl (Nat.le_of_ble_eq_true rfl) dX1_init_19 (fun H locs hP hD hS => ?_)
  have hP : va_P G vwCl [(h0, .inr (1, [.ref q1, .ref q2, .null, .null, .null, .null, .null, .null, .null, .null, .int 0, .int 0, .int 0])), (q1, .inl (cy, 200, .inl (fun _ => 0))), (q2, .inl (cy, 200, .inl (fun _ => 0)))] H := hP
  have hD : va_D A [(h0, .inr (1, [.ref q1, .ref q2, .null, .null, .null, .null, .null, .null, .null, .null, .int 0, .int 0, .int 0])), (q1, .inl (cy, 200, .inl (fun _ => 0))), (q2, .inl (cy, 200, .inl (fun _ => 0)))] := hD
  refine lv_aload_n hx hb dX1_init_22 rfl (lv_at hl 0 rfl) ?_
  refine lv_sipush (v := 200) hx hb dX1_init_23 (by decide) ?_
  refine va_newa (ty := .int) (a0 := (200, .inl (fun _ => 0))) (N' := 200) hx hb (hts (.arrayClass .int) (by decide +kernel)) rfl hK hP hD hS hA (fun _ => rfl) (by decide) (by decide) (by decide) (Nat.le_of_ble_eq_true rfl) (Nat.le_of_ble_eq_true rfl) dX1_init_26 (fun q3 cA3 H hK hP hD hS => ?_)
  obtain rfl : cA3 = cy := w_cA hK
  have hK := hK.sub (tys' := [(cy, .int)]) [0] rfl
  have hP : va_P G vwCl [(h0, .inr (1, [.ref q1, .ref q2, .null, .null, .null, .null, .null, .null, .null, .null, .int 0, .int 0, .int 0])), (q1, .inl (cy, 200, .inl (fun _ => 0))), (q2, .inl (cy, 200, .inl (fun _ => 0))), (q3, .inl (cy, 200, .inl (fun _ => 0)))] H := hP
  have hD : va_D A [(h0, .inr (1, [.ref q1, .ref q2, .null, .null, .null, .null, .null, .null, .null, .null, .int 0, .int 0, .int 0])), (q1, .inl (cy, 200, .inl (fun _ => 0))), (q2, .inl (cy, 200, .inl (fun _ => 0))), (q3, .inl (cy, 200, .inl (fun _ => 0)))] := hD
  refine W.widen (k := 3) (n := 600) (Nat.le_of_ble_eq_true rfl) (Nat.le_of_ble_eq_true rfl) ?_
  refine va_putF (D := G) (ci := 1) (v := .ref q3) (ty := .array .int) (C := RX1) (T := TX1) (N := 13) hx hb hts hi tyX1 tyX1_ok nmX1 hown hK hP hD hS 0 rfl rfl 2 (by decide) (hts (.fieldLink RX1 18 RX1 "volume" "[I") (by decide +kernel)) (fun _ h9 => h9) rfl hin rfl (by decide +kernel) rfl rfl (Nat.le_of_ble_eq_true rfl) dX1_init_28 (fun H locs hP hD hS => ?_)
  have hP : va_P G vwCl [(h0, .inr (1, [.ref q1, .ref q2, .ref q3, .null, .null, .null, .null, .null, .null, .null, .int 0, .int 0, .int 0])), (q1, .inl (cy, 200, .inl (fun _ => 0))), (q2, .inl (cy, 200, .inl (fun _ => 0))), (q3, .inl (cy, 200, .inl (fun _ => 0)))] H := hP
  have hD : va_D A [(h0, .inr (1, [.ref q1, .ref q2, .ref q3, .null, .null, .null, .null, .null, .null, .null, .int 0, .int 0, .int 0])), (q1, .inl (cy, 200, .inl (fun _ => 0))), (q2, .inl (cy, 200, .inl (fun _ => 0))), (q3, .inl (cy, 200, .inl (fun _ => 0)))] := hD
  refine lv_aload_n hx hb dX1_init_31 rfl (lv_at hl 0 rfl) ?_
  refine lv_sipush (v := 200) hx hb dX1_init_32 (by decide) ?_
  refine va_newa (ty := .int) (a0 := (200, .inl (fun _ => 0))) (N' := 200) hx hb (hts (.arrayClass .int) (by decide +kernel)) rfl hK hP hD hS hA (fun _ => rfl) (by decide) (by decide) (by decide) (Nat.le_of_ble_eq_true rfl) (Nat.le_of_ble_eq_true rfl) dX1_init_35 (fun q4 cA4 H hK hP hD hS => ?_)
  obtain rfl : cA4 = cy := w_cA hK
  have hK := hK.sub (tys' := [(cy, .int)]) [0] rfl
  have hP : va_P G vwCl [(h0, .inr (1, [.ref q1, .ref q2, .ref q3, .null, .null, .null, .null, .null, .null, .null, .int 0, .int 0, .int 0])), (q1, .inl (cy, 200, .inl (fun _ => 0))), (q2, .inl (cy, 200, .inl (fun _ => 0))), (q3, .inl (cy, 200, .inl (fun _ => 0))), (q4, .inl (cy, 200, .inl (fun _ => 0)))] H := hP
  have hD : va_D A [(h0, .inr (1, [.ref q1, .ref q2, .ref q3, .null, .null, .null, .null, .null, .null, .null, .int 0, .int 0, .int 0])), (q1, .inl (cy, 200, .inl (fun _ => 0))), (q2, .inl (cy, 200, .inl (fun _ => 0))), (q3, .inl (cy, 200, .inl (fun _ => 0))), (q4, .inl (cy, 200, .inl (fun _ => 0)))] := hD
  refine W.widen (k := 4) (n := 800) (Nat.le_of_ble_eq_true rfl) (Nat.le_of_ble_eq_true rfl) ?_
  refine va_putF (D := G) (ci := 1) (v := .ref q4) (ty := .array .int) (C := RX1) (T := TX1) (N := 13) hx hb hts hi tyX1 tyX1_ok nmX1 hown hK hP hD hS 0 rfl rfl 3 (by decide) (hts (.fieldLink RX1 21 RX1 "cost" "[I") (by decide +kernel)) (fun _ h9 => h9) rfl hin rfl (by decide +kernel) rfl rfl (Nat.le_of_ble_eq_true rfl) dX1_init_37 (fun H locs hP hD hS => ?_)
  have hP : va_P G vwCl [(h0, .inr (1, [.ref q1, .ref q2, .ref q3, .ref q4, .null, .null, .null, .null, .null, .null, .int 0, .int 0, .int 0])), (q1, .inl (cy, 200, .inl (fun _ => 0))), (q2, .inl (cy, 200, .inl (fun _ => 0))), (q3, .inl (cy, 200, .inl (fun _ => 0))), (q4, .inl (cy, 200, .inl (fun _ => 0)))] H := hP
  have hD : va_D A [(h0, .inr (1, [.ref q1, .ref q2, .ref q3, .ref q4, .null, .null, .null, .null, .null, .null, .int 0, .int 0, .int 0])), (q1, .inl (cy, 200, .inl (fun _ => 0))), (q2, .inl (cy, 200, .inl (fun _ => 0))), (q3, .inl (cy, 200, .inl (fun _ => 0))), (q4, .inl (cy, 200, .inl (fun _ => 0)))] := hD
  refine lv_aload_n hx hb dX1_init_40 rfl (lv_at hl 0 rfl) ?_
  refine lv_sipush (v := 200) hx hb dX1_init_41 (by decide) ?_
  refine va_newa (ty := .int) (a0 := (200, .inl (fun _ => 0))) (N' := 200) hx hb (hts (.arrayClass .int) (by decide +kernel)) rfl hK hP hD hS hA (fun _ => rfl) (by decide) (by decide) (by decide) (Nat.le_of_ble_eq_true rfl) (Nat.le_of_ble_eq_true rfl) dX1_init_44 (fun q5 cA5 H hK hP hD hS => ?_)
  obtain rfl : cA5 = cy := w_cA hK
  have hK := hK.sub (tys' := [(cy, .int)]) [0] rfl
  have hP : va_P G vwCl [(h0, .inr (1, [.ref q1, .ref q2, .ref q3, .ref q4, .null, .null, .null, .null, .null, .null, .int 0, .int 0, .int 0])), (q1, .inl (cy, 200, .inl (fun _ => 0))), (q2, .inl (cy, 200, .inl (fun _ => 0))), (q3, .inl (cy, 200, .inl (fun _ => 0))), (q4, .inl (cy, 200, .inl (fun _ => 0))), (q5, .inl (cy, 200, .inl (fun _ => 0)))] H := hP
  have hD : va_D A [(h0, .inr (1, [.ref q1, .ref q2, .ref q3, .ref q4, .null, .null, .null, .null, .null, .null, .int 0, .int 0, .int 0])), (q1, .inl (cy, 200, .inl (fun _ => 0))), (q2, .inl (cy, 200, .inl (fun _ => 0))), (q3, .inl (cy, 200, .inl (fun _ => 0))), (q4, .inl (cy, 200, .inl (fun _ => 0))), (q5, .inl (cy, 200, .inl (fun _ => 0)))] := hD
  refine W.widen (k := 5) (n := 1000) (Nat.le_of_ble_eq_true rfl) (Nat.le_of_ble_eq_true rfl) ?_
  refine va_putF (D := G) (ci := 1) (v := .ref q5) (ty := .array .int) (C := RX1) (T := TX1) (N := 13) hx hb hts hi tyX1 tyX1_ok nmX1 hown hK hP hD hS 0 rfl rfl 4 (by decide) (hts (.fieldLink RX1 24 RX1 "reader" "[I") (by decide +kernel)) (fun _ h9 => h9) rfl hin rfl (by decide +kernel) rfl rfl (Nat.le_of_ble_eq_true rfl) dX1_init_46 (fun H locs hP hD hS => ?_)
  have hP : va_P G vwCl [(h0, .inr (1, [.ref q1, .ref q2, .ref q3, .ref q4, .ref q5, .null, .null, .null, .null, .null, .int 0, .int 0, .int 0])), (q1, .inl (cy, 200, .inl (fun _ => 0))), (q2, .inl (cy, 200, .inl (fun _ => 0))), (q3, .inl (cy, 200, .inl (fun _ => 0))), (q4, .inl (cy, 200, .inl (fun _ => 0))), (q5, .inl (cy, 200, .inl (fun _ => 0)))] H := hP
  have hD : va_D A [(h0, .inr (1, [.ref q1, .ref q2, .ref q3, .ref q4, .ref q5, .null, .null, .null, .null, .null, .int 0, .int 0, .int 0])), (q1, .inl (cy, 200, .inl (fun _ => 0))), (q2, .inl (cy, 200, .inl (fun _ => 0))), (q3, .inl (cy, 200, .inl (fun _ => 0))), (q4, .inl (cy, 200, .inl (fun _ => 0))), (q5, .inl (cy, 200, .inl (fun _ => 0)))] := hD
  refine lv_aload_n hx hb dX1_init_49 rfl (lv_at hl 0 rfl) ?_
  refine lv_sipush (v := 200) hx hb dX1_init_50 (by decide) ?_
  refine va_newa (ty := .int) (a0 := (200, .inl (fun _ => 0))) (N' := 200) hx hb (hts (.arrayClass .int) (by decide +kernel)) rfl hK hP hD hS hA (fun _ => rfl) (by decide) (by decide) (by decide) (Nat.le_of_ble_eq_true rfl) (Nat.le_of_ble_eq_true rfl) dX1_init_53 (fun q6 cA6 H hK hP hD hS => ?_)
  obtain rfl : cA6 = cy := w_cA hK
  have hK := hK.sub (tys' := [(cy, .int)]) [0] rfl
  have hP : va_P G vwCl [(h0, .inr (1, [.ref q1, .ref q2, .ref q3, .ref q4, .ref q5, .null, .null, .null, .null, .null, .int 0, .int 0, .int 0])), (q1, .inl (cy, 200, .inl (fun _ => 0))), (q2, .inl (cy, 200, .inl (fun _ => 0))), (q3, .inl (cy, 200, .inl (fun _ => 0))), (q4, .inl (cy, 200, .inl (fun _ => 0))), (q5, .inl (cy, 200, .inl (fun _ => 0))), (q6, .inl (cy, 200, .inl (fun _ => 0)))] H := hP
  have hD : va_D A [(h0, .inr (1, [.ref q1, .ref q2, .ref q3, .ref q4, .ref q5, .null, .null, .null, .null, .null, .int 0, .int 0, .int 0])), (q1, .inl (cy, 200, .inl (fun _ => 0))), (q2, .inl (cy, 200, .inl (fun _ => 0))), (q3, .inl (cy, 200, .inl (fun _ => 0))), (q4, .inl (cy, 200, .inl (fun _ => 0))), (q5, .inl (cy, 200, .inl (fun _ => 0))), (q6, .inl (cy, 200, .inl (fun _ => 0)))] := hD
  refine W.widen (k := 6) (n := 1200) (Nat.le_of_ble_eq_true rfl) (Nat.le_of_ble_eq_true rfl) ?_
  refine va_putF (D := G) (ci := 1) (v := .ref q6) (ty := .array .int) (C := RX1) (T := TX1) (N := 13) hx hb hts hi tyX1 tyX1_ok nmX1 hown hK hP hD hS 0 rfl rfl 5 (by decide) (hts (.fieldLink RX1 27 RX1 "wish" "[I") (by decide +kernel)) (fun _ h9 => h9) rfl hin rfl (by decide +kernel) rfl rfl (Nat.le_of_ble_eq_true rfl) dX1_init_55 (fun H locs hP hD hS => ?_)
  have hP : va_P G vwCl [(h0, .inr (1, [.ref q1, .ref q2, .ref q3, .ref q4, .ref q5, .ref q6, .null, .null, .null, .null, .int 0, .int 0, .int 0])), (q1, .inl (cy, 200, .inl (fun _ => 0))), (q2, .inl (cy, 200, .inl (fun _ => 0))), (q3, .inl (cy, 200, .inl (fun _ => 0))), (q4, .inl (cy, 200, .inl (fun _ => 0))), (q5, .inl (cy, 200, .inl (fun _ => 0))), (q6, .inl (cy, 200, .inl (fun _ => 0)))] H := hP
  have hD : va_D A [(h0, .inr (1, [.ref q1, .ref q2, .ref q3, .ref q4, .ref q5, .ref q6, .null, .null, .null, .null, .int 0, .int 0, .int 0])), (q1, .inl (cy, 200, .inl (fun _ => 0))), (q2, .inl (cy, 200, .inl (fun _ => 0))), (q3, .inl (cy, 200, .inl (fun _ => 0))), (q4, .inl (cy, 200, .inl (fun _ => 0))), (q5, .inl (cy, 200, .inl (fun _ => 0))), (q6, .inl (cy, 200, .inl (fun _ => 0)))] := hD
  refine lv_aload_n hx hb dX1_init_58 rfl (lv_at hl 0 rfl) ?_
  refine lv_sipush (v := 200) hx hb dX1_init_59 (by decide) ?_
  refine va_newa (ty := .int) (a0 := (200, .inl (fun _ => 0))) (N' := 200) hx hb (hts (.arrayClass .int) (by decide +kernel)) rfl hK hP hD hS hA (fun _ => rfl) (by decide) (by decide) (by decide) (Nat.le_of_ble_eq_true rfl) (Nat.le_of_ble_eq_true rfl) dX1_init_62 (fun q7 cA7 H hK hP hD hS => ?_)
  obtain rfl : cA7 = cy := w_cA hK
  have hK := hK.sub (tys' := [(cy, .int)]) [0] rfl
  have hP : va_P G vwCl [(h0, .inr (1, [.ref q1, .ref q2, .ref q3, .ref q4, .ref q5, .ref q6, .null, .null, .null, .null, .int 0, .int 0, .int 0])), (q1, .inl (cy, 200, .inl (fun _ => 0))), (q2, .inl (cy, 200, .inl (fun _ => 0))), (q3, .inl (cy, 200, .inl (fun _ => 0))), (q4, .inl (cy, 200, .inl (fun _ => 0))), (q5, .inl (cy, 200, .inl (fun _ => 0))), (q6, .inl (cy, 200, .inl (fun _ => 0))), (q7, .inl (cy, 200, .inl (fun _ => 0)))] H := hP
  have hD : va_D A [(h0, .inr (1, [.ref q1, .ref q2, .ref q3, .ref q4, .ref q5, .ref q6, .null, .null, .null, .null, .int 0, .int 0, .int 0])), (q1, .inl (cy, 200, .inl (fun _ => 0))), (q2, .inl (cy, 200, .inl (fun _ => 0))), (q3, .inl (cy, 200, .inl (fun _ => 0))), (q4, .inl (cy, 200, .inl (fun _ => 0))), (q5, .inl (cy, 200, .inl (fun _ => 0))), (q6, .inl (cy, 200, .inl (fun _ => 0))), (q7, .inl (cy, 200, .inl (fun _ => 0)))] := hD
  refine W.widen (k := 7) (n := 1400) (Nat.le_of_ble_eq_true rfl) (Nat.le_of_ble_eq_true rfl) ?_
  refine va_putF (D := G) (ci := 1) (v := .ref q7) (ty := .array .int) (C := RX1) (T := TX1) (N := 13) hx hb hts hi tyX1 tyX1_ok nmX1 hown hK hP hD hS 0 rfl rfl 6 (by decide) (hts (.fieldLink RX1 30 RX1 "since" "[I") (by decide +kernel)) (fun _ h9 => h9) rfl hin rfl (by decide +kernel) rfl rfl (Nat.le_of_ble_eq_true rfl) dX1_init_64 (fun H locs hP hD hS => ?_)
  have hP : va_P G vwCl [(h0, .inr (1, [.ref q1, .ref q2, .ref q3, .ref q4, .ref q5, .ref q6, .ref q7, .null, .null, .null, .int 0, .int 0, .int 0])), (q1, .inl (cy, 200, .inl (fun _ => 0))), (q2, .inl (cy, 200, .inl (fun _ => 0))), (q3, .inl (cy, 200, .inl (fun _ => 0))), (q4, .inl (cy, 200, .inl (fun _ => 0))), (q5, .inl (cy, 200, .inl (fun _ => 0))), (q6, .inl (cy, 200, .inl (fun _ => 0))), (q7, .inl (cy, 200, .inl (fun _ => 0)))] H := hP
  have hD : va_D A [(h0, .inr (1, [.ref q1, .ref q2, .ref q3, .ref q4, .ref q5, .ref q6, .ref q7, .null, .null, .null, .int 0, .int 0, .int 0])), (q1, .inl (cy, 200, .inl (fun _ => 0))), (q2, .inl (cy, 200, .inl (fun _ => 0))), (q3, .inl (cy, 200, .inl (fun _ => 0))), (q4, .inl (cy, 200, .inl (fun _ => 0))), (q5, .inl (cy, 200, .inl (fun _ => 0))), (q6, .inl (cy, 200, .inl (fun _ => 0))), (q7, .inl (cy, 200, .inl (fun _ => 0)))] := hD
  refine lv_aload_n hx hb dX1_init_67 rfl (lv_at hl 0 rfl) ?_
  refine lv_sipush (v := 200) hx hb dX1_init_68 (by decide) ?_
  refine va_newa (ty := .int) (a0 := (200, .inl (fun _ => 0))) (N' := 200) hx hb (hts (.arrayClass .int) (by decide +kernel)) rfl hK hP hD hS hA (fun _ => rfl) (by decide) (by decide) (by decide) (Nat.le_of_ble_eq_true rfl) (Nat.le_of_ble_eq_true rfl) dX1_init_71 (fun q8 cA8 H hK hP hD hS => ?_)
  obtain rfl : cA8 = cy := w_cA hK
  have hK := hK.sub (tys' := [(cy, .int)]) [0] rfl
  have hP : va_P G vwCl [(h0, .inr (1, [.ref q1, .ref q2, .ref q3, .ref q4, .ref q5, .ref q6, .ref q7, .null, .null, .null, .int 0, .int 0, .int 0])), (q1, .inl (cy, 200, .inl (fun _ => 0))), (q2, .inl (cy, 200, .inl (fun _ => 0))), (q3, .inl (cy, 200, .inl (fun _ => 0))), (q4, .inl (cy, 200, .inl (fun _ => 0))), (q5, .inl (cy, 200, .inl (fun _ => 0))), (q6, .inl (cy, 200, .inl (fun _ => 0))), (q7, .inl (cy, 200, .inl (fun _ => 0))), (q8, .inl (cy, 200, .inl (fun _ => 0)))] H := hP
  have hD : va_D A [(h0, .inr (1, [.ref q1, .ref q2, .ref q3, .ref q4, .ref q5, .ref q6, .ref q7, .null, .null, .null, .int 0, .int 0, .int 0])), (q1, .inl (cy, 200, .inl (fun _ => 0))), (q2, .inl (cy, 200, .inl (fun _ => 0))), (q3, .inl (cy, 200, .inl (fun _ => 0))), (q4, .inl (cy, 200, .inl (fun _ => 0))), (q5, .inl (cy, 200, .inl (fun _ => 0))), (q6, .inl (cy, 200, .inl (fun _ => 0))), (q7, .inl (cy, 200, .inl (fun _ => 0))), (q8, .inl (cy, 200, .inl (fun _ => 0)))] := hD
  refine W.widen (k := 8) (n := 1600) (Nat.le_of_ble_eq_true rfl) (Nat.le_of_ble_eq_true rfl) ?_
  refine va_putF (D := G) (ci := 1) (v := .ref q8) (ty := .array .int) (C := RX1) (T := TX1) (N := 13) hx hb hts hi tyX1 tyX1_ok nmX1 hown hK hP hD hS 0 rfl rfl 7 (by decide) (hts (.fieldLink RX1 33 RX1 "daysToGo" "[I") (by decide +kernel)) (fun _ h9 => h9) rfl hin rfl (by decide +kernel) rfl rfl (Nat.le_of_ble_eq_true rfl) dX1_init_73 (fun H locs hP hD hS => ?_)
  have hP : va_P G vwCl [(h0, .inr (1, [.ref q1, .ref q2, .ref q3, .ref q4, .ref q5, .ref q6, .ref q7, .ref q8, .null, .null, .int 0, .int 0, .int 0])), (q1, .inl (cy, 200, .inl (fun _ => 0))), (q2, .inl (cy, 200, .inl (fun _ => 0))), (q3, .inl (cy, 200, .inl (fun _ => 0))), (q4, .inl (cy, 200, .inl (fun _ => 0))), (q5, .inl (cy, 200, .inl (fun _ => 0))), (q6, .inl (cy, 200, .inl (fun _ => 0))), (q7, .inl (cy, 200, .inl (fun _ => 0))), (q8, .inl (cy, 200, .inl (fun _ => 0)))] H := hP
  have hD : va_D A [(h0, .inr (1, [.ref q1, .ref q2, .ref q3, .ref q4, .ref q5, .ref q6, .ref q7, .ref q8, .null, .null, .int 0, .int 0, .int 0])), (q1, .inl (cy, 200, .inl (fun _ => 0))), (q2, .inl (cy, 200, .inl (fun _ => 0))), (q3, .inl (cy, 200, .inl (fun _ => 0))), (q4, .inl (cy, 200, .inl (fun _ => 0))), (q5, .inl (cy, 200, .inl (fun _ => 0))), (q6, .inl (cy, 200, .inl (fun _ => 0))), (q7, .inl (cy, 200, .inl (fun _ => 0))), (q8, .inl (cy, 200, .inl (fun _ => 0)))] := hD
  refine lv_aload_n hx hb dX1_init_76 rfl (lv_at hl 0 rfl) ?_
  refine lv_sipush (v := 200) hx hb dX1_init_77 (by decide) ?_
  refine va_newa (ty := .int) (a0 := (200, .inl (fun _ => 0))) (N' := 200) hx hb (hts (.arrayClass .int) (by decide +kernel)) rfl hK hP hD hS hA (fun _ => rfl) (by decide) (by decide) (by decide) (Nat.le_of_ble_eq_true rfl) (Nat.le_of_ble_eq_true rfl) dX1_init_80 (fun q9 cA9 H hK hP hD hS => ?_)
  obtain rfl : cA9 = cy := w_cA hK
  have hK := hK.sub (tys' := [(cy, .int)]) [0] rfl
  have hP : va_P G vwCl [(h0, .inr (1, [.ref q1, .ref q2, .ref q3, .ref q4, .ref q5, .ref q6, .ref q7, .ref q8, .null, .null, .int 0, .int 0, .int 0])), (q1, .inl (cy, 200, .inl (fun _ => 0))), (q2, .inl (cy, 200, .inl (fun _ => 0))), (q3, .inl (cy, 200, .inl (fun _ => 0))), (q4, .inl (cy, 200, .inl (fun _ => 0))), (q5, .inl (cy, 200, .inl (fun _ => 0))), (q6, .inl (cy, 200, .inl (fun _ => 0))), (q7, .inl (cy, 200, .inl (fun _ => 0))), (q8, .inl (cy, 200, .inl (fun _ => 0))), (q9, .inl (cy, 200, .inl (fun _ => 0)))] H := hP
  have hD : va_D A [(h0, .inr (1, [.ref q1, .ref q2, .ref q3, .ref q4, .ref q5, .ref q6, .ref q7, .ref q8, .null, .null, .int 0, .int 0, .int 0])), (q1, .inl (cy, 200, .inl (fun _ => 0))), (q2, .inl (cy, 200, .inl (fun _ => 0))), (q3, .inl (cy, 200, .inl (fun _ => 0))), (q4, .inl (cy, 200, .inl (fun _ => 0))), (q5, .inl (cy, 200, .inl (fun _ => 0))), (q6, .inl (cy, 200, .inl (fun _ => 0))), (q7, .inl (cy, 200, .inl (fun _ => 0))), (q8, .inl (cy, 200, .inl (fun _ => 0))), (q9, .inl (cy, 200, .inl (fun _ => 0)))] := hD
  refine W.widen (k := 9) (n := 1800) (Nat.le_of_ble_eq_true rfl) (Nat.le_of_ble_eq_true rfl) ?_
  refine va_putF (D := G) (ci := 1) (v := .ref q9) (ty := .array .int) (C := RX1) (T := TX1) (N := 13) hx hb hts hi tyX1 tyX1_ok nmX1 hown hK hP hD hS 0 rfl rfl 8 (by decide) (hts (.fieldLink RX1 36 RX1 "timesLent" "[I") (by decide +kernel)) (fun _ h9 => h9) rfl hin rfl (by decide +kernel) rfl rfl (Nat.le_of_ble_eq_true rfl) dX1_init_82 (fun H locs hP hD hS => ?_)
  have hP : va_P G vwCl [(h0, .inr (1, [.ref q1, .ref q2, .ref q3, .ref q4, .ref q5, .ref q6, .ref q7, .ref q8, .ref q9, .null, .int 0, .int 0, .int 0])), (q1, .inl (cy, 200, .inl (fun _ => 0))), (q2, .inl (cy, 200, .inl (fun _ => 0))), (q3, .inl (cy, 200, .inl (fun _ => 0))), (q4, .inl (cy, 200, .inl (fun _ => 0))), (q5, .inl (cy, 200, .inl (fun _ => 0))), (q6, .inl (cy, 200, .inl (fun _ => 0))), (q7, .inl (cy, 200, .inl (fun _ => 0))), (q8, .inl (cy, 200, .inl (fun _ => 0))), (q9, .inl (cy, 200, .inl (fun _ => 0)))] H := hP
  have hD : va_D A [(h0, .inr (1, [.ref q1, .ref q2, .ref q3, .ref q4, .ref q5, .ref q6, .ref q7, .ref q8, .ref q9, .null, .int 0, .int 0, .int 0])), (q1, .inl (cy, 200, .inl (fun _ => 0))), (q2, .inl (cy, 200, .inl (fun _ => 0))), (q3, .inl (cy, 200, .inl (fun _ => 0))), (q4, .inl (cy, 200, .inl (fun _ => 0))), (q5, .inl (cy, 200, .inl (fun _ => 0))), (q6, .inl (cy, 200, .inl (fun _ => 0))), (q7, .inl (cy, 200, .inl (fun _ => 0))), (q8, .inl (cy, 200, .inl (fun _ => 0))), (q9, .inl (cy, 200, .inl (fun _ => 0)))] := hD
  refine lv_aload_n hx hb dX1_init_85 rfl (lv_at hl 0 rfl) ?_
  refine lv_bipush (v := 48) hx hb dX1_init_86 (by decide) ?_
  refine va_newa (ty := .int) (a0 := (48, .inl (fun _ => 0))) (N' := 48) hx hb (hts (.arrayClass .int) (by decide +kernel)) rfl hK hP hD hS hA (fun _ => rfl) (by decide) (by decide) (by decide) (Nat.le_of_ble_eq_true rfl) (Nat.le_of_ble_eq_true rfl) dX1_init_88 (fun q10 cA10 H hK hP hD hS => ?_)
  obtain rfl : cA10 = cy := w_cA hK
  have hK := hK.sub (tys' := [(cy, .int)]) [0] rfl
  have hP : va_P G vwCl [(h0, .inr (1, [.ref q1, .ref q2, .ref q3, .ref q4, .ref q5, .ref q6, .ref q7, .ref q8, .ref q9, .null, .int 0, .int 0, .int 0])), (q1, .inl (cy, 200, .inl (fun _ => 0))), (q2, .inl (cy, 200, .inl (fun _ => 0))), (q3, .inl (cy, 200, .inl (fun _ => 0))), (q4, .inl (cy, 200, .inl (fun _ => 0))), (q5, .inl (cy, 200, .inl (fun _ => 0))), (q6, .inl (cy, 200, .inl (fun _ => 0))), (q7, .inl (cy, 200, .inl (fun _ => 0))), (q8, .inl (cy, 200, .inl (fun _ => 0))), (q9, .inl (cy, 200, .inl (fun _ => 0))), (q10, .inl (cy, 48, .inl (fun _ => 0)))] H := hP
  have hD : va_D A [(h0, .inr (1, [.ref q1, .ref q2, .ref q3, .ref q4, .ref q5, .ref q6, .ref q7, .ref q8, .ref q9, .null, .int 0, .int 0, .int 0])), (q1, .inl (cy, 200, .inl (fun _ => 0))), (q2, .inl (cy, 200, .inl (fun _ => 0))), (q3, .inl (cy, 200, .inl (fun _ => 0))), (q4, .inl (cy, 200, .inl (fun _ => 0))), (q5, .inl (cy, 200, .inl (fun _ => 0))), (q6, .inl (cy, 200, .inl (fun _ => 0))), (q7, .inl (cy, 200, .inl (fun _ => 0))), (q8, .inl (cy, 200, .inl (fun _ => 0))), (q9, .inl (cy, 200, .inl (fun _ => 0))), (q10, .inl (cy, 48, .inl (fun _ => 0)))] := hD
  refine W.widen (k := 10) (n := 1848) (Nat.le_of_ble_eq_true rfl) (Nat.le_of_ble_eq_true rfl) ?_
  refine va_putF (D := G) (ci := 1) (v := .ref q10) (ty := .array .int) (C := RX1) (T := TX1) (N := 13) hx hb hts hi tyX1 tyX1_ok nmX1 hown hK hP hD hS 0 rfl rfl 9 (by decide) (hts (.fieldLink RX1 39 RX1 "shelved" "[I") (by decide +kernel)) (fun _ h9 => h9) rfl hin rfl (by decide +kernel) rfl rfl (Nat.le_of_ble_eq_true rfl) dX1_init_90 (fun H locs hP hD hS => ?_)
  have hP : va_P G vwCl [(h0, .inr (1, [.ref q1, .ref q2, .ref q3, .ref q4, .ref q5, .ref q6, .ref q7, .ref q8, .ref q9, .ref q10, .int 0, .int 0, .int 0])), (q1, .inl (cy, 200, .inl (fun _ => 0))), (q2, .inl (cy, 200, .inl (fun _ => 0))), (q3, .inl (cy, 200, .inl (fun _ => 0))), (q4, .inl (cy, 200, .inl (fun _ => 0))), (q5, .inl (cy, 200, .inl (fun _ => 0))), (q6, .inl (cy, 200, .inl (fun _ => 0))), (q7, .inl (cy, 200, .inl (fun _ => 0))), (q8, .inl (cy, 200, .inl (fun _ => 0))), (q9, .inl (cy, 200, .inl (fun _ => 0))), (q10, .inl (cy, 48, .inl (fun _ => 0)))] H := hP
  have hD : va_D A [(h0, .inr (1, [.ref q1, .ref q2, .ref q3, .ref q4, .ref q5, .ref q6, .ref q7, .ref q8, .ref q9, .ref q10, .int 0, .int 0, .int 0])), (q1, .inl (cy, 200, .inl (fun _ => 0))), (q2, .inl (cy, 200, .inl (fun _ => 0))), (q3, .inl (cy, 200, .inl (fun _ => 0))), (q4, .inl (cy, 200, .inl (fun _ => 0))), (q5, .inl (cy, 200, .inl (fun _ => 0))), (q6, .inl (cy, 200, .inl (fun _ => 0))), (q7, .inl (cy, 200, .inl (fun _ => 0))), (q8, .inl (cy, 200, .inl (fun _ => 0))), (q9, .inl (cy, 200, .inl (fun _ => 0))), (q10, .inl (cy, 48, .inl (fun _ => 0)))] := hD
  refine lv_aload_n hx hb dX1_init_93 rfl (lv_at hl 0 rfl) ?_
  refine lv_iconst (v := 0) hx hb dX1_init_94 (by decide) ?_
  refine va_put (D := G) (ci := 1) (v := .int 0) (ty := .int) (C := RX1) (T := TX1) (N := 13) hx hb hts hi tyX1 tyX1_ok nmX1 hown hK hP hD hS 0 rfl rfl 10 (by decide) (hts (.fieldLink RX1 42 RX1 "came" "I") (by decide +kernel)) (fun _ h9 => h9) rfl (by decide +kernel) rfl rfl (Nat.le_of_ble_eq_true rfl) dX1_init_95 (fun H locs hP hD hS => ?_)
  have hP : va_P G vwCl [(h0, .inr (1, [.ref q1, .ref q2, .ref q3, .ref q4, .ref q5, .ref q6, .ref q7, .ref q8, .ref q9, .ref q10, .int 0, .int 0, .int 0])), (q1, .inl (cy, 200, .inl (fun _ => 0))), (q2, .inl (cy, 200, .inl (fun _ => 0))), (q3, .inl (cy, 200, .inl (fun _ => 0))), (q4, .inl (cy, 200, .inl (fun _ => 0))), (q5, .inl (cy, 200, .inl (fun _ => 0))), (q6, .inl (cy, 200, .inl (fun _ => 0))), (q7, .inl (cy, 200, .inl (fun _ => 0))), (q8, .inl (cy, 200, .inl (fun _ => 0))), (q9, .inl (cy, 200, .inl (fun _ => 0))), (q10, .inl (cy, 48, .inl (fun _ => 0)))] H := hP
  have hD : va_D A [(h0, .inr (1, [.ref q1, .ref q2, .ref q3, .ref q4, .ref q5, .ref q6, .ref q7, .ref q8, .ref q9, .ref q10, .int 0, .int 0, .int 0])), (q1, .inl (cy, 200, .inl (fun _ => 0))), (q2, .inl (cy, 200, .inl (fun _ => 0))), (q3, .inl (cy, 200, .inl (fun _ => 0))), (q4, .inl (cy, 200, .inl (fun _ => 0))), (q5, .inl (cy, 200, .inl (fun _ => 0))), (q6, .inl (cy, 200, .inl (fun _ => 0))), (q7, .inl (cy, 200, .inl (fun _ => 0))), (q8, .inl (cy, 200, .inl (fun _ => 0))), (q9, .inl (cy, 200, .inl (fun _ => 0))), (q10, .inl (cy, 48, .inl (fun _ => 0)))] := hD
  refine lv_aload_n hx hb dX1_init_98 rfl (lv_at hl 0 rfl) ?_
  refine lv_iconst (v := 0) hx hb dX1_init_99 (by decide) ?_
  refine va_put (D := G) (ci := 1) (v := .int 0) (ty := .int) (C := RX1) (T := TX1) (N := 13) hx hb hts hi tyX1 tyX1_ok nmX1 hown hK hP hD hS 0 rfl rfl 11 (by decide) (hts (.fieldLink RX1 46 RX1 "inBoxes" "I") (by decide +kernel)) (fun _ h9 => h9) rfl (by decide +kernel) rfl rfl (Nat.le_of_ble_eq_true rfl) dX1_init_100 (fun H locs hP hD hS => ?_)
  have hP : va_P G vwCl [(h0, .inr (1, [.ref q1, .ref q2, .ref q3, .ref q4, .ref q5, .ref q6, .ref q7, .ref q8, .ref q9, .ref q10, .int 0, .int 0, .int 0])), (q1, .inl (cy, 200, .inl (fun _ => 0))), (q2, .inl (cy, 200, .inl (fun _ => 0))), (q3, .inl (cy, 200, .inl (fun _ => 0))), (q4, .inl (cy, 200, .inl (fun _ => 0))), (q5, .inl (cy, 200, .inl (fun _ => 0))), (q6, .inl (cy, 200, .inl (fun _ => 0))), (q7, .inl (cy, 200, .inl (fun _ => 0))), (q8, .inl (cy, 200, .inl (fun _ => 0))), (q9, .inl (cy, 200, .inl (fun _ => 0))), (q10, .inl (cy, 48, .inl (fun _ => 0)))] H := hP
  have hD : va_D A [(h0, .inr (1, [.ref q1, .ref q2, .ref q3, .ref q4, .ref q5, .ref q6, .ref q7, .ref q8, .ref q9, .ref q10, .int 0, .int 0, .int 0])), (q1, .inl (cy, 200, .inl (fun _ => 0))), (q2, .inl (cy, 200, .inl (fun _ => 0))), (q3, .inl (cy, 200, .inl (fun _ => 0))), (q4, .inl (cy, 200, .inl (fun _ => 0))), (q5, .inl (cy, 200, .inl (fun _ => 0))), (q6, .inl (cy, 200, .inl (fun _ => 0))), (q7, .inl (cy, 200, .inl (fun _ => 0))), (q8, .inl (cy, 200, .inl (fun _ => 0))), (q9, .inl (cy, 200, .inl (fun _ => 0))), (q10, .inl (cy, 48, .inl (fun _ => 0)))] := hD
  refine lv_aload_n hx hb dX1_init_103 rfl (lv_at hl 0 rfl) ?_
  refine lv_iconst (v := 0) hx hb dX1_init_104 (by decide) ?_
  refine va_put (D := G) (ci := 1) (v := .int 0) (ty := .int) (C := RX1) (T := TX1) (N := 13) hx hb hts hi tyX1 tyX1_ok nmX1 hown hK hP hD hS 0 rfl rfl 12 (by decide) (hts (.fieldLink RX1 49 RX1 "lost" "I") (by decide +kernel)) (fun _ h9 => h9) rfl (by decide +kernel) rfl rfl (Nat.le_of_ble_eq_true rfl) dX1_init_105 (fun H locs hP hD hS => ?_)
  have hP : va_P G vwCl [(h0, .inr (1, [.ref q1, .ref q2, .ref q3, .ref q4, .ref q5, .ref q6, .ref q7, .ref q8, .ref q9, .ref q10, .int 0, .int 0, .int 0])), (q1, .inl (cy, 200, .inl (fun _ => 0))), (q2, .inl (cy, 200, .inl (fun _ => 0))), (q3, .inl (cy, 200, .inl (fun _ => 0))), (q4, .inl (cy, 200, .inl (fun _ => 0))), (q5, .inl (cy, 200, .inl (fun _ => 0))), (q6, .inl (cy, 200, .inl (fun _ => 0))), (q7, .inl (cy, 200, .inl (fun _ => 0))), (q8, .inl (cy, 200, .inl (fun _ => 0))), (q9, .inl (cy, 200, .inl (fun _ => 0))), (q10, .inl (cy, 48, .inl (fun _ => 0)))] H := hP
  have hD : va_D A [(h0, .inr (1, [.ref q1, .ref q2, .ref q3, .ref q4, .ref q5, .ref q6, .ref q7, .ref q8, .ref q9, .ref q10, .int 0, .int 0, .int 0])), (q1, .inl (cy, 200, .inl (fun _ => 0))), (q2, .inl (cy, 200, .inl (fun _ => 0))), (q3, .inl (cy, 200, .inl (fun _ => 0))), (q4, .inl (cy, 200, .inl (fun _ => 0))), (q5, .inl (cy, 200, .inl (fun _ => 0))), (q6, .inl (cy, 200, .inl (fun _ => 0))), (q7, .inl (cy, 200, .inl (fun _ => 0))), (q8, .inl (cy, 200, .inl (fun _ => 0))), (q9, .inl (cy, 200, .inl (fun _ => 0))), (q10, .inl (cy, 48, .inl (fun _ => 0)))] := hD
  exact W.vret hx hb hr (fun t ht hW => ⟨⟨(fun k => [q1, q2, q3, q4, q5, q6, q7, q8, q9, q10].getD k 0), rfl, trivial, (show va_P G vwCl [(h0, .inr (1, [.ref q1, .ref q2, .ref q3, .ref q4, .ref q5, .ref q6, .ref q7, .ref q8, .ref q9, .ref q10, .int 0, .int 0, .int 0])), (q1, .inl (cy, 200, .inl (fun _ => 0))), (q2, .inl (cy, 200, .inl (fun _ => 0))), (q3, .inl (cy, 200, .inl (fun _ => 0))), (q4, .inl (cy, 200, .inl (fun _ => 0))), (q5, .inl (cy, 200, .inl (fun _ => 0))), (q6, .inl (cy, 200, .inl (fun _ => 0))), (q7, .inl (cy, 200, .inl (fun _ => 0))), (q8, .inl (cy, 200, .inl (fun _ => 0))), (q9, .inl (cy, 200, .inl (fun _ => 0))), (q10, .inl (cy, 48, .inl (fun _ => 0)))] t.heap by rw [ht]; exact hP), hD⟩, hS.F ht⟩) hS.2.2 dX1_init_108
def iX3 (cy : ClassId) (h0 : Nat) (b : Nat → Nat) : va_W := [(h0, .inr (3, [.ref (b 0), .ref (b 1), .ref (b 2), .ref (b 3), .ref (b 4), .ref (b 5), .int 0])), (b 0, .inl (cy, 20, .inl (fun _ => 0))), (b 1, .inl (cy, 20, .inl (fun _ => 0))), (b 2, .inl (cy, 20, .inl (fun _ => 0))), (b 3, .inl (cy, 20, .inl (fun _ => 0))), (b 4, .inl (cy, 20, .inl (fun _ => 0))), (b 5, .inl (cy, 20, .inl (fun _ => 0)))]
set_option maxHeartbeats 4000000 in
set_option maxRecDepth 100000 in
theorem mX3_init (l : Launch) (G : va_G) (cy : ClassId) (h0 sz : Nat) : Met l yX3_init wsX3_init ({ frames := 1, cells := 6, slots := 120, locals := 20 }) (va_Pc [.ref h0] (fun U => U.heap.size = sz ∧ va_P G vwCl [(h0, .inr (3, [.null, .null, .null, .null, .null, .null, .int 0]))] U.heap ∧ va_K G vwCl [(cy, .int)] U ∧ va_D (fun _ => True) [(h0, .inr (3, [.null, .null, .null, .null, .null, .null, .int 0]))])) (va_Qv (fun (_ : Nat → Nat) => True) (fun b t => va_P G vwCl (iX3 cy h0 b) t.heap ∧ va_D (va_A [(h0, .inr (3, [.null, .null, .null, .null, .null, .null, .int 0]))] sz) (iX3 cy h0 b)) (va_A [(h0, .inr (3, [.null, .null, .null, .null, .null, .null, .int 0]))] sz)) 6 120 (va_A [(h0, .inr (3, [.null, .null, .null, .null, .null, .null, .int 0]))] sz) := by
  refine Met.ofW (cc := cX3_init) (maxL := 1) (ret := none) (by decide) rfl ?_
  intro p e s m args below meth c s₁ B hml hv
  obtain ⟨rfl, hsz, hP, hK, hD0⟩ := hv
  have hx := B.exec
  have hb := B.bytes
  have hr := B.returns
  have hts := atoms_spec (ws := wsX3_init) B.pre
  have hown : s.vm.findClass RX3 = some m.cls := findClass_of_methodNamed B.named
  have hlocks := B.notSynchronized
  have hin : meth.name = "<init>" := (name_of_methodNamed B.named B.method).1
  subst hsz
  have hD := hD0.self (sz := s.heap.size)
  generalize hAe : va_A [(h0, .inr (3, [.null, .null, .null, .null, .null, .null, .int 0]))] s.heap.size = A at hD ⊢
  have hA : ∀ q : Nat, s.heap.size ≤ q → A q := fun q h => by rw [← hAe]; exact Or.inr h
  have hS : va_S A s.heap s.heap [] := va_S.rf
  have hl := lv_entry ([.ref h0]) (n := 1) (Nat.le_of_ble_eq_true rfl)
  rw [lg_entry_eq]
  generalize (lg_sl ([.ref h0]) ++ List.replicate (1 - (lg_sl ([.ref h0])).length) Slot.unset).toArray = ls at hl ⊢
  have hl : lv_has ls 1 [(0, .ref h0)] := hl
  have hi : ∀ w ∈ u_ws RX3 TX3 7, w ∈ wsX3_init := by decide +kernel
  refine lv_aload_n hx hb dX3_init_0 rfl (lv_at hl 0 rfl) ?_
  refine W.objInit hx hb hown (hts (.methodLink RX3 3 objectInit) (by decide +kernel)) (hts (.instanceMethod objectInit) (by decide +kernel)) (hts (.code objectInit ⟨#[0xb1]⟩ 1 none) (by decide +kernel)) rfl (by rw [hml]; exact hl.1) rfl dX3_init_1 (Nat.le_of_ble_eq_true rfl) (Nat.le_of_ble_eq_true rfl) ?_
  refine W.eq (g2 := F0 m 4 ls []) rfl ?_
  refine lv_aload_n hx hb dX3_init_4 rfl (lv_at hl 0 rfl) ?_
  refine lv_bipush (v := 20) hx hb dX3_init_5 (by decide) ?_
  refine va_newa (ty := .int) (a0 := (20, .inl (fun _ => 0))) (N' := 20) hx hb (hts (.arrayClass .int) (by decide +kernel)) rfl hK hP hD hS hA (fun _ => rfl) (by decide) (by decide) (by decide) (Nat.le_of_ble_eq_true rfl) (Nat.le_of_ble_eq_true rfl) dX3_init_7 (fun q1 cA1 H hK hP hD hS => ?_)
  obtain rfl : cA1 = cy := w_cA hK
  have hK := hK.sub (tys' := [(cy, .int)]) [0] rfl
  have hP : va_P G vwCl [(h0, .inr (3, [.null, .null, .null, .null, .null, .null, .int 0])), (q1, .inl (cy, 20, .inl (fun _ => 0)))] H := hP
  have hD : va_D A [(h0, .inr (3, [.null, .null, .null, .null, .null, .null, .int 0])), (q1, .inl (cy, 20, .inl (fun _ => 0)))] := hD
  refine W.widen (k := 1) (n := 20) (Nat.le_of_ble_eq_true rfl) (Nat.le_of_ble_eq_true rfl) ?_
  refine va_putF (D := G) (ci := 3) (v := .ref q1) (ty := .array .int) (C := RX3) (T := TX3) (N := 7) hx hb hts hi tyX3 tyX3_ok nmX3 hown hK hP hD hS 0 rfl rfl 0 (by decide) (hts (.fieldLink RX3 9 RX3 "rank" "[I") (by decide +kernel)) (fun _ h9 => h9) rfl hin rfl (by decide +kernel) rfl rfl (Nat.le_of_ble_eq_true rfl) dX3_init_9 (fun H locs hP hD hS => ?_)
  have hP : va_P G vwCl [(h0, .inr (3, [.ref q1, .null, .null, .null, .null, .null, .int 0])), (q1, .inl (cy, 20, .inl (fun _ => 0)))] H := hP
  have hD : va_D A [(h0, .inr (3, [.ref q1, .null, .null, .null, .null, .null, .int 0])), (q1, .inl (cy, 20, .inl (fun _ => 0)))] := hD
  refine lv_aload_n hx hb dX3_init_12 rfl (lv_at hl 0 rfl) ?_
  refine lv_bipush (v := 20) hx hb dX3_init_13 (by decide) ?_
  refine va_newa (ty := .int) (a0 := (20, .inl (fun _ => 0))) (N' := 20) hx hb (hts (.arrayClass .int) (by decide +kernel)) rfl hK hP hD hS hA (fun _ => rfl) (by decide) (by decide) (by decide) (Nat.le_of_ble_eq_true rfl) (Nat.le_of_ble_eq_true rfl) dX3_init_15 (fun q2 cA2 H hK hP hD hS => ?_)
  obtain rfl : cA2 = cy := w_cA hK
  have hK := hK.sub (tys' := [(cy, .int)]) [0] rfl
  have hP : va_P G vwCl [(h0, .inr (3, [.ref q1, .null, .null, .null, .null, .null, .int 0])), (q1, .inl (cy, 20, .inl (fun _ => 0))), (q2, .inl (cy, 20, .inl (fun _ => 0)))] H := hP
  have hD : va_D A [(h0, .inr (3, [.ref q1, .null, .null, .null, .null, .null, .int 0])), (q1, .inl (cy, 20, .inl (fun _ => 0))), (q2, .inl (cy, 20, .inl (fun _ => 0)))] := hD
  refine W.widen (k := 2) (n := 40) (Nat.le_of_ble_eq_true rfl) (Nat.le_of_ble_eq_true rfl) ?_
  refine va_putF (D := G) (ci := 3) (v := .ref q2) (ty := .array .int) (C := RX3) (T := TX3) (N := 7) hx hb hts hi tyX3 tyX3_ok nmX3 hown hK hP hD hS 0 rfl rfl 1 (by decide) (hts (.fieldLink RX3 15 RX3 "boxDays" "[I") (by decide +kernel)) (fun _ h9 => h9) rfl hin rfl (by decide +kernel) rfl rfl (Nat.le_of_ble_eq_true rfl) dX3_init_17 (fun H locs hP hD hS => ?_)
  have hP : va_P G vwCl [(h0, .inr (3, [.ref q1, .ref q2, .null, .null, .null, .null, .int 0])), (q1, .inl (cy, 20, .inl (fun _ => 0))), (q2, .inl (cy, 20, .inl (fun _ => 0)))] H := hP
  have hD : va_D A [(h0, .inr (3, [.ref q1, .ref q2, .null, .null, .null, .null, .int 0])), (q1, .inl (cy, 20, .inl (fun _ => 0))), (q2, .inl (cy, 20, .inl (fun _ => 0)))] := hD
  refine lv_aload_n hx hb dX3_init_20 rfl (lv_at hl 0 rfl) ?_
  refine lv_bipush (v := 20) hx hb dX3_init_21 (by decide) ?_
  refine va_newa (ty := .int) (a0 := (20, .inl (fun _ => 0))) (N' := 20) hx hb (hts (.arrayClass .int) (by decide +kernel)) rfl hK hP hD hS hA (fun _ => rfl) (by decide) (by decide) (by decide) (Nat.le_of_ble_eq_true rfl) (Nat.le_of_ble_eq_true rfl) dX3_init_23 (fun q3 cA3 H hK hP hD hS => ?_)
  obtain rfl : cA3 = cy := w_cA hK
  have hK := hK.sub (tys' := [(cy, .int)]) [0] rfl
  have hP : va_P G vwCl [(h0, .inr (3, [.ref q1, .ref q2, .null, .null, .null, .null, .int 0])), (q1, .inl (cy, 20, .inl (fun _ => 0))), (q2, .inl (cy, 20, .inl (fun _ => 0))), (q3, .inl (cy, 20, .inl (fun _ => 0)))] H := hP
  have hD : va_D A [(h0, .inr (3, [.ref q1, .ref q2, .null, .null, .null, .null, .int 0])), (q1, .inl (cy, 20, .inl (fun _ => 0))), (q2, .inl (cy, 20, .inl (fun _ => 0))), (q3, .inl (cy, 20, .inl (fun _ => 0)))] := hD
  refine W.widen (k := 3) (n := 60) (Nat.le_of_ble_eq_true rfl) (Nat.le_of_ble_eq_true rfl) ?_
  refine va_putF (D := G) (ci := 3) (v := .ref q3) (ty := .array .int) (C := RX3) (T := TX3) (N := 7) hx hb hts hi tyX3 tyX3_ok nmX3 hown hK hP hD hS 0 rfl rfl 2 (by decide) (hts (.fieldLink RX3 18 RX3 "last" "[I") (by decide +kernel)) (fun _ h9 => h9) rfl hin rfl (by decide +kernel) rfl rfl (Nat.le_of_ble_eq_true rfl) dX3_init_25 (fun H locs hP hD hS => ?_)
  have hP : va_P G vwCl [(h0, .inr (3, [.ref q1, .ref q2, .ref q3, .null, .null, .null, .int 0])), (q1, .inl (cy, 20, .inl (fun _ => 0))), (q2, .inl (cy, 20, .inl (fun _ => 0))), (q3, .inl (cy, 20, .inl (fun _ => 0)))] H := hP
  have hD : va_D A [(h0, .inr (3, [.ref q1, .ref q2, .ref q3, .null, .null, .null, .int 0])), (q1, .inl (cy, 20, .inl (fun _ => 0))), (q2, .inl (cy, 20, .inl (fun _ => 0))), (q3, .inl (cy, 20, .inl (fun _ => 0)))] := hD
  refine lv_aload_n hx hb dX3_init_28 rfl (lv_at hl 0 rfl) ?_
  refine lv_bipush (v := 20) hx hb dX3_init_29 (by decide) ?_
  refine va_newa (ty := .int) (a0 := (20, .inl (fun _ => 0))) (N' := 20) hx hb (hts (.arrayClass .int) (by decide +kernel)) rfl hK hP hD hS hA (fun _ => rfl) (by decide) (by decide) (by decide) (Nat.le_of_ble_eq_true rfl) (Nat.le_of_ble_eq_true rfl) dX3_init_31 (fun q4 cA4 H hK hP hD hS => ?_)
  obtain rfl : cA4 = cy := w_cA hK
  have hK := hK.sub (tys' := [(cy, .int)]) [0] rfl
  have hP : va_P G vwCl [(h0, .inr (3, [.ref q1, .ref q2, .ref q3, .null, .null, .null, .int 0])), (q1, .inl (cy, 20, .inl (fun _ => 0))), (q2, .inl (cy, 20, .inl (fun _ => 0))), (q3, .inl (cy, 20, .inl (fun _ => 0))), (q4, .inl (cy, 20, .inl (fun _ => 0)))] H := hP
  have hD : va_D A [(h0, .inr (3, [.ref q1, .ref q2, .ref q3, .null, .null, .null, .int 0])), (q1, .inl (cy, 20, .inl (fun _ => 0))), (q2, .inl (cy, 20, .inl (fun _ => 0))), (q3, .inl (cy, 20, .inl (fun _ => 0))), (q4, .inl (cy, 20, .inl (fun _ => 0)))] := hD
  refine W.widen (k := 4) (n := 80) (Nat.le_of_ble_eq_true rfl) (Nat.le_of_ble_eq_true rfl) ?_
  refine va_putF (D := G) (ci := 3) (v := .ref q4) (ty := .array .int) (C := RX3) (T := TX3) (N := 7) hx hb hts hi tyX3 tyX3_ok nmX3 hown hK hP hD hS 0 rfl rfl 3 (by decide) (hts (.fieldLink RX3 21 RX3 "owed" "[I") (by decide +kernel)) (fun _ h9 => h9) rfl hin rfl (by decide +kernel) rfl rfl (Nat.le_of_ble_eq_true rfl) dX3_init_33 (fun H locs hP hD hS => ?_)
  have hP : va_P G vwCl [(h0, .inr (3, [.ref q1, .ref q2, .ref q3, .ref q4, .null, .null, .int 0])), (q1, .inl (cy, 20, .inl (fun _ => 0))), (q2, .inl (cy, 20, .inl (fun _ => 0))), (q3, .inl (cy, 20, .inl (fun _ => 0))), (q4, .inl (cy, 20, .inl (fun _ => 0)))] H := hP
  have hD : va_D A [(h0, .inr (3, [.ref q1, .ref q2, .ref q3, .ref q4, .null, .null, .int 0])), (q1, .inl (cy, 20, .inl (fun _ => 0))), (q2, .inl (cy, 20, .inl (fun _ => 0))), (q3, .inl (cy, 20, .inl (fun _ => 0))), (q4, .inl (cy, 20, .inl (fun _ => 0)))] := hD
  refine lv_aload_n hx hb dX3_init_36 rfl (lv_at hl 0 rfl) ?_
  refine lv_bipush (v := 20) hx hb dX3_init_37 (by decide) ?_
  refine va_newa (ty := .int) (a0 := (20, .inl (fun _ => 0))) (N' := 20) hx hb (hts (.arrayClass .int) (by decide +kernel)) rfl hK hP hD hS hA (fun _ => rfl) (by decide) (by decide) (by decide) (Nat.le_of_ble_eq_true rfl) (Nat.le_of_ble_eq_true rfl) dX3_init_39 (fun q5 cA5 H hK hP hD hS => ?_)
  obtain rfl : cA5 = cy := w_cA hK
  have hK := hK.sub (tys' := [(cy, .int)]) [0] rfl
  have hP : va_P G vwCl [(h0, .inr (3, [.ref q1, .ref q2, .ref q3, .ref q4, .null, .null, .int 0])), (q1, .inl (cy, 20, .inl (fun _ => 0))), (q2, .inl (cy, 20, .inl (fun _ => 0))), (q3, .inl (cy, 20, .inl (fun _ => 0))), (q4, .inl (cy, 20, .inl (fun _ => 0))), (q5, .inl (cy, 20, .inl (fun _ => 0)))] H := hP
  have hD : va_D A [(h0, .inr (3, [.ref q1, .ref q2, .ref q3, .ref q4, .null, .null, .int 0])), (q1, .inl (cy, 20, .inl (fun _ => 0))), (q2, .inl (cy, 20, .inl (fun _ => 0))), (q3, .inl (cy, 20, .inl (fun _ => 0))), (q4, .inl (cy, 20, .inl (fun _ => 0))), (q5, .inl (cy, 20, .inl (fun _ => 0)))] := hD
  refine W.widen (k := 5) (n := 100) (Nat.le_of_ble_eq_true rfl) (Nat.le_of_ble_eq_true rfl) ?_
  refine va_putF (D := G) (ci := 3) (v := .ref q5) (ty := .array .int) (C := RX3) (T := TX3) (N := 7) hx hb hts hi tyX3 tyX3_ok nmX3 hown hK hP hD hS 0 rfl rfl 4 (by decide) (hts (.fieldLink RX3 24 RX3 "inHand" "[I") (by decide +kernel)) (fun _ h9 => h9) rfl hin rfl (by decide +kernel) rfl rfl (Nat.le_of_ble_eq_true rfl) dX3_init_41 (fun H locs hP hD hS => ?_)
  have hP : va_P G vwCl [(h0, .inr (3, [.ref q1, .ref q2, .ref q3, .ref q4, .ref q5, .null, .int 0])), (q1, .inl (cy, 20, .inl (fun _ => 0))), (q2, .inl (cy, 20, .inl (fun _ => 0))), (q3, .inl (cy, 20, .inl (fun _ => 0))), (q4, .inl (cy, 20, .inl (fun _ => 0))), (q5, .inl (cy, 20, .inl (fun _ => 0)))] H := hP
  have hD : va_D A [(h0, .inr (3, [.ref q1, .ref q2, .ref q3, .ref q4, .ref q5, .null, .int 0])), (q1, .inl (cy, 20, .inl (fun _ => 0))), (q2, .inl (cy, 20, .inl (fun _ => 0))), (q3, .inl (cy, 20, .inl (fun _ => 0))), (q4, .inl (cy, 20, .inl (fun _ => 0))), (q5, .inl (cy, 20, .inl (fun _ => 0)))] := hD
  refine lv_aload_n hx hb dX3_init_44 rfl (lv_at hl 0 rfl) ?_
  refine lv_bipush (v := 20) hx hb dX3_init_45 (by decide) ?_
  refine va_newa (ty := .int) (a0 := (20, .inl (fun _ => 0))) (N' := 20) hx hb (hts (.arrayClass .int) (by decide +kernel)) rfl hK hP hD hS hA (fun _ => rfl) (by decide) (by decide) (by decide) (Nat.le_of_ble_eq_true rfl) (Nat.le_of_ble_eq_true rfl) dX3_init_47 (fun q6 cA6 H hK hP hD hS => ?_)
  obtain rfl : cA6 = cy := w_cA hK
  have hK := hK.sub (tys' := [(cy, .int)]) [0] rfl
  have hP : va_P G vwCl [(h0, .inr (3, [.ref q1, .ref q2, .ref q3, .ref q4, .ref q5, .null, .int 0])), (q1, .inl (cy, 20, .inl (fun _ => 0))), (q2, .inl (cy, 20, .inl (fun _ => 0))), (q3, .inl (cy, 20, .inl (fun _ => 0))), (q4, .inl (cy, 20, .inl (fun _ => 0))), (q5, .inl (cy, 20, .inl (fun _ => 0))), (q6, .inl (cy, 20, .inl (fun _ => 0)))] H := hP
  have hD : va_D A [(h0, .inr (3, [.ref q1, .ref q2, .ref q3, .ref q4, .ref q5, .null, .int 0])), (q1, .inl (cy, 20, .inl (fun _ => 0))), (q2, .inl (cy, 20, .inl (fun _ => 0))), (q3, .inl (cy, 20, .inl (fun _ => 0))), (q4, .inl (cy, 20, .inl (fun _ => 0))), (q5, .inl (cy, 20, .inl (fun _ => 0))), (q6, .inl (cy, 20, .inl (fun _ => 0)))] := hD
  refine W.widen (k := 6) (n := 120) (Nat.le_of_ble_eq_true rfl) (Nat.le_of_ble_eq_true rfl) ?_
  refine va_putF (D := G) (ci := 3) (v := .ref q6) (ty := .array .int) (C := RX3) (T := TX3) (N := 7) hx hb hts hi tyX3 tyX3_ok nmX3 hown hK hP hD hS 0 rfl rfl 5 (by decide) (hts (.fieldLink RX3 27 RX3 "inBoxes" "[I") (by decide +kernel)) (fun _ h9 => h9) rfl hin rfl (by decide +kernel) rfl rfl (Nat.le_of_ble_eq_true rfl) dX3_init_49 (fun H locs hP hD hS => ?_)
  have hP : va_P G vwCl [(h0, .inr (3, [.ref q1, .ref q2, .ref q3, .ref q4, .ref q5, .ref q6, .int 0])), (q1, .inl (cy, 20, .inl (fun _ => 0))), (q2, .inl (cy, 20, .inl (fun _ => 0))), (q3, .inl (cy, 20, .inl (fun _ => 0))), (q4, .inl (cy, 20, .inl (fun _ => 0))), (q5, .inl (cy, 20, .inl (fun _ => 0))), (q6, .inl (cy, 20, .inl (fun _ => 0)))] H := hP
  have hD : va_D A [(h0, .inr (3, [.ref q1, .ref q2, .ref q3, .ref q4, .ref q5, .ref q6, .int 0])), (q1, .inl (cy, 20, .inl (fun _ => 0))), (q2, .inl (cy, 20, .inl (fun _ => 0))), (q3, .inl (cy, 20, .inl (fun _ => 0))), (q4, .inl (cy, 20, .inl (fun _ => 0))), (q5, .inl (cy, 20, .inl (fun _ => 0))), (q6, .inl (cy, 20, .inl (fun _ => 0)))] := hD
  refine lv_aload_n hx hb dX3_init_52 rfl (lv_at hl 0 rfl) ?_
  refine lv_iconst (v := 0) hx hb dX3_init_53 (by decide) ?_
  refine va_put (D := G) (ci := 3) (v := .int 0) (ty := .int) (C := RX3) (T := TX3) (N := 7) hx hb hts hi tyX3 tyX3_ok nmX3 hown hK hP hD hS 0 rfl rfl 6 (by decide) (hts (.fieldLink RX3 30 RX3 "came" "I") (by decide +kernel)) (fun _ h9 => h9) rfl (by decide +kernel) rfl rfl (Nat.le_of_ble_eq_true rfl) dX3_init_54 (fun H locs hP hD hS => ?_)
  have hP : va_P G vwCl [(h0, .inr (3, [.ref q1, .ref q2, .ref q3, .ref q4, .ref q5, .ref q6, .int 0])), (q1, .inl (cy, 20, .inl (fun _ => 0))), (q2, .inl (cy, 20, .inl (fun _ => 0))), (q3, .inl (cy, 20, .inl (fun _ => 0))), (q4, .inl (cy, 20, .inl (fun _ => 0))), (q5, .inl (cy, 20, .inl (fun _ => 0))), (q6, .inl (cy, 20, .inl (fun _ => 0)))] H := hP
  have hD : va_D A [(h0, .inr (3, [.ref q1, .ref q2, .ref q3, .ref q4, .ref q5, .ref q6, .int 0])), (q1, .inl (cy, 20, .inl (fun _ => 0))), (q2, .inl (cy, 20, .inl (fun _ => 0))), (q3, .inl (cy, 20, .inl (fun _ => 0))), (q4, .inl (cy, 20, .inl (fun _ => 0))), (q5, .inl (cy, 20, .inl (fun _ => 0))), (q6, .inl (cy, 20, .inl (fun _ => 0)))] := hD
  exact W.vret hx hb hr (fun t ht hW => ⟨⟨(fun k => [q1, q2, q3, q4, q5, q6].getD k 0), rfl, trivial, (show va_P G vwCl [(h0, .inr (3, [.ref q1, .ref q2, .ref q3, .ref q4, .ref q5, .ref q6, .int 0])), (q1, .inl (cy, 20, .inl (fun _ => 0))), (q2, .inl (cy, 20, .inl (fun _ => 0))), (q3, .inl (cy, 20, .inl (fun _ => 0))), (q4, .inl (cy, 20, .inl (fun _ => 0))), (q5, .inl (cy, 20, .inl (fun _ => 0))), (q6, .inl (cy, 20, .inl (fun _ => 0)))] t.heap by rw [ht]; exact hP), hD⟩, hS.F ht⟩) hS.2.2 dX3_init_57
def iX5 (cy : ClassId) (h0 : Nat) (b : Nat → Nat) : va_W := [(h0, .inr (5, [.ref (b 0), .ref (b 1), .ref (b 2), .ref (b 3), .ref (b 4), .ref (b 5), .int 0])), (b 0, .inl (cy, 100, .inl (fun _ => 0))), (b 1, .inl (cy, 100, .inl (fun _ => 0))), (b 2, .inl (cy, 100, .inl (fun _ => 0))), (b 3, .inl (cy, 100, .inl (fun _ => 0))), (b 4, .inl (cy, 100, .inl (fun _ => 0))), (b 5, .inl (cy, 100, .inl (fun _ => 0)))]
set_option maxHeartbeats 4000000 in
set_option maxRecDepth 100000 in
theorem mX5_init (l : Launch) (G : va_G) (cy : ClassId) (h0 sz : Nat) : Met l yX5_init wsX5_init ({ frames := 1, cells := 6, slots := 600, locals := 20 }) (va_Pc [.ref h0] (fun U => U.heap.size = sz ∧ va_P G vwCl [(h0, .inr (5, [.null, .null, .null, .null, .null, .null, .int 0]))] U.heap ∧ va_K G vwCl [(cy, .int)] U ∧ va_D (fun _ => True) [(h0, .inr (5, [.null, .null, .null, .null, .null, .null, .int 0]))])) (va_Qv (fun (_ : Nat → Nat) => True) (fun b t => va_P G vwCl (iX5 cy h0 b) t.heap ∧ va_D (va_A [(h0, .inr (5, [.null, .null, .null, .null, .null, .null, .int 0]))] sz) (iX5 cy h0 b)) (va_A [(h0, .inr (5, [.null, .null, .null, .null, .null, .null, .int 0]))] sz)) 6 600 (va_A [(h0, .inr (5, [.null, .null, .null, .null, .null, .null, .int 0]))] sz) := by
  refine Met.ofW (cc := cX5_init) (maxL := 1) (ret := none) (by decide) rfl ?_
  intro p e s m args below meth c s₁ B hml hv
  obtain ⟨rfl, hsz, hP, hK, hD0⟩ := hv
  have hx := B.exec
  have hb := B.bytes
  have hr := B.returns
  have hts := atoms_spec (ws := wsX5_init) B.pre
  have hown : s.vm.findClass RX5 = some m.cls := findClass_of_methodNamed B.named
  have hlocks := B.notSynchronized
  have hin : meth.name = "<init>" := (name_of_methodNamed B.named B.method).1
  subst hsz
  have hD := hD0.self (sz := s.heap.size)
  generalize hAe : va_A [(h0, .inr (5, [.null, .null, .null, .null, .null, .null, .int 0]))] s.heap.size = A at hD ⊢
  have hA : ∀ q : Nat, s.heap.size ≤ q → A q := fun q h => by rw [← hAe]; exact Or.inr h
  have hS : va_S A s.heap s.heap [] := va_S.rf
  have hl := lv_entry ([.ref h0]) (n := 1) (Nat.le_of_ble_eq_true rfl)
  rw [lg_entry_eq]
  generalize (lg_sl ([.ref h0]) ++ List.replicate (1 - (lg_sl ([.ref h0])).length) Slot.unset).toArray = ls at hl ⊢
  have hl : lv_has ls 1 [(0, .ref h0)] := hl
  have hi : ∀ w ∈ u_ws RX5 TX5 7, w ∈ wsX5_init := by decide +kernel
  refine lv_aload_n hx hb dX5_init_0 rfl (lv_at hl 0 rfl) ?_
  refine W.objInit hx hb hown (hts (.methodLink RX5 3 objectInit) (by decide +kernel)) (hts (.instanceMethod objectInit) (by decide +kernel)) (hts (.code objectInit ⟨#[0xb1]⟩ 1 none) (by decide +kernel)) rfl (by rw [hml]; exact hl.1) rfl dX5_init_1 (Nat.le_of_ble_eq_true rfl) (Nat.le_of_ble_eq_true rfl) ?_
  refine W.eq (g2 := F0 m 4 ls []) rfl ?_
  refine lv_aload_n hx hb dX5_init_4 rfl (lv_at hl 0 rfl) ?_
  refine lv_bipush (v := 100) hx hb dX5_init_5 (by decide) ?_
  refine va_newa (ty := .int) (a0 := (100, .inl (fun _ => 0))) (N' := 100) hx hb (hts (.arrayClass .int) (by decide +kernel)) rfl hK hP hD hS hA (fun _ => rfl) (by decide) (by decide) (by decide) (Nat.le_of_ble_eq_true rfl) (Nat.le_of_ble_eq_true rfl) dX5_init_7 (fun q1 cA1 H hK hP hD hS => ?_)
  obtain rfl : cA1 = cy := w_cA hK
  have hK := hK.sub (tys' := [(cy, .int)]) [0] rfl
  have hP : va_P G vwCl [(h0, .inr (5, [.null, .null, .null, .null, .null, .null, .int 0])), (q1, .inl (cy, 100, .inl (fun _ => 0)))] H := hP
  have hD : va_D A [(h0, .inr (5, [.null, .null, .null, .null, .null, .null, .int 0])), (q1, .inl (cy, 100, .inl (fun _ => 0)))] := hD
  refine W.widen (k := 1) (n := 100) (Nat.le_of_ble_eq_true rfl) (Nat.le_of_ble_eq_true rfl) ?_
  refine va_putF (D := G) (ci := 5) (v := .ref q1) (ty := .array .int) (C := RX5) (T := TX5) (N := 7) hx hb hts hi tyX5 tyX5_ok nmX5 hown hK hP hD hS 0 rfl rfl 0 (by decide) (hts (.fieldLink RX5 9 RX5 "reader" "[I") (by decide +kernel)) (fun _ h9 => h9) rfl hin rfl (by decide +kernel) rfl rfl (Nat.le_of_ble_eq_true rfl) dX5_init_9 (fun H locs hP hD hS => ?_)
  have hP : va_P G vwCl [(h0, .inr (5, [.ref q1, .null, .null, .null, .null, .null, .int 0])), (q1, .inl (cy, 100, .inl (fun _ => 0)))] H := hP
  have hD : va_D A [(h0, .inr (5, [.ref q1, .null, .null, .null, .null, .null, .int 0])), (q1, .inl (cy, 100, .inl (fun _ => 0)))] := hD
  refine lv_aload_n hx hb dX5_init_12 rfl (lv_at hl 0 rfl) ?_
  refine lv_bipush (v := 100) hx hb dX5_init_13 (by decide) ?_
  refine va_newa (ty := .int) (a0 := (100, .inl (fun _ => 0))) (N' := 100) hx hb (hts (.arrayClass .int) (by decide +kernel)) rfl hK hP hD hS hA (fun _ => rfl) (by decide) (by decide) (by decide) (Nat.le_of_ble_eq_true rfl) (Nat.le_of_ble_eq_true rfl) dX5_init_15 (fun q2 cA2 H hK hP hD hS => ?_)
  obtain rfl : cA2 = cy := w_cA hK
  have hK := hK.sub (tys' := [(cy, .int)]) [0] rfl
  have hP : va_P G vwCl [(h0, .inr (5, [.ref q1, .null, .null, .null, .null, .null, .int 0])), (q1, .inl (cy, 100, .inl (fun _ => 0))), (q2, .inl (cy, 100, .inl (fun _ => 0)))] H := hP
  have hD : va_D A [(h0, .inr (5, [.ref q1, .null, .null, .null, .null, .null, .int 0])), (q1, .inl (cy, 100, .inl (fun _ => 0))), (q2, .inl (cy, 100, .inl (fun _ => 0)))] := hD
  refine W.widen (k := 2) (n := 200) (Nat.le_of_ble_eq_true rfl) (Nat.le_of_ble_eq_true rfl) ?_
  refine va_putF (D := G) (ci := 5) (v := .ref q2) (ty := .array .int) (C := RX5) (T := TX5) (N := 7) hx hb hts hi tyX5 tyX5_ok nmX5 hown hK hP hD hS 0 rfl rfl 1 (by decide) (hts (.fieldLink RX5 15 RX5 "title" "[I") (by decide +kernel)) (fun _ h9 => h9) rfl hin rfl (by decide +kernel) rfl rfl (Nat.le_of_ble_eq_true rfl) dX5_init_17 (fun H locs hP hD hS => ?_)
  have hP : va_P G vwCl [(h0, .inr (5, [.ref q1, .ref q2, .null, .null, .null, .null, .int 0])), (q1, .inl (cy, 100, .inl (fun _ => 0))), (q2, .inl (cy, 100, .inl (fun _ => 0)))] H := hP
  have hD : va_D A [(h0, .inr (5, [.ref q1, .ref q2, .null, .null, .null, .null, .int 0])), (q1, .inl (cy, 100, .inl (fun _ => 0))), (q2, .inl (cy, 100, .inl (fun _ => 0)))] := hD
  refine lv_aload_n hx hb dX5_init_20 rfl (lv_at hl 0 rfl) ?_
  refine lv_bipush (v := 100) hx hb dX5_init_21 (by decide) ?_
  refine va_newa (ty := .int) (a0 := (100, .inl (fun _ => 0))) (N' := 100) hx hb (hts (.arrayClass .int) (by decide +kernel)) rfl hK hP hD hS hA (fun _ => rfl) (by decide) (by decide) (by decide) (Nat.le_of_ble_eq_true rfl) (Nat.le_of_ble_eq_true rfl) dX5_init_23 (fun q3 cA3 H hK hP hD hS => ?_)
  obtain rfl : cA3 = cy := w_cA hK
  have hK := hK.sub (tys' := [(cy, .int)]) [0] rfl
  have hP : va_P G vwCl [(h0, .inr (5, [.ref q1, .ref q2, .null, .null, .null, .null, .int 0])), (q1, .inl (cy, 100, .inl (fun _ => 0))), (q2, .inl (cy, 100, .inl (fun _ => 0))), (q3, .inl (cy, 100, .inl (fun _ => 0)))] H := hP
  have hD : va_D A [(h0, .inr (5, [.ref q1, .ref q2, .null, .null, .null, .null, .int 0])), (q1, .inl (cy, 100, .inl (fun _ => 0))), (q2, .inl (cy, 100, .inl (fun _ => 0))), (q3, .inl (cy, 100, .inl (fun _ => 0)))] := hD
  refine W.widen (k := 3) (n := 300) (Nat.le_of_ble_eq_true rfl) (Nat.le_of_ble_eq_true rfl) ?_
  refine va_putF (D := G) (ci := 5) (v := .ref q3) (ty := .array .int) (C := RX5) (T := TX5) (N := 7) hx hb hts hi tyX5 tyX5_ok nmX5 hown hK hP hD hS 0 rfl rfl 2 (by decide) (hts (.fieldLink RX5 18 RX5 "state" "[I") (by decide +kernel)) (fun _ h9 => h9) rfl hin rfl (by decide +kernel) rfl rfl (Nat.le_of_ble_eq_true rfl) dX5_init_25 (fun H locs hP hD hS => ?_)
  have hP : va_P G vwCl [(h0, .inr (5, [.ref q1, .ref q2, .ref q3, .null, .null, .null, .int 0])), (q1, .inl (cy, 100, .inl (fun _ => 0))), (q2, .inl (cy, 100, .inl (fun _ => 0))), (q3, .inl (cy, 100, .inl (fun _ => 0)))] H := hP
  have hD : va_D A [(h0, .inr (5, [.ref q1, .ref q2, .ref q3, .null, .null, .null, .int 0])), (q1, .inl (cy, 100, .inl (fun _ => 0))), (q2, .inl (cy, 100, .inl (fun _ => 0))), (q3, .inl (cy, 100, .inl (fun _ => 0)))] := hD
  refine lv_aload_n hx hb dX5_init_28 rfl (lv_at hl 0 rfl) ?_
  refine lv_bipush (v := 100) hx hb dX5_init_29 (by decide) ?_
  refine va_newa (ty := .int) (a0 := (100, .inl (fun _ => 0))) (N' := 100) hx hb (hts (.arrayClass .int) (by decide +kernel)) rfl hK hP hD hS hA (fun _ => rfl) (by decide) (by decide) (by decide) (Nat.le_of_ble_eq_true rfl) (Nat.le_of_ble_eq_true rfl) dX5_init_31 (fun q4 cA4 H hK hP hD hS => ?_)
  obtain rfl : cA4 = cy := w_cA hK
  have hK := hK.sub (tys' := [(cy, .int)]) [0] rfl
  have hP : va_P G vwCl [(h0, .inr (5, [.ref q1, .ref q2, .ref q3, .null, .null, .null, .int 0])), (q1, .inl (cy, 100, .inl (fun _ => 0))), (q2, .inl (cy, 100, .inl (fun _ => 0))), (q3, .inl (cy, 100, .inl (fun _ => 0))), (q4, .inl (cy, 100, .inl (fun _ => 0)))] H := hP
  have hD : va_D A [(h0, .inr (5, [.ref q1, .ref q2, .ref q3, .null, .null, .null, .int 0])), (q1, .inl (cy, 100, .inl (fun _ => 0))), (q2, .inl (cy, 100, .inl (fun _ => 0))), (q3, .inl (cy, 100, .inl (fun _ => 0))), (q4, .inl (cy, 100, .inl (fun _ => 0)))] := hD
  refine W.widen (k := 4) (n := 400) (Nat.le_of_ble_eq_true rfl) (Nat.le_of_ble_eq_true rfl) ?_
  refine va_putF (D := G) (ci := 5) (v := .ref q4) (ty := .array .int) (C := RX5) (T := TX5) (N := 7) hx hb hts hi tyX5 tyX5_ok nmX5 hown hK hP hD hS 0 rfl rfl 3 (by decide) (hts (.fieldLink RX5 21 RX5 "had" "[I") (by decide +kernel)) (fun _ h9 => h9) rfl hin rfl (by decide +kernel) rfl rfl (Nat.le_of_ble_eq_true rfl) dX5_init_33 (fun H locs hP hD hS => ?_)
  have hP : va_P G vwCl [(h0, .inr (5, [.ref q1, .ref q2, .ref q3, .ref q4, .null, .null, .int 0])), (q1, .inl (cy, 100, .inl (fun _ => 0))), (q2, .inl (cy, 100, .inl (fun _ => 0))), (q3, .inl (cy, 100, .inl (fun _ => 0))), (q4, .inl (cy, 100, .inl (fun _ => 0)))] H := hP
  have hD : va_D A [(h0, .inr (5, [.ref q1, .ref q2, .ref q3, .ref q4, .null, .null, .int 0])), (q1, .inl (cy, 100, .inl (fun _ => 0))), (q2, .inl (cy, 100, .inl (fun _ => 0))), (q3, .inl (cy, 100, .inl (fun _ => 0))), (q4, .inl (cy, 100, .inl (fun _ => 0)))] := hD
  refine lv_aload_n hx hb dX5_init_36 rfl (lv_at hl 0 rfl) ?_
  refine lv_bipush (v := 100) hx hb dX5_init_37 (by decide) ?_
  refine va_newa (ty := .int) (a0 := (100, .inl (fun _ => 0))) (N' := 100) hx hb (hts (.arrayClass .int) (by decide +kernel)) rfl hK hP hD hS hA (fun _ => rfl) (by decide) (by decide) (by decide) (Nat.le_of_ble_eq_true rfl) (Nat.le_of_ble_eq_true rfl) dX5_init_39 (fun q5 cA5 H hK hP hD hS => ?_)
  obtain rfl : cA5 = cy := w_cA hK
  have hK := hK.sub (tys' := [(cy, .int)]) [0] rfl
  have hP : va_P G vwCl [(h0, .inr (5, [.ref q1, .ref q2, .ref q3, .ref q4, .null, .null, .int 0])), (q1, .inl (cy, 100, .inl (fun _ => 0))), (q2, .inl (cy, 100, .inl (fun _ => 0))), (q3, .inl (cy, 100, .inl (fun _ => 0))), (q4, .inl (cy, 100, .inl (fun _ => 0))), (q5, .inl (cy, 100, .inl (fun _ => 0)))] H := hP
  have hD : va_D A [(h0, .inr (5, [.ref q1, .ref q2, .ref q3, .ref q4, .null, .null, .int 0])), (q1, .inl (cy, 100, .inl (fun _ => 0))), (q2, .inl (cy, 100, .inl (fun _ => 0))), (q3, .inl (cy, 100, .inl (fun _ => 0))), (q4, .inl (cy, 100, .inl (fun _ => 0))), (q5, .inl (cy, 100, .inl (fun _ => 0)))] := hD
  refine W.widen (k := 5) (n := 500) (Nat.le_of_ble_eq_true rfl) (Nat.le_of_ble_eq_true rfl) ?_
  refine va_putF (D := G) (ci := 5) (v := .ref q5) (ty := .array .int) (C := RX5) (T := TX5) (N := 7) hx hb hts hi tyX5 tyX5_ok nmX5 hown hK hP hD hS 0 rfl rfl 4 (by decide) (hts (.fieldLink RX5 24 RX5 "held" "[I") (by decide +kernel)) (fun _ h9 => h9) rfl hin rfl (by decide +kernel) rfl rfl (Nat.le_of_ble_eq_true rfl) dX5_init_41 (fun H locs hP hD hS => ?_)
  have hP : va_P G vwCl [(h0, .inr (5, [.ref q1, .ref q2, .ref q3, .ref q4, .ref q5, .null, .int 0])), (q1, .inl (cy, 100, .inl (fun _ => 0))), (q2, .inl (cy, 100, .inl (fun _ => 0))), (q3, .inl (cy, 100, .inl (fun _ => 0))), (q4, .inl (cy, 100, .inl (fun _ => 0))), (q5, .inl (cy, 100, .inl (fun _ => 0)))] H := hP
  have hD : va_D A [(h0, .inr (5, [.ref q1, .ref q2, .ref q3, .ref q4, .ref q5, .null, .int 0])), (q1, .inl (cy, 100, .inl (fun _ => 0))), (q2, .inl (cy, 100, .inl (fun _ => 0))), (q3, .inl (cy, 100, .inl (fun _ => 0))), (q4, .inl (cy, 100, .inl (fun _ => 0))), (q5, .inl (cy, 100, .inl (fun _ => 0)))] := hD
  refine lv_aload_n hx hb dX5_init_44 rfl (lv_at hl 0 rfl) ?_
  refine lv_bipush (v := 100) hx hb dX5_init_45 (by decide) ?_
  refine va_newa (ty := .int) (a0 := (100, .inl (fun _ => 0))) (N' := 100) hx hb (hts (.arrayClass .int) (by decide +kernel)) rfl hK hP hD hS hA (fun _ => rfl) (by decide) (by decide) (by decide) (Nat.le_of_ble_eq_true rfl) (Nat.le_of_ble_eq_true rfl) dX5_init_47 (fun q6 cA6 H hK hP hD hS => ?_)
  obtain rfl : cA6 = cy := w_cA hK
  have hK := hK.sub (tys' := [(cy, .int)]) [0] rfl
  have hP : va_P G vwCl [(h0, .inr (5, [.ref q1, .ref q2, .ref q3, .ref q4, .ref q5, .null, .int 0])), (q1, .inl (cy, 100, .inl (fun _ => 0))), (q2, .inl (cy, 100, .inl (fun _ => 0))), (q3, .inl (cy, 100, .inl (fun _ => 0))), (q4, .inl (cy, 100, .inl (fun _ => 0))), (q5, .inl (cy, 100, .inl (fun _ => 0))), (q6, .inl (cy, 100, .inl (fun _ => 0)))] H := hP
  have hD : va_D A [(h0, .inr (5, [.ref q1, .ref q2, .ref q3, .ref q4, .ref q5, .null, .int 0])), (q1, .inl (cy, 100, .inl (fun _ => 0))), (q2, .inl (cy, 100, .inl (fun _ => 0))), (q3, .inl (cy, 100, .inl (fun _ => 0))), (q4, .inl (cy, 100, .inl (fun _ => 0))), (q5, .inl (cy, 100, .inl (fun _ => 0))), (q6, .inl (cy, 100, .inl (fun _ => 0)))] := hD
  refine W.widen (k := 6) (n := 600) (Nat.le_of_ble_eq_true rfl) (Nat.le_of_ble_eq_true rfl) ?_
  refine va_putF (D := G) (ci := 5) (v := .ref q6) (ty := .array .int) (C := RX5) (T := TX5) (N := 7) hx hb hts hi tyX5 tyX5_ok nmX5 hown hK hP hD hS 0 rfl rfl 5 (by decide) (hts (.fieldLink RX5 27 RX5 "since" "[I") (by decide +kernel)) (fun _ h9 => h9) rfl hin rfl (by decide +kernel) rfl rfl (Nat.le_of_ble_eq_true rfl) dX5_init_49 (fun H locs hP hD hS => ?_)
  have hP : va_P G vwCl [(h0, .inr (5, [.ref q1, .ref q2, .ref q3, .ref q4, .ref q5, .ref q6, .int 0])), (q1, .inl (cy, 100, .inl (fun _ => 0))), (q2, .inl (cy, 100, .inl (fun _ => 0))), (q3, .inl (cy, 100, .inl (fun _ => 0))), (q4, .inl (cy, 100, .inl (fun _ => 0))), (q5, .inl (cy, 100, .inl (fun _ => 0))), (q6, .inl (cy, 100, .inl (fun _ => 0)))] H := hP
  have hD : va_D A [(h0, .inr (5, [.ref q1, .ref q2, .ref q3, .ref q4, .ref q5, .ref q6, .int 0])), (q1, .inl (cy, 100, .inl (fun _ => 0))), (q2, .inl (cy, 100, .inl (fun _ => 0))), (q3, .inl (cy, 100, .inl (fun _ => 0))), (q4, .inl (cy, 100, .inl (fun _ => 0))), (q5, .inl (cy, 100, .inl (fun _ => 0))), (q6, .inl (cy, 100, .inl (fun _ => 0)))] := hD
  refine lv_aload_n hx hb dX5_init_52 rfl (lv_at hl 0 rfl) ?_
  refine lv_iconst (v := 0) hx hb dX5_init_53 (by decide) ?_
  refine va_put (D := G) (ci := 5) (v := .int 0) (ty := .int) (C := RX5) (T := TX5) (N := 7) hx hb hts hi tyX5 tyX5_ok nmX5 hown hK hP hD hS 0 rfl rfl 6 (by decide) (hts (.fieldLink RX5 30 RX5 "came" "I") (by decide +kernel)) (fun _ h9 => h9) rfl (by decide +kernel) rfl rfl (Nat.le_of_ble_eq_true rfl) dX5_init_54 (fun H locs hP hD hS => ?_)
  have hP : va_P G vwCl [(h0, .inr (5, [.ref q1, .ref q2, .ref q3, .ref q4, .ref q5, .ref q6, .int 0])), (q1, .inl (cy, 100, .inl (fun _ => 0))), (q2, .inl (cy, 100, .inl (fun _ => 0))), (q3, .inl (cy, 100, .inl (fun _ => 0))), (q4, .inl (cy, 100, .inl (fun _ => 0))), (q5, .inl (cy, 100, .inl (fun _ => 0))), (q6, .inl (cy, 100, .inl (fun _ => 0)))] H := hP
  have hD : va_D A [(h0, .inr (5, [.ref q1, .ref q2, .ref q3, .ref q4, .ref q5, .ref q6, .int 0])), (q1, .inl (cy, 100, .inl (fun _ => 0))), (q2, .inl (cy, 100, .inl (fun _ => 0))), (q3, .inl (cy, 100, .inl (fun _ => 0))), (q4, .inl (cy, 100, .inl (fun _ => 0))), (q5, .inl (cy, 100, .inl (fun _ => 0))), (q6, .inl (cy, 100, .inl (fun _ => 0)))] := hD
  exact W.vret hx hb hr (fun t ht hW => ⟨⟨(fun k => [q1, q2, q3, q4, q5, q6].getD k 0), rfl, trivial, (show va_P G vwCl [(h0, .inr (5, [.ref q1, .ref q2, .ref q3, .ref q4, .ref q5, .ref q6, .int 0])), (q1, .inl (cy, 100, .inl (fun _ => 0))), (q2, .inl (cy, 100, .inl (fun _ => 0))), (q3, .inl (cy, 100, .inl (fun _ => 0))), (q4, .inl (cy, 100, .inl (fun _ => 0))), (q5, .inl (cy, 100, .inl (fun _ => 0))), (q6, .inl (cy, 100, .inl (fun _ => 0)))] t.heap by rw [ht]; exact hP), hD⟩, hS.F ht⟩) hS.2.2 dX5_init_57
def iX2 (cy : ClassId) (h0 : Nat) (b : Nat → Nat) : va_W := [(h0, .inr (2, [.ref (b 0), .ref (b 1)])), (b 0, .inl (cy, 21, .inl (fun _ => 0))), (b 1, .inl (cy, 21, .inl (fun _ => 0)))]
set_option maxHeartbeats 4000000 in
set_option maxRecDepth 100000 in
theorem mX2_init (l : Launch) (G : va_G) (cy : ClassId) (h0 sz : Nat) : Met l yX2_init wsX2_init ({ frames := 1, cells := 2, slots := 42, locals := 20 }) (va_Pc [.ref h0] (fun U => U.heap.size = sz ∧ va_P G vwCl [(h0, .inr (2, [.null, .null]))] U.heap ∧ va_K G vwCl [(cy, .int)] U ∧ va_D (fun _ => True) [(h0, .inr (2, [.null, .null]))])) (va_Qv (fun (_ : Nat → Nat) => True) (fun b t => va_P G vwCl (iX2 cy h0 b) t.heap ∧ va_D (va_A [(h0, .inr (2, [.null, .null]))] sz) (iX2 cy h0 b)) (va_A [(h0, .inr (2, [.null, .null]))] sz)) 2 42 (va_A [(h0, .inr (2, [.null, .null]))] sz) := by
  refine Met.ofW (cc := cX2_init) (maxL := 1) (ret := none) (by decide) rfl ?_
  intro p e s m args below meth c s₁ B hml hv
  obtain ⟨rfl, hsz, hP, hK, hD0⟩ := hv
  have hx := B.exec
  have hb := B.bytes
  have hr := B.returns
  have hts := atoms_spec (ws := wsX2_init) B.pre
  have hown : s.vm.findClass RX2 = some m.cls := findClass_of_methodNamed B.named
  have hlocks := B.notSynchronized
  have hin : meth.name = "<init>" := (name_of_methodNamed B.named B.method).1
  subst hsz
  have hD := hD0.self (sz := s.heap.size)
  generalize hAe : va_A [(h0, .inr (2, [.null, .null]))] s.heap.size = A at hD ⊢
  have hA : ∀ q : Nat, s.heap.size ≤ q → A q := fun q h => by rw [← hAe]; exact Or.inr h
  have hS : va_S A s.heap s.heap [] := va_S.rf
  have hl := lv_entry ([.ref h0]) (n := 1) (Nat.le_of_ble_eq_true rfl)
  rw [lg_entry_eq]
  generalize (lg_sl ([.ref h0]) ++ List.replicate (1 - (lg_sl ([.ref h0])).length) Slot.unset).toArray = ls at hl ⊢
  have hl : lv_has ls 1 [(0, .ref h0)] := hl
  have hi : ∀ w ∈ u_ws RX2 TX2 2, w ∈ wsX2_init := by decide +kernel
  refine lv_aload_n hx hb dX2_init_0 rfl (lv_at hl 0 rfl) ?_
  refine W.objInit hx hb hown (hts (.methodLink RX2 3 objectInit) (by decide +kernel)) (hts (.instanceMethod objectInit) (by decide +kernel)) (hts (.code objectInit ⟨#[0xb1]⟩ 1 none) (by decide +kernel)) rfl (by rw [hml]; exact hl.1) rfl dX2_init_1 (Nat.le_of_ble_eq_true rfl) (Nat.le_of_ble_eq_true rfl) ?_
  refine W.eq (g2 := F0 m 4 ls []) rfl ?_
  refine lv_aload_n hx hb dX2_init_4 rfl (lv_at hl 0 rfl) ?_
  refine lv_bipush (v := 21) hx hb dX2_init_5 (by decide) ?_
  refine va_newa (ty := .int) (a0 := (21, .inl (fun _ => 0))) (N' := 21) hx hb (hts (.arrayClass .int) (by decide +kernel)) rfl hK hP hD hS hA (fun _ => rfl) (by decide) (by decide) (by decide) (Nat.le_of_ble_eq_true rfl) (Nat.le_of_ble_eq_true rfl) dX2_init_7 (fun q1 cA1 H hK hP hD hS => ?_)
  obtain rfl : cA1 = cy := w_cA hK
  have hK := hK.sub (tys' := [(cy, .int)]) [0] rfl
  have hP : va_P G vwCl [(h0, .inr (2, [.null, .null])), (q1, .inl (cy, 21, .inl (fun _ => 0)))] H := hP
  have hD : va_D A [(h0, .inr (2, [.null, .null])), (q1, .inl (cy, 21, .inl (fun _ => 0)))] := hD
  refine W.widen (k := 1) (n := 21) (Nat.le_of_ble_eq_true rfl) (Nat.le_of_ble_eq_true rfl) ?_
  refine va_putF (D := G) (ci := 2) (v := .ref q1) (ty := .array .int) (C := RX2) (T := TX2) (N := 2) hx hb hts hi tyX2 tyX2_ok nmX2 hown hK hP hD hS 0 rfl rfl 0 (by decide) (hts (.fieldLink RX2 9 RX2 "wanted" "[I") (by decide +kernel)) (fun _ h9 => h9) rfl hin rfl (by decide +kernel) rfl rfl (Nat.le_of_ble_eq_true rfl) dX2_init_9 (fun H locs hP hD hS => ?_)
  have hP : va_P G vwCl [(h0, .inr (2, [.ref q1, .null])), (q1, .inl (cy, 21, .inl (fun _ => 0)))] H := hP
  have hD : va_D A [(h0, .inr (2, [.ref q1, .null])), (q1, .inl (cy, 21, .inl (fun _ => 0)))] := hD
  refine lv_aload_n hx hb dX2_init_12 rfl (lv_at hl 0 rfl) ?_
  refine lv_bipush (v := 21) hx hb dX2_init_13 (by decide) ?_
  refine va_newa (ty := .int) (a0 := (21, .inl (fun _ => 0))) (N' := 21) hx hb (hts (.arrayClass .int) (by decide +kernel)) rfl hK hP hD hS hA (fun _ => rfl) (by decide) (by decide) (by decide) (Nat.le_of_ble_eq_true rfl) (Nat.le_of_ble_eq_true rfl) dX2_init_15 (fun q2 cA2 H hK hP hD hS => ?_)
  obtain rfl : cA2 = cy := w_cA hK
  have hK := hK.sub (tys' := [(cy, .int)]) [0] rfl
  have hP : va_P G vwCl [(h0, .inr (2, [.ref q1, .null])), (q1, .inl (cy, 21, .inl (fun _ => 0))), (q2, .inl (cy, 21, .inl (fun _ => 0)))] H := hP
  have hD : va_D A [(h0, .inr (2, [.ref q1, .null])), (q1, .inl (cy, 21, .inl (fun _ => 0))), (q2, .inl (cy, 21, .inl (fun _ => 0)))] := hD
  refine W.widen (k := 2) (n := 42) (Nat.le_of_ble_eq_true rfl) (Nat.le_of_ble_eq_true rfl) ?_
  refine va_putF (D := G) (ci := 2) (v := .ref q2) (ty := .array .int) (C := RX2) (T := TX2) (N := 2) hx hb hts hi tyX2 tyX2_ok nmX2 hown hK hP hD hS 0 rfl rfl 1 (by decide) (hts (.fieldLink RX2 15 RX2 "sale" "[I") (by decide +kernel)) (fun _ h9 => h9) rfl hin rfl (by decide +kernel) rfl rfl (Nat.le_of_ble_eq_true rfl) dX2_init_17 (fun H locs hP hD hS => ?_)
  have hP : va_P G vwCl [(h0, .inr (2, [.ref q1, .ref q2])), (q1, .inl (cy, 21, .inl (fun _ => 0))), (q2, .inl (cy, 21, .inl (fun _ => 0)))] H := hP
  have hD : va_D A [(h0, .inr (2, [.ref q1, .ref q2])), (q1, .inl (cy, 21, .inl (fun _ => 0))), (q2, .inl (cy, 21, .inl (fun _ => 0)))] := hD
  exact W.vret hx hb hr (fun t ht hW => ⟨⟨(fun k => [q1, q2].getD k 0), rfl, trivial, (show va_P G vwCl [(h0, .inr (2, [.ref q1, .ref q2])), (q1, .inl (cy, 21, .inl (fun _ => 0))), (q2, .inl (cy, 21, .inl (fun _ => 0)))] t.heap by rw [ht]; exact hP), hD⟩, hS.F ht⟩) hS.2.2 dX2_init_20
