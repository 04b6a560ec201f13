set_option maxHeartbeats 4000000 in
set_option maxRecDepth 100000 in
theorem mX2_setsToBuy (l : Launch) (G : va_G) (cy : ClassId) (a : Nat → Nat) (sz : Nat) (q : wSt) (x1 : Int32) (x2 : Int32) : CtI l yX2_setsToBuy wsX2_setsToBuy ({ frames := 2, cells := 0, slots := 0, locals := 48 }) G cy (cX cy a) xN sz q [.ref (a 6), .int x1, .int x2] (fX2_setsToBuy q x1 x2) q := by
  refine Met.ofW (cc := cX2_setsToBuy) (maxL := 4) (ret := (some .int)) (by decide) rfl ?_
  intro p e s m args below meth c s₁ B hml hv
  obtain ⟨rfl, hsz, hP, hK, hD0, hN⟩ := hv
  have hx := B.exec
  have hb := B.bytes
  have hr := B.returns
  have hts := atoms_spec (ws := wsX2_setsToBuy) B.pre
  have hown : s.vm.findClass RX2 = some m.cls := findClass_of_methodNamed B.named
  have hlocks := B.notSynchronized
  subst hsz
  have hD : ∀ z : wSt, va_D (wA (cX cy a) s.heap.size) ((cX cy a) z) := fun z => w_self (xOk cy a).1 hD0 z
  have hA : ∀ z : Nat, s.heap.size ≤ z → wA (cX cy a) s.heap.size z := fun _ h => Or.inr h
  have hS : va_S (wA (cX cy a) s.heap.size) s.heap s.heap [] := va_S.rf
  have hl := lv_entry ([.ref (a 6), .int x1, .int x2]) (n := 4) (Nat.le_of_ble_eq_true rfl)
  rw [lg_entry_eq]
  generalize (lg_sl ([.ref (a 6), .int x1, .int x2]) ++ List.replicate (4 - (lg_sl ([.ref (a 6), .int x1, .int x2])).length) Slot.unset).toArray = ls at hl ⊢
  have hl : lv_has ls 4 [(0, .ref (a 6)), (1, .int x1), (2, .int x2)] := hl
  have t_0 : (0 : Int32).toInt = 0 := rfl
  have t_1 : (1 : Int32).toInt = 1 := rfl
  have t_50 : (50 : Int32).toInt = 50 := rfl
  refine lv_iconst (v := 0) hx hb dX2_setsToBuy_0 (by decide) ?_
  refine lv_istore_n (lv' := [(3, .int 0), (0, .ref (a 6)), (1, .int x1), (2, .int x2)]) hx hb dX2_setsToBuy_1 rfl hl (by decide) rfl (fun ls hl => ?_)
  have K_1 : ∀ (v1 : Int32) (H : Heap) (ls : Array Slot) (locs : List Loc), (lX2_setsToBuy_1 q x1 x2 (((50 : Int32).toInt - (0 : Int32).toInt).toNat + 1) 0) = v1 → (0 ≤ (v1).toInt) → va_P G vwCl ((cX cy a) q) H → va_S (wA (cX cy a) s.heap.size) s.heap H locs → lv_has ls 4 [(3, .int v1)] → W p l e ({ frames := 2, cells := 0, slots := 0, locals := 48 }) s m [.ref (a 6), .int x1, .int x2].toArray below meth c H locs 0 0 (MQ below (wQi G (cX cy a) s.heap.size (fX2_setsToBuy q x1 x2) q) [.ref (a 6), .int x1, .int x2].toArray s 0 0 (wA (cX cy a) s.heap.size)) (F0 m 24 ls []) := by
    intro v1 H ls locs hv i0_1_x hP hS hl
    subst hv
    refine lv_iload_n hx hb dX2_setsToBuy_24 rfl (lv_at hl 0 rfl) ?_
    exact W.iret (v := (lX2_setsToBuy_1 q x1 x2 (((50 : Int32).toInt - (0 : Int32).toInt).toNat + 1) 0)) hx hb hr (fun t ht hW => ⟨⟨(lX2_setsToBuy_1 q x1 x2 (((50 : Int32).toInt - (0 : Int32).toInt).toNat + 1) 0), q, rfl, ⟨(show (fX2_setsToBuy q x1 x2) = (lX2_setsToBuy_1 q x1 x2 (((50 : Int32).toInt - (0 : Int32).toInt).toNat + 1) 0) by (rw [fX2_setsToBuy]); try rfl).symm, rfl⟩, w_ht ht hP⟩, hS.F ht⟩) hS.2.2 dX2_setsToBuy_25
  have L_1 : ∀ (n : Nat) (y3_1 : Int32) (H : Heap) (ls : Array Slot) (locs : List Loc), ((50 : Int32).toInt - (y3_1).toInt).toNat < n → (0 ≤ (y3_1).toInt) → lX2_setsToBuy_1 q x1 x2 n y3_1 = (lX2_setsToBuy_1 q x1 x2 (((50 : Int32).toInt - (0 : Int32).toInt).toNat + 1) 0) → va_P G vwCl ((cX cy a) q) H → va_S (wA (cX cy a) s.heap.size) s.heap H locs → lv_has ls 4 [(0, .ref (a 6)), (1, .int x1), (2, .int x2), (3, .int y3_1)] → W p l e ({ frames := 2, cells := 0, slots := 0, locals := 48 }) s m [.ref (a 6), .int x1, .int x2].toArray below meth c H locs 0 0 (MQ below (wQi G (cX cy a) s.heap.size (fX2_setsToBuy q x1 x2) q) [.ref (a 6), .int x1, .int x2].toArray s 0 0 (wA (cX cy a) s.heap.size)) (F0 m 2 ls []) := by
    intro n
    induction n with
    | zero => intro y3_1 H ls locs hm; exact absurd hm (Nat.not_lt_zero _)
    | succ n ih =>
      intro y3_1 H ls locs hm_1 i0_1 he_1 hP hS hl
      refine lv_iload_n hx hb dX2_setsToBuy_2 rfl (lv_at hl 3 rfl) ?_
      refine lv_bipush (v := 50) hx hb dX2_setsToBuy_3 (by decide) ?_
      refine lv_icmp_ge (tgt := 24) hx hb dX2_setsToBuy_5 (by decide) (fun c_1 => ?_) (fun c_1 => ?_)
      · have e_2 := i_le c_1
        exact K_1 y3_1 _ _ _ (Eq.trans (Eq.symm he_1) (by (rw [lX2_setsToBuy_1_s, if_pos c_1]); try rfl)) (by first | omega | assumption) hP hS (lv_sub hl [3] rfl)
      · have e_2 := i_nle c_1
        refine lv_aload_n hx hb dX2_setsToBuy_8 rfl (lv_at hl 0 rfl) ?_
        refine lv_iload_n hx hb dX2_setsToBuy_9 rfl (lv_at hl 1 rfl) ?_
        refine lv_iload_n hx hb dX2_setsToBuy_10 rfl (lv_at hl 3 rfl) ?_
        refine w_goI (va_runV (As := [.int x1, .int y3_1]) (rest := []) ⟨hx, hb, hml, hown, hts⟩ (mX2_mostOf l G cy a _ q x1 y3_1) (cwV 2 hts gX2_setsToBuy_X2_mostOf rfl rfl rfl (by decide +kernel) ⟨Nat.le_of_ble_eq_true rfl, Nat.le_of_ble_eq_true rfl⟩) (w_pre (xOk cy a) (va_recv hK hP (ci := 2) (q0 := 6) rfl rfl) hK hP hD hS hA hN) rfl rfl hl.1 rfl (lv_room (Nat.le_of_ble_eq_true rfl)) dX2_setsToBuy_11 ⟨Nat.le_of_ble_eq_true rfl, Nat.le_of_ble_eq_true rfl⟩) hD hS hA (fun H locs hP hS => ?_)
        refine lv_iload_n hx hb dX2_setsToBuy_14 rfl (lv_at hl 2 rfl) ?_
        refine lv_icmp_le (tgt := 24) hx hb dX2_setsToBuy_15 (by decide) (fun c_3 => ?_) (fun c_3 => ?_)
        · have e_4 := i_le c_3
          exact K_1 y3_1 _ _ _ (Eq.trans (Eq.symm he_1) (by (rw [lX2_setsToBuy_1_s, if_neg c_1, if_pos c_3]); try rfl)) (by first | omega | assumption) hP hS (lv_sub hl [3] rfl)
        · have e_4 := i_nle c_3
          refine lv_iinc (v := (y3_1 + 1)) (lv' := [(3, .int (y3_1 + 1)), (0, .ref (a 6)), (1, .int x1), (2, .int x2)]) hx hb dX2_setsToBuy_18 hl (k := 3) rfl rfl (by decide) rfl (fun ls hl => ?_)
          have e_5 : (y3_1 + 1).toInt = (y3_1).toInt + 1 := i_inc (by have := i_rng y3_1; have := i_rng (50 : Int32); omega)
          refine lv_goto (tgt := 2) hx hb dX2_setsToBuy_21 (by decide) ?_
          exact ih (y3_1 + 1) _ _ _ (by omega) (by first | omega | assumption) (Eq.trans (Eq.symm (by (rw [lX2_setsToBuy_1_s, if_neg c_1, if_neg c_3]); try rfl)) he_1) hP hS (lv_sub hl [1, 2, 3, 0] rfl)
  exact L_1 (((50 : Int32).toInt - (0 : Int32).toInt).toNat + 1) 0 _ _ _ (by omega) (by omega) rfl hP hS (lv_sub hl [1, 2, 3, 0] rfl)
