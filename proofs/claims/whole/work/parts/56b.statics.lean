set_option maxRecDepth 20000 in
theorem lZ_MOST_HELD {s : State} {b : Nat} (hts : ∀ w ∈ lw_tbl, w.before #[Value.ref b] s = true) (hgv : (Jvm.Cond.and given_1 narrow_1).before #[Value.ref b] s = true) : ∃ t, xZ1 "MOST_HELD" tMost t (lA s) s := by
  have hs := flat_of_before _ hgv
  have hA : ∀ a : Nat, a < s.heap.size → ¬ lA s a := fun a h => Nat.not_le.mpr h
  have h1 : (Cond.arrayOf (.static "VolumeHouse" "MOST_HELD" "[I") .int).before #[Value.ref b] s = true := hs _ (by decide +kernel)
  have h2 : (Cond.eq (.length (.static "VolumeHouse" "MOST_HELD" "[I")) (.int 3)).before #[Value.ref b] s = true := hs _ (by decide +kernel)
  have h3 : (Cond.eq (.elem (.static "VolumeHouse" "MOST_HELD" "[I") (.int 0)) (.int 1)).before #[Value.ref b] s = true := hs _ (by decide +kernel)
  have h4 : (Cond.eq (.elem (.static "VolumeHouse" "MOST_HELD" "[I") (.int 1)) (.int 3)).before #[Value.ref b] s = true := hs _ (by decide +kernel)
  have h5 : (Cond.eq (.elem (.static "VolumeHouse" "MOST_HELD" "[I") (.int 2)) (.int 6)).before #[Value.ref b] s = true := hs _ (by decide +kernel)
  obtain ⟨t, ht, hT⟩ := va_Tof (tm := .static "VolumeHouse" "MOST_HELD" "[I") (ty := .int) (N := 3) (f := fun j => .int (tMost j)) (A := lA s) (by decide) h1 (va_eqt h2) (fun j hj => by
    rcases (show j = 0 ∨ j = 1 ∨ j = 2 by omega) with rfl | rfl | rfl
    · exact va_eqt h3
    · exact va_eqt h4
    · exact va_eqt h5) hA
  exact ⟨t, va_Zref (hts (.laysStatic "VolumeHouse" "MOST_HELD" "[I") (by decide +kernel)) (hts (.initialized "VolumeHouse") (by decide +kernel)) ht hA, hT⟩
set_option maxRecDepth 20000 in
theorem lZ_TERM {s : State} {b : Nat} (hts : ∀ w ∈ lw_tbl, w.before #[Value.ref b] s = true) (hgv : (Jvm.Cond.and given_1 narrow_1).before #[Value.ref b] s = true) : ∃ t, xZ1 "TERM" tTerm t (lA s) s := by
  have hs := flat_of_before _ hgv
  have hA : ∀ a : Nat, a < s.heap.size → ¬ lA s a := fun a h => Nat.not_le.mpr h
  have h1 : (Cond.arrayOf (.static "VolumeHouse" "TERM" "[I") .int).before #[Value.ref b] s = true := hs _ (by decide +kernel)
  have h2 : (Cond.eq (.length (.static "VolumeHouse" "TERM" "[I")) (.int 3)).before #[Value.ref b] s = true := hs _ (by decide +kernel)
  have h3 : (Cond.eq (.elem (.static "VolumeHouse" "TERM" "[I") (.int 0)) (.int 7)).before #[Value.ref b] s = true := hs _ (by decide +kernel)
  have h4 : (Cond.eq (.elem (.static "VolumeHouse" "TERM" "[I") (.int 1)) (.int 14)).before #[Value.ref b] s = true := hs _ (by decide +kernel)
  have h5 : (Cond.eq (.elem (.static "VolumeHouse" "TERM" "[I") (.int 2)) (.int 28)).before #[Value.ref b] s = true := hs _ (by decide +kernel)
  obtain ⟨t, ht, hT⟩ := va_Tof (tm := .static "VolumeHouse" "TERM" "[I") (ty := .int) (N := 3) (f := fun j => .int (tTerm j)) (A := lA s) (by decide) h1 (va_eqt h2) (fun j hj => by
    rcases (show j = 0 ∨ j = 1 ∨ j = 2 by omega) with rfl | rfl | rfl
    · exact va_eqt h3
    · exact va_eqt h4
    · exact va_eqt h5) hA
  exact ⟨t, va_Zref (hts (.laysStatic "VolumeHouse" "TERM" "[I") (by decide +kernel)) (hts (.initialized "VolumeHouse") (by decide +kernel)) ht hA, hT⟩
set_option maxRecDepth 20000 in
theorem lZ_LATE_COINS {s : State} {b : Nat} (hts : ∀ w ∈ lw_tbl, w.before #[Value.ref b] s = true) (hgv : (Jvm.Cond.and given_1 narrow_1).before #[Value.ref b] s = true) : ∃ t, xZ1 "LATE_COINS" tLate t (lA s) s := by
  have hs := flat_of_before _ hgv
  have hA : ∀ a : Nat, a < s.heap.size → ¬ lA s a := fun a h => Nat.not_le.mpr h
  have h1 : (Cond.arrayOf (.static "VolumeHouse" "LATE_COINS" "[I") .int).before #[Value.ref b] s = true := hs _ (by decide +kernel)
  have h2 : (Cond.eq (.length (.static "VolumeHouse" "LATE_COINS" "[I")) (.int 3)).before #[Value.ref b] s = true := hs _ (by decide +kernel)
  have h3 : (Cond.eq (.elem (.static "VolumeHouse" "LATE_COINS" "[I") (.int 0)) (.int 3)).before #[Value.ref b] s = true := hs _ (by decide +kernel)
  have h4 : (Cond.eq (.elem (.static "VolumeHouse" "LATE_COINS" "[I") (.int 1)) (.int 2)).before #[Value.ref b] s = true := hs _ (by decide +kernel)
  have h5 : (Cond.eq (.elem (.static "VolumeHouse" "LATE_COINS" "[I") (.int 2)) (.int 1)).before #[Value.ref b] s = true := hs _ (by decide +kernel)
  obtain ⟨t, ht, hT⟩ := va_Tof (tm := .static "VolumeHouse" "LATE_COINS" "[I") (ty := .int) (N := 3) (f := fun j => .int (tLate j)) (A := lA s) (by decide) h1 (va_eqt h2) (fun j hj => by
    rcases (show j = 0 ∨ j = 1 ∨ j = 2 by omega) with rfl | rfl | rfl
    · exact va_eqt h3
    · exact va_eqt h4
    · exact va_eqt h5) hA
  exact ⟨t, va_Zref (hts (.laysStatic "VolumeHouse" "LATE_COINS" "[I") (by decide +kernel)) (hts (.initialized "VolumeHouse") (by decide +kernel)) ht hA, hT⟩
