/-! Part 02: the words for a state. A picture is a family of rows of ints: 'p k i' is place i of row k; rows 30 .. 40 are single numbers (place 0). The same numbers of rows for the class and for the reference. -/
abbrev wSt : Type := Nat → Nat → Int32
def rset (p : wSt) (k : Nat) (f : Nat → Int32) : wSt := fun j => if j = k then f else p j
theorem rset_eq {p : wSt} {k : Nat} {f : Nat → Int32} : rset p k f k = f := if_pos rfl
theorem rset_ne {p : wSt} {k j : Nat} {f : Nat → Int32} (h : j ≠ k) : rset p k f j = p j := if_neg h
theorem i_lt {x y : Int32} (h : x < y) : x.toInt < y.toInt := Int32.lt_iff_toInt_lt.mp h
theorem i_le {x y : Int32} (h : x ≤ y) : x.toInt ≤ y.toInt := Int32.le_iff_toInt_le.mp h
theorem i_nlt {x y : Int32} (h : ¬ x < y) : y.toInt ≤ x.toInt := Int.not_lt.mp (fun q => h (Int32.lt_iff_toInt_lt.mpr q))
theorem i_nle {x y : Int32} (h : ¬ x ≤ y) : y.toInt < x.toInt := Int.not_le.mp (fun q => h (Int32.le_iff_toInt_le.mpr q))
theorem i_eq {x y : Int32} (h : x = y) : x.toInt = y.toInt := by rw [h]
theorem i_ne {x y : Int32} (h : ¬ x = y) : ¬ x.toInt = y.toInt := fun q => h (Int32.toInt_inj.mp q)
theorem i_rng (x : Int32) : -2147483648 ≤ x.toInt ∧ x.toInt ≤ 2147483647 := ⟨Int32.le_toInt x, by have := Int32.toInt_lt x; omega⟩
theorem i_bmod {z : Int} (h : -2147483648 ≤ z ∧ z ≤ 2147483647) : z.bmod 4294967296 = z := by rw [Int.bmod_def]; split <;> omega
theorem i_add {x y : Int32} (h : -2147483648 ≤ x.toInt + y.toInt ∧ x.toInt + y.toInt ≤ 2147483647) : (x + y).toInt = x.toInt + y.toInt := by rw [Int32.toInt_add]; exact i_bmod h
theorem i_sub {x y : Int32} (h : -2147483648 ≤ x.toInt - y.toInt ∧ x.toInt - y.toInt ≤ 2147483647) : (x - y).toInt = x.toInt - y.toInt := by rw [Int32.toInt_sub]; exact i_bmod h
theorem i_mul {x y : Int32} (h : -2147483648 ≤ x.toInt * y.toInt ∧ x.toInt * y.toInt ≤ 2147483647) : (x * y).toInt = x.toInt * y.toInt := by rw [Int32.toInt_mul]; exact i_bmod h
theorem i_inc {x : Int32} (h : x.toInt < 2147483647) : (x + 1).toInt = x.toInt + 1 := i_add (by have := i_rng x; have : (1 : Int32).toInt = 1 := rfl; omega)
theorem i_clamp {x : Int32} {n : Nat} (h : vp_in x n) : x.toNatClampNeg < n := Nat.not_le.mp fun q => h (Or.inr q)
def wA (cf : wSt → va_W) (sz : Nat) : Nat → Prop := va_A (cf (fun _ _ => 0)) sz
def wI (G : va_G) (cy : ClassId) (cf : wSt → va_W) (N : (Nat → Prop) → State → Prop) (sz : Nat) (q : wSt) (U : State) : Prop :=
  U.heap.size = sz ∧ va_P G vwCl (cf q) U.heap ∧ va_K G vwCl [(cy, .int)] U ∧ va_D (fun _ => True) (cf q) ∧ N (wA cf sz) U
abbrev wQi (G : va_G) (cf : wSt → va_W) (sz : Nat) (r1 : Int32) (q1 : wSt) : Array Value → State → Outcome → State → Prop := va_Qi (fun (r : Int32) (u : wSt) => r = r1 ∧ u = q1) (fun u t => va_P G vwCl (cf u) t.heap) (wA cf sz)
abbrev wQv (G : va_G) (cf : wSt → va_W) (sz : Nat) (q1 : wSt) : Array Value → State → Outcome → State → Prop := va_Qv (fun (u : wSt) => u = q1) (fun u t => va_P G vwCl (cf u) t.heap) (wA cf sz)
abbrev CtI (l : Launch) (y : MethodName) (ws : List Cond) (rm : Room) (G : va_G) (cy : ClassId) (cf : wSt → va_W) (N : (Nat → Prop) → State → Prop) (sz : Nat) (q : wSt) (av : List Value) (r1 : Int32) (q1 : wSt) : Prop := Met l y ws rm (va_Pc av (wI G cy cf N sz q)) (wQi G cf sz r1 q1) 0 0 (wA cf sz)
abbrev CtV (l : Launch) (y : MethodName) (ws : List Cond) (rm : Room) (G : va_G) (cy : ClassId) (cf : wSt → va_W) (N : (Nat → Prop) → State → Prop) (sz : Nat) (q : wSt) (av : List Value) (q1 : wSt) : Prop := Met l y ws rm (va_Pc av (wI G cy cf N sz q)) (wQv G cf sz q1) 0 0 (wA cf sz)
/-- a world whose addresses no picture changes; what else a call takes along -/
def wOk (cf : wSt → va_W) (N : (Nat → Prop) → State → Prop) : Prop := (∀ q q' : wSt, (cf q).map Prod.fst = (cf q').map Prod.fst) ∧ (∀ (A : Nat → Prop) (U U' : State), U'.vm = U.vm → U'.heap = U.heap → N A U → N A U') ∧ (∀ (A A' : Nat → Prop) (s U : State) (locs : List Loc), va_S A s.heap U.heap locs → (∀ z, A' z → A z) → s.WarmedH U.vm → N A s → N A' U)
theorem w_at {cf : wSt → va_W} (h : ∀ q q' : wSt, (cf q).map Prod.fst = (cf q').map Prod.fst) {q : wSt} (q' : wSt) {k : Nat} {x : Nat × va_E} (hk : (cf q)[k]? = some x) : ∃ e, (cf q')[k]? = some (x.1, e) := by
  have h1 : ((cf q).map Prod.fst)[k]? = some x.1 := by rw [List.getElem?_map, hk]; rfl
  rw [h q q', List.getElem?_map] at h1
  cases h2 : (cf q')[k]? with
  | none => rw [h2] at h1; cases h1
  | some y => rw [h2] at h1; have h3 : y.1 = x.1 := Option.some.inj h1; exact ⟨y.2, by rw [← h3]⟩
theorem w_D {cf : wSt → va_W} (h : ∀ q q' : wSt, (cf q).map Prod.fst = (cf q').map Prod.fst) {A : Nat → Prop} {q : wSt} (hD : va_D A (cf q)) (q' : wSt) : va_D A (cf q') := by
  refine ⟨fun i j x y hx hy he => ?_, fun k x hk => ?_⟩
  · obtain ⟨e1, h1⟩ := w_at h q hx
    obtain ⟨e2, h2⟩ := w_at h q hy
    exact hD.1 i j _ _ h1 h2 he
  · obtain ⟨e1, h1⟩ := w_at h q hk
    exact hD.2 k (x.1, e1) h1
theorem w_self {cf : wSt → va_W} (h : ∀ q q' : wSt, (cf q).map Prod.fst = (cf q').map Prod.fst) {A : Nat → Prop} {q : wSt} {sz : Nat} (hD : va_D A (cf q)) (q' : wSt) : va_D (wA cf sz) (cf q') := w_D h (va_D.self (w_D h hD (fun _ _ => 0))) q'
theorem w_sub {cf : wSt → va_W} {A : Nat → Prop} {H0 H : Heap} {locs : List Loc} (hD : ∀ q : wSt, va_D A (cf q)) (hS : va_S A H0 H locs) (hA : ∀ z, H0.size ≤ z → A z) : ∀ z, wA cf H.size z → A z := by
  intro z hz
  rcases hz with ⟨k, e, h⟩ | h
  · exact (hD _).2 k _ h
  · exact hA z (Nat.le_trans hS.1 h)
theorem w_blind {G : va_G} {cy : ClassId} {cf : wSt → va_W} {N : (Nat → Prop) → State → Prop} {sz : Nat} {q : wSt} {av : List Value} (ok : wOk cf N) : FrameBlind (va_Pc av (wI G cy cf N sz q)) := by
  intro a U g mk h
  obtain ⟨h0, h1, h2, h3, h4, h5⟩ := h
  exact ⟨h0, h1, h2, va_K.moved (u := U) (U := U.calling g mk a) (Vm.Alike.refl U.vm) h3, h4, ok.2.1 _ U _ rfl rfl h5⟩
section WCALL
variable {p : Program} {l : Launch} {e : Env} {R : Room} {s : State} {m : MethodId} {args : Array Value} {below : List Frame} {meth : Method} {c : Code} {H : Heap} {locs : List Loc} {cells slots : Nat} {Q : State → Prop}
variable {pc : Nat} {ls : Array Slot} {rest st0 As : List Value} {av : Array Value} {A : Nat → Prop} {G : va_G} {cy : ClassId} {cf : wSt → va_W} {N : (Nat → Prop) → State → Prop} {q q1 : wSt} {r1 : Int32} {C : String} {b : Addr}
theorem w_in (ok : wOk cf N) (hK : va_K G vwCl [(cy, .int)] s) (hP : va_P G vwCl (cf q) H) (hD : ∀ q : wSt, va_D A (cf q)) (hS : va_S A s.heap H locs) (hA : ∀ z, s.heap.size ≤ z → A z) (hN : N A s) (U : State) (hU : U.heap = H) (hW : s.WarmedH U.vm) : wI G cy cf N H.size q U := by
  subst hU
  exact ⟨rfl, hP, va_K.moved hW.alike hK, (hD q).weaken (fun _ _ _ _ => trivial), ok.2.2 A _ s U locs hS (w_sub hD hS hA) hW hN⟩
theorem w_pre (ok : wOk cf N) (hr : ∃ cell : Cell, H[b]? = some cell ∧ cell.vm.isStatics = false ∧ s.vm.findClass C = some cell.cls) (hK : va_K G vwCl [(cy, .int)] s) (hP : va_P G vwCl (cf q) H) (hD : ∀ q : wSt, va_D A (cf q)) (hS : va_S A s.heap H locs) (hA : ∀ z, s.heap.size ≤ z → A z) (hN : N A s) : PreV s H C b (va_Pc (.ref b :: As) (wI G cy cf N H.size q)) As :=
  ⟨w_blind ok, hr, fun U hU hW => ⟨rfl, w_in ok hK hP hD hS hA hN U hU hW⟩⟩
theorem w_preS (ok : wOk cf N) (hK : va_K G vwCl [(cy, .int)] s) (hP : va_P G vwCl (cf q) H) (hD : ∀ q : wSt, va_D A (cf q)) (hS : va_S A s.heap H locs) (hA : ∀ z, s.heap.size ≤ z → A z) (hN : N A s) : PreS s H (va_Pc As (wI G cy cf N H.size q)) As :=
  ⟨w_blind ok, fun U hU hW => ⟨rfl, w_in ok hK hP hD hS hA hN U hU hW⟩⟩
theorem w_goI (hr : va_Run p l e R s m args below meth c H locs cells slots 0 0 (F0 m pc ls st0) rest (wQi G cf H.size r1 q1 av) (wA cf H.size)) (hD : ∀ q : wSt, va_D A (cf q)) (hS : va_S A s.heap H locs) (hA : ∀ z, s.heap.size ≤ z → A z)
    (kk : ∀ (H1 : Heap) (locs1 : List Loc), va_P G vwCl (cf q1) H1 → va_S A s.heap H1 locs1 → W p l e R s m args below meth c H1 locs1 cells slots Q (F0 m (pc + 3) ls (.int r1 :: rest))) : W p l e R s m args below meth c H locs cells slots Q (F0 m pc ls st0) := by
  refine va_calli hr hS (fun z _ h => w_sub hD hS hA z h) (w_sub hD hS hA) (fun r u t H1 locs1 ht hvm hw hB hz hk hS1 => ?_)
  obtain ⟨rfl, rfl⟩ := hw
  rw [ht] at hB
  exact kk H1 locs1 hB hS1
theorem w_goV (hr : va_Run p l e R s m args below meth c H locs cells slots 0 0 (F0 m pc ls st0) rest (wQv G cf H.size q1 av) (wA cf H.size)) (hD : ∀ q : wSt, va_D A (cf q)) (hS : va_S A s.heap H locs) (hA : ∀ z, s.heap.size ≤ z → A z)
    (kk : ∀ (H1 : Heap) (locs1 : List Loc), va_P G vwCl (cf q1) H1 → va_S A s.heap H1 locs1 → W p l e R s m args below meth c H1 locs1 cells slots Q (F0 m (pc + 3) ls rest)) : W p l e R s m args below meth c H locs cells slots Q (F0 m pc ls st0) := by
  refine va_callv hr hS (fun z _ h => w_sub hD hS hA z h) (w_sub hD hS hA) (fun u t H1 locs1 ht hvm hw hB hz hk hS1 => ?_)
  cases hw
  rw [ht] at hB
  exact kk H1 locs1 hB hS1
end WCALL
def cX (cy : ClassId) (a : Nat → Nat) (p : wSt) : va_W := [(a 0, .inr (6, [.ref (a 1), .ref (a 2), .ref (a 3), .ref (a 4), .ref (a 5), .ref (a 6), .int (p 30 0), .int (p 31 0), .int (p 32 0), .int (p 33 0)])),
  (a 1, .inr (4, [.ref (a 7), .int (p 34 0)])),
  (a 2, .inr (0, [.ref (a 8), .ref (a 9), .ref (a 10), .ref (a 11), .ref (a 12), .int (p 35 0)])),
  (a 3, .inr (1, [.ref (a 13), .ref (a 14), .ref (a 15), .ref (a 16), .ref (a 17), .ref (a 18), .ref (a 19), .ref (a 20), .ref (a 21), .ref (a 22), .int (p 36 0), .int (p 37 0), .int (p 38 0)])),
  (a 4, .inr (3, [.ref (a 23), .ref (a 24), .ref (a 25), .ref (a 26), .ref (a 27), .ref (a 28), .int (p 39 0)])),
  (a 5, .inr (5, [.ref (a 29), .ref (a 30), .ref (a 31), .ref (a 32), .ref (a 33), .ref (a 34), .int (p 40 0)])),
  (a 6, .inr (2, [.ref (a 35), .ref (a 36)])),
  (a 7, .inl (cy, 12, .inl (p 0))),
  (a 8, .inl (cy, 40, .inl (p 1))),
  (a 9, .inl (cy, 40, .inl (p 2))),
  (a 10, .inl (cy, 40, .inl (p 3))),
  (a 11, .inl (cy, 40, .inl (p 4))),
  (a 12, .inl (cy, 40, .inl (p 5))),
  (a 13, .inl (cy, 200, .inl (p 6))),
  (a 14, .inl (cy, 200, .inl (p 7))),
  (a 15, .inl (cy, 200, .inl (p 8))),
  (a 16, .inl (cy, 200, .inl (p 9))),
  (a 17, .inl (cy, 200, .inl (p 10))),
  (a 18, .inl (cy, 200, .inl (p 11))),
  (a 19, .inl (cy, 200, .inl (p 12))),
  (a 20, .inl (cy, 200, .inl (p 13))),
  (a 21, .inl (cy, 200, .inl (p 14))),
  (a 22, .inl (cy, 48, .inl (p 15))),
  (a 23, .inl (cy, 20, .inl (p 16))),
  (a 24, .inl (cy, 20, .inl (p 17))),
  (a 25, .inl (cy, 20, .inl (p 18))),
  (a 26, .inl (cy, 20, .inl (p 19))),
  (a 27, .inl (cy, 20, .inl (p 20))),
  (a 28, .inl (cy, 20, .inl (p 21))),
  (a 29, .inl (cy, 100, .inl (p 22))),
  (a 30, .inl (cy, 100, .inl (p 23))),
  (a 31, .inl (cy, 100, .inl (p 24))),
  (a 32, .inl (cy, 100, .inl (p 25))),
  (a 33, .inl (cy, 100, .inl (p 26))),
  (a 34, .inl (cy, 100, .inl (p 27))),
  (a 35, .inl (cy, 21, .inl (p 28))),
  (a 36, .inl (cy, 21, .inl (p 29)))]
def cM (cy : ClassId) (a : Nat → Nat) (p : wSt) : va_W := [(a 0, .inr (7, [.int (p 30 0), .int (p 34 0), .ref (a 1), .int (p 36 0), .ref (a 2), .ref (a 3), .ref (a 4), .ref (a 5), .ref (a 6), .ref (a 7), .ref (a 8), .ref (a 9), .ref (a 10), .int (p 39 0), .ref (a 11), .ref (a 12), .ref (a 13), .ref (a 14), .int (p 40 0), .ref (a 15), .ref (a 16), .ref (a 17), .ref (a 18), .ref (a 19), .int (p 35 0), .ref (a 20), .ref (a 21), .ref (a 22), .ref (a 23), .ref (a 24), .int (p 31 0), .int (p 32 0), .int (p 33 0), .ref (a 25), .ref (a 26)])),
  (a 1, .inl (cy, 12, .inl (p 0))),
  (a 2, .inl (cy, 200, .inl (p 7))),
  (a 3, .inl (cy, 200, .inl (p 8))),
  (a 4, .inl (cy, 200, .inl (p 9))),
  (a 5, .inl (cy, 200, .inl (p 6))),
  (a 6, .inl (cy, 200, .inl (p 10))),
  (a 7, .inl (cy, 200, .inl (p 11))),
  (a 8, .inl (cy, 200, .inl (p 12))),
  (a 9, .inl (cy, 200, .inl (p 13))),
  (a 10, .inl (cy, 200, .inl (p 14))),
  (a 11, .inl (cy, 20, .inl (p 16))),
  (a 12, .inl (cy, 20, .inl (p 17))),
  (a 13, .inl (cy, 20, .inl (p 18))),
  (a 14, .inl (cy, 20, .inl (p 19))),
  (a 15, .inl (cy, 100, .inl (p 22))),
  (a 16, .inl (cy, 100, .inl (p 23))),
  (a 17, .inl (cy, 100, .inl (p 24))),
  (a 18, .inl (cy, 100, .inl (p 25))),
  (a 19, .inl (cy, 100, .inl (p 27))),
  (a 20, .inl (cy, 40, .inl (p 1))),
  (a 21, .inl (cy, 40, .inl (p 2))),
  (a 22, .inl (cy, 40, .inl (p 3))),
  (a 23, .inl (cy, 40, .inl (p 4))),
  (a 24, .inl (cy, 40, .inl (p 5))),
  (a 25, .inl (cy, 21, .inl (p 28))),
  (a 26, .inl (cy, 21, .inl (p 29)))]
/-- the nest mates' links of the class -/
def xNest : List Cond := [.fieldLinkNest RX3 38 RX6 "MOST_HELD" "[I" RX6,
  .fieldLinkNest RX3 45 RX6 "TERM" "[I" RX6,
  .fieldLinkNest RX3 54 RX6 "LATE_COINS" "[I" RX6,
  .fieldLinkNest RX6 68 RX4 "came" "I" RX6,
  .fieldLinkNest RX6 79 RX0 "came" "I" RX6,
  .fieldLinkNest RX6 86 RX1 "came" "I" RX6,
  .fieldLinkNest RX6 105 RX3 "came" "I" RX6,
  .fieldLinkNest RX6 110 RX3 "last" "[I" RX6,
  .fieldLinkNest RX6 114 RX5 "came" "I" RX6,
  .fieldLinkNest RX6 122 RX5 "state" "[I" RX6,
  .fieldLinkNest RX6 137 RX1 "reader" "[I" RX6,
  .fieldLinkNest RX6 143 RX3 "owed" "[I" RX6,
  .fieldLinkNest RX6 146 RX1 "wish" "[I" RX6,
  .fieldLinkNest RX6 153 RX3 "inHand" "[I" RX6,
  .fieldLinkNest RX6 156 RX3 "boxDays" "[I" RX6,
  .fieldLinkNest RX6 165 RX3 "inBoxes" "[I" RX6,
  .fieldLinkNest RX6 169 RX1 "cost" "[I" RX6,
  .fieldLinkNest RX6 175 RX1 "where" "[I" RX6,
  .fieldLinkNest RX6 178 RX1 "title" "[I" RX6,
  .fieldLinkNest RX6 181 RX1 "volume" "[I" RX6,
  .fieldLinkNest RX6 184 RX1 "since" "[I" RX6,
  .fieldLinkNest RX6 187 RX1 "daysToGo" "[I" RX6,
  .fieldLinkNest RX6 190 RX1 "timesLent" "[I" RX6,
  .fieldLinkNest RX6 193 RX3 "rank" "[I" RX6,
  .fieldLinkNest RX6 200 RX5 "had" "[I" RX6,
  .fieldLinkNest RX6 203 RX5 "held" "[I" RX6,
  .fieldLinkNest RX6 209 RX5 "since" "[I" RX6,
  .fieldLinkNest RX6 219 RX2 "wanted" "[I" RX6,
  .fieldLinkNest RX6 222 RX2 "sale" "[I" RX6,
  .fieldLinkNest RX6 237 RX1 "lost" "I" RX6,
  .fieldLinkNest RX6 240 RX1 "inBoxes" "I" RX6,
  .fieldLinkNest RX6 264 RX5 "reader" "[I" RX6,
  .fieldLinkNest RX6 268 RX5 "title" "[I" RX6,
  .methodLinkNest RX6 9 yX4_init RX6,
  .methodLinkNest RX6 18 yX0_init RX6,
  .methodLinkNest RX6 25 yX1_init RX6,
  .methodLinkNest RX6 32 yX3_init RX6,
  .methodLinkNest RX6 39 yX5_init RX6,
  .methodLinkNest RX6 46 yX2_init RX6,
  .methodLinkNest RX6 71 yX4_add RX6,
  .methodLinkNest RX6 75 yX4_has RX6,
  .methodLinkNest RX6 80 yX0_add RX6,
  .methodLinkNest RX6 83 yX4_volumesOf RX6,
  .methodLinkNest RX6 87 yX0_inForce RX6,
  .methodLinkNest RX6 91 yX0_priceAt RX6,
  .methodLinkNest RX6 94 yX1_add RX6,
  .methodLinkNest RX6 97 yX1_isAt RX6,
  .methodLinkNest RX6 101 yX1_leaveFor RX6,
  .methodLinkNest RX6 106 yX3_add RX6,
  .methodLinkNest RX6 109 yX3_has RX6,
  .methodLinkNest RX6 115 yX5_hasOpen RX6,
  .methodLinkNest RX6 118 yX5_add RX6,
  .methodLinkNest RX6 119 yX5_isOpen RX6,
  .methodLinkNest RX6 159 yX1_shelve RX6,
  .methodLinkNest RX6 162 yX1_sendBack RX6,
  .methodLinkNest RX6 168 yX1_has RX6,
  .methodLinkNest RX6 196 yX5_openOf RX6,
  .methodLinkNest RX6 199 yX5_has RX6,
  .methodLinkNest RX6 206 yX5_waits RX6,
  .methodLinkNest RX6 210 yX4_hasVolume RX6,
  .methodLinkNest RX6 213 yX5_waitingFor RX6,
  .methodLinkNest RX6 216 yX1_inHouse RX6,
  .methodLinkNest RX6 228 yX2_setsToBuy RX6,
  .methodLinkNest RX6 231 yX2_mostOf RX6,
  .methodLinkNest RX6 234 yX2_weeksOf RX6,
  .methodLinkNest RX6 242 yX1_comesToday RX6,
  .methodLinkNest RX6 248 yX1_handOver RX6,
  .methodLinkNest RX6 265 yX3_mayTake RX6,
  .methodLinkNest RX6 269 yX1_onShelf RX6,
  .methodLinkNest RX6 272 yX3_rankOf RX6,
  .methodLinkNest RX6 275 yX1_leastOnShelf RX6,
  .methodLinkNest RX6 278 yX1_lend RX6,
  .methodLinkNest RX6 281 yX1_sendOut RX6,
  .methodLinkNest RX6 284 yX3_lateCost RX6,
  .methodLinkNest RX6 285 yX5_countAsHad RX6]
def xIsNest (w : Cond) : Bool := match w with
  | .fieldLinkNest .. => true
  | .methodLinkNest .. => true
  | _ => false
theorem xNest_ok : ∀ w ∈ xNest, xIsNest w = true := by decide +kernel
theorem xNest_on : ∀ w ∈ xNest, w.onTables = true := by decide +kernel
theorem xNest_warm {w : Cond} (hw : xIsNest w = true) {s U : State} (hW : s.WarmedH U.vm) (h : va_Nw w s) : va_Nw w U := by
  cases w <;> first | exact va_Nw.warmF hW h | exact va_Nw.warmM hW h | (cases hw; done)
def tMost : Nat → Int32 := fun j => if j = 0 then 1 else if j = 1 then 3 else 6
def tTerm : Nat → Int32 := fun j => if j = 0 then 7 else if j = 1 then 14 else 28
def tLate : Nat → Int32 := fun j => if j = 0 then 3 else if j = 1 then 2 else 1
def xZ1 (n : String) (f : Nat → Int32) (b : Nat) (A : Nat → Prop) (U : State) : Prop := va_Z "VolumeHouse" n "[I" (.ref b) A U U.heap ∧ va_T .int b 3 (fun j => .int (f j)) A U U.heap
def xN (A : Nat → Prop) (U : State) : Prop := (∀ w ∈ xNest, va_Nw w U) ∧ (∃ b, xZ1 "MOST_HELD" tMost b A U) ∧ (∃ b, xZ1 "TERM" tTerm b A U) ∧ (∃ b, xZ1 "LATE_COINS" tLate b A U)
theorem xZ1_same {n : String} {f : Nat → Int32} {b : Nat} {A : Nat → Prop} {U U' : State} (hv : U'.vm = U.vm) (hh : U'.heap = U.heap) (h : xZ1 n f b A U) : xZ1 n f b A U' := by
  obtain ⟨h1, h2⟩ := h
  have ha : U.vm.Alike U'.vm := by rw [hv]; exact Vm.Alike.refl U.vm
  exact ⟨by rw [hh]; exact va_Z.moved ha h1, by rw [hh]; exact va_T.moved ha h2⟩
theorem xZ1_warm {n : String} {f : Nat → Int32} {b : Nat} {A A' : Nat → Prop} {s U : State} {locs : List Loc} (hS : va_S A s.heap U.heap locs) (hs : ∀ z, A' z → A z) (hW : s.WarmedH U.vm) (h : xZ1 n f b A s) : xZ1 n f b A' U := by
  obtain ⟨h1, h2⟩ := h
  exact ⟨(va_Z.moved hW.alike (va_Z.kept h1 hS.2.1)).narrow hs, (va_T.moved hW.alike (va_T.kept h2 hS.2.1)).narrow hs⟩
theorem xOk (cy : ClassId) (a : Nat → Nat) : wOk (cX cy a) xN := by
  refine ⟨fun _ _ => rfl, fun A U U' hv hh h => ?_, fun A A' s U locs hS hs hW h => ?_⟩
  · obtain ⟨h1, ⟨b1, g1⟩, ⟨b2, g2⟩, ⟨b3, g3⟩⟩ := h
    exact ⟨fun w hw => va_Nw.same (xNest_on w hw) hv.symm (h1 w hw), ⟨b1, xZ1_same hv hh g1⟩, ⟨b2, xZ1_same hv hh g2⟩, ⟨b3, xZ1_same hv hh g3⟩⟩
  · obtain ⟨h1, ⟨b1, g1⟩, ⟨b2, g2⟩, ⟨b3, g3⟩⟩ := h
    exact ⟨fun w hw => xNest_warm (xNest_ok w hw) hW (h1 w hw), ⟨b1, xZ1_warm hS hs hW g1⟩, ⟨b2, xZ1_warm hS hs hW g2⟩, ⟨b3, xZ1_warm hS hs hW g3⟩⟩
def mN (_ : Nat → Prop) (_ : State) : Prop := True
theorem mOk (cy : ClassId) (a : Nat → Nat) : wOk (cM cy a) mN := ⟨fun _ _ => rfl, fun _ _ _ _ _ _ => trivial, fun _ _ _ _ _ _ _ _ _ => trivial⟩
