section WLAW
variable {p : Program} {l : Launch} {e : Env} {R : Room} {s : State} {m : MethodId} {args : Array Value} {below : List Frame} {meth : Method} {c : Code} {H : Heap} {locs : List Loc} {cells slots : Nat} {Q : State → Prop}
variable {pc : Nat} {ls : Array Slot} {rest st0 : List Value} {av : Array Value} {A : Nat → Prop} {G : va_G} {cf : wSt → va_W} {q1 : wSt} {r1 : Int32}
theorem w_goI2 (hr : va_Run p l e R s m args below meth c H locs cells slots 0 0 (F0 m pc ls st0) rest (wQi G cf H.size r1 q1 av) (wA cf H.size)) (hD : ∀ q : wSt, va_D A (cf q)) (hS : va_S A s.heap H locs) (hA : ∀ z, s.heap.size ≤ z → A z)
    (kk : ∀ (H1 : Heap) (locs1 : List Loc), va_P G vwCl (cf q1) H1 → (∀ z : Nat, z < H.size → ¬ wA cf H.size z → H1[z]? = H[z]?) → va_S A s.heap H1 locs1 → W p l e R s m args below meth c H1 locs1 cells slots Q (F0 m (pc + 3) ls (.int r1 :: rest))) : W p l e R s m args below meth c H locs cells slots Q (F0 m pc ls st0) := by
  refine va_calli hr hS (fun z _ h => w_sub hD hS hA z h) (w_sub hD hS hA) (fun r u t H1 locs1 ht hvm hw hB hz hk hS1 => ?_)
  obtain ⟨rfl, rfl⟩ := hw
  rw [ht] at hB
  exact kk H1 locs1 hB hk hS1
/-- the other world stays -/
theorem w_keep {cg : wSt → va_W} {H1 : Heap} {y : wSt} (hd : ∀ (i j : Nat) (u v : Nat × va_E), (cf (fun _ _ => 0))[i]? = some u → (cg y)[j]? = some v → u.1 ≠ v.1) (hP : va_P G vwCl (cg y) H) (hk : ∀ z : Nat, z < H.size → ¬ wA cf H.size z → H1[z]? = H[z]?) : va_P G vwCl (cg y) H1 := by
  intro k q hq
  have hl := (hP k q hq).lt
  refine (hP k q hq).kept (hk q.1 hl (fun h => ?_))
  rcases h with ⟨i, e, h⟩ | h
  · exact hd i k _ _ h hq rfl
  · exact absurd hl (Nat.not_lt.mpr h)
end WLAW
/-- the two worlds lie apart -/
def lApart (cy : ClassId) (a b : Nat → Nat) : Prop := (∀ (y : wSt) (i j : Nat) (u v : Nat × va_E), (cX cy a (fun _ _ => 0))[i]? = some u → (cM cy b y)[j]? = some v → u.1 ≠ v.1) ∧ (∀ (x : wSt) (i j : Nat) (u v : Nat × va_E), (cM cy b (fun _ _ => 0))[i]? = some u → (cX cy a x)[j]? = some v → u.1 ≠ v.1)
abbrev lA (s : State) : Nat → Prop := fun q => s.heap.size ≤ q
/-- what stands between two calls of the law: the machine, the two worlds' places, the script -/
def lCtx (p : Program) (s : State) (m : MethodId) (meth : Method) (c : Code) (bb L : Nat) (xs : Nat → Int32) (G : va_G) (cy : ClassId) (a b : Nat → Nat) : Prop :=
  lw_At p s m meth c bb L xs ∧ L ≤ 3072 ∧ va_K G vwCl [(cy, .int)] s ∧ xN (lA s) s ∧ (∀ z : wSt, va_D (lA s) (cX cy a z)) ∧ (∀ z : wSt, va_D (lA s) (cM cy b z)) ∧ lApart cy a b
def lWorld (Rel : wSt → wSt → Prop) (s : State) (G : va_G) (cy : ClassId) (a b : Nat → Nat) (x y : wSt) (H : Heap) (locs : List Loc) : Prop :=
  Rel x y ∧ va_P G vwCl (cX cy a x) H ∧ va_P G vwCl (cM cy b y) H ∧ va_S (lA s) s.heap H locs
def Sim_inv (Rel : wSt → wSt → Prop) : Prop := ∀ x y : wSt, Rel x y → iI x ∧ iI y ∧ iC y
def Sim_title (Rel : wSt → wSt → Prop) : Prop := ∀ x y : wSt, Rel x y → ∀ u1 : Int32, (fX6_title x u1).1 = (fX7_title y u1).1 ∧ Rel (fX6_title x u1).2 (fX7_title y u1).2
def Sim_bargain (Rel : wSt → wSt → Prop) : Prop := ∀ x y : wSt, Rel x y → ∀ u1 u2 u3 u4 u5 : Int32, (fX6_bargain x u1 u2 u3 u4 u5).1 = (fX7_bargain y u1 u2 u3 u4 u5).1 ∧ Rel (fX6_bargain x u1 u2 u3 u4 u5).2 (fX7_bargain y u1 u2 u3 u4 u5).2
def Sim_buy (Rel : wSt → wSt → Prop) : Prop := ∀ x y : wSt, Rel x y → ∀ u1 u2 : Int32, (fX6_buy x u1 u2).1 = (fX7_buy y u1 u2).1 ∧ Rel (fX6_buy x u1 u2).2 (fX7_buy y u1 u2).2
def Sim_sell (Rel : wSt → wSt → Prop) : Prop := ∀ x y : wSt, Rel x y → ∀ u1 u2 : Int32, (fX6_sell x u1 u2).1 = (fX7_sell y u1 u2).1 ∧ Rel (fX6_sell x u1 u2).2 (fX7_sell y u1 u2).2
def Sim_reader (Rel : wSt → wSt → Prop) : Prop := ∀ x y : wSt, Rel x y → ∀ u1 u2 u3 : Int32, (fX6_reader x u1 u2 u3).1 = (fX7_reader y u1 u2 u3).1 ∧ Rel (fX6_reader x u1 u2 u3).2 (fX7_reader y u1 u2 u3).2
def Sim_renew (Rel : wSt → wSt → Prop) : Prop := ∀ x y : wSt, Rel x y → ∀ u1 u2 : Int32, (fX6_renew x u1 u2).1 = (fX7_renew y u1 u2).1 ∧ Rel (fX6_renew x u1 u2).2 (fX7_renew y u1 u2).2
def Sim_wish (Rel : wSt → wSt → Prop) : Prop := ∀ x y : wSt, Rel x y → ∀ u1 u2 : Int32, (fX6_wish x u1 u2).1 = (fX7_wish y u1 u2).1 ∧ Rel (fX6_wish x u1 u2).2 (fX7_wish y u1 u2).2
def Sim_unwish (Rel : wSt → wSt → Prop) : Prop := ∀ x y : wSt, Rel x y → ∀ u1 : Int32, (fX6_unwish x u1).1 = (fX7_unwish y u1).1 ∧ Rel (fX6_unwish x u1).2 (fX7_unwish y u1).2
def Sim_go (Rel : wSt → wSt → Prop) : Prop := ∀ x y : wSt, Rel x y → ∀ u1 : Int32, (fX6_go x u1).1 = (fX7_go y u1).1 ∧ Rel (fX6_go x u1).2 (fX7_go y u1).2
def Sim_back (Rel : wSt → wSt → Prop) : Prop := ∀ x y : wSt, Rel x y → ∀ u1 : Int32, (fX6_back x u1).1 = (fX7_back y u1).1 ∧ Rel (fX6_back x u1).2 (fX7_back y u1).2
def Sim_lose (Rel : wSt → wSt → Prop) : Prop := ∀ x y : wSt, Rel x y → ∀ u1 : Int32, (fX6_lose x u1).1 = (fX7_lose y u1).1 ∧ Rel (fX6_lose x u1).2 (fX7_lose y u1).2
def Sim_pay (Rel : wSt → wSt → Prop) : Prop := ∀ x y : wSt, Rel x y → ∀ u1 u2 : Int32, (fX6_pay x u1 u2).1 = (fX7_pay y u1 u2).1 ∧ Rel (fX6_pay x u1 u2).2 (fX7_pay y u1 u2).2
def Sim_copy (Rel : wSt → wSt → Prop) : Prop := ∀ x y : wSt, Rel x y → ∀ u1 u2 : Int32, fX6_copy x u1 u2 = fX7_copy y u1 u2
def Sim_told (Rel : wSt → wSt → Prop) : Prop := ∀ x y : wSt, Rel x y → ∀ u1 u2 : Int32, fX6_told x u1 u2 = fX7_told y u1 u2
def Sim_wished (Rel : wSt → wSt → Prop) : Prop := ∀ x y : wSt, Rel x y → ∀ u1 u2 : Int32, fX6_wished x u1 u2 = fX7_wished y u1 u2
def Sim_waiting (Rel : wSt → wSt → Prop) : Prop := ∀ x y : wSt, Rel x y → ∀ u1 u2 : Int32, fX6_waiting x u1 u2 = fX7_waiting y u1 u2
def Sim_sets (Rel : wSt → wSt → Prop) : Prop := ∀ x y : wSt, Rel x y → ∀ u1 : Int32, fX6_sets x u1 = fX7_sets y u1
def Sim_demand (Rel : wSt → wSt → Prop) : Prop := ∀ x y : wSt, Rel x y → ∀ u1 u2 u3 : Int32, (fX6_demand x u1 u2 u3).1 = (fX7_demand y u1 u2 u3).1 ∧ Rel (fX6_demand x u1 u2 u3).2 (fX7_demand y u1 u2 u3).2
def Sim_best (Rel : wSt → wSt → Prop) : Prop := ∀ x y : wSt, Rel x y → ∀ u1 u2 : Int32, fX6_best x u1 u2 = fX7_best y u1 u2
def Sim_gain (Rel : wSt → wSt → Prop) : Prop := ∀ x y : wSt, Rel x y → ∀ u1 u2 : Int32, fX6_gain x u1 u2 = fX7_gain y u1 u2
def Sim_kept (Rel : wSt → wSt → Prop) : Prop := ∀ x y : wSt, Rel x y → ∀ u1 u2 u3 : Int32, fX6_kept x u1 u2 u3 = fX7_kept y u1 u2 u3
def Sim_count (Rel : wSt → wSt → Prop) : Prop := ∀ x y : wSt, Rel x y → ∀ u1 : Int32, fX6_count x u1 = fX7_count y u1
