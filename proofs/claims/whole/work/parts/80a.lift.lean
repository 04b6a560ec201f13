/-! Part 80: every call keeps the relation -/
theorem sim2_title : Sim_title Rel2 := fun x y h u1 => ⟨(sim_title x y h.1 u1).1, (sim_title x y h.1 u1).2, vB_fr (frX6_title x u1 17 (by decide)) h.2⟩
theorem sim2_bargain : Sim_bargain Rel2 := fun x y h u1 u2 u3 u4 u5 => ⟨(sim_bargain x y h.1 u1 u2 u3 u4 u5).1, (sim_bargain x y h.1 u1 u2 u3 u4 u5).2, vB_fr (frX6_bargain x u1 u2 u3 u4 u5 17 (by decide)) h.2⟩
theorem sim2_buy : Sim_buy Rel2 := fun x y h u1 u2 => ⟨(sim_buy x y h.1 u1 u2).1, (sim_buy x y h.1 u1 u2).2, vB_fr (frX6_buy x u1 u2 17 (by decide)) h.2⟩
theorem sim2_sell : Sim_sell Rel2 := fun x y h u1 u2 => ⟨(sim_sell x y h.1 u1 u2).1, (sim_sell x y h.1 u1 u2).2, vB_fr (frX6_sell x u1 u2 17 (by decide)) h.2⟩
theorem sim2_renew : Sim_renew Rel2 := fun x y h u1 u2 => ⟨(sim_renew x y h.1 u1 u2).1, (sim_renew x y h.1 u1 u2).2, vB_fr (frX6_renew x u1 u2 17 (by decide)) h.2⟩
theorem sim2_wish : Sim_wish Rel2 := fun x y h u1 u2 => ⟨(sim_wish x y h.1 u1 u2).1, (sim_wish x y h.1 u1 u2).2, vB_fr (frX6_wish x u1 u2 17 (by decide)) h.2⟩
theorem sim2_unwish : Sim_unwish Rel2 := fun x y h u1 => ⟨(sim_unwish x y h.1 u1).1, (sim_unwish x y h.1 u1).2, vB_fr (frX6_unwish x u1 17 (by decide)) h.2⟩
theorem sim2_lose : Sim_lose Rel2 := fun x y h u1 => ⟨(sim_lose x y h.1 u1).1, (sim_lose x y h.1 u1).2, vB_fr (frX6_lose x u1 17 (by decide)) h.2⟩
theorem sim2_pay : Sim_pay Rel2 := fun x y h u1 u2 => ⟨(sim_pay x y h.1 u1 u2).1, (sim_pay x y h.1 u1 u2).2, vB_fr (frX6_pay x u1 u2 17 (by decide)) h.2⟩
theorem sim2_copy : Sim_copy Rel2 := fun x y h u1 u2 => sim_copy x y h.1 u1 u2
theorem sim2_told : Sim_told Rel2 := fun x y h u1 u2 => sim_told x y h.1 u1 u2
theorem sim2_wished : Sim_wished Rel2 := fun x y h u1 u2 => sim_wished x y h.1 u1 u2
theorem sim2_waiting : Sim_waiting Rel2 := fun x y h u1 u2 => sim_waiting x y h.1 u1 u2
theorem sim2_sets : Sim_sets Rel2 := fun x y h u1 => sim_sets x y h.1 u1
theorem sim2_demand : Sim_demand Rel2 := fun x y h u1 u2 u3 => ⟨(sim_demand x y h.1 u1 u2 u3).1, (sim_demand x y h.1 u1 u2 u3).2, vB_fr (frX6_demand x u1 u2 u3 17 (by decide)) h.2⟩
theorem sim2_best : Sim_best Rel2 := fun x y h u1 u2 => sim_best x y h.1 u1 u2
theorem sim2_gain : Sim_gain Rel2 := fun x y h u1 u2 => sim_gain x y h.1 u1 u2
theorem sim2_kept : Sim_kept Rel2 := fun x y h u1 u2 u3 => sim_kept x y h.1 u1 u2 u3
theorem sim2_count : Sim_count Rel2 := fun x y h u1 => sim_count x y h.1 u1
theorem sim2_reader : Sim_reader Rel2 := by
  intro x y h u1 u2 u3
  refine ⟨(sim_reader x y h.1 u1 u2 u3).1, (sim_reader x y h.1 u1 u2 u3).2, ?_⟩
  have hv := h.2
  unfold fX6_reader
  by_cases c1 : fX6_within x u1 0 2 = 0
  · rw [if_pos c1]; exact hv
  · rw [if_neg c1]
    by_cases c2 : fX6_within x u2 0 9 = 0
    · rw [if_pos c2]; exact hv
    · rw [if_neg c2]
      by_cases c3 : fX6_within x u3 0 5000 = 0
      · rw [if_pos c3]; exact hv
      · rw [if_neg c3]
        by_cases c4 : x 39 0 < 20
        · rw [if_pos c4]
          have d := tX6_within _ _ _ _ (i_ne c2)
          have t0 : (0 : Int32).toInt = 0 := rfl
          have e : (fX3_add x u1 u2 u3).2 17 = upd (x 17) (x 39 0).toNatClampNeg u2 := by
            unfold fX3_add
            dsimp only
            rw [rset_ne (by decide), rset_ne (by decide), rset_eq]
          intro j
          dsimp only
          rw [e]
          by_cases g : j = (x 39 0).toNatClampNeg
          · rw [g, u_eq]; omega
          · rw [u_ne g]; exact hv j
        · rw [if_neg c4]; exact hv
theorem Rel2_inv : Sim_inv Rel2 := fun x y h => Rel_inv x y h.1
theorem Rel2_0 : Rel2 (fun _ _ => 0) (fun _ _ => 0) := ⟨Rel_0, fun _ => (show 0 ≤ (0 : Int32).toInt by decide)⟩
