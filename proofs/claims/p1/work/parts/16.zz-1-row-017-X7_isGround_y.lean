set_option maxRecDepth 100000 in
set_option maxHeartbeats 8000000 in
theorem w_X7_isGround_y {tS : jTS} (d : Nat) (V0 : jH) (x0 : Int32) (hd : 1 ≤ d)   : jTot tS mX7_isGround d [.int x0] V0 0 0 (fun r V => (fun r _ => ∃ y : Int32, r = some (.int y) ∧ (0 ≤ y.toInt) ∧ (y.toInt ≤ 1) ∧ ((y.toInt = 1 ∧ 0 ≤ x0.toInt ∧ x0.toInt ≤ 3) ∨ (y.toInt = 0 ∧ ¬ (0 ≤ x0.toInt ∧ x0.toInt ≤ 3)))) r V ∧ V = V0) := by
  refine jTot.of_J [some (.int x0)] moX7_isGround (Nat.le_of_ble_eq_true rfl) rfl ?_
  have hrx0 := j_rng x0
  refine J_iload_n dX7_isGround_0 rfl ?_
  refine Jz_iconst 0 dX7_isGround_1 (by decide) (fun y1 he1 => ?_)
  refine Jz_iconst 3 dX7_isGround_2 (by decide) (fun y2 he2 => ?_)
  refine J_callS3 moX7_in jw_ml_X7_105 jw_st_X7_in dX7_isGround_3 (w_X7_in_y (d - 1) _ x0 y1 y2 (by omega)   ) (by omega) (Nat.zero_le _) (Nat.zero_le _) (Nat.le_of_ble_eq_true rfl) (fun r3 V3 h3 => ?_)
  obtain ⟨⟨y3, rfl, hl3, hh3, hP3_0⟩, hE3⟩ := h3
  have hE3 := hE3.symm
  subst hE3
  try simp only [he1.eq, he2.eq] at hP3_0
  exact J_ret (r := some (.int _)) dX7_isGround_6 ⟨rfl, _, rfl, (nar_b (by omega) (by omega))⟩ (⟨⟨_, rfl, (by omega), (by omega), (by omega)⟩, rfl⟩)
