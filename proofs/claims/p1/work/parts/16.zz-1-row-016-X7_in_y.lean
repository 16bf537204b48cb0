set_option maxRecDepth 100000 in
set_option maxHeartbeats 8000000 in
theorem w_X7_in_y {tS : jTS} (d : Nat) (V0 : jH) (x0 : Int32) (x1 : Int32) (x2 : Int32) (hd : 0 ≤ d)   : jTot tS mX7_in d [.int x0, .int x1, .int x2] V0 0 0 (fun r V => (fun r _ => ∃ y : Int32, r = some (.int y) ∧ (0 ≤ y.toInt) ∧ (y.toInt ≤ 1) ∧ ((y.toInt = 1 ∧ x1.toInt ≤ x0.toInt ∧ x0.toInt ≤ x2.toInt) ∨ (y.toInt = 0 ∧ ¬ (x1.toInt ≤ x0.toInt ∧ x0.toInt ≤ x2.toInt)))) r V ∧ V = V0) := by
  refine jTot.of_J [some (.int x0), some (.int x1), some (.int x2)] moX7_in (Nat.le_of_ble_eq_true rfl) rfl ?_
  have hrx0 := j_rng x0
  have hrx1 := j_rng x1
  have hrx2 := j_rng x2
  refine J_iload_n dX7_in_0 rfl ?_
  refine J_iload_n dX7_in_1 rfl ?_
  refine Jz_icmp_lt (tgt := 14) jEq.rf jEq.rf dX7_in_2 (by decide) (fun c2 => ?_) (fun c2 => ?_)
  · refine Jz_iconst 0 dX7_in_14 (by decide) (fun y14 he14 => ?_)
    exact J_ret (r := some (.int _)) dX7_in_15 ⟨rfl, _, rfl, (nar_b (by (try simp only [he14.eq, true_and, and_true]) <;> omega) (by (try simp only [he14.eq, true_and, and_true]) <;> omega))⟩ (⟨⟨_, rfl, (by (try simp only [he14.eq, true_and, and_true]) <;> omega), (by (try simp only [he14.eq, true_and, and_true]) <;> omega), (by (try simp only [he14.eq, true_and, and_true]) <;> omega)⟩, rfl⟩)
  · refine J_iload_n dX7_in_5 rfl ?_
    refine J_iload_n dX7_in_6 rfl ?_
    refine Jz_icmp_gt (tgt := 14) jEq.rf jEq.rf dX7_in_7 (by decide) (fun c7 => ?_) (fun c7 => ?_)
    · refine Jz_iconst 0 dX7_in_14 (by decide) (fun y14 he14 => ?_)
      exact J_ret (r := some (.int _)) dX7_in_15 ⟨rfl, _, rfl, (nar_b (by (try simp only [he14.eq, true_and, and_true]) <;> omega) (by (try simp only [he14.eq, true_and, and_true]) <;> omega))⟩ (⟨⟨_, rfl, (by (try simp only [he14.eq, true_and, and_true]) <;> omega), (by (try simp only [he14.eq, true_and, and_true]) <;> omega), (by (try simp only [he14.eq, true_and, and_true]) <;> omega)⟩, rfl⟩)
    · refine Jz_iconst 1 dX7_in_10 (by decide) (fun y10 he10 => ?_)
      refine J_goto (tgt := 15) dX7_in_11 (by decide) ?_
      exact J_ret (r := some (.int _)) dX7_in_15 ⟨rfl, _, rfl, (nar_b (by (try simp only [he10.eq, true_and, and_true]) <;> omega) (by (try simp only [he10.eq, true_and, and_true]) <;> omega))⟩ (⟨⟨_, rfl, (by (try simp only [he10.eq, true_and, and_true]) <;> omega), (by (try simp only [he10.eq, true_and, and_true]) <;> omega), (by (try simp only [he10.eq, true_and, and_true]) <;> omega)⟩, rfl⟩)
