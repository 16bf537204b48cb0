set_option maxRecDepth 100000 in
set_option maxHeartbeats 8000000 in
theorem w_X0_isBesideBeginning_z {tS : jTS} (d : Nat) (V0 : jH) (x0 : Int32) (x1 : Int32) (x2 : Int32) (x3 : Int32) (hd : 1 ≤ d)  (hp0 : -128 ≤ x1.toInt) (hp1 : x1.toInt ≤ 128) (hp2 : -128 ≤ x2.toInt) (hp3 : x2.toInt ≤ 128) (hp4 : -128 ≤ x3.toInt) (hp5 : x3.toInt ≤ 128) : jTot tS mX0_isBesideBeginning d [.int x0, .int x1, .int x2, .int x3] V0 0 0 (fun r V => (fun r _ => ∃ y : Int32, r = some (.int y) ∧ (0 ≤ y.toInt) ∧ (y.toInt ≤ 1) ∧ ((y.toInt = 1 ∧ (jsq x0.toInt x1.toInt x2.toInt x3.toInt = 1 ∧ (¬ x0.toInt = 2 ∨ 0 ≤ x2.toInt))) ∨ (y.toInt = 0 ∧ ¬ (jsq x0.toInt x1.toInt x2.toInt x3.toInt = 1 ∧ (¬ x0.toInt = 2 ∨ 0 ≤ x2.toInt))))) r V ∧ V = V0) := by
  refine jTot.of_J [some (.int x0), some (.int x1), some (.int x2), some (.int x3)] moX0_isBesideBeginning (Nat.le_of_ble_eq_true rfl) rfl ?_
  have hrx0 := j_rng x0
  have hrx1 := j_rng x1
  have hrx2 := j_rng x2
  have hrx3 := j_rng x3
  refine J_iload_n dX0_isBesideBeginning_0 rfl ?_
  refine J_iload_n dX0_isBesideBeginning_1 rfl ?_
  refine J_iload_n dX0_isBesideBeginning_2 rfl ?_
  refine J_iload_n dX0_isBesideBeginning_3 rfl ?_
  refine J_callS4 moX0_square jw_ml_X0_36 jw_st_X0_square dX0_isBesideBeginning_4 (w_X0_square_z (d - 1) _ x0 x1 x2 x3 (by omega)   (by omega) (by omega) (by omega) (by omega) (by omega) (by omega)) (by omega) (Nat.zero_le _) (Nat.zero_le _) (Nat.le_of_ble_eq_true rfl) (fun r4 V4 h4 => ?_)
  obtain ⟨⟨y4, rfl, hl4, hh4, hP4_0⟩, hE4⟩ := h4
  have hE4 := hE4.symm
  subst hE4
  clear hl4 hh4
  have hz4 : jEq y4.toInt (jsq (x0.toInt) (x1.toInt) (x2.toInt) (x3.toInt)) := hP4_0
  clear hP4_0
  refine Jz_iconst 1 dX0_isBesideBeginning_7 (by decide) (fun y7 he7 => ?_)
  refine Jz_icmp_ne (tgt := 24) hz4 he7 dX0_isBesideBeginning_8 (by decide) (fun c8 => ?_) (fun c8 => ?_)
  · refine Jz_iconst 0 dX0_isBesideBeginning_24 (by decide) (fun y24 he24 => ?_)
    exact J_ret (r := some (.int _)) dX0_isBesideBeginning_25 ⟨rfl, _, rfl, (nar_b (by (try simp only [he24.eq, true_and, and_true]) <;> omega) (by (try simp only [he24.eq, true_and, and_true]) <;> omega))⟩ (⟨⟨_, rfl, (by (try simp only [he24.eq, true_and, and_true]) <;> omega), (by (try simp only [he24.eq, true_and, and_true]) <;> omega), (by (try simp only [he24.eq, true_and, and_true]) <;> omega)⟩, rfl⟩)
  · refine J_iload_n dX0_isBesideBeginning_11 rfl ?_
    refine Jz_iconst 2 dX0_isBesideBeginning_12 (by decide) (fun y12 he12 => ?_)
    refine Jz_icmp_ne (tgt := 20) jEq.rf he12 dX0_isBesideBeginning_13 (by decide) (fun c13 => ?_) (fun c13 => ?_)
    · refine Jz_iconst 1 dX0_isBesideBeginning_20 (by decide) (fun y20 he20 => ?_)
      refine J_goto (tgt := 25) dX0_isBesideBeginning_21 (by decide) ?_
      exact J_ret (r := some (.int _)) dX0_isBesideBeginning_25 ⟨rfl, _, rfl, (nar_b (by (try simp only [he20.eq, true_and, and_true]) <;> omega) (by (try simp only [he20.eq, true_and, and_true]) <;> omega))⟩ (⟨⟨_, rfl, (by (try simp only [he20.eq, true_and, and_true]) <;> omega), (by (try simp only [he20.eq, true_and, and_true]) <;> omega), (by (try simp only [he20.eq, true_and, and_true]) <;> omega)⟩, rfl⟩)
    · refine J_iload_n dX0_isBesideBeginning_16 rfl ?_
      refine Jz_if_lt (tgt := 24) jEq.rf dX0_isBesideBeginning_17 (by decide) (fun c17 => ?_) (fun c17 => ?_)
      · refine Jz_iconst 0 dX0_isBesideBeginning_24 (by decide) (fun y24 he24 => ?_)
        exact J_ret (r := some (.int _)) dX0_isBesideBeginning_25 ⟨rfl, _, rfl, (nar_b (by (try simp only [he24.eq, true_and, and_true]) <;> omega) (by (try simp only [he24.eq, true_and, and_true]) <;> omega))⟩ (⟨⟨_, rfl, (by (try simp only [he24.eq, true_and, and_true]) <;> omega), (by (try simp only [he24.eq, true_and, and_true]) <;> omega), (by (try simp only [he24.eq, true_and, and_true]) <;> omega)⟩, rfl⟩)
      · refine Jz_iconst 1 dX0_isBesideBeginning_20 (by decide) (fun y20 he20 => ?_)
        refine J_goto (tgt := 25) dX0_isBesideBeginning_21 (by decide) ?_
        exact J_ret (r := some (.int _)) dX0_isBesideBeginning_25 ⟨rfl, _, rfl, (nar_b (by (try simp only [he20.eq, true_and, and_true]) <;> omega) (by (try simp only [he20.eq, true_and, and_true]) <;> omega))⟩ (⟨⟨_, rfl, (by (try simp only [he20.eq, true_and, and_true]) <;> omega), (by (try simp only [he20.eq, true_and, and_true]) <;> omega), (by (try simp only [he20.eq, true_and, and_true]) <;> omega)⟩, rfl⟩)
