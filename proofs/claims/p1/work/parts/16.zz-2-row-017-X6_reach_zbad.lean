set_option maxRecDepth 100000 in
set_option maxHeartbeats 8000000 in
theorem w_X6_reach_zbad {tS : jTS} (d : Nat) (V0 : jH) (a0 : Nat) (x1 : Int32) (x2 : Int32) (hd : 14 ≤ d) (hW : WT V0) (ha0 : jis V0 (.inr 4) a0) (hbad : x1 < 0 ∨ Int32.ofNat 4 ≤ x1 ∨ x2 < 1 ∨ ¬ x2 ≤ 20) : jTot tS mX6_reach d [.ref a0, .int x1, .int x2] V0 0 0 (fun r V => (fun r _ => ∃ y : Int32, r = some (.int y) ∧ ((-2147483648) ≤ y.toInt) ∧ (y.toInt ≤ 2147483647) ∧ (y.toInt = -2)) r V ∧ V = V0) := by
  refine jTot.of_J [some (.ref a0), some (.int x1), some (.int x2), none, none, none] moX6_reach (Nat.le_of_ble_eq_true rfl) rfl ?_
  have hrx1 := j_rng x1
  have hrx2 := j_rng x2
  have he : jeff [] V0 V0 := jeff.refl _ _
  refine J_aload_n dX6_reach_0 rfl ?_
  refine J_iload_n dX6_reach_1 rfl ?_
  refine J_iload_n dX6_reach_2 rfl ?_
  refine Jz_iconst 1 dX6_reach_3 (by decide) (fun y3 he3 => ?_)
  refine Jw_callV3 (q9 := (RX6, TX6, 7)) moX6_tallyFor jw_ml_X6_149 jw_im_X6_tallyFor jw_se_X6_tallyFor ha0 rfl rfl dX6_reach_4 (w_X6_tallyFor_bad (d - 1) _ _ _ _ _ (by omega) hW ha0 (by rw [(jI_inj.mp (he3.eq.trans rfl) : y3 = 1)]; exact hbad)) (by omega) (Nat.zero_le _) (Nat.zero_le _) (Nat.le_of_ble_eq_true rfl) (fun r4 V4 h4 => ?_)
  obtain ⟨rfl, hE4⟩ := h4
  have hE4 := hE4.symm
  subst hE4
  · refine J_astore_nN dX6_reach_7 rfl (by decide) ?_
    refine J_aload_nN dX6_reach_8 rfl ?_
    refine J_ifnullN (tgt := 23) dX6_reach_9 (by decide) ?_
    refine Jz_bipush (-2) dX6_reach_23 (by decide) (fun y23 he23 => ?_)
    exact J_ret (r := some (.int _)) dX6_reach_25 ⟨rfl, _, rfl, rfl⟩ (⟨⟨_, rfl, (j_rng _).1, (j_rng _).2, (by (try simp only [he23.eq, true_and, and_true]) <;> omega)⟩, rfl⟩)
