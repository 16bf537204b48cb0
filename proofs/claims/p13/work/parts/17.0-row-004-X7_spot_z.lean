set_option maxRecDepth 100000 in
set_option maxHeartbeats 8000000 in
theorem w_X7_spot_z {tS : jTS} (d : Nat) (V0 : jH) (x0 : Int32) (x1 : Int32) (x2 : Int32) (hd : 0 ≤ d)  (hp0 : -21 ≤ x0.toInt) (hp1 : x0.toInt ≤ 21) (hp2 : -21 ≤ x1.toInt) (hp3 : x1.toInt ≤ 21) (hp4 : -21 ≤ x2.toInt) (hp5 : x2.toInt ≤ 21) : jTot tS mX7_spot d [.int x0, .int x1, .int x2] V0 0 0 (fun r V => (fun r _ => ∃ y : Int32, r = some (.int y) ∧ ((-2147483648) ≤ y.toInt) ∧ (y.toInt ≤ 2147483647) ∧ (y.toInt = jspot (x0.toInt, x1.toInt, x2.toInt))) r V ∧ V = V0) := by
  refine jTot.of_J [some (.int x0), some (.int x1), some (.int x2)] moX7_spot (Nat.le_of_ble_eq_true rfl) rfl ?_
  have hrx0 := j_rng x0
  have hrx1 := j_rng x1
  have hrx2 := j_rng x2
  refine J_iload_n dX7_spot_0 rfl ?_
  refine Jz_bipush 21 dX7_spot_1 (by decide) (fun y1 he1 => ?_)
  refine Jz_iadd jEq.rf he1 dX7_spot_3 (by omega) (by omega) (fun y3 he3 => ?_)
  refine Jz_bipush 43 dX7_spot_4 (by decide) (fun y4 he4 => ?_)
  refine J_iload_n dX7_spot_6 rfl ?_
  refine Jz_bipush 21 dX7_spot_7 (by decide) (fun y7 he7 => ?_)
  refine Jz_iadd jEq.rf he7 dX7_spot_9 (by omega) (by omega) (fun y9 he9 => ?_)
  refine Jz_imul he4 he9 dX7_spot_10 (by omega) (by omega) (fun y10 he10 => ?_)
  refine Jz_iadd he3 he10 dX7_spot_11 (by omega) (by omega) (fun y11 he11 => ?_)
  refine Jz_sipush 1849 dX7_spot_12 (by decide) (fun y12 he12 => ?_)
  refine J_iload_n dX7_spot_15 rfl ?_
  refine Jz_bipush 21 dX7_spot_16 (by decide) (fun y16 he16 => ?_)
  refine Jz_iadd jEq.rf he16 dX7_spot_18 (by omega) (by omega) (fun y18 he18 => ?_)
  refine Jz_imul he12 he18 dX7_spot_19 (by omega) (by omega) (fun y19 he19 => ?_)
  refine Jz_iadd he11 he19 dX7_spot_20 (by omega) (by omega) (fun y20 he20 => ?_)
  exact J_ret (r := some (.int _)) dX7_spot_21 ⟨rfl, _, rfl, rfl⟩ (⟨⟨_, rfl, (j_rng _).1, (j_rng _).2, (by rw [he20.eq]; show _ = x0.toInt + 21 + 43 * (x1.toInt + 21) + 1849 * (x2.toInt + 21); omega)⟩, rfl⟩)
