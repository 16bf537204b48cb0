set_option maxRecDepth 100000 in
set_option maxHeartbeats 8000000 in
theorem w_X0_square_z {tS : jTS} (d : Nat) (V0 : jH) (x0 : Int32) (x1 : Int32) (x2 : Int32) (x3 : Int32) (hd : 0 ≤ d)  (hp0 : -128 ≤ x1.toInt) (hp1 : x1.toInt ≤ 128) (hp2 : -128 ≤ x2.toInt) (hp3 : x2.toInt ≤ 128) (hp4 : -128 ≤ x3.toInt) (hp5 : x3.toInt ≤ 128) : jTot tS mX0_square d [.int x0, .int x1, .int x2, .int x3] V0 0 0 (fun r V => (fun r _ => ∃ y : Int32, r = some (.int y) ∧ ((-2147483648) ≤ y.toInt) ∧ (y.toInt ≤ 2147483647) ∧ (y.toInt = jsq x0.toInt x1.toInt x2.toInt x3.toInt)) r V ∧ V = V0) := by
  refine jTot.of_J [some (.int x0), some (.int x1), some (.int x2), some (.int x3), none] moX0_square (Nat.le_of_ble_eq_true rfl) rfl ?_
  have hrx0 := j_rng x0
  have hrx1 := j_rng x1
  have hrx2 := j_rng x2
  have hrx3 := j_rng x3
  have hm1 := jmul128 (x := x1.toInt) (y := x1.toInt) (by omega) (by omega)
  have hm2 := jmul128 (x := x2.toInt) (y := x2.toInt) (by omega) (by omega)
  have hm3 := jmul128 (x := x3.toInt) (y := x3.toInt) (by omega) (by omega)
  have hm4 := jmul128 (x := x1.toInt) (y := x2.toInt) (by omega) (by omega)
  refine J_iload_n dX0_square_0 rfl ?_
  refine J_iload_n dX0_square_1 rfl ?_
  refine Jz_imul jEq.rf jEq.rf dX0_square_2 (by omega) (by omega) (fun y2 he2 => ?_)
  refine J_iload_n dX0_square_3 rfl ?_
  refine J_iload_n dX0_square_4 rfl ?_
  refine Jz_imul jEq.rf jEq.rf dX0_square_5 (by omega) (by omega) (fun y5 he5 => ?_)
  refine Jz_iadd he2 he5 dX0_square_6 (by omega) (by omega) (fun y6 he6 => ?_)
  refine J_iload_n dX0_square_7 rfl ?_
  refine J_iload_n dX0_square_8 rfl ?_
  refine Jz_imul jEq.rf jEq.rf dX0_square_9 (by omega) (by omega) (fun y9 he9 => ?_)
  refine Jz_iadd he6 he9 dX0_square_10 (by omega) (by omega) (fun y10 he10 => ?_)
  refine J_istore dX0_square_11 rfl (by decide) ?_
  refine J_iload_n dX0_square_13 rfl ?_
  refine Jz_iconst 1 dX0_square_14 (by decide) (fun y14 he14 => ?_)
  refine Jz_icmp_ne (tgt := 27) jEq.rf he14 dX0_square_15 (by decide) (fun c15 => ?_) (fun c15 => ?_)
  · refine J_iload dX0_square_27 rfl ?_
    exact J_ret (r := some (.int _)) dX0_square_29 ⟨rfl, _, rfl, rfl⟩ (⟨⟨_, rfl, (j_rng _).1, (j_rng _).2, (by first | ((try simp only [he10.eq, true_and, and_true]) <;> omega) | ((try simp only [he10.eq]); unfold jsq; (repeat' split) <;> omega))⟩, rfl⟩)
  · refine J_iload dX0_square_18 rfl ?_
    refine J_iload_n dX0_square_20 rfl ?_
    refine J_iload_n dX0_square_21 rfl ?_
    refine Jz_imul jEq.rf jEq.rf dX0_square_22 (by omega) (by omega) (fun y22 he22 => ?_)
    refine Jz_iadd he10 he22 dX0_square_23 (by omega) (by omega) (fun y23 he23 => ?_)
    refine J_goto (tgt := 29) dX0_square_24 (by decide) ?_
    exact J_ret (r := some (.int _)) dX0_square_29 ⟨rfl, _, rfl, rfl⟩ (⟨⟨_, rfl, (j_rng _).1, (j_rng _).2, (by first | ((try simp only [he23.eq, true_and, and_true]) <;> omega) | ((try simp only [he23.eq]); unfold jsq; (repeat' split) <;> omega))⟩, rfl⟩)
