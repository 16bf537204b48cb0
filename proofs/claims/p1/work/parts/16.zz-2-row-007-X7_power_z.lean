set_option maxRecDepth 100000 in
set_option maxHeartbeats 8000000 in
theorem w_X7_power_z {tS : jTS} (d : Nat) (V0 : jH) (x0 : Int32) (x1 : Int32) (hd : 0 ≤ d)  (hp0 : 3 ≤ x0.toInt) (hp1 : x0.toInt ≤ 6) (hp2 : 0 ≤ x1.toInt) (hp3 : x1.toInt ≤ 7) : jTot tS mX7_power d [.int x0, .int x1] V0 0 0 (fun r V => (fun r _ => ∃ y : Int32, r = some (.int y) ∧ ((-2147483648) ≤ y.toInt) ∧ (y.toInt ≤ 2147483647) ∧ (y.toInt = ((x0.toInt.toNat ^ x1.toInt.toNat : Nat) : Int))) r V ∧ V = V0) := by
  refine jTot.of_J [some (.int x0), some (.int x1), none, none] moX7_power (Nat.le_of_ble_eq_true rfl) rfl ?_
  have hrx0 := j_rng x0
  have hrx1 := j_rng x1
  refine Jz_iconst 1 dX7_power_0 (by decide) (fun y0 he0 => ?_)
  refine J_istore_n dX7_power_1 rfl (by decide) ?_
  refine Jz_iconst 0 dX7_power_2 (by decide) (fun y2 he2 => ?_)
  refine J_istore_n dX7_power_3 rfl (by decide) ?_
  have L4 : ∀ (N : Nat) (i2n4 : Int32) (i3n4 : Int32), (0 ≤ i3n4.toInt ∧ i3n4.toInt ≤ x1.toInt) → (i2n4.toInt = ((x0.toInt.toNat ^ i3n4.toInt.toNat : Nat) : Int)) → (300 - i3n4.toInt).toNat < N → J tS mX7_power d 4 [some (.int x0), some (.int x1), some (.int i2n4), some (.int i3n4)] [] V0 0 0 (fun r V => (fun r _ => ∃ y : Int32, r = some (.int y) ∧ ((-2147483648) ≤ y.toInt) ∧ (y.toInt ≤ 2147483647) ∧ (y.toInt = ((x0.toInt.toNat ^ x1.toInt.toNat : Nat) : Int))) r V ∧ V = V0) := by
    intro N
    induction N with
    | zero => intro i2n4 i3n4  hi3 hpw hm; exact absurd hm (Nat.not_lt_zero _)
    | succ N ih =>
      intro i2n4 i3n4  hi3 hpw hm
      have ih4 := ih
      have hri3 := j_rng i3n4
      refine J_iload_n dX7_power_4 rfl ?_
      refine J_iload_n dX7_power_5 rfl ?_
      refine Jz_icmp_ge (tgt := 19) jEq.rf jEq.rf dX7_power_6 (by decide) (fun c6 => ?_) (fun c6 => ?_)
      · refine J_iload_n dX7_power_19 rfl ?_
        exact J_ret (r := some (.int _)) dX7_power_20 ⟨rfl, _, rfl, rfl⟩ (⟨⟨_, rfl, (j_rng _).1, (j_rng _).2, (by rw [hpw, show i3n4.toInt.toNat = x1.toInt.toNat by omega])⟩, rfl⟩)
      · refine J_iload_n dX7_power_9 rfl ?_
        refine J_iload_n dX7_power_10 rfl ?_
        have hq1 : i2n4.toInt * x0.toInt = ((x0.toInt.toNat ^ (i3n4.toInt.toNat + 1) : Nat) : Int) := jpw_next hpw (by omega)
        have hq2 : x0.toInt.toNat ^ (i3n4.toInt.toNat + 1) ≤ 279936 := jpow7 (by omega) (by omega)
        have hq3 : 0 ≤ i2n4.toInt * x0.toInt ∧ i2n4.toInt * x0.toInt ≤ 279936 := by rw [hq1]; exact ⟨Int.natCast_nonneg _, by omega⟩
        refine Jz_imul jEq.rf jEq.rf dX7_power_11 (by omega) (by omega) (fun y11 he11 => ?_)
        refine J_istore_n dX7_power_12 rfl (by decide) ?_
        refine Jz_iinc 1 dX7_power_13 rfl rfl (by decide) jEq.rf (by decide) (by omega) (by omega) (fun y13 he13 => ?_)
        refine J_goto (tgt := 4) dX7_power_16 (by decide) ?_
        refine J.mask [true, true, true, true] ?_
        exact ih4  y11 y13  (by (try simp only [he11.eq, he13.eq, true_and, and_true]) <;> omega) (by rw [he11.eq, hq1, he13.eq, show (i3n4.toInt + 1).toNat = i3n4.toInt.toNat + 1 by omega]) (by (try simp only [he11.eq, he13.eq, true_and, and_true]) <;> omega)
  refine J.mask [true, true, true, true] ?_
  exact L4 _  y0 y2    (by (try simp only [he0.eq, he2.eq, true_and, and_true]) <;> omega) (by rw [he0.eq, he2.eq]; rfl) (Nat.lt_succ_self _)
