set_option maxRecDepth 100000 in
set_option maxHeartbeats 8000000 in
theorem w_X4_cellOf_z {tS : jTS} (d : Nat) (V0 : jH) (a0 : Nat) (x1 : Int32) (x2 : Int32) (x3 : Int32) (g : Int32) (R : Int32) (sd : Int32) (hd : 0 ≤ d) (hW : WT V0) (ha0 : jis V0 (.inr 2) a0) (hf_g : jfI V0 a0 2 0 g) (hf_R : jfI V0 a0 2 1 R) (hf_sd : jfI V0 a0 2 2 sd) (hp0 : 0 ≤ g.toInt) (hp1 : g.toInt ≤ 3) (hp2 : R.toInt = jRg g.toInt) (hp3 : sd.toInt = 2 * jRg g.toInt + 1) (hp4 : -jRg g.toInt ≤ x1.toInt) (hp5 : x1.toInt ≤ jRg g.toInt) (hp6 : -jRg g.toInt ≤ x2.toInt) (hp7 : x2.toInt ≤ jRg g.toInt) (hp8 : -jRg g.toInt ≤ x3.toInt) (hp9 : x3.toInt ≤ jRg g.toInt) : jTot tS mX4_cellOf d [.ref a0, .int x1, .int x2, .int x3] V0 0 0 (fun r V => (fun r _ => ∃ y : Int32, r = some (.int y) ∧ ((-2147483648) ≤ y.toInt) ∧ (y.toInt ≤ 2147483647) ∧ (y.toInt = jcell g.toInt (x1.toInt, x2.toInt, x3.toInt))) r V ∧ V = V0) := by
  refine jTot.of_J [some (.ref a0), some (.int x1), some (.int x2), some (.int x3), none] moX4_cellOf (Nat.le_of_ble_eq_true rfl) rfl ?_
  have hrx1 := j_rng x1
  have hrx2 := j_rng x2
  have hrx3 := j_rng x3
  have he : jeff [] V0 V0 := jeff.refl _ _
  obtain ⟨fs_a0, hO_a0, hK_a0⟩ := WT_obj hW id ha0
  have hF_g := hf_g.get hO_a0
  have hrg : (-2147483648) ≤ g.toInt ∧ g.toInt ≤ 2147483647 := jok_rngI hK_a0 rfl hF_g
  have hF_R := hf_R.get hO_a0
  have hrR : 0 ≤ R.toInt ∧ R.toInt ≤ 20 := jok_rngI hK_a0 rfl hF_R
  have hF_sd := hf_sd.get hO_a0
  have hrsd : (-2147483648) ≤ sd.toInt ∧ sd.toInt ≤ 2147483647 := jok_rngI hK_a0 rfl hF_sd
  have hjR := jRg_cases g.toInt
  refine J_iload_n dX4_cellOf_0 rfl ?_
  refine J_aload_n dX4_cellOf_1 rfl ?_
  refine J_get jf_X4_48 dX4_cellOf_2 hO_a0 hF_R ?_
  refine Jz_iadd jEq.rf jEq.rf dX4_cellOf_5 (by omega) (by omega) (fun y5 he5 => ?_)
  refine J_aload_n dX4_cellOf_6 rfl ?_
  refine J_get jf_X4_51 dX4_cellOf_7 hO_a0 hF_sd ?_
  refine J_iload_n dX4_cellOf_10 rfl ?_
  refine J_aload_n dX4_cellOf_11 rfl ?_
  refine J_get jf_X4_48 dX4_cellOf_12 hO_a0 hF_R ?_
  refine Jz_iadd jEq.rf jEq.rf dX4_cellOf_15 (by omega) (by omega) (fun y15 he15 => ?_)
  have hm1 : sd.toInt = 41 → sd.toInt * (x2.toInt + R.toInt) = 41 * (x2.toInt + R.toInt) := fun h => by rw [h]
  have hm2 : sd.toInt = 25 → sd.toInt * (x2.toInt + R.toInt) = 25 * (x2.toInt + R.toInt) := fun h => by rw [h]
  refine Jz_imul jEq.rf he15 dX4_cellOf_16 (by omega) (by omega) (fun y16 he16 => ?_)
  refine Jz_iadd he5 he16 dX4_cellOf_17 (by omega) (by omega) (fun y17 he17 => ?_)
  refine J_istore dX4_cellOf_18 rfl (by decide) ?_
  refine J_aload_n dX4_cellOf_20 rfl ?_
  refine J_get jf_X4_45 dX4_cellOf_21 hO_a0 hF_g ?_
  refine Jz_iconst 3 dX4_cellOf_24 (by decide) (fun y24 he24 => ?_)
  refine Jz_icmp_ne (tgt := 50) jEq.rf he24 dX4_cellOf_25 (by decide) (fun c25 => ?_) (fun c25 => ?_)
  · refine J_iload dX4_cellOf_50 rfl ?_
    exact J_ret (r := some (.int _)) dX4_cellOf_52 ⟨rfl, _, rfl, rfl⟩ (⟨⟨_, rfl, (j_rng _).1, (j_rng _).2, (by first | (have e9 : g.toInt = 3 := (by omega); rw [jcell_3 e9, he46.eq]; (show _ = x1.toInt + 12 + 25 * (x2.toInt + 12) + 625 * (x3.toInt + 12)); omega) | (have e9 : ¬ g.toInt = 3 := (by omega); rw [jcell_n e9, he17.eq]; (show _ = x1.toInt + 20 + 41 * (x2.toInt + 20)); omega))⟩, rfl⟩)
  · refine J_iload dX4_cellOf_28 rfl ?_
    refine J_aload_n dX4_cellOf_30 rfl ?_
    refine J_get jf_X4_51 dX4_cellOf_31 hO_a0 hF_sd ?_
    refine J_aload_n dX4_cellOf_34 rfl ?_
    refine J_get jf_X4_51 dX4_cellOf_35 hO_a0 hF_sd ?_
    have hm3 : sd.toInt = 25 → sd.toInt * sd.toInt = 625 := fun h => by rw [h]; rfl
    have hm4 : sd.toInt = 25 → sd.toInt * sd.toInt * (x3.toInt + R.toInt) = 625 * (x3.toInt + R.toInt) := fun h => by rw [h]; rfl
    refine Jz_imul jEq.rf jEq.rf dX4_cellOf_38 (by omega) (by omega) (fun y38 he38 => ?_)
    refine J_iload_n dX4_cellOf_39 rfl ?_
    refine J_aload_n dX4_cellOf_40 rfl ?_
    refine J_get jf_X4_48 dX4_cellOf_41 hO_a0 hF_R ?_
    refine Jz_iadd jEq.rf jEq.rf dX4_cellOf_44 (by omega) (by omega) (fun y44 he44 => ?_)
    refine Jz_imul he38 he44 dX4_cellOf_45 (by omega) (by omega) (fun y45 he45 => ?_)
    refine Jz_iadd he17 he45 dX4_cellOf_46 (by omega) (by omega) (fun y46 he46 => ?_)
    refine J_goto (tgt := 52) dX4_cellOf_47 (by decide) ?_
    exact J_ret (r := some (.int _)) dX4_cellOf_52 ⟨rfl, _, rfl, rfl⟩ (⟨⟨_, rfl, (j_rng _).1, (j_rng _).2, (by first | (have e9 : g.toInt = 3 := (by omega); rw [jcell_3 e9, he46.eq]; (show _ = x1.toInt + 12 + 25 * (x2.toInt + 12) + 625 * (x3.toInt + 12)); omega) | (have e9 : ¬ g.toInt = 3 := (by omega); rw [jcell_n e9, he17.eq]; (show _ = x1.toInt + 20 + 41 * (x2.toInt + 20)); omega))⟩, rfl⟩)
