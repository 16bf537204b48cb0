set_option maxRecDepth 100000 in
set_option maxHeartbeats 8000000 in
theorem w_X0_square_z {tS : jTS} (d : Nat) (V0 : jH) (x0 : Int32) (x1 : Int32) (x2 : Int32) (x3 : Int32) (hd : 0 ≤ d)  (hp0 : -128 ≤ x1.toInt) (hp1 : x1.toInt ≤ 128) (hp2 : -128 ≤ x2.toInt) (hp3 : x2.toInt ≤ 128) (hp4 : -128 ≤ x3.toInt) (hp5 : x3.toInt ≤ 128) : jTot tS mX0_square d [.int x0, .int x1, .int x2, .int x3] V0 0 0 (fun r V => (fun r _ => ∃ y : Int32, r = some (.int y) ∧ ((-2147483648) ≤ y.toInt) ∧ (y.toInt ≤ 2147483647) ∧ (y.toInt = jsq x0.toInt x1.toInt x2.toInt x3.toInt)) r V ∧ V = V0) := by
  refine jTot.of_J [some (.int x0), some (.int x1), some (.int x2), some (.int x3), none] moX0_square (Nat.le_of_ble_eq_true rfl) rfl ?_
  have hrx0 := j_rng x0
  have hrx1 := j_rng x1
  have hrx2 := j_rng x2
  have hrx3 := j_rng x3
  have hm1 := jmul128 (x := x1.toInt) (y := x1.toInt) (by omega) (by omega)
  have hm2 := jmul128 (x := x2.toInt) (y := x2.toInt) (by omega) (by omega)
  have hm3 := jmul128 (x := x3.toInt) (y := x3.toInt) (by omega) (by omega)
  have hm4 := jmul128 (x := x1.toInt) (y := x2.toInt) (by omega) (by omega)
  refine J_iload_n dX0_square_0 rfl ?_
  refine J_iload_n dX0_square_1 rfl ?_
  refine Jz_imul jEq.rf jEq.rf dX0_square_2 (by omega) (by omega) (fun y2 he2 => ?_)
  refine J_iload_n dX0_square_3 rfl ?_
  refine J_iload_n dX0_square_4 rfl ?_
  refine Jz_imul jEq.rf jEq.rf dX0_square_5 (by omega) (by omega) (fun y5 he5 => ?_)
  refine Jz_iadd he2 he5 dX0_square_6 (by omega) (by omega) (fun y6 he6 => ?_)
  refine J_iload_n dX0_square_7 rfl ?_
  refine J_iload_n dX0_square_8 rfl ?_
  refine Jz_imul jEq.rf jEq.rf dX0_square_9 (by omega) (by omega) (fun y9 he9 => ?_)
  refine Jz_iadd he6 he9 dX0_square_10 (by omega) (by omega) (fun y10 he10 => ?_)
  refine J_istore dX0_square_11 rfl (by decide) ?_
  refine J_iload_n dX0_square_13 rfl ?_
  refine Jz_iconst 1 dX0_square_14 (by decide) (fun y14 he14 => ?_)
  refine Jz_icmp_ne (tgt := 27) jEq.rf he14 dX0_square_15 (by decide) (fun c15 => ?_) (fun c15 => ?_)
  · refine J_iload dX0_square_27 rfl ?_
    exact J_ret (r := some (.int _)) dX0_square_29 ⟨rfl, _, rfl, rfl⟩ (⟨⟨_, rfl, (j_rng _).1, (j_rng _).2, (by first | ((try simp only [he10.eq, true_and, and_true]) <;> omega) | ((try simp only [he10.eq]); unfold jsq; (repeat' split) <;> omega))⟩, rfl⟩)
  · refine J_iload dX0_square_18 rfl ?_
    refine J_iload_n dX0_square_20 rfl ?_
    refine J_iload_n dX0_square_21 rfl ?_
    refine Jz_imul jEq.rf jEq.rf dX0_square_22 (by omega) (by omega) (fun y22 he22 => ?_)
    refine Jz_iadd he10 he22 dX0_square_23 (by omega) (by omega) (fun y23 he23 => ?_)
    refine J_goto (tgt := 29) dX0_square_24 (by decide) ?_
    exact J_ret (r := some (.int _)) dX0_square_29 ⟨rfl, _, rfl, rfl⟩ (⟨⟨_, rfl, (j_rng _).1, (j_rng _).2, (by first | ((try simp only [he23.eq, true_and, and_true]) <;> omega) | ((try simp only [he23.eq]); unfold jsq; (repeat' split) <;> omega))⟩, rfl⟩)
set_option maxRecDepth 100000 in
set_option maxHeartbeats 8000000 in
theorem w_X7_square_z {tS : jTS} (d : Nat) (V0 : jH) (x0 : Int32) (x1 : Int32) (x2 : Int32) (x3 : Int32) (hd : 0 ≤ d)  (hp0 : -128 ≤ x1.toInt) (hp1 : x1.toInt ≤ 128) (hp2 : -128 ≤ x2.toInt) (hp3 : x2.toInt ≤ 128) (hp4 : -128 ≤ x3.toInt) (hp5 : x3.toInt ≤ 128) : jTot tS mX7_square d [.int x0, .int x1, .int x2, .int x3] V0 0 0 (fun r V => (fun r _ => ∃ y : Int32, r = some (.int y) ∧ ((-2147483648) ≤ y.toInt) ∧ (y.toInt ≤ 2147483647) ∧ (y.toInt = jsq x0.toInt x1.toInt x2.toInt x3.toInt)) r V ∧ V = V0) := by
  refine jTot.of_J [some (.int x0), some (.int x1), some (.int x2), some (.int x3)] moX7_square (Nat.le_of_ble_eq_true rfl) rfl ?_
  have hrx0 := j_rng x0
  have hrx1 := j_rng x1
  have hrx2 := j_rng x2
  have hrx3 := j_rng x3
  have hm1 := jmul128 (x := x1.toInt) (y := x1.toInt) (by omega) (by omega)
  have hm2 := jmul128 (x := x2.toInt) (y := x2.toInt) (by omega) (by omega)
  have hm3 := jmul128 (x := x3.toInt) (y := x3.toInt) (by omega) (by omega)
  have hm4 := jmul128 (x := x1.toInt) (y := x2.toInt) (by omega) (by omega)
  refine J_iload_n dX7_square_0 rfl ?_
  refine J_iload_n dX7_square_1 rfl ?_
  refine Jz_imul jEq.rf jEq.rf dX7_square_2 (by omega) (by omega) (fun y2 he2 => ?_)
  refine J_iload_n dX7_square_3 rfl ?_
  refine J_iload_n dX7_square_4 rfl ?_
  refine Jz_imul jEq.rf jEq.rf dX7_square_5 (by omega) (by omega) (fun y5 he5 => ?_)
  refine Jz_iadd he2 he5 dX7_square_6 (by omega) (by omega) (fun y6 he6 => ?_)
  refine J_iload_n dX7_square_7 rfl ?_
  refine J_iload_n dX7_square_8 rfl ?_
  refine Jz_imul jEq.rf jEq.rf dX7_square_9 (by omega) (by omega) (fun y9 he9 => ?_)
  refine Jz_iadd he6 he9 dX7_square_10 (by omega) (by omega) (fun y10 he10 => ?_)
  refine J_iload_n dX7_square_11 rfl ?_
  refine Jz_iconst 1 dX7_square_12 (by decide) (fun y12 he12 => ?_)
  refine Jz_icmp_ne (tgt := 22) jEq.rf he12 dX7_square_13 (by decide) (fun c13 => ?_) (fun c13 => ?_)
  · refine Jz_iconst 0 dX7_square_22 (by decide) (fun y22 he22 => ?_)
    refine Jz_iadd he10 he22 dX7_square_23 (by omega) (by omega) (fun y23 he23 => ?_)
    exact J_ret (r := some (.int _)) dX7_square_24 ⟨rfl, _, rfl, rfl⟩ (⟨⟨_, rfl, (j_rng _).1, (j_rng _).2, (by first | ((try simp only [he23.eq, true_and, and_true]) <;> omega) | ((try simp only [he23.eq]); unfold jsq; (repeat' split) <;> omega))⟩, rfl⟩)
  · refine J_iload_n dX7_square_16 rfl ?_
    refine J_iload_n dX7_square_17 rfl ?_
    refine Jz_imul jEq.rf jEq.rf dX7_square_18 (by omega) (by omega) (fun y18 he18 => ?_)
    refine J_goto (tgt := 23) dX7_square_19 (by decide) ?_
    refine Jz_iadd he10 he18 dX7_square_23 (by omega) (by omega) (fun y23 he23 => ?_)
    exact J_ret (r := some (.int _)) dX7_square_24 ⟨rfl, _, rfl, rfl⟩ (⟨⟨_, rfl, (j_rng _).1, (j_rng _).2, (by first | ((try simp only [he23.eq, true_and, and_true]) <;> omega) | ((try simp only [he23.eq]); unfold jsq; (repeat' split) <;> omega))⟩, rfl⟩)
set_option maxRecDepth 100000 in
set_option maxHeartbeats 8000000 in
theorem w_X0_isBesideBeginning_z {tS : jTS} (d : Nat) (V0 : jH) (x0 : Int32) (x1 : Int32) (x2 : Int32) (x3 : Int32) (hd : 1 ≤ d)  (hp0 : -128 ≤ x1.toInt) (hp1 : x1.toInt ≤ 128) (hp2 : -128 ≤ x2.toInt) (hp3 : x2.toInt ≤ 128) (hp4 : -128 ≤ x3.toInt) (hp5 : x3.toInt ≤ 128) : jTot tS mX0_isBesideBeginning d [.int x0, .int x1, .int x2, .int x3] V0 0 0 (fun r V => (fun r _ => ∃ y : Int32, r = some (.int y) ∧ (0 ≤ y.toInt) ∧ (y.toInt ≤ 1) ∧ ((y.toInt = 1 ∧ (jsq x0.toInt x1.toInt x2.toInt x3.toInt = 1 ∧ (¬ x0.toInt = 2 ∨ 0 ≤ x2.toInt))) ∨ (y.toInt = 0 ∧ ¬ (jsq x0.toInt x1.toInt x2.toInt x3.toInt = 1 ∧ (¬ x0.toInt = 2 ∨ 0 ≤ x2.toInt))))) r V ∧ V = V0) := by
  refine jTot.of_J [some (.int x0), some (.int x1), some (.int x2), some (.int x3)] moX0_isBesideBeginning (Nat.le_of_ble_eq_true rfl) rfl ?_
  have hrx0 := j_rng x0
  have hrx1 := j_rng x1
  have hrx2 := j_rng x2
  have hrx3 := j_rng x3
  refine J_iload_n dX0_isBesideBeginning_0 rfl ?_
  refine J_iload_n dX0_isBesideBeginning_1 rfl ?_
  refine J_iload_n dX0_isBesideBeginning_2 rfl ?_
  refine J_iload_n dX0_isBesideBeginning_3 rfl ?_
  refine J_callS4 moX0_square jw_ml_X0_36 jw_st_X0_square dX0_isBesideBeginning_4 (w_X0_square_z (d - 1) _ x0 x1 x2 x3 (by omega)   (by omega) (by omega) (by omega) (by omega) (by omega) (by omega)) (by omega) (Nat.zero_le _) (Nat.zero_le _) (Nat.le_of_ble_eq_true rfl) (fun r4 V4 h4 => ?_)
  obtain ⟨⟨y4, rfl, hl4, hh4, hP4_0⟩, hE4⟩ := h4
  have hE4 := hE4.symm
  subst hE4
  clear hl4 hh4
  have hz4 : jEq y4.toInt (jsq (x0.toInt) (x1.toInt) (x2.toInt) (x3.toInt)) := hP4_0
  clear hP4_0
  refine Jz_iconst 1 dX0_isBesideBeginning_7 (by decide) (fun y7 he7 => ?_)
  refine Jz_icmp_ne (tgt := 24) hz4 he7 dX0_isBesideBeginning_8 (by decide) (fun c8 => ?_) (fun c8 => ?_)
  · refine Jz_iconst 0 dX0_isBesideBeginning_24 (by decide) (fun y24 he24 => ?_)
    exact J_ret (r := some (.int _)) dX0_isBesideBeginning_25 ⟨rfl, _, rfl, (nar_b (by (try simp only [he24.eq, true_and, and_true]) <;> omega) (by (try simp only [he24.eq, true_and, and_true]) <;> omega))⟩ (⟨⟨_, rfl, (by (try simp only [he24.eq, true_and, and_true]) <;> omega), (by (try simp only [he24.eq, true_and, and_true]) <;> omega), (by (try simp only [he24.eq, true_and, and_true]) <;> omega)⟩, rfl⟩)
  · refine J_iload_n dX0_isBesideBeginning_11 rfl ?_
    refine Jz_iconst 2 dX0_isBesideBeginning_12 (by decide) (fun y12 he12 => ?_)
    refine Jz_icmp_ne (tgt := 20) jEq.rf he12 dX0_isBesideBeginning_13 (by decide) (fun c13 => ?_) (fun c13 => ?_)
    · refine Jz_iconst 1 dX0_isBesideBeginning_20 (by decide) (fun y20 he20 => ?_)
      refine J_goto (tgt := 25) dX0_isBesideBeginning_21 (by decide) ?_
      exact J_ret (r := some (.int _)) dX0_isBesideBeginning_25 ⟨rfl, _, rfl, (nar_b (by (try simp only [he20.eq, true_and, and_true]) <;> omega) (by (try simp only [he20.eq, true_and, and_true]) <;> omega))⟩ (⟨⟨_, rfl, (by (try simp only [he20.eq, true_and, and_true]) <;> omega), (by (try simp only [he20.eq, true_and, and_true]) <;> omega), (by (try simp only [he20.eq, true_and, and_true]) <;> omega)⟩, rfl⟩)
    · refine J_iload_n dX0_isBesideBeginning_16 rfl ?_
      refine Jz_if_lt (tgt := 24) jEq.rf dX0_isBesideBeginning_17 (by decide) (fun c17 => ?_) (fun c17 => ?_)
      · refine Jz_iconst 0 dX0_isBesideBeginning_24 (by decide) (fun y24 he24 => ?_)
        exact J_ret (r := some (.int _)) dX0_isBesideBeginning_25 ⟨rfl, _, rfl, (nar_b (by (try simp only [he24.eq, true_and, and_true]) <;> omega) (by (try simp only [he24.eq, true_and, and_true]) <;> omega))⟩ (⟨⟨_, rfl, (by (try simp only [he24.eq, true_and, and_true]) <;> omega), (by (try simp only [he24.eq, true_and, and_true]) <;> omega), (by (try simp only [he24.eq, true_and, and_true]) <;> omega)⟩, rfl⟩)
      · refine Jz_iconst 1 dX0_isBesideBeginning_20 (by decide) (fun y20 he20 => ?_)
        refine J_goto (tgt := 25) dX0_isBesideBeginning_21 (by decide) ?_
        exact J_ret (r := some (.int _)) dX0_isBesideBeginning_25 ⟨rfl, _, rfl, (nar_b (by (try simp only [he20.eq, true_and, and_true]) <;> omega) (by (try simp only [he20.eq, true_and, and_true]) <;> omega))⟩ (⟨⟨_, rfl, (by (try simp only [he20.eq, true_and, and_true]) <;> omega), (by (try simp only [he20.eq, true_and, and_true]) <;> omega), (by (try simp only [he20.eq, true_and, and_true]) <;> omega)⟩, rfl⟩)
set_option maxRecDepth 100000 in
set_option maxHeartbeats 8000000 in
theorem w_X3_isRing_z {tS : jTS} (d : Nat) (V0 : jH) {ln : Nat} (a0 : Nat) (M : Int32) (g : Int32) (n : Int32) (s : Nat) (xx : Nat) (yy : Nat) (zz : Nat) (S : Nat → Int32) (X : Nat → Int32) (Y : Nat → Int32) (Z : Nat → Int32) (hd : 2 ≤ d) (hW : WT V0) (ha0 : jis V0 (.inr 1) a0) (hf_M : jfI V0 a0 1 0 M) (hf_g : jfI V0 a0 1 5 g) (hf_n : jfI V0 a0 1 6 n) (hr_s : jfR V0 a0 1 1 s) (hr_xx : jfR V0 a0 1 2 xx) (hr_yy : jfR V0 a0 1 3 yy) (hr_zz : jfR V0 a0 1 4 zz) (ha_S : V0 s = some (.inl (6, ln, .inl S))) (ha_X : V0 xx = some (.inl (34, ln + 1, .inl X))) (ha_Y : V0 yy = some (.inl (35, ln + 1, .inl Y))) (ha_Z : V0 zz = some (.inl (36, ln + 1, .inl Z))) (hp0 : M.toInt = (ln : Int)) (hp1 : (ln : Int) ≤ 120) (hp2 : n.toInt ≤ M.toInt) (hp3 : -120 ≤ (X n.toInt.toNat).toInt) (hp4 : (X n.toInt.toNat).toInt ≤ 120) (hp5 : -120 ≤ (Y n.toInt.toNat).toInt) (hp6 : (Y n.toInt.toNat).toInt ≤ 120) (hp7 : -120 ≤ (Z n.toInt.toNat).toInt) (hp8 : (Z n.toInt.toNat).toInt ≤ 120) : jTot tS mX3_isRing d [.ref a0] V0 0 0 (fun r V => (fun r _ => ∃ y : Int32, r = some (.int y) ∧ (0 ≤ y.toInt) ∧ (y.toInt ≤ 1) ∧ ((y.toInt = 1 ∧ (2 ≤ n.toInt ∧ jsq g.toInt (X n.toInt.toNat).toInt (Y n.toInt.toNat).toInt (Z n.toInt.toNat).toInt = 1 ∧ (¬ g.toInt = 2 ∨ 0 ≤ (Y n.toInt.toNat).toInt))) ∨ (y.toInt = 0 ∧ ¬ (2 ≤ n.toInt ∧ jsq g.toInt (X n.toInt.toNat).toInt (Y n.toInt.toNat).toInt (Z n.toInt.toNat).toInt = 1 ∧ (¬ g.toInt = 2 ∨ 0 ≤ (Y n.toInt.toNat).toInt))))) r V ∧ V = V0) := by
  refine jTot.of_J [some (.ref a0)] moX3_isRing (Nat.le_of_ble_eq_true rfl) rfl ?_
  have he : jeff [] V0 V0 := jeff.refl _ _
  obtain ⟨fs_a0, hO_a0, hK_a0⟩ := WT_obj hW id ha0
  have hF_M := hf_M.get hO_a0
  have hrM : 0 ≤ M.toInt ∧ M.toInt ≤ 120 := jok_rngI hK_a0 rfl hF_M
  have hF_g := hf_g.get hO_a0
  have hrg : (-2147483648) ≤ g.toInt ∧ g.toInt ≤ 2147483647 := jok_rngI hK_a0 rfl hF_g
  have hF_n := hf_n.get hO_a0
  have hrn : 0 ≤ n.toInt ∧ n.toInt ≤ 120 := jok_rngI hK_a0 rfl hF_n
  have hF_s := hr_s.get hO_a0
  obtain ⟨w_s, hFq_s, b_s, hbq_s, hb_s⟩ := hK_a0.2 1 (.inr (some (.inl 6))) rfl
  cases hF_s.symm.trans (hFq_s.trans (congrArg some hbq_s))
  have hF_xx := hr_xx.get hO_a0
  obtain ⟨w_xx, hFq_xx, b_xx, hbq_xx, hb_xx⟩ := hK_a0.2 2 (.inr (some (.inl 34))) rfl
  cases hF_xx.symm.trans (hFq_xx.trans (congrArg some hbq_xx))
  have hF_yy := hr_yy.get hO_a0
  obtain ⟨w_yy, hFq_yy, b_yy, hbq_yy, hb_yy⟩ := hK_a0.2 3 (.inr (some (.inl 35))) rfl
  cases hF_yy.symm.trans (hFq_yy.trans (congrArg some hbq_yy))
  have hF_zz := hr_zz.get hO_a0
  obtain ⟨w_zz, hFq_zz, b_zz, hbq_zz, hb_zz⟩ := hK_a0.2 4 (.inr (some (.inl 36))) rfl
  cases hF_zz.symm.trans (hFq_zz.trans (congrArg some hbq_zz))
  obtain ⟨hN_S, hv_S⟩ := WT_rngI (r := ((-2147483648), 2147483647)) hW id rfl ha_S
  clear hN_S
  obtain ⟨hN_X, hv_X⟩ := WT_rngI (r := ((-2147483648), 2147483647)) hW id rfl ha_X
  clear hN_X
  obtain ⟨hN_Y, hv_Y⟩ := WT_rngI (r := ((-2147483648), 2147483647)) hW id rfl ha_Y
  clear hN_Y
  obtain ⟨hN_Z, hv_Z⟩ := WT_rngI (r := ((-2147483648), 2147483647)) hW id rfl ha_Z
  clear hN_Z
  refine J_aload_n dX3_isRing_0 rfl ?_
  refine J_get jf_X3_15 dX3_isRing_1 hO_a0 hF_n ?_
  refine Jz_iconst 2 dX3_isRing_4 (by decide) (fun y4 he4 => ?_)
  refine Jz_icmp_lt (tgt := 34) jEq.rf he4 dX3_isRing_5 (by decide) (fun c5 => ?_) (fun c5 => ?_)
  · refine Jz_iconst 0 dX3_isRing_34 (by decide) (fun y34 he34 => ?_)
    exact J_ret (r := some (.int _)) dX3_isRing_35 ⟨rfl, _, rfl, (nar_b (by (try simp only [he34.eq, true_and, and_true]) <;> omega) (by (try simp only [he34.eq, true_and, and_true]) <;> omega))⟩ (⟨⟨_, rfl, (by (try simp only [he34.eq, true_and, and_true]) <;> omega), (by (try simp only [he34.eq, true_and, and_true]) <;> omega), (by (try simp only [he34.eq, true_and, and_true]) <;> omega)⟩, rfl⟩)
  · refine J_aload_n dX3_isRing_8 rfl ?_
    refine J_get jf_X3_9 dX3_isRing_9 hO_a0 hF_g ?_
    refine J_aload_n dX3_isRing_12 rfl ?_
    refine Jw_callV0 (q9 := (RX3, TX3, 7)) moX3_endX jw_ml_X3_47 jw_im_X3_endX jw_se_X3_endX ha0 rfl rfl dX3_isRing_13 (w_X3_endX_z (d - 1) _ a0 M g n s xx yy zz S X Y Z (by omega) hW  ha0 ⟨_, hO_a0, hF_M⟩ ⟨_, hO_a0, hF_g⟩ ⟨_, hO_a0, hF_n⟩ ⟨_, hO_a0, hF_s⟩ ⟨_, hO_a0, hF_xx⟩ ⟨_, hO_a0, hF_yy⟩ ⟨_, hO_a0, hF_zz⟩ ha_S ha_X ha_Y ha_Z (by omega) (by omega) (by omega)) (by omega) (Nat.zero_le _) (Nat.zero_le _) (Nat.le_of_ble_eq_true rfl) (fun r13 V13 h13 => ?_)
    obtain ⟨⟨y13, rfl, hl13, hh13, hP13_0⟩, hE13⟩ := h13
    have hE13 := hE13.symm
    subst hE13
    clear hl13 hh13
    have hz13 : jEq y13.toInt ((X (n.toInt).toNat).toInt) := hP13_0
    clear hP13_0
    refine J_aload_n dX3_isRing_16 rfl ?_
    refine Jw_callV0 (q9 := (RX3, TX3, 7)) moX3_endY jw_ml_X3_56 jw_im_X3_endY jw_se_X3_endY ha0 rfl rfl dX3_isRing_17 (w_X3_endY_z (d - 1) _ a0 M g n s xx yy zz S X Y Z (by omega) hW  ha0 ⟨_, hO_a0, hF_M⟩ ⟨_, hO_a0, hF_g⟩ ⟨_, hO_a0, hF_n⟩ ⟨_, hO_a0, hF_s⟩ ⟨_, hO_a0, hF_xx⟩ ⟨_, hO_a0, hF_yy⟩ ⟨_, hO_a0, hF_zz⟩ ha_S ha_X ha_Y ha_Z (by omega) (by omega) (by omega)) (by omega) (Nat.zero_le _) (Nat.zero_le _) (Nat.le_of_ble_eq_true rfl) (fun r17 V17 h17 => ?_)
    obtain ⟨⟨y17, rfl, hl17, hh17, hP17_0⟩, hE17⟩ := h17
    have hE17 := hE17.symm
    subst hE17
    clear hl17 hh17
    have hz17 : jEq y17.toInt ((Y (n.toInt).toNat).toInt) := hP17_0
    clear hP17_0
    refine J_aload_n dX3_isRing_20 rfl ?_
    refine Jw_callV0 (q9 := (RX3, TX3, 7)) moX3_endZ jw_ml_X3_63 jw_im_X3_endZ jw_se_X3_endZ ha0 rfl rfl dX3_isRing_21 (w_X3_endZ_z (d - 1) _ a0 M g n s xx yy zz S X Y Z (by omega) hW  ha0 ⟨_, hO_a0, hF_M⟩ ⟨_, hO_a0, hF_g⟩ ⟨_, hO_a0, hF_n⟩ ⟨_, hO_a0, hF_s⟩ ⟨_, hO_a0, hF_xx⟩ ⟨_, hO_a0, hF_yy⟩ ⟨_, hO_a0, hF_zz⟩ ha_S ha_X ha_Y ha_Z (by omega) (by omega) (by omega)) (by omega) (Nat.zero_le _) (Nat.zero_le _) (Nat.le_of_ble_eq_true rfl) (fun r21 V21 h21 => ?_)
    obtain ⟨⟨y21, rfl, hl21, hh21, hP21_0⟩, hE21⟩ := h21
    have hE21 := hE21.symm
    subst hE21
    clear hl21 hh21
    have hz21 : jEq y21.toInt ((Z (n.toInt).toNat).toInt) := hP21_0
    clear hP21_0
    refine J_callS4 moX0_isBesideBeginning jw_ml_X3_81 jw_st_X0_isBesideBeginning dX3_isRing_24 (w_X0_isBesideBeginning_z (d - 1) _ g y13 y17 y21 (by omega)   (by (try simp only [hz13.eq, true_and, and_true]) <;> omega) (by (try simp only [hz13.eq, true_and, and_true]) <;> omega) (by (try simp only [hz17.eq, true_and, and_true]) <;> omega) (by (try simp only [hz17.eq, true_and, and_true]) <;> omega) (by (try simp only [hz21.eq, true_and, and_true]) <;> omega) (by (try simp only [hz21.eq, true_and, and_true]) <;> omega)) (by omega) (Nat.zero_le _) (Nat.zero_le _) (Nat.le_of_ble_eq_true rfl) (fun r24 V24 h24 => ?_)
    obtain ⟨⟨y24, rfl, hl24, hh24, hP24_0⟩, hE24⟩ := h24
    have hE24 := hE24.symm
    subst hE24
    try simp only [hz13.eq, hz17.eq, hz21.eq] at hP24_0
    refine Jz_if_eq (tgt := 34) jEq.rf dX3_isRing_27 (by decide) (fun c27 => ?_) (fun c27 => ?_)
    · refine Jz_iconst 0 dX3_isRing_34 (by decide) (fun y34 he34 => ?_)
      exact J_ret (r := some (.int _)) dX3_isRing_35 ⟨rfl, _, rfl, (nar_b (by (try simp only [he34.eq, true_and, and_true]) <;> omega) (by (try simp only [he34.eq, true_and, and_true]) <;> omega))⟩ (⟨⟨_, rfl, (by (try simp only [he34.eq, true_and, and_true]) <;> omega), (by (try simp only [he34.eq, true_and, and_true]) <;> omega), (by (try simp only [he34.eq, true_and, and_true]) <;> omega)⟩, rfl⟩)
    · refine Jz_iconst 1 dX3_isRing_30 (by decide) (fun y30 he30 => ?_)
      refine J_goto (tgt := 35) dX3_isRing_31 (by decide) ?_
      exact J_ret (r := some (.int _)) dX3_isRing_35 ⟨rfl, _, rfl, (nar_b (by (try simp only [he30.eq, true_and, and_true]) <;> omega) (by (try simp only [he30.eq, true_and, and_true]) <;> omega))⟩ (⟨⟨_, rfl, (by (try simp only [he30.eq, true_and, and_true]) <;> omega), (by (try simp only [he30.eq, true_and, and_true]) <;> omega), (by (try simp only [he30.eq, true_and, and_true]) <;> omega)⟩, rfl⟩)
set_option maxRecDepth 100000 in
set_option maxHeartbeats 8000000 in
theorem w_X3_twiceArea_z {tS : jTS} (d : Nat) (V0 : jH) {ln : Nat} (a0 : Nat) (M : Int32) (g : Int32) (n : Int32) (s : Nat) (xx : Nat) (yy : Nat) (zz : Nat) (S : Nat → Int32) (X : Nat → Int32) (Y : Nat → Int32) (Z : Nat → Int32) (hd : 1 ≤ d) (hW : WT V0) (ha0 : jis V0 (.inr 1) a0) (hf_M : jfI V0 a0 1 0 M) (hf_g : jfI V0 a0 1 5 g) (hf_n : jfI V0 a0 1 6 n) (hr_s : jfR V0 a0 1 1 s) (hr_xx : jfR V0 a0 1 2 xx) (hr_yy : jfR V0 a0 1 3 yy) (hr_zz : jfR V0 a0 1 4 zz) (ha_S : V0 s = some (.inl (6, ln, .inl S))) (ha_X : V0 xx = some (.inl (34, ln + 1, .inl X))) (ha_Y : V0 yy = some (.inl (35, ln + 1, .inl Y))) (ha_Z : V0 zz = some (.inl (36, ln + 1, .inl Z))) (hp0 : M.toInt = (ln : Int)) (hp1 : (ln : Int) ≤ 120) (hp2 : n.toInt ≤ M.toInt) : jTot tS mX3_twiceArea d [.ref a0] V0 0 0 (fun r V => (fun r _ => ∃ y : Int32, r = some (.int y) ∧ ((-2147483648) ≤ y.toInt) ∧ (y.toInt ≤ 2147483647) ∧ (y.toInt = (jab (jar X Y n.toInt.toNat)).toInt)) r V ∧ V = V0) := by
  refine jTot.of_J [some (.ref a0), none, none] moX3_twiceArea (Nat.le_of_ble_eq_true rfl) rfl ?_
  have he : jeff [] V0 V0 := jeff.refl _ _
  obtain ⟨fs_a0, hO_a0, hK_a0⟩ := WT_obj hW id ha0
  have hF_M := hf_M.get hO_a0
  have hrM : 0 ≤ M.toInt ∧ M.toInt ≤ 120 := jok_rngI hK_a0 rfl hF_M
  have hF_g := hf_g.get hO_a0
  have hrg : (-2147483648) ≤ g.toInt ∧ g.toInt ≤ 2147483647 := jok_rngI hK_a0 rfl hF_g
  have hF_n := hf_n.get hO_a0
  have hrn : 0 ≤ n.toInt ∧ n.toInt ≤ 120 := jok_rngI hK_a0 rfl hF_n
  have hF_s := hr_s.get hO_a0
  obtain ⟨w_s, hFq_s, b_s, hbq_s, hb_s⟩ := hK_a0.2 1 (.inr (some (.inl 6))) rfl
  cases hF_s.symm.trans (hFq_s.trans (congrArg some hbq_s))
  have hF_xx := hr_xx.get hO_a0
  obtain ⟨w_xx, hFq_xx, b_xx, hbq_xx, hb_xx⟩ := hK_a0.2 2 (.inr (some (.inl 34))) rfl
  cases hF_xx.symm.trans (hFq_xx.trans (congrArg some hbq_xx))
  have hF_yy := hr_yy.get hO_a0
  obtain ⟨w_yy, hFq_yy, b_yy, hbq_yy, hb_yy⟩ := hK_a0.2 3 (.inr (some (.inl 35))) rfl
  cases hF_yy.symm.trans (hFq_yy.trans (congrArg some hbq_yy))
  have hF_zz := hr_zz.get hO_a0
  obtain ⟨w_zz, hFq_zz, b_zz, hbq_zz, hb_zz⟩ := hK_a0.2 4 (.inr (some (.inl 36))) rfl
  cases hF_zz.symm.trans (hFq_zz.trans (congrArg some hbq_zz))
  obtain ⟨hN_S, hv_S⟩ := WT_rngI (r := ((-2147483648), 2147483647)) hW id rfl ha_S
  clear hN_S
  obtain ⟨hN_X, hv_X⟩ := WT_rngI (r := ((-2147483648), 2147483647)) hW id rfl ha_X
  clear hN_X
  obtain ⟨hN_Y, hv_Y⟩ := WT_rngI (r := ((-2147483648), 2147483647)) hW id rfl ha_Y
  clear hN_Y
  obtain ⟨hN_Z, hv_Z⟩ := WT_rngI (r := ((-2147483648), 2147483647)) hW id rfl ha_Z
  clear hN_Z
  refine Jz_iconst 0 dX3_twiceArea_0 (by decide) (fun y0 he0 => ?_)
  refine J_istore_n dX3_twiceArea_1 rfl (by decide) ?_
  refine Jz_iconst 0 dX3_twiceArea_2 (by decide) (fun y2 he2 => ?_)
  refine J_istore_n dX3_twiceArea_3 rfl (by decide) ?_
  have L4 : ∀ (N : Nat) (i1n4 : Int32) (i2n4 : Int32), (0 ≤ i2n4.toInt ∧ i2n4.toInt ≤ n.toInt) → (i1n4 = jar X Y i2n4.toInt.toNat) → (300 - i2n4.toInt).toNat < N → J tS mX3_twiceArea d 4 [some (.ref a0), some (.int i1n4), some (.int i2n4)] [] V0 0 0 (fun r V => (fun r _ => ∃ y : Int32, r = some (.int y) ∧ ((-2147483648) ≤ y.toInt) ∧ (y.toInt ≤ 2147483647) ∧ (y.toInt = (jab (jar X Y n.toInt.toNat)).toInt)) r V ∧ V = V0) := by
    intro N
    induction N with
    | zero => intro i1n4 i2n4  hi2 hs hm; exact absurd hm (Nat.not_lt_zero _)
    | succ N ih =>
      intro i1n4 i2n4  hi2 hs hm
      have ih4 := ih
      have hri2 := j_rng i2n4
      refine J_iload_n dX3_twiceArea_4 rfl ?_
      refine J_aload_n dX3_twiceArea_5 rfl ?_
      refine J_get jf_X3_15 dX3_twiceArea_6 hO_a0 hF_n ?_
      refine Jz_icmp_ge (tgt := 60) jEq.rf jEq.rf dX3_twiceArea_9 (by decide) (fun c9 => ?_) (fun c9 => ?_)
      · refine J_iload_n dX3_twiceArea_60 rfl ?_
        refine J_mabs jw_ml_X3_85 dX3_twiceArea_61 (by omega) (Nat.le_of_ble_eq_true rfl) ?_
        exact J_ret (r := some (.int _)) dX3_twiceArea_64 ⟨rfl, _, rfl, rfl⟩ (⟨⟨_, rfl, (j_rng _).1, (j_rng _).2, (by show (jab _).toInt = _; rw [hs, show i2n4.toInt.toNat = n.toInt.toNat by omega])⟩, rfl⟩)
      · refine J_iload_n dX3_twiceArea_12 rfl ?_
        refine J_aload_n dX3_twiceArea_13 rfl ?_
        refine J_get jf_X3_34 dX3_twiceArea_14 hO_a0 hF_xx ?_
        refine J_iload_n dX3_twiceArea_17 rfl ?_
        refine J_callSN2 moX6_cell (host := "WalkGrounds") (List.mem_of_getElem? (i := 0) rfl) jw_st_X6_cell dX3_twiceArea_18 (w_X6_cell_x (d - 1) _ xx i2n4 ha_X (WT_rngI (r := (-2147483648, 2147483647)) hW id rfl ha_X).1 rfl (by omega) (by omega)) (by omega) (Nat.zero_le _) (Nat.zero_le _) (Nat.le_of_ble_eq_true rfl) (fun r18 V18 h18 => ?_)
        obtain ⟨⟨y18, rfl, hf18⟩, hE18⟩ := h18
        have hE18 := hE18.symm
        subst hE18
        have hz18 : jEq y18.toInt (X (i2n4.toInt).toNat).toInt := by rw [← hf18]; rfl
        clear hf18
        · refine J_aload_n dX3_twiceArea_21 rfl ?_
          refine J_get jf_X3_37 dX3_twiceArea_22 hO_a0 hF_yy ?_
          refine J_iload_n dX3_twiceArea_25 rfl ?_
          refine Jz_iconst 1 dX3_twiceArea_26 (by decide) (fun y26 he26 => ?_)
          refine Jz_iadd jEq.rf he26 dX3_twiceArea_27 (by omega) (by omega) (fun y27 he27 => ?_)
          refine J_callSN2 moX6_cell (host := "WalkGrounds") (List.mem_of_getElem? (i := 0) rfl) jw_st_X6_cell dX3_twiceArea_28 (w_X6_cell_x (d - 1) _ yy y27 ha_Y (WT_rngI (r := (-2147483648, 2147483647)) hW id rfl ha_Y).1 rfl (by (try simp only [he27.eq, true_and, and_true]) <;> omega) (by (try simp only [he27.eq, true_and, and_true]) <;> omega)) (by omega) (Nat.zero_le _) (Nat.zero_le _) (Nat.le_of_ble_eq_true rfl) (fun r28 V28 h28 => ?_)
          obtain ⟨⟨y28, rfl, hf28⟩, hE28⟩ := h28
          have hE28 := hE28.symm
          subst hE28
          have hz28 : jEq y28.toInt (Y (i2n4.toInt + 1).toNat).toInt := by rw [← hf28, he27.eq]; rfl
          clear hf28
          · refine J_imul dX3_twiceArea_31 ?_
            refine J_aload_n dX3_twiceArea_32 rfl ?_
            refine J_get jf_X3_34 dX3_twiceArea_33 hO_a0 hF_xx ?_
            refine J_iload_n dX3_twiceArea_36 rfl ?_
            refine Jz_iconst 1 dX3_twiceArea_37 (by decide) (fun y37 he37 => ?_)
            refine Jz_iadd jEq.rf he37 dX3_twiceArea_38 (by omega) (by omega) (fun y38 he38 => ?_)
            refine J_callSN2 moX6_cell (host := "WalkGrounds") (List.mem_of_getElem? (i := 0) rfl) jw_st_X6_cell dX3_twiceArea_39 (w_X6_cell_x (d - 1) _ xx y38 ha_X (WT_rngI (r := (-2147483648, 2147483647)) hW id rfl ha_X).1 rfl (by (try simp only [he38.eq, true_and, and_true]) <;> omega) (by (try simp only [he38.eq, true_and, and_true]) <;> omega)) (by omega) (Nat.zero_le _) (Nat.zero_le _) (Nat.le_of_ble_eq_true rfl) (fun r39 V39 h39 => ?_)
            obtain ⟨⟨y39, rfl, hf39⟩, hE39⟩ := h39
            have hE39 := hE39.symm
            subst hE39
            have hz39 : jEq y39.toInt (X (i2n4.toInt + 1).toNat).toInt := by rw [← hf39, he38.eq]; rfl
            clear hf39
            · refine J_aload_n dX3_twiceArea_42 rfl ?_
              refine J_get jf_X3_37 dX3_twiceArea_43 hO_a0 hF_yy ?_
              refine J_iload_n dX3_twiceArea_46 rfl ?_
              refine J_callSN2 moX6_cell (host := "WalkGrounds") (List.mem_of_getElem? (i := 0) rfl) jw_st_X6_cell dX3_twiceArea_47 (w_X6_cell_x (d - 1) _ yy i2n4 ha_Y (WT_rngI (r := (-2147483648, 2147483647)) hW id rfl ha_Y).1 rfl (by omega) (by omega)) (by omega) (Nat.zero_le _) (Nat.zero_le _) (Nat.le_of_ble_eq_true rfl) (fun r47 V47 h47 => ?_)
              obtain ⟨⟨y47, rfl, hf47⟩, hE47⟩ := h47
              have hE47 := hE47.symm
              subst hE47
              have hz47 : jEq y47.toInt (Y (i2n4.toInt).toNat).toInt := by rw [← hf47]; rfl
              clear hf47
              · refine J_imul dX3_twiceArea_50 ?_
                refine J_isub dX3_twiceArea_51 ?_
                refine J_iadd dX3_twiceArea_52 ?_
                refine J_istore_n dX3_twiceArea_53 rfl (by decide) ?_
                refine Jz_iinc 1 dX3_twiceArea_54 rfl rfl (by decide) jEq.rf (by decide) (by omega) (by omega) (fun y54 he54 => ?_)
                refine J_goto (tgt := 4) dX3_twiceArea_57 (by decide) ?_
                refine J.mask [true, true, true] ?_
                exact ih4  (i1n4 + ((y18 * y28) - (y39 * y47))) y54  (by (try simp only [he54.eq, true_and, and_true]) <;> omega) (by rw [he54.eq, show (i2n4.toInt + 1).toNat = i2n4.toInt.toNat + 1 by omega]; show _ = jar X Y _ + (X _ * Y (_ + 1) - X (_ + 1) * Y _); rw [← hs, jI_inj.mp hz18.eq, jI_inj.mp hz28.eq, jI_inj.mp hz39.eq, jI_inj.mp hz47.eq, show (i2n4.toInt + 1).toNat = i2n4.toInt.toNat + 1 by omega]) (by (try simp only [he54.eq, true_and, and_true]) <;> omega)
  refine J.mask [true, true, true] ?_
  exact L4 _  y0 y2    (by (try simp only [he0.eq, he2.eq, true_and, and_true]) <;> omega) (by have e : y0 = 0 := jI_inj.mp (he0.eq.trans rfl); rw [e, he2.eq]; rfl) (Nat.lt_succ_self _)
set_option maxRecDepth 100000 in
set_option maxHeartbeats 8000000 in
theorem w_X3_bends_z {tS : jTS} (d : Nat) (V0 : jH) {ln : Nat} (a0 : Nat) (M : Int32) (g : Int32) (n : Int32) (s : Nat) (xx : Nat) (yy : Nat) (zz : Nat) (S : Nat → Int32) (X : Nat → Int32) (Y : Nat → Int32) (Z : Nat → Int32) (hd : 2 ≤ d) (hW : WT V0) (ha0 : jis V0 (.inr 1) a0) (hf_M : jfI V0 a0 1 0 M) (hf_g : jfI V0 a0 1 5 g) (hf_n : jfI V0 a0 1 6 n) (hr_s : jfR V0 a0 1 1 s) (hr_xx : jfR V0 a0 1 2 xx) (hr_yy : jfR V0 a0 1 3 yy) (hr_zz : jfR V0 a0 1 4 zz) (ha_S : V0 s = some (.inl (6, ln, .inl S))) (ha_X : V0 xx = some (.inl (34, ln + 1, .inl X))) (ha_Y : V0 yy = some (.inl (35, ln + 1, .inl Y))) (ha_Z : V0 zz = some (.inl (36, ln + 1, .inl Z))) (hp0 : M.toInt = (ln : Int)) (hp1 : (ln : Int) ≤ 120) (hp2 : n.toInt ≤ M.toInt) (hp3 : (ln : Int) ≤ 120) : jTot tS mX3_bends d [.ref a0] V0 0 0 (fun r V => (fun r _ => ∃ y : Int32, r = some (.int y) ∧ ((-2147483648) ≤ y.toInt) ∧ (y.toInt ≤ 2147483647) ∧ (y.toInt = jbn S n.toInt.toNat)) r V ∧ V = V0) := by
  refine jTot.of_J [some (.ref a0), none, none] moX3_bends (Nat.le_of_ble_eq_true rfl) rfl ?_
  have he : jeff [] V0 V0 := jeff.refl _ _
  obtain ⟨fs_a0, hO_a0, hK_a0⟩ := WT_obj hW id ha0
  have hF_M := hf_M.get hO_a0
  have hrM : 0 ≤ M.toInt ∧ M.toInt ≤ 120 := jok_rngI hK_a0 rfl hF_M
  have hF_g := hf_g.get hO_a0
  have hrg : (-2147483648) ≤ g.toInt ∧ g.toInt ≤ 2147483647 := jok_rngI hK_a0 rfl hF_g
  have hF_n := hf_n.get hO_a0
  have hrn : 0 ≤ n.toInt ∧ n.toInt ≤ 120 := jok_rngI hK_a0 rfl hF_n
  have hF_s := hr_s.get hO_a0
  obtain ⟨w_s, hFq_s, b_s, hbq_s, hb_s⟩ := hK_a0.2 1 (.inr (some (.inl 6))) rfl
  cases hF_s.symm.trans (hFq_s.trans (congrArg some hbq_s))
  have hF_xx := hr_xx.get hO_a0
  obtain ⟨w_xx, hFq_xx, b_xx, hbq_xx, hb_xx⟩ := hK_a0.2 2 (.inr (some (.inl 34))) rfl
  cases hF_xx.symm.trans (hFq_xx.trans (congrArg some hbq_xx))
  have hF_yy := hr_yy.get hO_a0
  obtain ⟨w_yy, hFq_yy, b_yy, hbq_yy, hb_yy⟩ := hK_a0.2 3 (.inr (some (.inl 35))) rfl
  cases hF_yy.symm.trans (hFq_yy.trans (congrArg some hbq_yy))
  have hF_zz := hr_zz.get hO_a0
  obtain ⟨w_zz, hFq_zz, b_zz, hbq_zz, hb_zz⟩ := hK_a0.2 4 (.inr (some (.inl 36))) rfl
  cases hF_zz.symm.trans (hFq_zz.trans (congrArg some hbq_zz))
  obtain ⟨hN_S, hv_S⟩ := WT_rngI (r := ((-2147483648), 2147483647)) hW id rfl ha_S
  clear hN_S
  obtain ⟨hN_X, hv_X⟩ := WT_rngI (r := ((-2147483648), 2147483647)) hW id rfl ha_X
  clear hN_X
  obtain ⟨hN_Y, hv_Y⟩ := WT_rngI (r := ((-2147483648), 2147483647)) hW id rfl ha_Y
  clear hN_Y
  obtain ⟨hN_Z, hv_Z⟩ := WT_rngI (r := ((-2147483648), 2147483647)) hW id rfl ha_Z
  clear hN_Z
  refine Jz_iconst 0 dX3_bends_0 (by decide) (fun y0 he0 => ?_)
  refine J_istore_n dX3_bends_1 rfl (by decide) ?_
  refine Jz_iconst 1 dX3_bends_2 (by decide) (fun y2 he2 => ?_)
  refine J_istore_n dX3_bends_3 rfl (by decide) ?_
  have L4 : ∀ (N : Nat) (i1n4 : Int32) (i2n4 : Int32), (1 ≤ i2n4.toInt ∧ (i2n4.toInt ≤ n.toInt ∨ i2n4.toInt = 1)) → (i1n4.toInt = jbn S i2n4.toInt.toNat) → (300 - i2n4.toInt).toNat < N → J tS mX3_bends d 4 [some (.ref a0), some (.int i1n4), some (.int i2n4)] [] V0 0 0 (fun r V => (fun r _ => ∃ y : Int32, r = some (.int y) ∧ ((-2147483648) ≤ y.toInt) ∧ (y.toInt ≤ 2147483647) ∧ (y.toInt = jbn S n.toInt.toNat)) r V ∧ V = V0) := by
    intro N
    induction N with
    | zero => intro i1n4 i2n4  hi2 hf hm; exact absurd hm (Nat.not_lt_zero _)
    | succ N ih =>
      intro i1n4 i2n4  hi2 hf hm
      have ih4 := ih
      have hri2 := j_rng i2n4
      have hjb := jbn_b (S := S) i2n4.toInt.toNat
      refine J_iload_n dX3_bends_4 rfl ?_
      refine J_aload_n dX3_bends_5 rfl ?_
      refine J_get jf_X3_15 dX3_bends_6 hO_a0 hF_n ?_
      refine Jz_icmp_ge (tgt := 36) jEq.rf jEq.rf dX3_bends_9 (by decide) (fun c9 => ?_) (fun c9 => ?_)
      · refine J_iload_n dX3_bends_36 rfl ?_
        exact J_ret (r := some (.int _)) dX3_bends_37 ⟨rfl, _, rfl, rfl⟩ (⟨⟨_, rfl, (j_rng _).1, (j_rng _).2, (by rw [hf]; rcases (show i2n4.toInt.toNat = n.toInt.toNat ∨ (i2n4.toInt.toNat = 1 ∧ n.toInt.toNat = 0) by omega) with q | q; (rw [q]); (rw [q.1, q.2]; rfl))⟩, rfl⟩)
      · refine J_aload_n dX3_bends_12 rfl ?_
        refine J_iload_n dX3_bends_13 rfl ?_
        refine Jw_callV1 (q9 := (RX3, TX3, 7)) moX3_direction jw_ml_X3_89 jw_im_X3_direction jw_se_X3_direction ha0 rfl rfl dX3_bends_14 (w_X3_direction_z (d - 1) _ a0 i2n4 s S (by omega) hW  ha0 ⟨_, hO_a0, hF_s⟩ ha_S (by omega) (by omega) (by omega)) (by omega) (Nat.zero_le _) (Nat.zero_le _) (Nat.le_of_ble_eq_true rfl) (fun r14 V14 h14 => ?_)
        obtain ⟨⟨y14, rfl, hl14, hh14, hP14_0⟩, hE14⟩ := h14
        have hE14 := hE14.symm
        subst hE14
        clear hl14 hh14
        have hz14 : jEq y14.toInt ((S (i2n4.toInt).toNat).toInt) := hP14_0
        clear hP14_0
        refine J_aload_n dX3_bends_17 rfl ?_
        refine J_iload_n dX3_bends_18 rfl ?_
        refine Jz_iconst 1 dX3_bends_19 (by decide) (fun y19 he19 => ?_)
        refine Jz_isub jEq.rf he19 dX3_bends_20 (by omega) (by omega) (fun y20 he20 => ?_)
        refine Jw_callV1 (q9 := (RX3, TX3, 7)) moX3_direction jw_ml_X3_89 jw_im_X3_direction jw_se_X3_direction ha0 rfl rfl dX3_bends_21 (w_X3_direction_z (d - 1) _ a0 y20 s S (by omega) hW  ha0 ⟨_, hO_a0, hF_s⟩ ha_S (by (try simp only [he20.eq, true_and, and_true]) <;> omega) (by (try simp only [he20.eq, true_and, and_true]) <;> omega) (by omega)) (by omega) (Nat.zero_le _) (Nat.zero_le _) (Nat.le_of_ble_eq_true rfl) (fun r21 V21 h21 => ?_)
        obtain ⟨⟨y21, rfl, hl21, hh21, hP21_0⟩, hE21⟩ := h21
        have hE21 := hE21.symm
        subst hE21
        clear hl21 hh21
        try simp only [he20.eq] at hP21_0
        have hz21 : jEq y21.toInt ((S (i2n4.toInt - 1).toNat).toInt) := hP21_0
        clear hP21_0
        refine Jz_icmp_eq (tgt := 30) hz14 hz21 dX3_bends_24 (by decide) (fun c24 => ?_) (fun c24 => ?_)
        · refine Jz_iinc 1 dX3_bends_30 rfl rfl (by decide) jEq.rf (by decide) (by omega) (by omega) (fun y30 he30 => ?_)
          refine J_goto (tgt := 4) dX3_bends_33 (by decide) ?_
          refine J.mask [true, true, true] ?_
          exact ih4  i1n4 y30  (by (try simp only [he30.eq, true_and, and_true]) <;> omega) (by rw [he30.eq, show (i2n4.toInt + 1).toNat = i2n4.toInt.toNat + 1 by omega, jbn_step (by omega), if_pos (by rw [show i2n4.toInt.toNat - 1 = (i2n4.toInt - 1).toNat by omega]; exact c24)]; omega) (by (try simp only [he30.eq, true_and, and_true]) <;> omega)
        · refine Jz_iinc 1 dX3_bends_27 rfl rfl (by decide) jEq.rf (by decide) (by omega) (by omega) (fun y27 he27 => ?_)
          refine Jz_iinc 1 dX3_bends_30 rfl rfl (by decide) jEq.rf (by decide) (by omega) (by omega) (fun y30 he30 => ?_)
          refine J_goto (tgt := 4) dX3_bends_33 (by decide) ?_
          refine J.mask [true, true, true] ?_
          exact ih4  y27 y30  (by (try simp only [he27.eq, he30.eq, true_and, and_true]) <;> omega) (by rw [he30.eq, show (i2n4.toInt + 1).toNat = i2n4.toInt.toNat + 1 by omega, jbn_step (by omega), if_neg (by rw [show i2n4.toInt.toNat - 1 = (i2n4.toInt - 1).toNat by omega]; exact c24), he27.eq, hf]) (by (try simp only [he27.eq, he30.eq, true_and, and_true]) <;> omega)
  refine J.mask [true, true, true] ?_
  exact L4 _  y0 y2    (by rw [he2.eq]; exact ⟨Int.le_refl _, Or.inr rfl⟩) (by rw [he0.eq, he2.eq]; rfl) (Nat.lt_succ_self _)
set_option maxRecDepth 100000 in
set_option maxHeartbeats 8000000 in
theorem w_X3_isBridge_z {tS : jTS} (d : Nat) (V0 : jH) {ln : Nat} (a0 : Nat) (M : Int32) (g : Int32) (n : Int32) (s : Nat) (xx : Nat) (yy : Nat) (zz : Nat) (S : Nat → Int32) (X : Nat → Int32) (Y : Nat → Int32) (Z : Nat → Int32) (hd : 2 ≤ d) (hW : WT V0) (ha0 : jis V0 (.inr 1) a0) (hf_M : jfI V0 a0 1 0 M) (hf_g : jfI V0 a0 1 5 g) (hf_n : jfI V0 a0 1 6 n) (hr_s : jfR V0 a0 1 1 s) (hr_xx : jfR V0 a0 1 2 xx) (hr_yy : jfR V0 a0 1 3 yy) (hr_zz : jfR V0 a0 1 4 zz) (ha_S : V0 s = some (.inl (6, ln, .inl S))) (ha_X : V0 xx = some (.inl (34, ln + 1, .inl X))) (ha_Y : V0 yy = some (.inl (35, ln + 1, .inl Y))) (ha_Z : V0 zz = some (.inl (36, ln + 1, .inl Z))) (hp0 : M.toInt = (ln : Int)) (hp1 : (ln : Int) ≤ 120) (hp2 : n.toInt ≤ M.toInt) : jTot tS mX3_isBridge d [.ref a0] V0 0 0 (fun r V => (fun r _ => ∃ y : Int32, r = some (.int y) ∧ (0 ≤ y.toInt) ∧ (y.toInt ≤ 1) ∧ (jIf y 1 (jbrg n.toInt.toNat X)) ∧ (jIf y 0 (¬ jbrg n.toInt.toNat X))) r V ∧ V = V0) := by
  refine jTot.of_J [some (.ref a0), none] moX3_isBridge (Nat.le_of_ble_eq_true rfl) rfl ?_
  have he : jeff [] V0 V0 := jeff.refl _ _
  obtain ⟨fs_a0, hO_a0, hK_a0⟩ := WT_obj hW id ha0
  have hF_M := hf_M.get hO_a0
  have hrM : 0 ≤ M.toInt ∧ M.toInt ≤ 120 := jok_rngI hK_a0 rfl hF_M
  have hF_g := hf_g.get hO_a0
  have hrg : (-2147483648) ≤ g.toInt ∧ g.toInt ≤ 2147483647 := jok_rngI hK_a0 rfl hF_g
  have hF_n := hf_n.get hO_a0
  have hrn : 0 ≤ n.toInt ∧ n.toInt ≤ 120 := jok_rngI hK_a0 rfl hF_n
  have hF_s := hr_s.get hO_a0
  obtain ⟨w_s, hFq_s, b_s, hbq_s, hb_s⟩ := hK_a0.2 1 (.inr (some (.inl 6))) rfl
  cases hF_s.symm.trans (hFq_s.trans (congrArg some hbq_s))
  have hF_xx := hr_xx.get hO_a0
  obtain ⟨w_xx, hFq_xx, b_xx, hbq_xx, hb_xx⟩ := hK_a0.2 2 (.inr (some (.inl 34))) rfl
  cases hF_xx.symm.trans (hFq_xx.trans (congrArg some hbq_xx))
  have hF_yy := hr_yy.get hO_a0
  obtain ⟨w_yy, hFq_yy, b_yy, hbq_yy, hb_yy⟩ := hK_a0.2 3 (.inr (some (.inl 35))) rfl
  cases hF_yy.symm.trans (hFq_yy.trans (congrArg some hbq_yy))
  have hF_zz := hr_zz.get hO_a0
  obtain ⟨w_zz, hFq_zz, b_zz, hbq_zz, hb_zz⟩ := hK_a0.2 4 (.inr (some (.inl 36))) rfl
  cases hF_zz.symm.trans (hFq_zz.trans (congrArg some hbq_zz))
  obtain ⟨hN_S, hv_S⟩ := WT_rngI (r := ((-2147483648), 2147483647)) hW id rfl ha_S
  clear hN_S
  obtain ⟨hN_X, hv_X⟩ := WT_rngI (r := ((-2147483648), 2147483647)) hW id rfl ha_X
  clear hN_X
  obtain ⟨hN_Y, hv_Y⟩ := WT_rngI (r := ((-2147483648), 2147483647)) hW id rfl ha_Y
  clear hN_Y
  obtain ⟨hN_Z, hv_Z⟩ := WT_rngI (r := ((-2147483648), 2147483647)) hW id rfl ha_Z
  clear hN_Z
  refine Jz_iconst 1 dX3_isBridge_0 (by decide) (fun y0 he0 => ?_)
  refine J_istore_n dX3_isBridge_1 rfl (by decide) ?_
  have L2 : ∀ (N : Nat) (i1n2 : Int32), (1 ≤ i1n2.toInt ∧ i1n2.toInt ≤ n.toInt + 1) → (∀ j : Nat, 1 ≤ j → (j : Int) < i1n2.toInt → 0 < (X j).toInt ∧ (X j).toInt ≤ (X n.toInt.toNat).toInt) → (300 - i1n2.toInt).toNat < N → J tS mX3_isBridge d 2 [some (.ref a0), some (.int i1n2)] [] V0 0 0 (fun r V => (fun r _ => ∃ y : Int32, r = some (.int y) ∧ (0 ≤ y.toInt) ∧ (y.toInt ≤ 1) ∧ (jIf y 1 (jbrg n.toInt.toNat X)) ∧ (jIf y 0 (¬ jbrg n.toInt.toNat X))) r V ∧ V = V0) := by
    intro N
    induction N with
    | zero => intro i1n2  hi1 hb hm; exact absurd hm (Nat.not_lt_zero _)
    | succ N ih =>
      intro i1n2  hi1 hb hm
      have ih2 := ih
      have hri1 := j_rng i1n2
      refine J_iload_n dX3_isBridge_2 rfl ?_
      refine J_aload_n dX3_isBridge_3 rfl ?_
      refine J_get jf_X3_15 dX3_isBridge_4 hO_a0 hF_n ?_
      refine Jz_icmp_gt (tgt := 44) jEq.rf jEq.rf dX3_isBridge_7 (by decide) (fun c7 => ?_) (fun c7 => ?_)
      · refine Jz_iconst 1 dX3_isBridge_44 (by decide) (fun y44 he44 => ?_)
        exact J_ret (r := some (.int _)) dX3_isBridge_45 ⟨rfl, _, rfl, (nar_b (by (try simp only [he44.eq, true_and, and_true]) <;> omega) (by (try simp only [he44.eq, true_and, and_true]) <;> omega))⟩ (⟨⟨_, rfl, (by (try simp only [he44.eq, true_and, and_true]) <;> omega), (by (try simp only [he44.eq, true_and, and_true]) <;> omega), (fun _ j h1 h2 => hb j h1 (by omega)), (fun h => by rw [he44.eq] at h; omega)⟩, rfl⟩)
      · refine J_aload_n dX3_isBridge_10 rfl ?_
        refine J_get jf_X3_34 dX3_isBridge_11 hO_a0 hF_xx ?_
        refine J_iload_n dX3_isBridge_14 rfl ?_
        refine J_callSN2 moX6_cell (host := "WalkGrounds") (List.mem_of_getElem? (i := 0) rfl) jw_st_X6_cell dX3_isBridge_15 (w_X6_cell_x (d - 1) _ xx i1n2 ha_X (WT_rngI (r := (-2147483648, 2147483647)) hW id rfl ha_X).1 rfl (by omega) (by omega)) (by omega) (Nat.zero_le _) (Nat.zero_le _) (Nat.le_of_ble_eq_true rfl) (fun r15 V15 h15 => ?_)
        obtain ⟨⟨y15, rfl, hf15⟩, hE15⟩ := h15
        have hE15 := hE15.symm
        subst hE15
        have hz15 : jEq y15.toInt (X (i1n2.toInt).toNat).toInt := by rw [← hf15]; rfl
        clear hf15
        · refine Jz_if_le (tgt := 36) hz15 dX3_isBridge_18 (by decide) (fun c18 => ?_) (fun c18 => ?_)
          · refine Jz_iconst 0 dX3_isBridge_36 (by decide) (fun y36 he36 => ?_)
            exact J_ret (r := some (.int _)) dX3_isBridge_37 ⟨rfl, _, rfl, (nar_b (by (try simp only [he36.eq, true_and, and_true]) <;> omega) (by (try simp only [he36.eq, true_and, and_true]) <;> omega))⟩ (⟨⟨_, rfl, (by (try simp only [he36.eq, true_and, and_true]) <;> omega), (by (try simp only [he36.eq, true_and, and_true]) <;> omega), (fun h => by rw [he36.eq] at h; omega), (fun _ q => by have q2 := q i1n2.toInt.toNat (by omega) (by omega); omega)⟩, rfl⟩)
          · refine J_aload_n dX3_isBridge_21 rfl ?_
            refine J_get jf_X3_34 dX3_isBridge_22 hO_a0 hF_xx ?_
            refine J_iload_n dX3_isBridge_25 rfl ?_
            refine J_callSN2 moX6_cell (host := "WalkGrounds") (List.mem_of_getElem? (i := 0) rfl) jw_st_X6_cell dX3_isBridge_26 (w_X6_cell_x (d - 1) _ xx i1n2 ha_X (WT_rngI (r := (-2147483648, 2147483647)) hW id rfl ha_X).1 rfl (by omega) (by omega)) (by omega) (Nat.zero_le _) (Nat.zero_le _) (Nat.le_of_ble_eq_true rfl) (fun r26 V26 h26 => ?_)
            obtain ⟨⟨y26, rfl, hf26⟩, hE26⟩ := h26
            have hE26 := hE26.symm
            subst hE26
            have hz26 : jEq y26.toInt (X (i1n2.toInt).toNat).toInt := by rw [← hf26]; rfl
            clear hf26
            · refine J_aload_n dX3_isBridge_29 rfl ?_
              refine Jw_callV0 (q9 := (RX3, TX3, 7)) moX3_endX jw_ml_X3_47 jw_im_X3_endX jw_se_X3_endX ha0 rfl rfl dX3_isBridge_30 (w_X3_endX_z (d - 1) _ a0 M g n s xx yy zz S X Y Z (by omega) hW  ha0 ⟨_, hO_a0, hF_M⟩ ⟨_, hO_a0, hF_g⟩ ⟨_, hO_a0, hF_n⟩ ⟨_, hO_a0, hF_s⟩ ⟨_, hO_a0, hF_xx⟩ ⟨_, hO_a0, hF_yy⟩ ⟨_, hO_a0, hF_zz⟩ ha_S ha_X ha_Y ha_Z (by omega) (by omega) (by omega)) (by omega) (Nat.zero_le _) (Nat.zero_le _) (Nat.le_of_ble_eq_true rfl) (fun r30 V30 h30 => ?_)
              obtain ⟨⟨y30, rfl, hl30, hh30, hP30_0⟩, hE30⟩ := h30
              have hE30 := hE30.symm
              subst hE30
              clear hl30 hh30
              have hz30 : jEq y30.toInt ((X (n.toInt).toNat).toInt) := hP30_0
              clear hP30_0
              refine Jz_icmp_le (tgt := 38) hz26 hz30 dX3_isBridge_33 (by decide) (fun c33 => ?_) (fun c33 => ?_)
              · refine Jz_iinc 1 dX3_isBridge_38 rfl rfl (by decide) jEq.rf (by decide) (by omega) (by omega) (fun y38 he38 => ?_)
                refine J_goto (tgt := 2) dX3_isBridge_41 (by decide) ?_
                refine J.mask [true, true] ?_
                exact ih2  y38  (by (try simp only [he38.eq, true_and, and_true]) <;> omega) (fun j h1 h2 => by rw [he38.eq] at h2; by_cases h9 : (j : Int) = i1n2.toInt; (have e : j = i1n2.toInt.toNat := by omega); subst e; omega; exact hb j h1 (by omega)) (by (try simp only [he38.eq, true_and, and_true]) <;> omega)
              · refine Jz_iconst 0 dX3_isBridge_36 (by decide) (fun y36 he36 => ?_)
                exact J_ret (r := some (.int _)) dX3_isBridge_37 ⟨rfl, _, rfl, (nar_b (by (try simp only [he36.eq, true_and, and_true]) <;> omega) (by (try simp only [he36.eq, true_and, and_true]) <;> omega))⟩ (⟨⟨_, rfl, (by (try simp only [he36.eq, true_and, and_true]) <;> omega), (by (try simp only [he36.eq, true_and, and_true]) <;> omega), (fun h => by rw [he36.eq] at h; omega), (fun _ q => by have q2 := q i1n2.toInt.toNat (by omega) (by omega); omega)⟩, rfl⟩)
  refine J.mask [true, true] ?_
  exact L2 _  y0    (by (try simp only [he0.eq, true_and, and_true]) <;> omega) (fun j h1 h2 => by rw [he0.eq] at h2; omega) (Nat.lt_succ_self _)
set_option maxRecDepth 100000 in
set_option maxHeartbeats 8000000 in
theorem w_X3_leadsOn_z {tS : jTS} (d : Nat) (V0 : jH) {ln : Nat} (a0 : Nat) (M : Int32) (g : Int32) (n : Int32) (s : Nat) (xx : Nat) (yy : Nat) (zz : Nat) (S : Nat → Int32) (X : Nat → Int32) (Y : Nat → Int32) (Z : Nat → Int32) (hd : 3 ≤ d) (hW : WT V0) (ha0 : jis V0 (.inr 1) a0) (hf_M : jfI V0 a0 1 0 M) (hf_g : jfI V0 a0 1 5 g) (hf_n : jfI V0 a0 1 6 n) (hr_s : jfR V0 a0 1 1 s) (hr_xx : jfR V0 a0 1 2 xx) (hr_yy : jfR V0 a0 1 3 yy) (hr_zz : jfR V0 a0 1 4 zz) (ha_S : V0 s = some (.inl (6, ln, .inl S))) (ha_X : V0 xx = some (.inl (34, ln + 1, .inl X))) (ha_Y : V0 yy = some (.inl (35, ln + 1, .inl Y))) (ha_Z : V0 zz = some (.inl (36, ln + 1, .inl Z))) (hp0 : M.toInt = (ln : Int)) (hp1 : (ln : Int) ≤ 120) (hp2 : n.toInt ≤ M.toInt) (hp3 : 0 ≤ g.toInt) (hp4 : g.toInt ≤ 3) (hp5 : -120 ≤ (X n.toInt.toNat).toInt) (hp6 : (X n.toInt.toNat).toInt ≤ 120) (hp7 : -120 ≤ (Y n.toInt.toNat).toInt) (hp8 : (Y n.toInt.toNat).toInt ≤ 120) (hp9 : -120 ≤ (Z n.toInt.toNat).toInt) (hp10 : (Z n.toInt.toNat).toInt ≤ 120) : jTot tS mX3_leadsOn d [.ref a0] V0 0 0 (fun r V => (fun r _ => ∃ y : Int32, r = some (.int y) ∧ ((-2147483648) ≤ y.toInt) ∧ (y.toInt ≤ 2147483647) ∧ (y.toInt = jct (fun d : Nat => jfree g.toInt n.toInt.toNat X Y Z (d : Int)) (jdir g.toInt).toNat)) r V ∧ V = V0) := by
  refine jTot.of_J [some (.ref a0), none, none] moX3_leadsOn (Nat.le_of_ble_eq_true rfl) rfl ?_
  have he : jeff [] V0 V0 := jeff.refl _ _
  obtain ⟨fs_a0, hO_a0, hK_a0⟩ := WT_obj hW id ha0
  have hF_M := hf_M.get hO_a0
  have hrM : 0 ≤ M.toInt ∧ M.toInt ≤ 120 := jok_rngI hK_a0 rfl hF_M
  have hF_g := hf_g.get hO_a0
  have hrg : (-2147483648) ≤ g.toInt ∧ g.toInt ≤ 2147483647 := jok_rngI hK_a0 rfl hF_g
  have hF_n := hf_n.get hO_a0
  have hrn : 0 ≤ n.toInt ∧ n.toInt ≤ 120 := jok_rngI hK_a0 rfl hF_n
  have hF_s := hr_s.get hO_a0
  obtain ⟨w_s, hFq_s, b_s, hbq_s, hb_s⟩ := hK_a0.2 1 (.inr (some (.inl 6))) rfl
  cases hF_s.symm.trans (hFq_s.trans (congrArg some hbq_s))
  have hF_xx := hr_xx.get hO_a0
  obtain ⟨w_xx, hFq_xx, b_xx, hbq_xx, hb_xx⟩ := hK_a0.2 2 (.inr (some (.inl 34))) rfl
  cases hF_xx.symm.trans (hFq_xx.trans (congrArg some hbq_xx))
  have hF_yy := hr_yy.get hO_a0
  obtain ⟨w_yy, hFq_yy, b_yy, hbq_yy, hb_yy⟩ := hK_a0.2 3 (.inr (some (.inl 35))) rfl
  cases hF_yy.symm.trans (hFq_yy.trans (congrArg some hbq_yy))
  have hF_zz := hr_zz.get hO_a0
  obtain ⟨w_zz, hFq_zz, b_zz, hbq_zz, hb_zz⟩ := hK_a0.2 4 (.inr (some (.inl 36))) rfl
  cases hF_zz.symm.trans (hFq_zz.trans (congrArg some hbq_zz))
  obtain ⟨hN_S, hv_S⟩ := WT_rngI (r := ((-2147483648), 2147483647)) hW id rfl ha_S
  clear hN_S
  obtain ⟨hN_X, hv_X⟩ := WT_rngI (r := ((-2147483648), 2147483647)) hW id rfl ha_X
  clear hN_X
  obtain ⟨hN_Y, hv_Y⟩ := WT_rngI (r := ((-2147483648), 2147483647)) hW id rfl ha_Y
  clear hN_Y
  obtain ⟨hN_Z, hv_Z⟩ := WT_rngI (r := ((-2147483648), 2147483647)) hW id rfl ha_Z
  clear hN_Z
  have hjd := jdir_cases g.toInt
  refine Jz_iconst 0 dX3_leadsOn_0 (by decide) (fun y0 he0 => ?_)
  refine J_istore_n dX3_leadsOn_1 rfl (by decide) ?_
  refine Jz_iconst 0 dX3_leadsOn_2 (by decide) (fun y2 he2 => ?_)
  refine J_istore_n dX3_leadsOn_3 rfl (by decide) ?_
  have L4 : ∀ (N : Nat) (i1n4 : Int32) (i2n4 : Int32), (0 ≤ i2n4.toInt ∧ i2n4.toInt ≤ jdir g.toInt) → (i1n4.toInt = jct (fun d : Nat => jfree g.toInt n.toInt.toNat X Y Z (d : Int)) i2n4.toInt.toNat) → (300 - i2n4.toInt).toNat < N → J tS mX3_leadsOn d 4 [some (.ref a0), some (.int i1n4), some (.int i2n4)] [] V0 0 0 (fun r V => (fun r _ => ∃ y : Int32, r = some (.int y) ∧ ((-2147483648) ≤ y.toInt) ∧ (y.toInt ≤ 2147483647) ∧ (y.toInt = jct (fun d : Nat => jfree g.toInt n.toInt.toNat X Y Z (d : Int)) (jdir g.toInt).toNat)) r V ∧ V = V0) := by
    intro N
    induction N with
    | zero => intro i1n4 i2n4  hi2 hc hm; exact absurd hm (Nat.not_lt_zero _)
    | succ N ih =>
      intro i1n4 i2n4  hi2 hc hm
      have ih4 := ih
      have hri2 := j_rng i2n4
      have hjb := jct_b (P := (fun d : Nat => jfree g.toInt n.toInt.toNat X Y Z (d : Int))) i2n4.toInt.toNat
      refine J_iload_n dX3_leadsOn_4 rfl ?_
      refine J_aload_n dX3_leadsOn_5 rfl ?_
      refine J_get jf_X3_9 dX3_leadsOn_6 hO_a0 hF_g ?_
      refine J_callS1 moX0_directions jw_ml_X3_92 jw_st_X0_directions dX3_leadsOn_9 (w_X0_directions_z (d - 1) _ g (by omega)   ) (by omega) (Nat.zero_le _) (Nat.zero_le _) (Nat.le_of_ble_eq_true rfl) (fun r9 V9 h9 => ?_)
      obtain ⟨⟨y9, rfl, hl9, hh9, hP9_0⟩, hE9⟩ := h9
      have hE9 := hE9.symm
      subst hE9
      have hz9 : jEq y9.toInt (jdir (g.toInt)) := hP9_0
      simp only [hP9_0] at hl9 hh9
      clear hP9_0
      refine Jz_icmp_ge (tgt := 32) jEq.rf hz9 dX3_leadsOn_12 (by decide) (fun c12 => ?_) (fun c12 => ?_)
      · refine J_iload_n dX3_leadsOn_32 rfl ?_
        exact J_ret (r := some (.int _)) dX3_leadsOn_33 ⟨rfl, _, rfl, rfl⟩ (⟨⟨_, rfl, (j_rng _).1, (j_rng _).2, (by rw [hc, show i2n4.toInt.toNat = (jdir g.toInt).toNat by omega])⟩, rfl⟩)
      · refine J_aload_n dX3_leadsOn_15 rfl ?_
        refine J_iload_n dX3_leadsOn_16 rfl ?_
        refine Jw_callV1 (q9 := (RX3, TX3, 7)) moX3_leads jw_ml_X3_73 jw_im_X3_leads jw_se_X3_leads ha0 rfl rfl dX3_leadsOn_17 (w_X3_leads_z (d - 1) _ a0 i2n4 M g n s xx yy zz S X Y Z (by omega) hW  ha0 ⟨_, hO_a0, hF_M⟩ ⟨_, hO_a0, hF_g⟩ ⟨_, hO_a0, hF_n⟩ ⟨_, hO_a0, hF_s⟩ ⟨_, hO_a0, hF_xx⟩ ⟨_, hO_a0, hF_yy⟩ ⟨_, hO_a0, hF_zz⟩ ha_S ha_X ha_Y ha_Z (by omega) (by omega) (by omega) (by omega) (by omega) (by omega) (by omega) (by omega) (by omega) (by omega) (by omega) (by omega) (by omega)) (by omega) (Nat.zero_le _) (Nat.zero_le _) (Nat.le_of_ble_eq_true rfl) (fun r17 V17 h17 => ?_)
        obtain ⟨⟨y17, rfl, hl17, hh17, hI17_0, hI17_1⟩, hE17⟩ := h17
        have hE17 := hE17.symm
        subst hE17
        refine Jz_if_eq (tgt := 26) jEq.rf dX3_leadsOn_20 (by decide) (fun c20 => ?_) (fun c20 => ?_)
        · have q20_1 := hI17_1.of (by omega)
          refine Jz_iinc 1 dX3_leadsOn_26 rfl rfl (by decide) jEq.rf (by decide) (by omega) (by omega) (fun y26 he26 => ?_)
          refine J_goto (tgt := 4) dX3_leadsOn_29 (by decide) ?_
          refine J.mask [true, true, true] ?_
          exact ih4  i1n4 y26  (by (try simp only [he26.eq, true_and, and_true]) <;> omega) (by rw [he26.eq, show (i2n4.toInt + 1).toNat = i2n4.toInt.toNat + 1 by omega, jct_no (fun q => by obtain ⟨j, h1, h2⟩ := q20_1; exact q j (by omega) (by rw [Int.toNat_of_nonneg (a := i2n4.toInt) (by omega)]; exact h2))]; exact hc) (by (try simp only [he26.eq, true_and, and_true]) <;> omega)
        · have q20_0 := hI17_0.of (by omega)
          refine Jz_iinc 1 dX3_leadsOn_23 rfl rfl (by decide) jEq.rf (by decide) (by omega) (by omega) (fun y23 he23 => ?_)
          refine Jz_iinc 1 dX3_leadsOn_26 rfl rfl (by decide) jEq.rf (by decide) (by omega) (by omega) (fun y26 he26 => ?_)
          refine J_goto (tgt := 4) dX3_leadsOn_29 (by decide) ?_
          refine J.mask [true, true, true] ?_
          exact ih4  y23 y26  (by (try simp only [he23.eq, he26.eq, true_and, and_true]) <;> omega) (by rw [he26.eq, show (i2n4.toInt + 1).toNat = i2n4.toInt.toNat + 1 by omega, jct_yes (fun j hj => by rw [Int.toNat_of_nonneg (a := i2n4.toInt) (by omega)]; exact q20_0 j (by omega)), he23.eq, hc]) (by (try simp only [he23.eq, he26.eq, true_and, and_true]) <;> omega)
  refine J.mask [true, true, true] ?_
  exact L4 _  y0 y2    (by (try simp only [he0.eq, he2.eq, true_and, and_true]) <;> omega) (by rw [he0.eq, he2.eq]; rfl) (Nat.lt_succ_self _)
set_option maxRecDepth 100000 in
set_option maxHeartbeats 8000000 in
theorem w_X6_about_out {tS : jTS} (d : Nat) (V0 : jH) (a0 : Nat) (x1 : Int32) (x2 : Int32) (k : Int32) (md : Nat) (hd : 4 ≤ d) (hW : WT V0) (ha0 : jis V0 (.inr 4) a0) (hf_k : jfI V0 a0 4 1 k) (hr_md : jfR V0 a0 4 0 md) (hp0 : ¬ (0 ≤ x1.toInt ∧ x1.toInt < k.toInt)) : jTot tS mX6_about d [.ref a0, .int x1, .int x2] V0 0 0 (fun r V => (fun r _ => ∃ y : Int32, r = some (.int y) ∧ ((-2147483648) ≤ y.toInt) ∧ (y.toInt ≤ 2147483647) ∧ (y.toInt = -2)) r V ∧ V = V0) := by
  refine jTot.of_J [some (.ref a0), some (.int x1), some (.int x2), none] moX6_about (Nat.le_of_ble_eq_true rfl) rfl ?_
  have hrx1 := j_rng x1
  have hrx2 := j_rng x2
  have he : jeff [] V0 V0 := jeff.refl _ _
  obtain ⟨fs_a0, hO_a0, hK_a0⟩ := WT_obj hW id ha0
  have hF_k := hf_k.get hO_a0
  have hrk : 0 ≤ k.toInt ∧ k.toInt ≤ 16 := jok_rngI hK_a0 rfl hF_k
  have hF_md := hr_md.get hO_a0
  obtain ⟨w_md, hFq_md, b_md, hbq_md, hb_md⟩ := hK_a0.2 0 (.inr (some (.inl 4))) rfl
  cases hF_md.symm.trans (hFq_md.trans (congrArg some hbq_md))
  refine J_aload_n dX6_about_0 rfl ?_
  refine J_iload_n dX6_about_1 rfl ?_
  refine Jw_callV1 (q9 := (RX6, TX6, 7)) moX6_rowOf jw_ml_X6_55 jw_im_X6_rowOf jw_se_X6_rowOf ha0 rfl rfl dX6_about_2 (w_X6_rowOf_out (d - 1) _ a0 x1 hO_a0 hF_k (by omega)) (by omega) (Nat.zero_le _) (Nat.zero_le _) (Nat.le_of_ble_eq_true rfl) (fun r2 V2 h2 => ?_)
  obtain ⟨rfl, hE2⟩ := h2
  have hE2 := hE2.symm
  subst hE2
  · refine J_astore_nN dX6_about_5 rfl (by decide) ?_
    refine J_aload_nN dX6_about_6 rfl ?_
    refine J_ifnonnullN dX6_about_7 ?_
    refine Jz_bipush (-2) dX6_about_10 (by decide) (fun y10 he10 => ?_)
    exact J_ret (r := some (.int _)) dX6_about_12 ⟨rfl, _, rfl, rfl⟩ (⟨⟨_, rfl, (j_rng _).1, (j_rng _).2, (by (try simp only [he10.eq, true_and, and_true]) <;> omega)⟩, rfl⟩)
set_option maxRecDepth 100000 in
set_option maxHeartbeats 8000000 in
theorem w_X6_about_bad {tS : jTS} (d : Nat) (V0 : jH) (a0 : Nat) (x1 : Int32) (x2 : Int32) (k : Int32) (md : Nat) (f : Nat → Option Nat) (ro : Nat) (M : Int32) (g : Int32) (n : Int32) (s : Nat) (xx : Nat) (yy : Nat) (zz : Nat) (S : Nat → Int32) (X : Nat → Int32) (Y : Nat → Int32) (Z : Nat → Int32) (hd : 4 ≤ d) (hW : WT V0) (ha0 : jis V0 (.inr 4) a0) (hf_k : jfI V0 a0 4 1 k) (hr_md : jfR V0 a0 4 0 md) (ha_f : V0 md = some (.inl (4, 16, .inr (.inr (.inr (.inr f)))))) (hf_M : jfI V0 ro 1 0 M) (hf_g : jfI V0 ro 1 5 g) (hf_n : jfI V0 ro 1 6 n) (hr_s : jfR V0 ro 1 1 s) (hr_xx : jfR V0 ro 1 2 xx) (hr_yy : jfR V0 ro 1 3 yy) (hr_zz : jfR V0 ro 1 4 zz) (ha_S : V0 s = some (.inl (6, 60, .inl S))) (ha_X : V0 xx = some (.inl (34, 61, .inl X))) (ha_Y : V0 yy = some (.inl (35, 61, .inl Y))) (ha_Z : V0 zz = some (.inl (36, 61, .inl Z))) (hm_ro : M.toInt = 60) (hn_ro : n.toInt ≤ 60) (hfo : f x1.toInt.toNat = some ro) (hp0 : 0 ≤ x1.toInt) (hp1 : x1.toInt < k.toInt) (hp2 : ¬ (0 ≤ x2.toInt ∧ x2.toInt ≤ 7)) : jTot tS mX6_about d [.ref a0, .int x1, .int x2] V0 0 0 (fun r V => (fun r _ => ∃ y : Int32, r = some (.int y) ∧ ((-2147483648) ≤ y.toInt) ∧ (y.toInt ≤ 2147483647) ∧ (y.toInt = -2)) r V ∧ V = V0) := by
  refine jTot.of_J [some (.ref a0), some (.int x1), some (.int x2), none] moX6_about (Nat.le_of_ble_eq_true rfl) rfl ?_
  have hrx1 := j_rng x1
  have hrx2 := j_rng x2
  have he : jeff [] V0 V0 := jeff.refl _ _
  obtain ⟨fs_a0, hO_a0, hK_a0⟩ := WT_obj hW id ha0
  have hF_k := hf_k.get hO_a0
  have hrk : 0 ≤ k.toInt ∧ k.toInt ≤ 16 := jok_rngI hK_a0 rfl hF_k
  have hF_md := hr_md.get hO_a0
  obtain ⟨w_md, hFq_md, b_md, hbq_md, hb_md⟩ := hK_a0.2 0 (.inr (some (.inl 4))) rfl
  cases hF_md.symm.trans (hFq_md.trans (congrArg some hbq_md))
  have hb_ro : jis V0 (.inr 1) ro := by obtain ⟨q1, q2, q3⟩ := hf_M; exact ⟨_, q2, rfl⟩
  obtain ⟨fs_ro, hO_ro, hK_ro⟩ := WT_obj hW id hb_ro
  have hF_M := hf_M.get hO_ro
  have hrM : 0 ≤ M.toInt ∧ M.toInt ≤ 120 := jok_rngI hK_ro rfl hF_M
  have hF_g := hf_g.get hO_ro
  have hrg : (-2147483648) ≤ g.toInt ∧ g.toInt ≤ 2147483647 := jok_rngI hK_ro rfl hF_g
  have hF_n := hf_n.get hO_ro
  have hrn : 0 ≤ n.toInt ∧ n.toInt ≤ 120 := jok_rngI hK_ro rfl hF_n
  have hF_s := hr_s.get hO_ro
  have hb_s : jis V0 (.inl 6) s := ⟨_, ha_S, rfl⟩
  obtain ⟨hN_S, hv_S⟩ := WT_rngI (r := (-2147483648, 2147483647)) hW id rfl ha_S
  clear hN_S
  have hF_xx := hr_xx.get hO_ro
  have hb_xx : jis V0 (.inl 34) xx := ⟨_, ha_X, rfl⟩
  obtain ⟨hN_X, hv_X⟩ := WT_rngI (r := (-2147483648, 2147483647)) hW id rfl ha_X
  clear hN_X
  have hF_yy := hr_yy.get hO_ro
  have hb_yy : jis V0 (.inl 35) yy := ⟨_, ha_Y, rfl⟩
  obtain ⟨hN_Y, hv_Y⟩ := WT_rngI (r := (-2147483648, 2147483647)) hW id rfl ha_Y
  clear hN_Y
  have hF_zz := hr_zz.get hO_ro
  have hb_zz : jis V0 (.inl 36) zz := ⟨_, ha_Z, rfl⟩
  obtain ⟨hN_Z, hv_Z⟩ := WT_rngI (r := (-2147483648, 2147483647)) hW id rfl ha_Z
  clear hN_Z
  refine J_aload_n dX6_about_0 rfl ?_
  refine J_iload_n dX6_about_1 rfl ?_
  refine Jw_callV1 (q9 := (RX6, TX6, 7)) moX6_rowOf jw_ml_X6_55 jw_im_X6_rowOf jw_se_X6_rowOf ha0 rfl rfl dX6_about_2 (w_X6_rowOf_in (d - 1) _ a0 x1 hO_a0 hF_md hF_k ha_f (by omega) (by omega) (by omega) hfo) (by omega) (Nat.zero_le _) (Nat.zero_le _) (Nat.le_of_ble_eq_true rfl) (fun r2 V2 h2 => ?_)
  obtain ⟨rfl, hE2⟩ := h2
  have hE2 := hE2.symm
  subst hE2
  · refine J_astore_n dX6_about_5 rfl (by decide) ?_
    refine J_aload_n dX6_about_6 rfl ?_
    refine J_ifnonnull (tgt := 13) dX6_about_7 (by decide) ?_
    refine J_iload_n dX6_about_13 rfl ?_
    rcases jsw7 x2 with hx14 | hx14 | hx14 | hx14 | hx14 | hx14 | hx14 | hx14 | hx14 | hx14
    · have hx14t : x2.toInt = 0 := by rw [hx14]; rfl
      clear hx14
      refine J_tableIn (tgt := 60) dX6_about_14 (by omega) (by omega) (by rw [hx14t]; rfl) (by decide) ?_
      exact False.elim (by omega)
    · have hx14t : x2.toInt = 1 := by rw [hx14]; rfl
      clear hx14
      refine J_tableIn (tgt := 65) dX6_about_14 (by omega) (by omega) (by rw [hx14t]; rfl) (by decide) ?_
      exact False.elim (by omega)
    · have hx14t : x2.toInt = 2 := by rw [hx14]; rfl
      clear hx14
      refine J_tableIn (tgt := 70) dX6_about_14 (by omega) (by omega) (by rw [hx14t]; rfl) (by decide) ?_
      exact False.elim (by omega)
    · have hx14t : x2.toInt = 3 := by rw [hx14]; rfl
      clear hx14
      refine J_tableIn (tgt := 90) dX6_about_14 (by omega) (by omega) (by rw [hx14t]; rfl) (by decide) ?_
      exact False.elim (by omega)
    · have hx14t : x2.toInt = 4 := by rw [hx14]; rfl
      clear hx14
      refine J_tableIn (tgt := 103) dX6_about_14 (by omega) (by omega) (by rw [hx14t]; rfl) (by decide) ?_
      exact False.elim (by omega)
    · have hx14t : x2.toInt = 5 := by rw [hx14]; rfl
      clear hx14
      refine J_tableIn (tgt := 127) dX6_about_14 (by omega) (by omega) (by rw [hx14t]; rfl) (by decide) ?_
      exact False.elim (by omega)
    · have hx14t : x2.toInt = 6 := by rw [hx14]; rfl
      clear hx14
      refine J_tableIn (tgt := 132) dX6_about_14 (by omega) (by omega) (by rw [hx14t]; rfl) (by decide) ?_
      exact False.elim (by omega)
    · have hx14t : x2.toInt = 7 := by rw [hx14]; rfl
      clear hx14
      refine J_tableIn (tgt := 145) dX6_about_14 (by omega) (by omega) (by rw [hx14t]; rfl) (by decide) ?_
      exact False.elim (by omega)
    · refine J_tableOut (tgt := 150) dX6_about_14 (Or.inl hx14) (by decide) ?_
      refine Jz_bipush (-2) dX6_about_150 (by decide) (fun y150 he150 => ?_)
      exact J_ret (r := some (.int _)) dX6_about_152 ⟨rfl, _, rfl, rfl⟩ (⟨⟨_, rfl, (j_rng _).1, (j_rng _).2, (by (try simp only [he150.eq, true_and, and_true]) <;> omega)⟩, rfl⟩)
    · refine J_tableOut (tgt := 150) dX6_about_14 (Or.inr hx14) (by decide) ?_
      refine Jz_bipush (-2) dX6_about_150 (by decide) (fun y150 he150 => ?_)
      exact J_ret (r := some (.int _)) dX6_about_152 ⟨rfl, _, rfl, rfl⟩ (⟨⟨_, rfl, (j_rng _).1, (j_rng _).2, (by (try simp only [he150.eq, true_and, and_true]) <;> omega)⟩, rfl⟩)
set_option maxRecDepth 100000 in
set_option maxHeartbeats 8000000 in
theorem w_X6_about_ok {tS : jTS} (d : Nat) (V0 : jH) (a0 : Nat) (x1 : Int32) (x2 : Int32) (k : Int32) (md : Nat) (f : Nat → Option Nat) (ro : Nat) (M : Int32) (g : Int32) (n : Int32) (s : Nat) (xx : Nat) (yy : Nat) (zz : Nat) (S : Nat → Int32) (X : Nat → Int32) (Y : Nat → Int32) (Z : Nat → Int32) (hd : 4 ≤ d) (hW : WT V0) (ha0 : jis V0 (.inr 4) a0) (hf_k : jfI V0 a0 4 1 k) (hr_md : jfR V0 a0 4 0 md) (ha_f : V0 md = some (.inl (4, 16, .inr (.inr (.inr (.inr f)))))) (hf_M : jfI V0 ro 1 0 M) (hf_g : jfI V0 ro 1 5 g) (hf_n : jfI V0 ro 1 6 n) (hr_s : jfR V0 ro 1 1 s) (hr_xx : jfR V0 ro 1 2 xx) (hr_yy : jfR V0 ro 1 3 yy) (hr_zz : jfR V0 ro 1 4 zz) (ha_S : V0 s = some (.inl (6, 60, .inl S))) (ha_X : V0 xx = some (.inl (34, 61, .inl X))) (ha_Y : V0 yy = some (.inl (35, 61, .inl Y))) (ha_Z : V0 zz = some (.inl (36, 61, .inl Z))) (hm_ro : M.toInt = 60) (hn_ro : n.toInt ≤ 60) (hfo : f x1.toInt.toNat = some ro) (hp0 : 0 ≤ x1.toInt) (hp1 : x1.toInt < k.toInt) (hp2 : 0 ≤ g.toInt) (hp3 : g.toInt ≤ 3) (hp4 : -120 ≤ (X n.toInt.toNat).toInt) (hp5 : (X n.toInt.toNat).toInt ≤ 120) (hp6 : -120 ≤ (Y n.toInt.toNat).toInt) (hp7 : (Y n.toInt.toNat).toInt ≤ 120) (hp8 : -120 ≤ (Z n.toInt.toNat).toInt) (hp9 : (Z n.toInt.toNat).toInt ≤ 120) (hp10 : 0 ≤ x2.toInt) (hp11 : x2.toInt ≤ 7) : jTot tS mX6_about d [.ref a0, .int x1, .int x2] V0 0 0 (fun r V => (fun r _ => ∃ y : Int32, r = some (.int y) ∧ ((-2147483648) ≤ y.toInt) ∧ (y.toInt ≤ 2147483647) ∧ (y.toInt = jab8 g.toInt n.toInt S X Y Z x2.toInt)) r V ∧ V = V0) := by
  refine jTot.of_J [some (.ref a0), some (.int x1), some (.int x2), none] moX6_about (Nat.le_of_ble_eq_true rfl) rfl ?_
  have hrx1 := j_rng x1
  have hrx2 := j_rng x2
  have he : jeff [] V0 V0 := jeff.refl _ _
  obtain ⟨fs_a0, hO_a0, hK_a0⟩ := WT_obj hW id ha0
  have hF_k := hf_k.get hO_a0
  have hrk : 0 ≤ k.toInt ∧ k.toInt ≤ 16 := jok_rngI hK_a0 rfl hF_k
  have hF_md := hr_md.get hO_a0
  obtain ⟨w_md, hFq_md, b_md, hbq_md, hb_md⟩ := hK_a0.2 0 (.inr (some (.inl 4))) rfl
  cases hF_md.symm.trans (hFq_md.trans (congrArg some hbq_md))
  have hb_ro : jis V0 (.inr 1) ro := by obtain ⟨q1, q2, q3⟩ := hf_M; exact ⟨_, q2, rfl⟩
  obtain ⟨fs_ro, hO_ro, hK_ro⟩ := WT_obj hW id hb_ro
  have hF_M := hf_M.get hO_ro
  have hrM : 0 ≤ M.toInt ∧ M.toInt ≤ 120 := jok_rngI hK_ro rfl hF_M
  have hF_g := hf_g.get hO_ro
  have hrg : (-2147483648) ≤ g.toInt ∧ g.toInt ≤ 2147483647 := jok_rngI hK_ro rfl hF_g
  have hF_n := hf_n.get hO_ro
  have hrn : 0 ≤ n.toInt ∧ n.toInt ≤ 120 := jok_rngI hK_ro rfl hF_n
  have hF_s := hr_s.get hO_ro
  have hb_s : jis V0 (.inl 6) s := ⟨_, ha_S, rfl⟩
  obtain ⟨hN_S, hv_S⟩ := WT_rngI (r := (-2147483648, 2147483647)) hW id rfl ha_S
  clear hN_S
  have hF_xx := hr_xx.get hO_ro
  have hb_xx : jis V0 (.inl 34) xx := ⟨_, ha_X, rfl⟩
  obtain ⟨hN_X, hv_X⟩ := WT_rngI (r := (-2147483648, 2147483647)) hW id rfl ha_X
  clear hN_X
  have hF_yy := hr_yy.get hO_ro
  have hb_yy : jis V0 (.inl 35) yy := ⟨_, ha_Y, rfl⟩
  obtain ⟨hN_Y, hv_Y⟩ := WT_rngI (r := (-2147483648, 2147483647)) hW id rfl ha_Y
  clear hN_Y
  have hF_zz := hr_zz.get hO_ro
  have hb_zz : jis V0 (.inl 36) zz := ⟨_, ha_Z, rfl⟩
  obtain ⟨hN_Z, hv_Z⟩ := WT_rngI (r := (-2147483648, 2147483647)) hW id rfl ha_Z
  clear hN_Z
  refine J_aload_n dX6_about_0 rfl ?_
  refine J_iload_n dX6_about_1 rfl ?_
  refine Jw_callV1 (q9 := (RX6, TX6, 7)) moX6_rowOf jw_ml_X6_55 jw_im_X6_rowOf jw_se_X6_rowOf ha0 rfl rfl dX6_about_2 (w_X6_rowOf_in (d - 1) _ a0 x1 hO_a0 hF_md hF_k ha_f (by omega) (by omega) (by omega) hfo) (by omega) (Nat.zero_le _) (Nat.zero_le _) (Nat.le_of_ble_eq_true rfl) (fun r2 V2 h2 => ?_)
  obtain ⟨rfl, hE2⟩ := h2
  have hE2 := hE2.symm
  subst hE2
  · refine J_astore_n dX6_about_5 rfl (by decide) ?_
    refine J_aload_n dX6_about_6 rfl ?_
    refine J_ifnonnull (tgt := 13) dX6_about_7 (by decide) ?_
    refine J_iload_n dX6_about_13 rfl ?_
    rcases jsw7 x2 with hx14 | hx14 | hx14 | hx14 | hx14 | hx14 | hx14 | hx14 | hx14 | hx14
    · have hx14t : x2.toInt = 0 := by rw [hx14]; rfl
      clear hx14
      refine J_tableIn (tgt := 60) dX6_about_14 (by omega) (by omega) (by rw [hx14t]; rfl) (by decide) ?_
      refine J_aload_n dX6_about_60 rfl ?_
      refine J_get jf_X6_59 dX6_about_61 hO_ro hF_g ?_
      exact J_ret (r := some (.int _)) dX6_about_64 ⟨rfl, _, rfl, rfl⟩ (⟨⟨_, rfl, (j_rng _).1, (j_rng _).2, (by rw [hx14t]; rfl)⟩, rfl⟩)
    · have hx14t : x2.toInt = 1 := by rw [hx14]; rfl
      clear hx14
      refine J_tableIn (tgt := 65) dX6_about_14 (by omega) (by omega) (by rw [hx14t]; rfl) (by decide) ?_
      refine J_aload_n dX6_about_65 rfl ?_
      refine J_get jf_X6_69 dX6_about_66 hO_ro hF_n ?_
      exact J_ret (r := some (.int _)) dX6_about_69 ⟨rfl, _, rfl, rfl⟩ (⟨⟨_, rfl, (j_rng _).1, (j_rng _).2, (by rw [hx14t]; rfl)⟩, rfl⟩)
    · have hx14t : x2.toInt = 2 := by rw [hx14]; rfl
      clear hx14
      refine J_tableIn (tgt := 70) dX6_about_14 (by omega) (by omega) (by rw [hx14t]; rfl) (by decide) ?_
      refine J_aload_n dX6_about_70 rfl ?_
      refine J_get jf_X6_59 dX6_about_71 hO_ro hF_g ?_
      refine J_aload_n dX6_about_74 rfl ?_
      refine Jw_callV0 (q9 := (RX3, TX3, 7)) moX3_endX jw_ml_X6_93 jw_im_X3_endX jw_se_X3_endX hb_ro rfl rfl dX6_about_75 (w_X3_endX_z (d - 1) _ ro M g n s xx yy zz S X Y Z (by omega) hW  hb_ro ⟨_, hO_ro, hF_M⟩ ⟨_, hO_ro, hF_g⟩ ⟨_, hO_ro, hF_n⟩ ⟨_, hO_ro, hF_s⟩ ⟨_, hO_ro, hF_xx⟩ ⟨_, hO_ro, hF_yy⟩ ⟨_, hO_ro, hF_zz⟩ ha_S ha_X ha_Y ha_Z (by omega) (by omega) (by omega)) (by omega) (Nat.zero_le _) (Nat.zero_le _) (Nat.le_of_ble_eq_true rfl) (fun r75 V75 h75 => ?_)
      obtain ⟨⟨y75, rfl, hl75, hh75, hP75_0⟩, hE75⟩ := h75
      have hE75 := hE75.symm
      subst hE75
      clear hl75 hh75
      have hz75 : jEq y75.toInt ((X (n.toInt).toNat).toInt) := hP75_0
      clear hP75_0
      refine J_aload_n dX6_about_78 rfl ?_
      refine Jw_callV0 (q9 := (RX3, TX3, 7)) moX3_endY jw_ml_X6_97 jw_im_X3_endY jw_se_X3_endY hb_ro rfl rfl dX6_about_79 (w_X3_endY_z (d - 1) _ ro M g n s xx yy zz S X Y Z (by omega) hW  hb_ro ⟨_, hO_ro, hF_M⟩ ⟨_, hO_ro, hF_g⟩ ⟨_, hO_ro, hF_n⟩ ⟨_, hO_ro, hF_s⟩ ⟨_, hO_ro, hF_xx⟩ ⟨_, hO_ro, hF_yy⟩ ⟨_, hO_ro, hF_zz⟩ ha_S ha_X ha_Y ha_Z (by omega) (by omega) (by omega)) (by omega) (Nat.zero_le _) (Nat.zero_le _) (Nat.le_of_ble_eq_true rfl) (fun r79 V79 h79 => ?_)
      obtain ⟨⟨y79, rfl, hl79, hh79, hP79_0⟩, hE79⟩ := h79
      have hE79 := hE79.symm
      subst hE79
      clear hl79 hh79
      have hz79 : jEq y79.toInt ((Y (n.toInt).toNat).toInt) := hP79_0
      clear hP79_0
      refine J_aload_n dX6_about_82 rfl ?_
      refine Jw_callV0 (q9 := (RX3, TX3, 7)) moX3_endZ jw_ml_X6_120 jw_im_X3_endZ jw_se_X3_endZ hb_ro rfl rfl dX6_about_83 (w_X3_endZ_z (d - 1) _ ro M g n s xx yy zz S X Y Z (by omega) hW  hb_ro ⟨_, hO_ro, hF_M⟩ ⟨_, hO_ro, hF_g⟩ ⟨_, hO_ro, hF_n⟩ ⟨_, hO_ro, hF_s⟩ ⟨_, hO_ro, hF_xx⟩ ⟨_, hO_ro, hF_yy⟩ ⟨_, hO_ro, hF_zz⟩ ha_S ha_X ha_Y ha_Z (by omega) (by omega) (by omega)) (by omega) (Nat.zero_le _) (Nat.zero_le _) (Nat.le_of_ble_eq_true rfl) (fun r83 V83 h83 => ?_)
      obtain ⟨⟨y83, rfl, hl83, hh83, hP83_0⟩, hE83⟩ := h83
      have hE83 := hE83.symm
      subst hE83
      clear hl83 hh83
      have hz83 : jEq y83.toInt ((Z (n.toInt).toNat).toInt) := hP83_0
      clear hP83_0
      refine J_callS4 moX0_square jw_ml_X6_123 jw_st_X0_square dX6_about_86 (w_X0_square_z (d - 1) _ g y75 y79 y83 (by omega)   (by (try simp only [hz75.eq, true_and, and_true]) <;> omega) (by (try simp only [hz75.eq, true_and, and_true]) <;> omega) (by (try simp only [hz79.eq, true_and, and_true]) <;> omega) (by (try simp only [hz79.eq, true_and, and_true]) <;> omega) (by (try simp only [hz83.eq, true_and, and_true]) <;> omega) (by (try simp only [hz83.eq, true_and, and_true]) <;> omega)) (by omega) (Nat.zero_le _) (Nat.zero_le _) (Nat.le_of_ble_eq_true rfl) (fun r86 V86 h86 => ?_)
      obtain ⟨⟨y86, rfl, hl86, hh86, hP86_0⟩, hE86⟩ := h86
      have hE86 := hE86.symm
      subst hE86
      clear hl86 hh86
      try simp only [hz75.eq, hz79.eq, hz83.eq] at hP86_0
      have hz86 : jEq y86.toInt (jsq (g.toInt) ((X (n.toInt).toNat).toInt) ((Y (n.toInt).toNat).toInt) ((Z (n.toInt).toNat).toInt)) := hP86_0
      clear hP86_0
      exact J_ret (r := some (.int _)) dX6_about_89 ⟨rfl, _, rfl, rfl⟩ (⟨⟨_, rfl, (j_rng _).1, (j_rng _).2, (by rw [hx14t, hz86.eq]; rfl)⟩, rfl⟩)
    · have hx14t : x2.toInt = 3 := by rw [hx14]; rfl
      clear hx14
      refine J_tableIn (tgt := 90) dX6_about_14 (by omega) (by omega) (by rw [hx14t]; rfl) (by decide) ?_
      refine J_aload_n dX6_about_90 rfl ?_
      refine Jw_callV0 (q9 := (RX3, TX3, 7)) moX3_isRing jw_ml_X6_127 jw_im_X3_isRing jw_se_X3_isRing hb_ro rfl rfl dX6_about_91 (w_X3_isRing_z (d - 1) _ ro M g n s xx yy zz S X Y Z (by omega) hW  hb_ro ⟨_, hO_ro, hF_M⟩ ⟨_, hO_ro, hF_g⟩ ⟨_, hO_ro, hF_n⟩ ⟨_, hO_ro, hF_s⟩ ⟨_, hO_ro, hF_xx⟩ ⟨_, hO_ro, hF_yy⟩ ⟨_, hO_ro, hF_zz⟩ ha_S ha_X ha_Y ha_Z (by omega) (by omega) (by omega) (by omega) (by omega) (by omega) (by omega) (by omega) (by omega)) (by omega) (Nat.zero_le _) (Nat.zero_le _) (Nat.le_of_ble_eq_true rfl) (fun r91 V91 h91 => ?_)
      obtain ⟨⟨y91, rfl, hl91, hh91, hP91_0⟩, hE91⟩ := h91
      have hE91 := hE91.symm
      subst hE91
      refine Jz_if_eq (tgt := 101) jEq.rf dX6_about_94 (by decide) (fun c94 => ?_) (fun c94 => ?_)
      · refine Jz_iconst 0 dX6_about_101 (by decide) (fun y101 he101 => ?_)
        exact J_ret (r := some (.int _)) dX6_about_102 ⟨rfl, _, rfl, rfl⟩ (⟨⟨_, rfl, (j_rng _).1, (j_rng _).2, (by rw [hx14t, he101.eq]; exact (jpb_no (P := (jrngP g.toInt n.toInt X Y Z)) (hP91_0.elim (fun q => by omega) (fun q => q.2))).symm)⟩, rfl⟩)
      · refine Jz_iconst 1 dX6_about_97 (by decide) (fun y97 he97 => ?_)
        refine J_goto (tgt := 102) dX6_about_98 (by decide) ?_
        exact J_ret (r := some (.int _)) dX6_about_102 ⟨rfl, _, rfl, rfl⟩ (⟨⟨_, rfl, (j_rng _).1, (j_rng _).2, (by rw [hx14t, he97.eq]; exact (jpb_yes (P := (jrngP g.toInt n.toInt X Y Z)) (hP91_0.elim (fun q => q.2) (fun q => absurd q.1 c94))).symm)⟩, rfl⟩)
    · have hx14t : x2.toInt = 4 := by rw [hx14]; rfl
      clear hx14
      refine J_tableIn (tgt := 103) dX6_about_14 (by omega) (by omega) (by rw [hx14t]; rfl) (by decide) ?_
      refine J_aload_n dX6_about_103 rfl ?_
      refine Jw_callV0 (q9 := (RX3, TX3, 7)) moX3_isRing jw_ml_X6_127 jw_im_X3_isRing jw_se_X3_isRing hb_ro rfl rfl dX6_about_104 (w_X3_isRing_z (d - 1) _ ro M g n s xx yy zz S X Y Z (by omega) hW  hb_ro ⟨_, hO_ro, hF_M⟩ ⟨_, hO_ro, hF_g⟩ ⟨_, hO_ro, hF_n⟩ ⟨_, hO_ro, hF_s⟩ ⟨_, hO_ro, hF_xx⟩ ⟨_, hO_ro, hF_yy⟩ ⟨_, hO_ro, hF_zz⟩ ha_S ha_X ha_Y ha_Z (by omega) (by omega) (by omega) (by omega) (by omega) (by omega) (by omega) (by omega) (by omega)) (by omega) (Nat.zero_le _) (Nat.zero_le _) (Nat.le_of_ble_eq_true rfl) (fun r104 V104 h104 => ?_)
      obtain ⟨⟨y104, rfl, hl104, hh104, hP104_0⟩, hE104⟩ := h104
      have hE104 := hE104.symm
      subst hE104
      refine Jz_if_eq (tgt := 125) jEq.rf dX6_about_107 (by decide) (fun c107 => ?_) (fun c107 => ?_)
      · refine Jz_iconst (-1) dX6_about_125 (by decide) (fun y125 he125 => ?_)
        exact J_ret (r := some (.int _)) dX6_about_126 ⟨rfl, _, rfl, rfl⟩ (⟨⟨_, rfl, (j_rng _).1, (j_rng _).2, (by rw [hx14t, jab8_4, if_neg (fun q => by have q3 := jpb_no (P := (jrngP g.toInt n.toInt X Y Z)) (hP104_0.elim (fun q => by omega) (fun q => q.2)); omega)]; exact he125.eq)⟩, rfl⟩)
      · refine J_aload_n dX6_about_110 rfl ?_
        refine J_get jf_X6_59 dX6_about_111 hO_ro hF_g ?_
        refine Jz_iconst 3 dX6_about_114 (by decide) (fun y114 he114 => ?_)
        refine Jz_icmp_eq (tgt := 125) jEq.rf he114 dX6_about_115 (by decide) (fun c115 => ?_) (fun c115 => ?_)
        · refine Jz_iconst (-1) dX6_about_125 (by decide) (fun y125 he125 => ?_)
          exact J_ret (r := some (.int _)) dX6_about_126 ⟨rfl, _, rfl, rfl⟩ (⟨⟨_, rfl, (j_rng _).1, (j_rng _).2, (by rw [hx14t, jab8_4, if_neg (fun q => q.2 c115)]; exact he125.eq)⟩, rfl⟩)
        · refine J_aload_n dX6_about_118 rfl ?_
          refine Jw_callV0 (q9 := (RX3, TX3, 7)) moX3_twiceArea jw_ml_X6_131 jw_im_X3_twiceArea jw_se_X3_twiceArea hb_ro rfl rfl dX6_about_119 (w_X3_twiceArea_z (d - 1) _ ro M g n s xx yy zz S X Y Z (by omega) hW  hb_ro ⟨_, hO_ro, hF_M⟩ ⟨_, hO_ro, hF_g⟩ ⟨_, hO_ro, hF_n⟩ ⟨_, hO_ro, hF_s⟩ ⟨_, hO_ro, hF_xx⟩ ⟨_, hO_ro, hF_yy⟩ ⟨_, hO_ro, hF_zz⟩ ha_S ha_X ha_Y ha_Z (by omega) (by omega) (by omega)) (by omega) (Nat.zero_le _) (Nat.zero_le _) (Nat.le_of_ble_eq_true rfl) (fun r119 V119 h119 => ?_)
          obtain ⟨⟨y119, rfl, hl119, hh119, hP119_0⟩, hE119⟩ := h119
          have hE119 := hE119.symm
          subst hE119
          clear hl119 hh119
          have hz119 : jEq y119.toInt ((jab (jar X Y (n.toInt).toNat)).toInt) := hP119_0
          clear hP119_0
          refine J_goto (tgt := 126) dX6_about_122 (by decide) ?_
          exact J_ret (r := some (.int _)) dX6_about_126 ⟨rfl, _, rfl, rfl⟩ (⟨⟨_, rfl, (j_rng _).1, (j_rng _).2, (by rw [hx14t, jab8_4, if_pos ⟨jpb_yes (P := (jrngP g.toInt n.toInt X Y Z)) (hP104_0.elim (fun q => q.2) (fun q => absurd q.1 c107)), c115⟩]; exact hz119.eq)⟩, rfl⟩)
    · have hx14t : x2.toInt = 5 := by rw [hx14]; rfl
      clear hx14
      refine J_tableIn (tgt := 127) dX6_about_14 (by omega) (by omega) (by rw [hx14t]; rfl) (by decide) ?_
      refine J_aload_n dX6_about_127 rfl ?_
      refine Jw_callV0 (q9 := (RX3, TX3, 7)) moX3_bends jw_ml_X6_134 jw_im_X3_bends jw_se_X3_bends hb_ro rfl rfl dX6_about_128 (w_X3_bends_z (d - 1) _ ro M g n s xx yy zz S X Y Z (by omega) hW  hb_ro ⟨_, hO_ro, hF_M⟩ ⟨_, hO_ro, hF_g⟩ ⟨_, hO_ro, hF_n⟩ ⟨_, hO_ro, hF_s⟩ ⟨_, hO_ro, hF_xx⟩ ⟨_, hO_ro, hF_yy⟩ ⟨_, hO_ro, hF_zz⟩ ha_S ha_X ha_Y ha_Z (by omega) (by omega) (by omega) (by omega)) (by omega) (Nat.zero_le _) (Nat.zero_le _) (Nat.le_of_ble_eq_true rfl) (fun r128 V128 h128 => ?_)
      obtain ⟨⟨y128, rfl, hl128, hh128, hP128_0⟩, hE128⟩ := h128
      have hE128 := hE128.symm
      subst hE128
      clear hl128 hh128
      have hz128 : jEq y128.toInt (jbn S (n.toInt).toNat) := hP128_0
      clear hP128_0
      exact J_ret (r := some (.int _)) dX6_about_131 ⟨rfl, _, rfl, rfl⟩ (⟨⟨_, rfl, (j_rng _).1, (j_rng _).2, (by rw [hx14t, hz128.eq]; rfl)⟩, rfl⟩)
    · have hx14t : x2.toInt = 6 := by rw [hx14]; rfl
      clear hx14
      refine J_tableIn (tgt := 132) dX6_about_14 (by omega) (by omega) (by rw [hx14t]; rfl) (by decide) ?_
      refine J_aload_n dX6_about_132 rfl ?_
      refine Jw_callV0 (q9 := (RX3, TX3, 7)) moX3_isBridge jw_ml_X6_137 jw_im_X3_isBridge jw_se_X3_isBridge hb_ro rfl rfl dX6_about_133 (w_X3_isBridge_z (d - 1) _ ro M g n s xx yy zz S X Y Z (by omega) hW  hb_ro ⟨_, hO_ro, hF_M⟩ ⟨_, hO_ro, hF_g⟩ ⟨_, hO_ro, hF_n⟩ ⟨_, hO_ro, hF_s⟩ ⟨_, hO_ro, hF_xx⟩ ⟨_, hO_ro, hF_yy⟩ ⟨_, hO_ro, hF_zz⟩ ha_S ha_X ha_Y ha_Z (by omega) (by omega) (by omega)) (by omega) (Nat.zero_le _) (Nat.zero_le _) (Nat.le_of_ble_eq_true rfl) (fun r133 V133 h133 => ?_)
      obtain ⟨⟨y133, rfl, hl133, hh133, hI133_0, hI133_1⟩, hE133⟩ := h133
      have hE133 := hE133.symm
      subst hE133
      refine Jz_if_eq (tgt := 143) jEq.rf dX6_about_136 (by decide) (fun c136 => ?_) (fun c136 => ?_)
      · have q136_1 := hI133_1.of (by omega)
        refine Jz_iconst 0 dX6_about_143 (by decide) (fun y143 he143 => ?_)
        exact J_ret (r := some (.int _)) dX6_about_144 ⟨rfl, _, rfl, rfl⟩ (⟨⟨_, rfl, (j_rng _).1, (j_rng _).2, (by rw [hx14t]; first | (rw [he139.eq]; exact (jpb_yes (P := jbrg n.toInt.toNat X) q136_0).symm) | (rw [he143.eq]; exact (jpb_no (P := jbrg n.toInt.toNat X) q136_1).symm))⟩, rfl⟩)
      · have q136_0 := hI133_0.of (by omega)
        refine Jz_iconst 1 dX6_about_139 (by decide) (fun y139 he139 => ?_)
        refine J_goto (tgt := 144) dX6_about_140 (by decide) ?_
        exact J_ret (r := some (.int _)) dX6_about_144 ⟨rfl, _, rfl, rfl⟩ (⟨⟨_, rfl, (j_rng _).1, (j_rng _).2, (by rw [hx14t]; first | (rw [he139.eq]; exact (jpb_yes (P := jbrg n.toInt.toNat X) q136_0).symm) | (rw [he143.eq]; exact (jpb_no (P := jbrg n.toInt.toNat X) q136_1).symm))⟩, rfl⟩)
    · have hx14t : x2.toInt = 7 := by rw [hx14]; rfl
      clear hx14
      refine J_tableIn (tgt := 145) dX6_about_14 (by omega) (by omega) (by rw [hx14t]; rfl) (by decide) ?_
      refine J_aload_n dX6_about_145 rfl ?_
      refine Jw_callV0 (q9 := (RX3, TX3, 7)) moX3_leadsOn jw_ml_X6_140 jw_im_X3_leadsOn jw_se_X3_leadsOn hb_ro rfl rfl dX6_about_146 (w_X3_leadsOn_z (d - 1) _ ro M g n s xx yy zz S X Y Z (by omega) hW  hb_ro ⟨_, hO_ro, hF_M⟩ ⟨_, hO_ro, hF_g⟩ ⟨_, hO_ro, hF_n⟩ ⟨_, hO_ro, hF_s⟩ ⟨_, hO_ro, hF_xx⟩ ⟨_, hO_ro, hF_yy⟩ ⟨_, hO_ro, hF_zz⟩ ha_S ha_X ha_Y ha_Z (by omega) (by omega) (by omega) (by omega) (by omega) (by omega) (by omega) (by omega) (by omega) (by omega) (by omega)) (by omega) (Nat.zero_le _) (Nat.zero_le _) (Nat.le_of_ble_eq_true rfl) (fun r146 V146 h146 => ?_)
      obtain ⟨⟨y146, rfl, hl146, hh146, hP146_0⟩, hE146⟩ := h146
      have hE146 := hE146.symm
      subst hE146
      clear hl146 hh146
      have hz146 : jEq y146.toInt (jct (fun d : Nat => jfree (g.toInt) (n.toInt).toNat X Y Z (d : Int)) (jdir (g.toInt)).toNat) := hP146_0
      clear hP146_0
      exact J_ret (r := some (.int _)) dX6_about_149 ⟨rfl, _, rfl, rfl⟩ (⟨⟨_, rfl, (j_rng _).1, (j_rng _).2, (by rw [hx14t, hz146.eq]; rfl)⟩, rfl⟩)
    · refine J_tableOut (tgt := 150) dX6_about_14 (Or.inl hx14) (by decide) ?_
      exact False.elim (by omega)
    · refine J_tableOut (tgt := 150) dX6_about_14 (Or.inr hx14) (by decide) ?_
      exact False.elim (by omega)
set_option maxRecDepth 100000 in
set_option maxHeartbeats 8000000 in
theorem w_X7_isRing_z {tS : jTS} (d : Nat) (V0 : jH) (a0 : Nat) (x1 : Int32) (n : Int32) (px : Nat) (py : Nat) (pz : Nat) (PX : Nat → Int32) (PY : Nat → Int32) (PZ : Nat → Int32) (hd : 1 ≤ d) (hW : WT V0) (ha0 : jis V0 (.inr 5) a0) (hf_n : jfI V0 a0 5 5 n) (hr_px : jfR V0 a0 5 6 px) (hr_py : jfR V0 a0 5 7 py) (hr_pz : jfR V0 a0 5 8 pz) (ha_PX : V0 px = some (.inl (18, 121, .inl PX))) (ha_PY : V0 py = some (.inl (19, 121, .inl PY))) (ha_PZ : V0 pz = some (.inl (20, 121, .inl PZ))) (hp0 : 0 ≤ x1.toInt) (hp1 : x1.toInt ≤ 3) (hp2 : -128 ≤ (PX n.toInt.toNat).toInt) (hp3 : (PX n.toInt.toNat).toInt ≤ 128) (hp4 : -128 ≤ (PY n.toInt.toNat).toInt) (hp5 : (PY n.toInt.toNat).toInt ≤ 128) (hp6 : -128 ≤ (PZ n.toInt.toNat).toInt) (hp7 : (PZ n.toInt.toNat).toInt ≤ 128) (hp8 : x1.toInt = 3 ∨ (PZ n.toInt.toNat).toInt = 0) : jTot tS mX7_isRing d [.ref a0, .int x1] V0 0 0 (fun r V => (fun r _ => ∃ y : Int32, r = some (.int y) ∧ (0 ≤ y.toInt) ∧ (y.toInt ≤ 1) ∧ ((y.toInt = 1 ∧ (2 ≤ n.toInt ∧ jsq x1.toInt (PX n.toInt.toNat).toInt (PY n.toInt.toNat).toInt (PZ n.toInt.toNat).toInt = 1 ∧ (¬ x1.toInt = 2 ∨ 0 ≤ (PY n.toInt.toNat).toInt))) ∨ (y.toInt = 0 ∧ ¬ (2 ≤ n.toInt ∧ jsq x1.toInt (PX n.toInt.toNat).toInt (PY n.toInt.toNat).toInt (PZ n.toInt.toNat).toInt = 1 ∧ (¬ x1.toInt = 2 ∨ 0 ≤ (PY n.toInt.toNat).toInt))))) r V ∧ V = V0) := by
  refine jTot.of_J [some (.ref a0), some (.int x1), none, none, none, none] moX7_isRing (Nat.le_of_ble_eq_true rfl) rfl ?_
  have hrx1 := j_rng x1
  have he : jeff [] V0 V0 := jeff.refl _ _
  obtain ⟨fs_a0, hO_a0, hK_a0⟩ := WT_obj hW id ha0
  have hF_n := hf_n.get hO_a0
  have hrn : 0 ≤ n.toInt ∧ n.toInt ≤ 120 := jok_rngI hK_a0 rfl hF_n
  have hF_px := hr_px.get hO_a0
  obtain ⟨w_px, hFq_px, b_px, hbq_px, hb_px⟩ := hK_a0.2 6 (.inr (some (.inl 18))) rfl
  cases hF_px.symm.trans (hFq_px.trans (congrArg some hbq_px))
  have hF_py := hr_py.get hO_a0
  obtain ⟨w_py, hFq_py, b_py, hbq_py, hb_py⟩ := hK_a0.2 7 (.inr (some (.inl 19))) rfl
  cases hF_py.symm.trans (hFq_py.trans (congrArg some hbq_py))
  have hF_pz := hr_pz.get hO_a0
  obtain ⟨w_pz, hFq_pz, b_pz, hbq_pz, hb_pz⟩ := hK_a0.2 8 (.inr (some (.inl 20))) rfl
  cases hF_pz.symm.trans (hFq_pz.trans (congrArg some hbq_pz))
  obtain ⟨hN_PX, hv_PX⟩ := WT_rngI (r := ((-2147483648), 2147483647)) hW id rfl ha_PX
  clear hN_PX
  obtain ⟨hN_PY, hv_PY⟩ := WT_rngI (r := ((-2147483648), 2147483647)) hW id rfl ha_PY
  clear hN_PY
  obtain ⟨hN_PZ, hv_PZ⟩ := WT_rngI (r := ((-2147483648), 2147483647)) hW id rfl ha_PZ
  clear hN_PZ
  have hjd := jdir_cases x1.toInt
  refine J_aload_n dX7_isRing_0 rfl ?_
  refine J_get jf_X7_22 dX7_isRing_1 hO_a0 hF_px ?_
  refine J_aload_n dX7_isRing_4 rfl ?_
  refine J_get jf_X7_109 dX7_isRing_5 hO_a0 hF_n ?_
  refine Jz_iald (r := ((-2147483648), 2147483647)) jEq.rf dX7_isRing_8 ha_PX rfl hv_PX (by omega) (by omega) (fun y8 hf8 hl8 hh8 => ?_)
  dsimp only at hl8 hh8
  clear hl8 hh8
  have e8 : (PX n.toInt.toNat).toInt = y8.toInt := by rw [hf8]
  refine J_istore_n dX7_isRing_9 rfl (by decide) ?_
  refine J_aload_n dX7_isRing_10 rfl ?_
  refine J_get jf_X7_25 dX7_isRing_11 hO_a0 hF_py ?_
  refine J_aload_n dX7_isRing_14 rfl ?_
  refine J_get jf_X7_109 dX7_isRing_15 hO_a0 hF_n ?_
  refine Jz_iald (r := ((-2147483648), 2147483647)) jEq.rf dX7_isRing_18 ha_PY rfl hv_PY (by omega) (by omega) (fun y18 hf18 hl18 hh18 => ?_)
  dsimp only at hl18 hh18
  clear hl18 hh18
  have e18 : (PY n.toInt.toNat).toInt = y18.toInt := by rw [hf18]
  refine J_istore_n dX7_isRing_19 rfl (by decide) ?_
  refine Jz_iconst 0 dX7_isRing_20 (by decide) (fun y20 he20 => ?_)
  refine J_istore dX7_isRing_21 rfl (by decide) ?_
  refine Jz_iconst 0 dX7_isRing_23 (by decide) (fun y23 he23 => ?_)
  refine J_istore dX7_isRing_24 rfl (by decide) ?_
  have L26 : ∀ (N : Nat) (i4n26 : Int32) (i5n26 : Int32), (0 ≤ i5n26.toInt ∧ i5n26.toInt ≤ jdir x1.toInt) → ((i4n26.toInt = 1 ∧ 2 ≤ n.toInt ∧ ∃ d : Nat, (d : Int) < i5n26.toInt ∧ ((PX n.toInt.toNat).toInt + jsx x1.toInt (d : Int) = 0 ∧ (PY n.toInt.toNat).toInt + jsy x1.toInt (d : Int) ((PX n.toInt.toNat).toInt + (PY n.toInt.toNat).toInt) = 0 ∧ (PZ n.toInt.toNat).toInt + jsz x1.toInt (d : Int) = 0)) ∨ (i4n26.toInt = 0 ∧ ¬ (2 ≤ n.toInt ∧ ∃ d : Nat, (d : Int) < i5n26.toInt ∧ ((PX n.toInt.toNat).toInt + jsx x1.toInt (d : Int) = 0 ∧ (PY n.toInt.toNat).toInt + jsy x1.toInt (d : Int) ((PX n.toInt.toNat).toInt + (PY n.toInt.toNat).toInt) = 0 ∧ (PZ n.toInt.toNat).toInt + jsz x1.toInt (d : Int) = 0)))) → (300 - i5n26.toInt).toNat < N → J tS mX7_isRing d 26 [some (.ref a0), some (.int x1), some (.int y8), some (.int y18), some (.int i4n26), some (.int i5n26)] [] V0 0 0 (fun r V => (fun r _ => ∃ y : Int32, r = some (.int y) ∧ (0 ≤ y.toInt) ∧ (y.toInt ≤ 1) ∧ ((y.toInt = 1 ∧ (2 ≤ n.toInt ∧ jsq x1.toInt (PX n.toInt.toNat).toInt (PY n.toInt.toNat).toInt (PZ n.toInt.toNat).toInt = 1 ∧ (¬ x1.toInt = 2 ∨ 0 ≤ (PY n.toInt.toNat).toInt))) ∨ (y.toInt = 0 ∧ ¬ (2 ≤ n.toInt ∧ jsq x1.toInt (PX n.toInt.toNat).toInt (PY n.toInt.toNat).toInt (PZ n.toInt.toNat).toInt = 1 ∧ (¬ x1.toInt = 2 ∨ 0 ≤ (PY n.toInt.toNat).toInt))))) r V ∧ V = V0) := by
    intro N
    induction N with
    | zero => intro i4n26 i5n26  hi5 hb hm; exact absurd hm (Nat.not_lt_zero _)
    | succ N ih =>
      intro i4n26 i5n26  hi5 hb hm
      have ih26 := ih
      have hri5 := j_rng i5n26
      refine J_iload dX7_isRing_26 rfl ?_
      refine J_iload_n dX7_isRing_28 rfl ?_
      refine J_callS1 moX7_directions jw_ml_X7_133 jw_st_X7_directions dX7_isRing_29 (w_X7_directions (d - 1) _ x1 (by omega)   ) (by omega) (Nat.zero_le _) (Nat.zero_le _) (Nat.le_of_ble_eq_true rfl) (fun r29 V29 h29 => ?_)
      obtain ⟨⟨y29, rfl, hl29, hh29, hP29_0⟩, hE29⟩ := h29
      have hE29 := hE29.symm
      subst hE29
      have hz29 : jEq y29.toInt (jdir (x1.toInt)) := hP29_0
      simp only [hP29_0] at hl29 hh29
      clear hP29_0
      refine Jz_icmp_ge (tgt := 105) jEq.rf hz29 dX7_isRing_32 (by decide) (fun c32 => ?_) (fun c32 => ?_)
      · refine J_iload dX7_isRing_105 rfl ?_
        exact J_ret (r := some (.int _)) dX7_isRing_107 ⟨rfl, _, rfl, (nar_b (by omega) (by omega))⟩ (⟨⟨_, rfl, (by omega), (by omega), (hb.elim (fun q => Or.inl ⟨q.1, q.2.1, (jring_iff (g := x1.toInt) (x := (PX n.toInt.toNat).toInt) (y := (PY n.toInt.toNat).toInt) (z := (PZ n.toInt.toNat).toInt) ⟨hp0, hp1⟩ (fun z => hp8.elim (fun q => absurd q z) id)).mpr (by obtain ⟨d, hd, hq⟩ := q.2.2; exact ⟨d, by omega, hq⟩)⟩) (fun q => Or.inr ⟨q.1, fun z => by obtain ⟨d, hd, hq⟩ := (jring_iff (g := x1.toInt) (x := (PX n.toInt.toNat).toInt) (y := (PY n.toInt.toNat).toInt) (z := (PZ n.toInt.toNat).toInt) ⟨hp0, hp1⟩ (fun z => hp8.elim (fun q => absurd q z) id)).mp z.2; first | exact absurd z.1 (by omega) | exact q.2 ⟨z.1, d, by omega, hq⟩⟩))⟩, rfl⟩)
      · refine J_aload_n dX7_isRing_35 rfl ?_
        refine J_get jf_X7_109 dX7_isRing_36 hO_a0 hF_n ?_
        refine Jz_iconst 1 dX7_isRing_39 (by decide) (fun y39 he39 => ?_)
        refine Jz_icmp_le (tgt := 105) jEq.rf he39 dX7_isRing_40 (by decide) (fun c40 => ?_) (fun c40 => ?_)
        · refine J_iload dX7_isRing_105 rfl ?_
          exact J_ret (r := some (.int _)) dX7_isRing_107 ⟨rfl, _, rfl, (nar_b (by omega) (by omega))⟩ (⟨⟨_, rfl, (by omega), (by omega), (hb.elim (fun q => Or.inl ⟨q.1, q.2.1, (jring_iff (g := x1.toInt) (x := (PX n.toInt.toNat).toInt) (y := (PY n.toInt.toNat).toInt) (z := (PZ n.toInt.toNat).toInt) ⟨hp0, hp1⟩ (fun z => hp8.elim (fun q => absurd q z) id)).mpr (by obtain ⟨d, hd, hq⟩ := q.2.2; exact ⟨d, by omega, hq⟩)⟩) (fun q => Or.inr ⟨q.1, fun z => by obtain ⟨d, hd, hq⟩ := (jring_iff (g := x1.toInt) (x := (PX n.toInt.toNat).toInt) (y := (PY n.toInt.toNat).toInt) (z := (PZ n.toInt.toNat).toInt) ⟨hp0, hp1⟩ (fun z => hp8.elim (fun q => absurd q z) id)).mp z.2; first | exact absurd z.1 (by omega) | exact q.2 ⟨z.1, d, by omega, hq⟩⟩))⟩, rfl⟩)
        · refine J_iload dX7_isRing_43 rfl ?_
          refine Jz_if_ne (tgt := 92) jEq.rf dX7_isRing_45 (by decide) (fun c45 => ?_) (fun c45 => ?_)
          · refine Jz_iconst 1 dX7_isRing_92 (by decide) (fun y92 he92 => ?_)
            refine J_goto (tgt := 97) dX7_isRing_93 (by decide) ?_
            refine J_istore dX7_isRing_97 rfl (by decide) ?_
            refine Jz_iinc 1 dX7_isRing_99 rfl rfl (by decide) jEq.rf (by decide) (by omega) (by omega) (fun y99 he99 => ?_)
            refine J_goto (tgt := 26) dX7_isRing_102 (by decide) ?_
            refine J.mask [true, true, true, true, true, true] ?_
            exact ih26  y92 y99  (by (try simp only [he92.eq, he99.eq, true_and, and_true]) <;> omega) (hb.elim (fun q => Or.inl ⟨he92.eq, q.2.1, by obtain ⟨d, hd, hq⟩ := q.2.2; exact ⟨d, by rw [he99.eq]; omega, hq⟩⟩) (fun q => absurd q.1 c45)) (by (try simp only [he92.eq, he99.eq, true_and, and_true]) <;> omega)
          · refine J_iload_n dX7_isRing_48 rfl ?_
            refine J_iload_n dX7_isRing_49 rfl ?_
            refine J_iload dX7_isRing_50 rfl ?_
            refine J_callS2 moX7_stepX jw_ml_X7_112 jw_st_X7_stepX dX7_isRing_52 (w_X7_stepX_z (d - 1) _ x1 i5n26 (by omega)   (by omega) (by omega)) (by omega) (Nat.zero_le _) (Nat.zero_le _) (Nat.le_of_ble_eq_true rfl) (fun r52 V52 h52 => ?_)
            obtain ⟨⟨y52, rfl, hl52, hh52, hP52_0⟩, hE52⟩ := h52
            have hE52 := hE52.symm
            subst hE52
            have hz52 : jEq y52.toInt (jsx (x1.toInt) (i5n26.toInt)) := hP52_0
            simp only [hP52_0] at hl52 hh52
            clear hP52_0
            refine Jz_iadd jEq.rf hz52 dX7_isRing_55 (by omega) (by omega) (fun y55 he55 => ?_)
            refine Jz_if_ne (tgt := 96) he55 dX7_isRing_56 (by decide) (fun c56 => ?_) (fun c56 => ?_)
            · refine Jz_iconst 0 dX7_isRing_96 (by decide) (fun y96 he96 => ?_)
              refine J_istore dX7_isRing_97 rfl (by decide) ?_
              refine Jz_iinc 1 dX7_isRing_99 rfl rfl (by decide) jEq.rf (by decide) (by omega) (by omega) (fun y99 he99 => ?_)
              refine J_goto (tgt := 26) dX7_isRing_102 (by decide) ?_
              refine J.mask [true, true, true, true, true, true] ?_
              exact ih26  y96 y99  (by (try simp only [he96.eq, he99.eq, true_and, and_true]) <;> omega) (Or.inr ⟨he96.eq, fun z => by obtain ⟨d, hd, hq⟩ := z.2; rw [he99.eq] at hd; by_cases h9 : (d : Int) = i5n26.toInt; (rw [h9] at hq; exact c56 (by rw [hf8] at hq; exact hq.1)); exact hb.elim (fun q => absurd q.1 (by omega)) (fun q => q.2 ⟨z.1, d, by omega, hq⟩)⟩) (by (try simp only [he96.eq, he99.eq, true_and, and_true]) <;> omega)
            · refine J_iload_n dX7_isRing_59 rfl ?_
              refine J_iload_n dX7_isRing_60 rfl ?_
              refine J_iload dX7_isRing_61 rfl ?_
              refine J_iload_n dX7_isRing_63 rfl ?_
              refine J_iload_n dX7_isRing_64 rfl ?_
              refine Jz_iadd jEq.rf jEq.rf dX7_isRing_65 (by omega) (by omega) (fun y65 he65 => ?_)
              refine J_callS3 moX7_stepY jw_ml_X7_115 jw_st_X7_stepY dX7_isRing_66 (w_X7_stepY_z (d - 1) _ x1 i5n26 y65 (by omega)   (by omega) (by omega)) (by omega) (Nat.zero_le _) (Nat.zero_le _) (Nat.le_of_ble_eq_true rfl) (fun r66 V66 h66 => ?_)
              obtain ⟨⟨y66, rfl, hl66, hh66, hP66_0⟩, hE66⟩ := h66
              have hE66 := hE66.symm
              subst hE66
              try simp only [he65.eq] at hP66_0
              have hz66 : jEq y66.toInt (jsy (x1.toInt) (i5n26.toInt) (y8.toInt + y18.toInt)) := hP66_0
              simp only [hP66_0] at hl66 hh66
              clear hP66_0
              refine Jz_iadd jEq.rf hz66 dX7_isRing_69 (by omega) (by omega) (fun y69 he69 => ?_)
              refine Jz_if_ne (tgt := 96) he69 dX7_isRing_70 (by decide) (fun c70 => ?_) (fun c70 => ?_)
              · refine Jz_iconst 0 dX7_isRing_96 (by decide) (fun y96 he96 => ?_)
                refine J_istore dX7_isRing_97 rfl (by decide) ?_
                refine Jz_iinc 1 dX7_isRing_99 rfl rfl (by decide) jEq.rf (by decide) (by omega) (by omega) (fun y99 he99 => ?_)
                refine J_goto (tgt := 26) dX7_isRing_102 (by decide) ?_
                refine J.mask [true, true, true, true, true, true] ?_
                exact ih26  y96 y99  (by (try simp only [he96.eq, he99.eq, true_and, and_true]) <;> omega) (Or.inr ⟨he96.eq, fun z => by obtain ⟨d, hd, hq⟩ := z.2; rw [he99.eq] at hd; by_cases h9 : (d : Int) = i5n26.toInt; (rw [h9] at hq; exact c70 (by rw [hf8, hf18] at hq; exact hq.2.1)); exact hb.elim (fun q => absurd q.1 (by omega)) (fun q => q.2 ⟨z.1, d, by omega, hq⟩)⟩) (by (try simp only [he96.eq, he99.eq, true_and, and_true]) <;> omega)
              · refine J_aload_n dX7_isRing_73 rfl ?_
                refine J_get jf_X7_28 dX7_isRing_74 hO_a0 hF_pz ?_
                refine J_aload_n dX7_isRing_77 rfl ?_
                refine J_get jf_X7_109 dX7_isRing_78 hO_a0 hF_n ?_
                refine Jz_iald (r := ((-2147483648), 2147483647)) jEq.rf dX7_isRing_81 ha_PZ rfl hv_PZ (by omega) (by omega) (fun y81 hf81 hl81 hh81 => ?_)
                dsimp only at hl81 hh81
                clear hl81 hh81
                have e81 : (PZ n.toInt.toNat).toInt = y81.toInt := by rw [hf81]
                refine J_iload_n dX7_isRing_82 rfl ?_
                refine J_iload dX7_isRing_83 rfl ?_
                refine J_callS2 moX7_stepZ jw_ml_X7_119 jw_st_X7_stepZ dX7_isRing_85 (w_X7_stepZ_z (d - 1) _ x1 i5n26 (by omega)   (by omega) (by omega)) (by omega) (Nat.zero_le _) (Nat.zero_le _) (Nat.le_of_ble_eq_true rfl) (fun r85 V85 h85 => ?_)
                obtain ⟨⟨y85, rfl, hl85, hh85, hP85_0⟩, hE85⟩ := h85
                have hE85 := hE85.symm
                subst hE85
                have hz85 : jEq y85.toInt (jsz (x1.toInt) (i5n26.toInt)) := hP85_0
                simp only [hP85_0] at hl85 hh85
                clear hP85_0
                refine Jz_iadd jEq.rf hz85 dX7_isRing_88 (by omega) (by omega) (fun y88 he88 => ?_)
                refine Jz_if_ne (tgt := 96) he88 dX7_isRing_89 (by decide) (fun c89 => ?_) (fun c89 => ?_)
                · refine Jz_iconst 0 dX7_isRing_96 (by decide) (fun y96 he96 => ?_)
                  refine J_istore dX7_isRing_97 rfl (by decide) ?_
                  refine Jz_iinc 1 dX7_isRing_99 rfl rfl (by decide) jEq.rf (by decide) (by omega) (by omega) (fun y99 he99 => ?_)
                  refine J_goto (tgt := 26) dX7_isRing_102 (by decide) ?_
                  refine J.mask [true, true, true, true, true, true] ?_
                  exact ih26  y96 y99  (by (try simp only [he96.eq, he99.eq, true_and, and_true]) <;> omega) (Or.inr ⟨he96.eq, fun z => by obtain ⟨d, hd, hq⟩ := z.2; rw [he99.eq] at hd; by_cases h9 : (d : Int) = i5n26.toInt; (rw [h9] at hq; exact c89 (by rw [hf81] at hq; exact hq.2.2)); exact hb.elim (fun q => absurd q.1 (by omega)) (fun q => q.2 ⟨z.1, d, by omega, hq⟩)⟩) (by (try simp only [he96.eq, he99.eq, true_and, and_true]) <;> omega)
                · refine Jz_iconst 1 dX7_isRing_92 (by decide) (fun y92 he92 => ?_)
                  refine J_goto (tgt := 97) dX7_isRing_93 (by decide) ?_
                  refine J_istore dX7_isRing_97 rfl (by decide) ?_
                  refine Jz_iinc 1 dX7_isRing_99 rfl rfl (by decide) jEq.rf (by decide) (by omega) (by omega) (fun y99 he99 => ?_)
                  refine J_goto (tgt := 26) dX7_isRing_102 (by decide) ?_
                  refine J.mask [true, true, true, true, true, true] ?_
                  exact ih26  y92 y99  (by (try simp only [he92.eq, he99.eq, true_and, and_true]) <;> omega) (Or.inl ⟨he92.eq, by omega, i5n26.toInt.toNat, by rw [he99.eq]; omega, by rw [Int.toNat_of_nonneg (a := i5n26.toInt) (by omega)]; exact ⟨by rw [hf8]; exact c56, by rw [hf8, hf18]; exact c70, by rw [hf81]; exact c89⟩⟩) (by (try simp only [he92.eq, he99.eq, true_and, and_true]) <;> omega)
  refine J.mask [true, true, true, true, true, true] ?_
  exact L26 _  y20 y23    (by (try simp only [he20.eq, he23.eq, true_and, and_true]) <;> omega) (Or.inr ⟨he20.eq, fun z => by obtain ⟨d, hd, hq⟩ := z.2; rw [he23.eq] at hd; omega⟩) (Nat.lt_succ_self _)
set_option maxRecDepth 100000 in
set_option maxHeartbeats 8000000 in
theorem w_X7_area_z {tS : jTS} (d : Nat) (V0 : jH) (a0 : Nat) (n : Int32) (px : Nat) (py : Nat) (PX : Nat → Int32) (PY : Nat → Int32) (hd : 0 ≤ d) (hW : WT V0) (ha0 : jis V0 (.inr 5) a0) (hf_n : jfI V0 a0 5 5 n) (hr_px : jfR V0 a0 5 6 px) (hr_py : jfR V0 a0 5 7 py) (ha_PX : V0 px = some (.inl (18, 121, .inl PX))) (ha_PY : V0 py = some (.inl (19, 121, .inl PY))) (hp0 : (PX 0).toInt = 0) (hp1 : (PY 0).toInt = 0) : jTot tS mX7_area d [.ref a0] V0 0 0 (fun r V => (fun r _ => ∃ y : Int32, r = some (.int y) ∧ ((-2147483648) ≤ y.toInt) ∧ (y.toInt ≤ 2147483647) ∧ (y.toInt = (jab (jar PX PY n.toInt.toNat)).toInt)) r V ∧ V = V0) := by
  refine jTot.of_J [some (.ref a0), none, none, none] moX7_area (Nat.le_of_ble_eq_true rfl) rfl ?_
  have he : jeff [] V0 V0 := jeff.refl _ _
  obtain ⟨fs_a0, hO_a0, hK_a0⟩ := WT_obj hW id ha0
  have hF_n := hf_n.get hO_a0
  have hrn : 0 ≤ n.toInt ∧ n.toInt ≤ 120 := jok_rngI hK_a0 rfl hF_n
  have hF_px := hr_px.get hO_a0
  obtain ⟨w_px, hFq_px, b_px, hbq_px, hb_px⟩ := hK_a0.2 6 (.inr (some (.inl 18))) rfl
  cases hF_px.symm.trans (hFq_px.trans (congrArg some hbq_px))
  have hF_py := hr_py.get hO_a0
  obtain ⟨w_py, hFq_py, b_py, hbq_py, hb_py⟩ := hK_a0.2 7 (.inr (some (.inl 19))) rfl
  cases hF_py.symm.trans (hFq_py.trans (congrArg some hbq_py))
  obtain ⟨hN_PX, hv_PX⟩ := WT_rngI (r := ((-2147483648), 2147483647)) hW id rfl ha_PX
  clear hN_PX
  obtain ⟨hN_PY, hv_PY⟩ := WT_rngI (r := ((-2147483648), 2147483647)) hW id rfl ha_PY
  clear hN_PY
  refine Jz_iconst 0 dX7_area_0 (by decide) (fun y0 he0 => ?_)
  refine J_istore_n dX7_area_1 rfl (by decide) ?_
  refine Jz_iconst 0 dX7_area_2 (by decide) (fun y2 he2 => ?_)
  refine J_istore_n dX7_area_3 rfl (by decide) ?_
  have L4 : ∀ (N : Nat) (i1n4 : Int32) (i2n4 : Int32), (0 ≤ i2n4.toInt ∧ i2n4.toInt ≤ n.toInt + 1) → (i1n4 = jar PX PY (min i2n4.toInt.toNat n.toInt.toNat)) → (300 - i2n4.toInt).toNat < N → J tS mX7_area d 4 [some (.ref a0), some (.int i1n4), some (.int i2n4), none] [] V0 0 0 (fun r V => (fun r _ => ∃ y : Int32, r = some (.int y) ∧ ((-2147483648) ≤ y.toInt) ∧ (y.toInt ≤ 2147483647) ∧ (y.toInt = (jab (jar PX PY n.toInt.toNat)).toInt)) r V ∧ V = V0) := by
    intro N
    induction N with
    | zero => intro i1n4 i2n4  hi2 hs hm; exact absurd hm (Nat.not_lt_zero _)
    | succ N ih =>
      intro i1n4 i2n4  hi2 hs hm
      have ih4 := ih
      have hri2 := j_rng i2n4
      refine J_iload_n dX7_area_4 rfl ?_
      refine J_aload_n dX7_area_5 rfl ?_
      refine J_get jf_X7_109 dX7_area_6 hO_a0 hF_n ?_
      refine Jz_icmp_gt (tgt := 64) jEq.rf jEq.rf dX7_area_9 (by decide) (fun c9 => ?_) (fun c9 => ?_)
      · refine J_iload_n dX7_area_64 rfl ?_
        refine Jz_if_ge (tgt := 73) jEq.rf dX7_area_65 (by decide) (fun c65 => ?_) (fun c65 => ?_)
        · refine J_iload_n dX7_area_73 rfl ?_
          exact J_ret (r := some (.int _)) dX7_area_74 ⟨rfl, _, rfl, rfl⟩ (⟨⟨_, rfl, (j_rng _).1, (j_rng _).2, (by unfold jab; first | (rw [hs, Nat.min_eq_right (by omega)] at c65 ⊢; rw [if_neg (fun q => by rw [Int32.le_iff_toInt_le, Int32.toInt_zero] at q; omega), Int32.zero_sub]) | (rw [hs, Nat.min_eq_right (by omega)] at c65 ⊢; rw [if_pos (by rw [Int32.le_iff_toInt_le, Int32.toInt_zero]; omega)]))⟩, rfl⟩)
        · refine J_iload_n dX7_area_68 rfl ?_
          refine J_ineg dX7_area_69 ?_
          refine J_goto (tgt := 74) dX7_area_70 (by decide) ?_
          exact J_ret (r := some (.int _)) dX7_area_74 ⟨rfl, _, rfl, rfl⟩ (⟨⟨_, rfl, (j_rng _).1, (j_rng _).2, (by unfold jab; first | (rw [hs, Nat.min_eq_right (by omega)] at c65 ⊢; rw [if_neg (fun q => by rw [Int32.le_iff_toInt_le, Int32.toInt_zero] at q; omega), Int32.zero_sub]) | (rw [hs, Nat.min_eq_right (by omega)] at c65 ⊢; rw [if_pos (by rw [Int32.le_iff_toInt_le, Int32.toInt_zero]; omega)]))⟩, rfl⟩)
      · refine J_iload_n dX7_area_12 rfl ?_
        refine J_aload_n dX7_area_13 rfl ?_
        refine J_get jf_X7_109 dX7_area_14 hO_a0 hF_n ?_
        refine Jz_icmp_ne (tgt := 24) jEq.rf jEq.rf dX7_area_17 (by decide) (fun c17 => ?_) (fun c17 => ?_)
        · refine J_iload_n dX7_area_24 rfl ?_
          refine Jz_iconst 1 dX7_area_25 (by decide) (fun y25 he25 => ?_)
          refine Jz_iadd jEq.rf he25 dX7_area_26 (by omega) (by omega) (fun y26 he26 => ?_)
          refine J_istore_n dX7_area_27 rfl (by decide) ?_
          refine J_iload_n dX7_area_28 rfl ?_
          refine J_aload_n dX7_area_29 rfl ?_
          refine J_get jf_X7_22 dX7_area_30 hO_a0 hF_px ?_
          refine J_iload_n dX7_area_33 rfl ?_
          refine Jz_iald (r := ((-2147483648), 2147483647)) jEq.rf dX7_area_34 ha_PX rfl hv_PX (by omega) (by omega) (fun y34 hf34 hl34 hh34 => ?_)
          dsimp only at hl34 hh34
          clear hl34 hh34
          refine J_aload_n dX7_area_35 rfl ?_
          refine J_get jf_X7_25 dX7_area_36 hO_a0 hF_py ?_
          refine J_iload_n dX7_area_39 rfl ?_
          refine Jz_iald (r := ((-2147483648), 2147483647)) he26 dX7_area_40 ha_PY rfl hv_PY (by omega) (by omega) (fun y40 hf40 hl40 hh40 => ?_)
          dsimp only at hl40 hh40
          clear hl40 hh40
          refine J_imul dX7_area_41 ?_
          refine J_aload_n dX7_area_42 rfl ?_
          refine J_get jf_X7_22 dX7_area_43 hO_a0 hF_px ?_
          refine J_iload_n dX7_area_46 rfl ?_
          refine Jz_iald (r := ((-2147483648), 2147483647)) he26 dX7_area_47 ha_PX rfl hv_PX (by omega) (by omega) (fun y47 hf47 hl47 hh47 => ?_)
          dsimp only at hl47 hh47
          clear hl47 hh47
          refine J_aload_n dX7_area_48 rfl ?_
          refine J_get jf_X7_25 dX7_area_49 hO_a0 hF_py ?_
          refine J_iload_n dX7_area_52 rfl ?_
          refine Jz_iald (r := ((-2147483648), 2147483647)) jEq.rf dX7_area_53 ha_PY rfl hv_PY (by omega) (by omega) (fun y53 hf53 hl53 hh53 => ?_)
          dsimp only at hl53 hh53
          clear hl53 hh53
          refine J_imul dX7_area_54 ?_
          refine J_isub dX7_area_55 ?_
          refine J_iadd dX7_area_56 ?_
          refine J_istore_n dX7_area_57 rfl (by decide) ?_
          refine Jz_iinc 1 dX7_area_58 rfl rfl (by decide) jEq.rf (by decide) (by omega) (by omega) (fun y58 he58 => ?_)
          refine J_goto (tgt := 4) dX7_area_61 (by decide) ?_
          refine J.mask [true, true, true, false] ?_
          exact ih4  (i1n4 + ((y34 * y40) - (y47 * y53))) y58  (by (try simp only [he58.eq, true_and, and_true]) <;> omega) (by rw [he58.eq, Nat.min_eq_left (by omega), show (i2n4.toInt + 1).toNat = i2n4.toInt.toNat + 1 by omega]; show _ = jar PX PY _ + (PX _ * PY (_ + 1) - PX (_ + 1) * PY _); rw [hs, Nat.min_eq_left (by omega), ← hf34, ← hf40, ← hf47, ← hf53, show (i2n4.toInt + 1).toNat = i2n4.toInt.toNat + 1 by omega]) (by (try simp only [he58.eq, true_and, and_true]) <;> omega)
        · refine Jz_iconst 0 dX7_area_20 (by decide) (fun y20 he20 => ?_)
          refine J_goto (tgt := 27) dX7_area_21 (by decide) ?_
          refine J_istore_n dX7_area_27 rfl (by decide) ?_
          refine J_iload_n dX7_area_28 rfl ?_
          refine J_aload_n dX7_area_29 rfl ?_
          refine J_get jf_X7_22 dX7_area_30 hO_a0 hF_px ?_
          refine J_iload_n dX7_area_33 rfl ?_
          refine Jz_iald (r := ((-2147483648), 2147483647)) jEq.rf dX7_area_34 ha_PX rfl hv_PX (by omega) (by omega) (fun y34 hf34 hl34 hh34 => ?_)
          dsimp only at hl34 hh34
          clear hl34 hh34
          refine J_aload_n dX7_area_35 rfl ?_
          refine J_get jf_X7_25 dX7_area_36 hO_a0 hF_py ?_
          refine J_iload_n dX7_area_39 rfl ?_
          refine Jz_iald (r := ((-2147483648), 2147483647)) he20 dX7_area_40 ha_PY rfl hv_PY (by omega) (by omega) (fun y40 hf40 hl40 hh40 => ?_)
          dsimp only at hl40 hh40
          clear hl40 hh40
          refine J_imul dX7_area_41 ?_
          refine J_aload_n dX7_area_42 rfl ?_
          refine J_get jf_X7_22 dX7_area_43 hO_a0 hF_px ?_
          refine J_iload_n dX7_area_46 rfl ?_
          refine Jz_iald (r := ((-2147483648), 2147483647)) he20 dX7_area_47 ha_PX rfl hv_PX (by omega) (by omega) (fun y47 hf47 hl47 hh47 => ?_)
          dsimp only at hl47 hh47
          clear hl47 hh47
          refine J_aload_n dX7_area_48 rfl ?_
          refine J_get jf_X7_25 dX7_area_49 hO_a0 hF_py ?_
          refine J_iload_n dX7_area_52 rfl ?_
          refine Jz_iald (r := ((-2147483648), 2147483647)) jEq.rf dX7_area_53 ha_PY rfl hv_PY (by omega) (by omega) (fun y53 hf53 hl53 hh53 => ?_)
          dsimp only at hl53 hh53
          clear hl53 hh53
          refine J_imul dX7_area_54 ?_
          refine J_isub dX7_area_55 ?_
          refine J_iadd dX7_area_56 ?_
          refine J_istore_n dX7_area_57 rfl (by decide) ?_
          refine Jz_iinc 1 dX7_area_58 rfl rfl (by decide) jEq.rf (by decide) (by omega) (by omega) (fun y58 he58 => ?_)
          refine J_goto (tgt := 4) dX7_area_61 (by decide) ?_
          refine J.mask [true, true, true, false] ?_
          exact ih4  (i1n4 + ((y34 * y40) - (y47 * y53))) y58  (by (try simp only [he58.eq, true_and, and_true]) <;> omega) (by rw [he58.eq, Nat.min_eq_right (by omega), hs, Nat.min_eq_right (by omega), ← hf34, ← hf40, ← hf47, ← hf53, show Int.toNat 0 = 0 from rfl, show PX 0 = 0 from jI_inj.mp (hp0.trans rfl), show PY 0 = 0 from jI_inj.mp (hp1.trans rfl), jI_z0]) (by (try simp only [he58.eq, true_and, and_true]) <;> omega)
  refine J.mask [true, true, true, false] ?_
  exact L4 _  y0 y2    (by (try simp only [he0.eq, he2.eq, true_and, and_true]) <;> omega) (by have e : y0 = 0 := jI_inj.mp (he0.eq.trans rfl); rw [e, he2.eq, show min (Int.toNat 0) n.toInt.toNat = 0 from Nat.zero_min _]; rfl) (Nat.lt_succ_self _)
set_option maxRecDepth 100000 in
set_option maxHeartbeats 8000000 in
theorem w_X7_isBridge_z {tS : jTS} (d : Nat) (V0 : jH) (a0 : Nat) (n : Int32) (px : Nat) (PX : Nat → Int32) (hd : 0 ≤ d) (hW : WT V0) (ha0 : jis V0 (.inr 5) a0) (hf_n : jfI V0 a0 5 5 n) (hr_px : jfR V0 a0 5 6 px) (ha_PX : V0 px = some (.inl (18, 121, .inl PX))) : jTot tS mX7_isBridge d [.ref a0] V0 0 0 (fun r V => (fun r _ => ∃ y : Int32, r = some (.int y) ∧ (0 ≤ y.toInt) ∧ (y.toInt ≤ 1) ∧ ((y.toInt = 1 ∧ (jbrg n.toInt.toNat PX)) ∨ (y.toInt = 0 ∧ ¬ (jbrg n.toInt.toNat PX)))) r V ∧ V = V0) := by
  refine jTot.of_J [some (.ref a0), none, none] moX7_isBridge (Nat.le_of_ble_eq_true rfl) rfl ?_
  have he : jeff [] V0 V0 := jeff.refl _ _
  obtain ⟨fs_a0, hO_a0, hK_a0⟩ := WT_obj hW id ha0
  have hF_n := hf_n.get hO_a0
  have hrn : 0 ≤ n.toInt ∧ n.toInt ≤ 120 := jok_rngI hK_a0 rfl hF_n
  have hF_px := hr_px.get hO_a0
  obtain ⟨w_px, hFq_px, b_px, hbq_px, hb_px⟩ := hK_a0.2 6 (.inr (some (.inl 18))) rfl
  cases hF_px.symm.trans (hFq_px.trans (congrArg some hbq_px))
  obtain ⟨hN_PX, hv_PX⟩ := WT_rngI (r := ((-2147483648), 2147483647)) hW id rfl ha_PX
  clear hN_PX
  refine Jz_iconst 1 dX7_isBridge_0 (by decide) (fun y0 he0 => ?_)
  refine J_istore_n dX7_isBridge_1 rfl (by decide) ?_
  refine Jz_iconst 1 dX7_isBridge_2 (by decide) (fun y2 he2 => ?_)
  refine J_istore_n dX7_isBridge_3 rfl (by decide) ?_
  have L4 : ∀ (N : Nat) (i1n4 : Int32) (i2n4 : Int32), (1 ≤ i2n4.toInt ∧ i2n4.toInt ≤ n.toInt + 1) → ((i1n4.toInt = 1 ∧ ∀ j : Nat, 1 ≤ j → (j : Int) < i2n4.toInt → 0 < (PX j).toInt ∧ (PX j).toInt ≤ (PX n.toInt.toNat).toInt) ∨ (i1n4.toInt = 0 ∧ ¬ jbrg n.toInt.toNat PX)) → (300 - i2n4.toInt).toNat < N → J tS mX7_isBridge d 4 [some (.ref a0), some (.int i1n4), some (.int i2n4)] [] V0 0 0 (fun r V => (fun r _ => ∃ y : Int32, r = some (.int y) ∧ (0 ≤ y.toInt) ∧ (y.toInt ≤ 1) ∧ ((y.toInt = 1 ∧ (jbrg n.toInt.toNat PX)) ∨ (y.toInt = 0 ∧ ¬ (jbrg n.toInt.toNat PX)))) r V ∧ V = V0) := by
    intro N
    induction N with
    | zero => intro i1n4 i2n4  hi2 hb hm; exact absurd hm (Nat.not_lt_zero _)
    | succ N ih =>
      intro i1n4 i2n4  hi2 hb hm
      have ih4 := ih
      have hri2 := j_rng i2n4
      refine J_iload_n dX7_isBridge_4 rfl ?_
      refine J_aload_n dX7_isBridge_5 rfl ?_
      refine J_get jf_X7_109 dX7_isBridge_6 hO_a0 hF_n ?_
      refine Jz_icmp_gt (tgt := 55) jEq.rf jEq.rf dX7_isBridge_9 (by decide) (fun c9 => ?_) (fun c9 => ?_)
      · refine J_iload_n dX7_isBridge_55 rfl ?_
        exact J_ret (r := some (.int _)) dX7_isBridge_56 ⟨rfl, _, rfl, (nar_b (by omega) (by omega))⟩ (⟨⟨_, rfl, (by omega), (by omega), (hb.imp (fun q => ⟨q.1, fun j h1 h2 => q.2 j h1 (by omega)⟩) id)⟩, rfl⟩)
      · refine J_iload_n dX7_isBridge_12 rfl ?_
        refine Jz_if_eq (tgt := 47) jEq.rf dX7_isBridge_13 (by decide) (fun c13 => ?_) (fun c13 => ?_)
        · refine Jz_iconst 0 dX7_isBridge_47 (by decide) (fun y47 he47 => ?_)
          refine J_istore_n dX7_isBridge_48 rfl (by decide) ?_
          refine Jz_iinc 1 dX7_isBridge_49 rfl rfl (by decide) jEq.rf (by decide) (by omega) (by omega) (fun y49 he49 => ?_)
          refine J_goto (tgt := 4) dX7_isBridge_52 (by decide) ?_
          refine J.mask [true, true, true] ?_
          exact ih4  y47 y49  (by (try simp only [he47.eq, he49.eq, true_and, and_true]) <;> omega) (hb.elim (fun q => absurd q.1 (by omega)) (fun q => Or.inr ⟨he47.eq, q.2⟩)) (by (try simp only [he47.eq, he49.eq, true_and, and_true]) <;> omega)
        · refine J_aload_n dX7_isBridge_16 rfl ?_
          refine J_get jf_X7_22 dX7_isBridge_17 hO_a0 hF_px ?_
          refine J_iload_n dX7_isBridge_20 rfl ?_
          refine Jz_iald (r := ((-2147483648), 2147483647)) jEq.rf dX7_isBridge_21 ha_PX rfl hv_PX (by omega) (by omega) (fun y21 hf21 hl21 hh21 => ?_)
          dsimp only at hl21 hh21
          clear hl21 hh21
          refine Jz_if_le (tgt := 47) jEq.rf dX7_isBridge_22 (by decide) (fun c22 => ?_) (fun c22 => ?_)
          · refine Jz_iconst 0 dX7_isBridge_47 (by decide) (fun y47 he47 => ?_)
            refine J_istore_n dX7_isBridge_48 rfl (by decide) ?_
            refine Jz_iinc 1 dX7_isBridge_49 rfl rfl (by decide) jEq.rf (by decide) (by omega) (by omega) (fun y49 he49 => ?_)
            refine J_goto (tgt := 4) dX7_isBridge_52 (by decide) ?_
            refine J.mask [true, true, true] ?_
            exact ih4  y47 y49  (by (try simp only [he47.eq, he49.eq, true_and, and_true]) <;> omega) (Or.inr ⟨he47.eq, fun q => by have q2 := q i2n4.toInt.toNat (by omega) (by omega); rw [hf21] at q2; omega⟩) (by (try simp only [he47.eq, he49.eq, true_and, and_true]) <;> omega)
          · refine J_aload_n dX7_isBridge_25 rfl ?_
            refine J_get jf_X7_22 dX7_isBridge_26 hO_a0 hF_px ?_
            refine J_iload_n dX7_isBridge_29 rfl ?_
            refine Jz_iald (r := ((-2147483648), 2147483647)) jEq.rf dX7_isBridge_30 ha_PX rfl hv_PX (by omega) (by omega) (fun y30 hf30 hl30 hh30 => ?_)
            dsimp only at hl30 hh30
            clear hl30 hh30
            have he30 : jEq y30.toInt (y21.toInt) := by rw [← hf30, hf21]; exact jEq.rf
            refine J_aload_n dX7_isBridge_31 rfl ?_
            refine J_get jf_X7_22 dX7_isBridge_32 hO_a0 hF_px ?_
            refine J_aload_n dX7_isBridge_35 rfl ?_
            refine J_get jf_X7_109 dX7_isBridge_36 hO_a0 hF_n ?_
            refine Jz_iald (r := ((-2147483648), 2147483647)) jEq.rf dX7_isBridge_39 ha_PX rfl hv_PX (by omega) (by omega) (fun y39 hf39 hl39 hh39 => ?_)
            dsimp only at hl39 hh39
            clear hl39 hh39
            refine Jz_icmp_gt (tgt := 47) he30 jEq.rf dX7_isBridge_40 (by decide) (fun c40 => ?_) (fun c40 => ?_)
            · refine Jz_iconst 0 dX7_isBridge_47 (by decide) (fun y47 he47 => ?_)
              refine J_istore_n dX7_isBridge_48 rfl (by decide) ?_
              refine Jz_iinc 1 dX7_isBridge_49 rfl rfl (by decide) jEq.rf (by decide) (by omega) (by omega) (fun y49 he49 => ?_)
              refine J_goto (tgt := 4) dX7_isBridge_52 (by decide) ?_
              refine J.mask [true, true, true] ?_
              exact ih4  y47 y49  (by (try simp only [he47.eq, he49.eq, true_and, and_true]) <;> omega) (Or.inr ⟨he47.eq, fun q => by have q2 := q i2n4.toInt.toNat (by omega) (by omega); rw [hf21, hf39] at q2; omega⟩) (by (try simp only [he47.eq, he49.eq, true_and, and_true]) <;> omega)
            · refine Jz_iconst 1 dX7_isBridge_43 (by decide) (fun y43 he43 => ?_)
              refine J_goto (tgt := 48) dX7_isBridge_44 (by decide) ?_
              refine J_istore_n dX7_isBridge_48 rfl (by decide) ?_
              refine Jz_iinc 1 dX7_isBridge_49 rfl rfl (by decide) jEq.rf (by decide) (by omega) (by omega) (fun y49 he49 => ?_)
              refine J_goto (tgt := 4) dX7_isBridge_52 (by decide) ?_
              refine J.mask [true, true, true] ?_
              exact ih4  y43 y49  (by (try simp only [he43.eq, he49.eq, true_and, and_true]) <;> omega) (Or.inl ⟨he43.eq, fun j h1 h2 => by rw [he49.eq] at h2; by_cases h9 : (j : Int) = i2n4.toInt; (have e : j = i2n4.toInt.toNat := by omega); subst e; (rw [hf21, hf39]; omega); exact hb.elim (fun q => q.2 j h1 (by omega)) (fun q => absurd q.1 (by omega))⟩) (by (try simp only [he43.eq, he49.eq, true_and, and_true]) <;> omega)
  refine J.mask [true, true, true] ?_
  exact L4 _  y0 y2    (by (try simp only [he0.eq, he2.eq, true_and, and_true]) <;> omega) (Or.inl ⟨he0.eq, fun j h1 h2 => by rw [he2.eq] at h2; omega⟩) (Nat.lt_succ_self _)
set_option maxRecDepth 100000 in
set_option maxHeartbeats 8000000 in
theorem w_X7_leadingOn_z {tS : jTS} (d : Nat) (V0 : jH) (a0 : Nat) (x1 : Int32) (n : Int32) (px : Nat) (py : Nat) (pz : Nat) (PX : Nat → Int32) (PY : Nat → Int32) (PZ : Nat → Int32) (hd : 1 ≤ d) (hW : WT V0) (ha0 : jis V0 (.inr 5) a0) (hf_n : jfI V0 a0 5 5 n) (hr_px : jfR V0 a0 5 6 px) (hr_py : jfR V0 a0 5 7 py) (hr_pz : jfR V0 a0 5 8 pz) (ha_PX : V0 px = some (.inl (18, 121, .inl PX))) (ha_PY : V0 py = some (.inl (19, 121, .inl PY))) (ha_PZ : V0 pz = some (.inl (20, 121, .inl PZ))) (hp0 : 0 ≤ x1.toInt) (hp1 : x1.toInt ≤ 3) (hp2 : -128 ≤ (PX n.toInt.toNat).toInt) (hp3 : (PX n.toInt.toNat).toInt ≤ 128) (hp4 : -128 ≤ (PY n.toInt.toNat).toInt) (hp5 : (PY n.toInt.toNat).toInt ≤ 128) (hp6 : -128 ≤ (PZ n.toInt.toNat).toInt) (hp7 : (PZ n.toInt.toNat).toInt ≤ 128) : jTot tS mX7_leadingOn d [.ref a0, .int x1] V0 0 0 (fun r V => (fun r _ => ∃ y : Int32, r = some (.int y) ∧ ((-2147483648) ≤ y.toInt) ∧ (y.toInt ≤ 2147483647) ∧ (y.toInt = jct (fun d : Nat => jfree x1.toInt n.toInt.toNat PX PY PZ (d : Int)) (jdir x1.toInt).toNat)) r V ∧ V = V0) := by
  refine jTot.of_J [some (.ref a0), some (.int x1), none, none, none, none, none, none] moX7_leadingOn (Nat.le_of_ble_eq_true rfl) rfl ?_
  have hrx1 := j_rng x1
  have he : jeff [] V0 V0 := jeff.refl _ _
  obtain ⟨fs_a0, hO_a0, hK_a0⟩ := WT_obj hW id ha0
  have hF_n := hf_n.get hO_a0
  have hrn : 0 ≤ n.toInt ∧ n.toInt ≤ 120 := jok_rngI hK_a0 rfl hF_n
  have hF_px := hr_px.get hO_a0
  obtain ⟨w_px, hFq_px, b_px, hbq_px, hb_px⟩ := hK_a0.2 6 (.inr (some (.inl 18))) rfl
  cases hF_px.symm.trans (hFq_px.trans (congrArg some hbq_px))
  have hF_py := hr_py.get hO_a0
  obtain ⟨w_py, hFq_py, b_py, hbq_py, hb_py⟩ := hK_a0.2 7 (.inr (some (.inl 19))) rfl
  cases hF_py.symm.trans (hFq_py.trans (congrArg some hbq_py))
  have hF_pz := hr_pz.get hO_a0
  obtain ⟨w_pz, hFq_pz, b_pz, hbq_pz, hb_pz⟩ := hK_a0.2 8 (.inr (some (.inl 20))) rfl
  cases hF_pz.symm.trans (hFq_pz.trans (congrArg some hbq_pz))
  obtain ⟨hN_PX, hv_PX⟩ := WT_rngI (r := ((-2147483648), 2147483647)) hW id rfl ha_PX
  clear hN_PX
  obtain ⟨hN_PY, hv_PY⟩ := WT_rngI (r := ((-2147483648), 2147483647)) hW id rfl ha_PY
  clear hN_PY
  obtain ⟨hN_PZ, hv_PZ⟩ := WT_rngI (r := ((-2147483648), 2147483647)) hW id rfl ha_PZ
  clear hN_PZ
  have hjd := jdir_cases x1.toInt
  refine Jz_iconst 0 dX7_leadingOn_0 (by decide) (fun y0 he0 => ?_)
  refine J_istore_n dX7_leadingOn_1 rfl (by decide) ?_
  refine J_aload_n dX7_leadingOn_2 rfl ?_
  refine J_get jf_X7_22 dX7_leadingOn_3 hO_a0 hF_px ?_
  refine J_aload_n dX7_leadingOn_6 rfl ?_
  refine J_get jf_X7_109 dX7_leadingOn_7 hO_a0 hF_n ?_
  refine Jz_iald (r := ((-2147483648), 2147483647)) jEq.rf dX7_leadingOn_10 ha_PX rfl hv_PX (by omega) (by omega) (fun y10 hf10 hl10 hh10 => ?_)
  dsimp only at hl10 hh10
  clear hl10 hh10
  have e10 : (PX n.toInt.toNat).toInt = y10.toInt := by rw [hf10]
  refine J_istore_n dX7_leadingOn_11 rfl (by decide) ?_
  refine J_aload_n dX7_leadingOn_12 rfl ?_
  refine J_get jf_X7_25 dX7_leadingOn_13 hO_a0 hF_py ?_
  refine J_aload_n dX7_leadingOn_16 rfl ?_
  refine J_get jf_X7_109 dX7_leadingOn_17 hO_a0 hF_n ?_
  refine Jz_iald (r := ((-2147483648), 2147483647)) jEq.rf dX7_leadingOn_20 ha_PY rfl hv_PY (by omega) (by omega) (fun y20 hf20 hl20 hh20 => ?_)
  dsimp only at hl20 hh20
  clear hl20 hh20
  have e20 : (PY n.toInt.toNat).toInt = y20.toInt := by rw [hf20]
  refine J_istore dX7_leadingOn_21 rfl (by decide) ?_
  refine Jz_iconst 0 dX7_leadingOn_23 (by decide) (fun y23 he23 => ?_)
  refine J_istore dX7_leadingOn_24 rfl (by decide) ?_
  have L26 : ∀ (N : Nat) (i2n26 : Int32) (i5n26 : Int32), (0 ≤ i5n26.toInt ∧ i5n26.toInt ≤ jdir x1.toInt) → (i2n26.toInt = jct (fun d : Nat => jfree x1.toInt n.toInt.toNat PX PY PZ (d : Int)) i5n26.toInt.toNat) → (300 - i5n26.toInt).toNat < N → J tS mX7_leadingOn d 26 [some (.ref a0), some (.int x1), some (.int i2n26), some (.int y10), some (.int y20), some (.int i5n26), none, none] [] V0 0 0 (fun r V => (fun r _ => ∃ y : Int32, r = some (.int y) ∧ ((-2147483648) ≤ y.toInt) ∧ (y.toInt ≤ 2147483647) ∧ (y.toInt = jct (fun d : Nat => jfree x1.toInt n.toInt.toNat PX PY PZ (d : Int)) (jdir x1.toInt).toNat)) r V ∧ V = V0) := by
    intro N
    induction N with
    | zero => intro i2n26 i5n26  hi5 hc hm; exact absurd hm (Nat.not_lt_zero _)
    | succ N ih =>
      intro i2n26 i5n26  hi5 hc hm
      have ih26 := ih
      have hri5 := j_rng i5n26
      have hjb := jct_b (P := (fun d : Nat => jfree x1.toInt n.toInt.toNat PX PY PZ (d : Int))) i5n26.toInt.toNat
      refine J_iload dX7_leadingOn_26 rfl ?_
      refine J_iload_n dX7_leadingOn_28 rfl ?_
      refine J_callS1 moX7_directions jw_ml_X7_133 jw_st_X7_directions dX7_leadingOn_29 (w_X7_directions (d - 1) _ x1 (by omega)   ) (by omega) (Nat.zero_le _) (Nat.zero_le _) (Nat.le_of_ble_eq_true rfl) (fun r29 V29 h29 => ?_)
      obtain ⟨⟨y29, rfl, hl29, hh29, hP29_0⟩, hE29⟩ := h29
      have hE29 := hE29.symm
      subst hE29
      have hz29 : jEq y29.toInt (jdir (x1.toInt)) := hP29_0
      simp only [hP29_0] at hl29 hh29
      clear hP29_0
      refine Jz_icmp_ge (tgt := 154) jEq.rf hz29 dX7_leadingOn_32 (by decide) (fun c32 => ?_) (fun c32 => ?_)
      · refine J_iload_n dX7_leadingOn_154 rfl ?_
        exact J_ret (r := some (.int _)) dX7_leadingOn_155 ⟨rfl, _, rfl, rfl⟩ (⟨⟨_, rfl, (j_rng _).1, (j_rng _).2, (by rw [hc, show i5n26.toInt.toNat = (jdir x1.toInt).toNat by omega])⟩, rfl⟩)
      · refine Jz_iconst 1 dX7_leadingOn_35 (by decide) (fun y35 he35 => ?_)
        refine J_istore dX7_leadingOn_36 rfl (by decide) ?_
        refine Jz_iconst 0 dX7_leadingOn_38 (by decide) (fun y38 he38 => ?_)
        refine J_istore dX7_leadingOn_39 rfl (by decide) ?_
        have L41 : ∀ (N : Nat) (i6n41 : Int32) (i7n41 : Int32), (0 ≤ i7n41.toInt ∧ (i7n41.toInt ≤ n.toInt ∨ i7n41.toInt = 0)) → (jHd ((i6n41.toInt = 1 ∧ ∀ j : Nat, (j : Int) < i7n41.toInt → ¬ ((PX j).toInt = (PX n.toInt.toNat).toInt + jsx x1.toInt i5n26.toInt ∧ (PY j).toInt = (PY n.toInt.toNat).toInt + jsy x1.toInt i5n26.toInt ((PX n.toInt.toNat).toInt + (PY n.toInt.toNat).toInt) ∧ (PZ j).toInt = (PZ n.toInt.toNat).toInt + jsz x1.toInt i5n26.toInt)) ∨ (i6n41.toInt = 0 ∧ ∃ j : Nat, (j : Int) < n.toInt ∧ ((PX j).toInt = (PX n.toInt.toNat).toInt + jsx x1.toInt i5n26.toInt ∧ (PY j).toInt = (PY n.toInt.toNat).toInt + jsy x1.toInt i5n26.toInt ((PX n.toInt.toNat).toInt + (PY n.toInt.toNat).toInt) ∧ (PZ j).toInt = (PZ n.toInt.toNat).toInt + jsz x1.toInt i5n26.toInt)))) → (300 - i7n41.toInt).toNat < N → J tS mX7_leadingOn d 41 [some (.ref a0), some (.int x1), some (.int i2n26), some (.int y10), some (.int y20), some (.int i5n26), some (.int i6n41), some (.int i7n41)] [] V0 0 0 (fun r V => (fun r _ => ∃ y : Int32, r = some (.int y) ∧ ((-2147483648) ≤ y.toInt) ∧ (y.toInt ≤ 2147483647) ∧ (y.toInt = jct (fun d : Nat => jfree x1.toInt n.toInt.toNat PX PY PZ (d : Int)) (jdir x1.toInt).toNat)) r V ∧ V = V0) := by
          intro N
          induction N with
          | zero => intro i6n41 i7n41  hi7 hk hm; exact absurd hm (Nat.not_lt_zero _)
          | succ N ih =>
            intro i6n41 i7n41  hi7 hk hm
            have ih41 := ih
            have hri7 := j_rng i7n41
            refine J_iload dX7_leadingOn_41 rfl ?_
            refine J_aload_n dX7_leadingOn_43 rfl ?_
            refine J_get jf_X7_109 dX7_leadingOn_44 hO_a0 hF_n ?_
            refine Jz_icmp_ge (tgt := 135) jEq.rf jEq.rf dX7_leadingOn_47 (by decide) (fun c47 => ?_) (fun c47 => ?_)
            · refine J_iload_n dX7_leadingOn_135 rfl ?_
              refine J_iload dX7_leadingOn_136 rfl ?_
              refine Jz_if_eq (tgt := 145) jEq.rf dX7_leadingOn_138 (by decide) (fun c138 => ?_) (fun c138 => ?_)
              · refine Jz_iconst 0 dX7_leadingOn_145 (by decide) (fun y145 he145 => ?_)
                refine Jz_iadd jEq.rf he145 dX7_leadingOn_146 (by omega) (by omega) (fun y146 he146 => ?_)
                refine J_istore_n dX7_leadingOn_147 rfl (by decide) ?_
                refine Jz_iinc 1 dX7_leadingOn_148 rfl rfl (by decide) jEq.rf (by decide) (by omega) (by omega) (fun y148 he148 => ?_)
                refine J_goto (tgt := 26) dX7_leadingOn_151 (by decide) ?_
                refine J.mask [true, true, true, true, true, true, false, false] ?_
                exact ih26  y146 y148  (by (try simp only [he146.eq, he148.eq, true_and, and_true]) <;> omega) (hk.elim (fun z => absurd z.1 (by clear z; omega)) (fun z => by obtain ⟨j, h1, h2⟩ := z.2; clear z; rw [he146.eq, he148.eq, show (i5n26.toInt + 1).toNat = i5n26.toInt.toNat + 1 by omega, jct_no (fun q => q j (by omega) (by rw [Int.toNat_of_nonneg (a := i5n26.toInt) (by omega)]; exact h2))]; omega)) (by (try simp only [he146.eq, he148.eq, true_and, and_true]) <;> omega)
              · refine Jz_iconst 1 dX7_leadingOn_141 (by decide) (fun y141 he141 => ?_)
                refine J_goto (tgt := 146) dX7_leadingOn_142 (by decide) ?_
                refine Jz_iadd jEq.rf he141 dX7_leadingOn_146 (by omega) (by omega) (fun y146 he146 => ?_)
                refine J_istore_n dX7_leadingOn_147 rfl (by decide) ?_
                refine Jz_iinc 1 dX7_leadingOn_148 rfl rfl (by decide) jEq.rf (by decide) (by omega) (by omega) (fun y148 he148 => ?_)
                refine J_goto (tgt := 26) dX7_leadingOn_151 (by decide) ?_
                refine J.mask [true, true, true, true, true, true, false, false] ?_
                exact ih26  y146 y148  (by (try simp only [he146.eq, he148.eq, true_and, and_true]) <;> omega) (hk.elim (fun ⟨z1, z2⟩ => by rw [he146.eq, he148.eq, show (i5n26.toInt + 1).toNat = i5n26.toInt.toNat + 1 by omega, jct_yes (fun j hj q => by rw [Int.toNat_of_nonneg (a := i5n26.toInt) (by omega)] at q; by_cases h9 : j = n.toInt.toNat; (subst h9; exact jstep_nz (g := x1.toInt) (d := i5n26.toInt) (s := (PX n.toInt.toNat).toInt + (PY n.toInt.toNat).toInt) ⟨hp0, hp1⟩ (by omega) (by omega) ⟨by omega, by omega, by omega⟩); exact z2 j (by omega) q)]; omega) (fun z => absurd z.1 (by clear z; omega))) (by (try simp only [he146.eq, he148.eq, true_and, and_true]) <;> omega)
            · refine J_iload dX7_leadingOn_50 rfl ?_
              refine Jz_if_eq (tgt := 126) jEq.rf dX7_leadingOn_52 (by decide) (fun c52 => ?_) (fun c52 => ?_)
              · refine Jz_iconst 0 dX7_leadingOn_126 (by decide) (fun y126 he126 => ?_)
                refine J_istore dX7_leadingOn_127 rfl (by decide) ?_
                refine Jz_iinc 1 dX7_leadingOn_129 rfl rfl (by decide) jEq.rf (by decide) (by omega) (by omega) (fun y129 he129 => ?_)
                refine J_goto (tgt := 41) dX7_leadingOn_132 (by decide) ?_
                refine J.mask [true, true, true, true, true, true, true, true] ?_
                exact ih41  y126 y129  (by (try simp only [he126.eq, he129.eq, true_and, and_true]) <;> omega) (hk.elim (fun q => absurd q.1 (by omega)) (fun q => Or.inr ⟨he126.eq, q.2⟩)) (by (try simp only [he126.eq, he129.eq, true_and, and_true]) <;> omega)
              · refine J_aload_n dX7_leadingOn_55 rfl ?_
                refine J_get jf_X7_22 dX7_leadingOn_56 hO_a0 hF_px ?_
                refine J_iload dX7_leadingOn_59 rfl ?_
                refine Jz_iald (r := ((-2147483648), 2147483647)) jEq.rf dX7_leadingOn_61 ha_PX rfl hv_PX (by omega) (by omega) (fun y61 hf61 hl61 hh61 => ?_)
                dsimp only at hl61 hh61
                clear hl61 hh61
                refine J_iload_n dX7_leadingOn_62 rfl ?_
                refine J_iload_n dX7_leadingOn_63 rfl ?_
                refine J_iload dX7_leadingOn_64 rfl ?_
                refine J_callS2 moX7_stepX jw_ml_X7_112 jw_st_X7_stepX dX7_leadingOn_66 (w_X7_stepX_z (d - 1) _ x1 i5n26 (by omega)   (by omega) (by omega)) (by omega) (Nat.zero_le _) (Nat.zero_le _) (Nat.le_of_ble_eq_true rfl) (fun r66 V66 h66 => ?_)
                obtain ⟨⟨y66, rfl, hl66, hh66, hP66_0⟩, hE66⟩ := h66
                have hE66 := hE66.symm
                subst hE66
                have hz66 : jEq y66.toInt (jsx (x1.toInt) (i5n26.toInt)) := hP66_0
                simp only [hP66_0] at hl66 hh66
                clear hP66_0
                refine Jz_iadd jEq.rf hz66 dX7_leadingOn_69 (by omega) (by omega) (fun y69 he69 => ?_)
                refine Jz_icmp_ne (tgt := 122) jEq.rf he69 dX7_leadingOn_70 (by decide) (fun c70 => ?_) (fun c70 => ?_)
                · refine Jz_iconst 1 dX7_leadingOn_122 (by decide) (fun y122 he122 => ?_)
                  refine J_goto (tgt := 127) dX7_leadingOn_123 (by decide) ?_
                  refine J_istore dX7_leadingOn_127 rfl (by decide) ?_
                  refine Jz_iinc 1 dX7_leadingOn_129 rfl rfl (by decide) jEq.rf (by decide) (by omega) (by omega) (fun y129 he129 => ?_)
                  refine J_goto (tgt := 41) dX7_leadingOn_132 (by decide) ?_
                  refine J.mask [true, true, true, true, true, true, true, true] ?_
                  exact ih41  y122 y129  (by (try simp only [he122.eq, he129.eq, true_and, and_true]) <;> omega) (Or.inl ⟨he122.eq, fun j hj q => by rw [he129.eq] at hj; by_cases h9 : (j : Int) = i7n41.toInt; (have e : j = i7n41.toInt.toNat := by omega); subst e; (exact c70 (by rw [hf61, hf10] at q; exact q.1)); exact hk.elim (fun z => z.2 j (by omega) q) (fun z => absurd z.1 (by omega))⟩) (by (try simp only [he122.eq, he129.eq, true_and, and_true]) <;> omega)
                · refine J_aload_n dX7_leadingOn_73 rfl ?_
                  refine J_get jf_X7_25 dX7_leadingOn_74 hO_a0 hF_py ?_
                  refine J_iload dX7_leadingOn_77 rfl ?_
                  refine Jz_iald (r := ((-2147483648), 2147483647)) jEq.rf dX7_leadingOn_79 ha_PY rfl hv_PY (by omega) (by omega) (fun y79 hf79 hl79 hh79 => ?_)
                  dsimp only at hl79 hh79
                  clear hl79 hh79
                  refine J_iload dX7_leadingOn_80 rfl ?_
                  refine J_iload_n dX7_leadingOn_82 rfl ?_
                  refine J_iload dX7_leadingOn_83 rfl ?_
                  refine J_iload_n dX7_leadingOn_85 rfl ?_
                  refine J_iload dX7_leadingOn_86 rfl ?_
                  refine Jz_iadd jEq.rf jEq.rf dX7_leadingOn_88 (by omega) (by omega) (fun y88 he88 => ?_)
                  refine J_callS3 moX7_stepY jw_ml_X7_115 jw_st_X7_stepY dX7_leadingOn_89 (w_X7_stepY_z (d - 1) _ x1 i5n26 y88 (by omega)   (by omega) (by omega)) (by omega) (Nat.zero_le _) (Nat.zero_le _) (Nat.le_of_ble_eq_true rfl) (fun r89 V89 h89 => ?_)
                  obtain ⟨⟨y89, rfl, hl89, hh89, hP89_0⟩, hE89⟩ := h89
                  have hE89 := hE89.symm
                  subst hE89
                  try simp only [he88.eq] at hP89_0
                  have hz89 : jEq y89.toInt (jsy (x1.toInt) (i5n26.toInt) (y10.toInt + y20.toInt)) := hP89_0
                  simp only [hP89_0] at hl89 hh89
                  clear hP89_0
                  refine Jz_iadd jEq.rf hz89 dX7_leadingOn_92 (by omega) (by omega) (fun y92 he92 => ?_)
                  refine Jz_icmp_ne (tgt := 122) jEq.rf he92 dX7_leadingOn_93 (by decide) (fun c93 => ?_) (fun c93 => ?_)
                  · refine Jz_iconst 1 dX7_leadingOn_122 (by decide) (fun y122 he122 => ?_)
                    refine J_goto (tgt := 127) dX7_leadingOn_123 (by decide) ?_
                    refine J_istore dX7_leadingOn_127 rfl (by decide) ?_
                    refine Jz_iinc 1 dX7_leadingOn_129 rfl rfl (by decide) jEq.rf (by decide) (by omega) (by omega) (fun y129 he129 => ?_)
                    refine J_goto (tgt := 41) dX7_leadingOn_132 (by decide) ?_
                    refine J.mask [true, true, true, true, true, true, true, true] ?_
                    exact ih41  y122 y129  (by (try simp only [he122.eq, he129.eq, true_and, and_true]) <;> omega) (Or.inl ⟨he122.eq, fun j hj q => by rw [he129.eq] at hj; by_cases h9 : (j : Int) = i7n41.toInt; (have e : j = i7n41.toInt.toNat := by omega); subst e; (exact c93 (by rw [hf79, hf10, hf20] at q; exact q.2.1)); exact hk.elim (fun z => z.2 j (by omega) q) (fun z => absurd z.1 (by omega))⟩) (by (try simp only [he122.eq, he129.eq, true_and, and_true]) <;> omega)
                  · refine J_aload_n dX7_leadingOn_96 rfl ?_
                    refine J_get jf_X7_28 dX7_leadingOn_97 hO_a0 hF_pz ?_
                    refine J_iload dX7_leadingOn_100 rfl ?_
                    refine Jz_iald (r := ((-2147483648), 2147483647)) jEq.rf dX7_leadingOn_102 ha_PZ rfl hv_PZ (by omega) (by omega) (fun y102 hf102 hl102 hh102 => ?_)
                    dsimp only at hl102 hh102
                    clear hl102 hh102
                    refine J_aload_n dX7_leadingOn_103 rfl ?_
                    refine J_get jf_X7_28 dX7_leadingOn_104 hO_a0 hF_pz ?_
                    refine J_aload_n dX7_leadingOn_107 rfl ?_
                    refine J_get jf_X7_109 dX7_leadingOn_108 hO_a0 hF_n ?_
                    refine Jz_iald (r := ((-2147483648), 2147483647)) jEq.rf dX7_leadingOn_111 ha_PZ rfl hv_PZ (by omega) (by omega) (fun y111 hf111 hl111 hh111 => ?_)
                    dsimp only at hl111 hh111
                    clear hl111 hh111
                    have e111 : (PZ n.toInt.toNat).toInt = y111.toInt := by rw [hf111]
                    refine J_iload_n dX7_leadingOn_112 rfl ?_
                    refine J_iload dX7_leadingOn_113 rfl ?_
                    refine J_callS2 moX7_stepZ jw_ml_X7_119 jw_st_X7_stepZ dX7_leadingOn_115 (w_X7_stepZ_z (d - 1) _ x1 i5n26 (by omega)   (by omega) (by omega)) (by omega) (Nat.zero_le _) (Nat.zero_le _) (Nat.le_of_ble_eq_true rfl) (fun r115 V115 h115 => ?_)
                    obtain ⟨⟨y115, rfl, hl115, hh115, hP115_0⟩, hE115⟩ := h115
                    have hE115 := hE115.symm
                    subst hE115
                    have hz115 : jEq y115.toInt (jsz (x1.toInt) (i5n26.toInt)) := hP115_0
                    simp only [hP115_0] at hl115 hh115
                    clear hP115_0
                    refine Jz_iadd jEq.rf hz115 dX7_leadingOn_118 (by omega) (by omega) (fun y118 he118 => ?_)
                    refine Jz_icmp_eq (tgt := 126) jEq.rf he118 dX7_leadingOn_119 (by decide) (fun c119 => ?_) (fun c119 => ?_)
                    · refine Jz_iconst 0 dX7_leadingOn_126 (by decide) (fun y126 he126 => ?_)
                      refine J_istore dX7_leadingOn_127 rfl (by decide) ?_
                      refine Jz_iinc 1 dX7_leadingOn_129 rfl rfl (by decide) jEq.rf (by decide) (by omega) (by omega) (fun y129 he129 => ?_)
                      refine J_goto (tgt := 41) dX7_leadingOn_132 (by decide) ?_
                      refine J.mask [true, true, true, true, true, true, true, true] ?_
                      exact ih41  y126 y129  (by (try simp only [he126.eq, he129.eq, true_and, and_true]) <;> omega) (Or.inr ⟨he126.eq, i7n41.toInt.toNat, by omega, by rw [hf61, hf79, hf102, hf10, hf20, hf111]; exact ⟨c70, c93, c119⟩⟩) (by (try simp only [he126.eq, he129.eq, true_and, and_true]) <;> omega)
                    · refine Jz_iconst 1 dX7_leadingOn_122 (by decide) (fun y122 he122 => ?_)
                      refine J_goto (tgt := 127) dX7_leadingOn_123 (by decide) ?_
                      refine J_istore dX7_leadingOn_127 rfl (by decide) ?_
                      refine Jz_iinc 1 dX7_leadingOn_129 rfl rfl (by decide) jEq.rf (by decide) (by omega) (by omega) (fun y129 he129 => ?_)
                      refine J_goto (tgt := 41) dX7_leadingOn_132 (by decide) ?_
                      refine J.mask [true, true, true, true, true, true, true, true] ?_
                      exact ih41  y122 y129  (by (try simp only [he122.eq, he129.eq, true_and, and_true]) <;> omega) (Or.inl ⟨he122.eq, fun j hj q => by rw [he129.eq] at hj; by_cases h9 : (j : Int) = i7n41.toInt; (have e : j = i7n41.toInt.toNat := by omega); subst e; (exact c119 (by rw [hf102, hf111] at q; exact q.2.2)); exact hk.elim (fun z => z.2 j (by omega) q) (fun z => absurd z.1 (by omega))⟩) (by (try simp only [he122.eq, he129.eq, true_and, and_true]) <;> omega)
        refine J.mask [true, true, true, true, true, true, true, true] ?_
        exact L41 _  y35 y38    (by (try simp only [he35.eq, he38.eq, true_and, and_true]) <;> omega) (Or.inl ⟨he35.eq, fun j hj => by rw [he38.eq] at hj; omega⟩) (Nat.lt_succ_self _)
  refine J.mask [true, true, true, true, true, true, false, false] ?_
  exact L26 _  y0 y23    (by (try simp only [he0.eq, he23.eq, true_and, and_true]) <;> omega) (by rw [he0.eq, he23.eq]; rfl) (Nat.lt_succ_self _)
set_option maxRecDepth 100000 in
set_option maxHeartbeats 8000000 in
theorem w_X7_about_bad {tS : jTS} (d : Nat) (V0 : jH) (a0 : Nat) (x1 : Int32) (x2 : Int32) (v0 : Int32) (gr : Nat) (mn : Nat) (sp : Nat) (rw : Nat) (px : Nat) (py : Nat) (pz : Nat) (GA : Nat → Int32) (MN : Nat → Int32) (SP : Nat → Int32) (RW : Nat → Int32) (PX : Nat → Int32) (PY : Nat → Int32) (PZ : Nat → Int32) (hd : 2 ≤ d) (hW : WT V0) (ha0 : jis V0 (.inr 5) a0) (hf_v0 : jfI V0 a0 5 0 v0) (hr_gr : jfR V0 a0 5 1 gr) (hr_mn : jfR V0 a0 5 2 mn) (hr_sp : jfR V0 a0 5 3 sp) (hr_rw : jfR V0 a0 5 4 rw) (hr_px : jfR V0 a0 5 6 px) (hr_py : jfR V0 a0 5 7 py) (hr_pz : jfR V0 a0 5 8 pz) (ha_GA : V0 gr = some (.inl (14, 16, .inl GA))) (ha_MN : V0 mn = some (.inl (15, 16, .inl MN))) (ha_SP : V0 sp = some (.inl (16, 960, .inl SP))) (ha_RW : V0 rw = some (.inl (17, 120, .inl RW))) (ha_PX : V0 px = some (.inl (18, 121, .inl PX))) (ha_PY : V0 py = some (.inl (19, 121, .inl PY))) (ha_PZ : V0 pz = some (.inl (20, 121, .inl PZ))) (hp0 : ¬ (0 ≤ x1.toInt ∧ x1.toInt < v0.toInt ∧ 0 ≤ x2.toInt ∧ x2.toInt ≤ 7)) : jTot tS mX7_about d [.ref a0, .int x1, .int x2] V0 0 0 (fun r V => (fun r _ => ∃ y : Int32, r = some (.int y) ∧ ((-2147483648) ≤ y.toInt) ∧ (y.toInt ≤ 2147483647) ∧ (y.toInt = -2)) r V ∧ V = V0) := by
  refine jTot.of_J [some (.ref a0), some (.int x1), some (.int x2), none, none, none] moX7_about (Nat.le_of_ble_eq_true rfl) rfl ?_
  have hrx1 := j_rng x1
  have hrx2 := j_rng x2
  have he : jeff [] V0 V0 := jeff.refl _ _
  obtain ⟨fs_a0, hO_a0, hK_a0⟩ := WT_obj hW id ha0
  have hF_v0 := hf_v0.get hO_a0
  have hrv0 : 0 ≤ v0.toInt ∧ v0.toInt ≤ 16 := jok_rngI hK_a0 rfl hF_v0
  have hF_gr := hr_gr.get hO_a0
  obtain ⟨w_gr, hFq_gr, b_gr, hbq_gr, hb_gr⟩ := hK_a0.2 1 (.inr (some (.inl 14))) rfl
  cases hF_gr.symm.trans (hFq_gr.trans (congrArg some hbq_gr))
  have hF_mn := hr_mn.get hO_a0
  obtain ⟨w_mn, hFq_mn, b_mn, hbq_mn, hb_mn⟩ := hK_a0.2 2 (.inr (some (.inl 15))) rfl
  cases hF_mn.symm.trans (hFq_mn.trans (congrArg some hbq_mn))
  have hF_sp := hr_sp.get hO_a0
  obtain ⟨w_sp, hFq_sp, b_sp, hbq_sp, hb_sp⟩ := hK_a0.2 3 (.inr (some (.inl 16))) rfl
  cases hF_sp.symm.trans (hFq_sp.trans (congrArg some hbq_sp))
  have hF_rw := hr_rw.get hO_a0
  obtain ⟨w_rw, hFq_rw, b_rw, hbq_rw, hb_rw⟩ := hK_a0.2 4 (.inr (some (.inl 17))) rfl
  cases hF_rw.symm.trans (hFq_rw.trans (congrArg some hbq_rw))
  have hF_px := hr_px.get hO_a0
  obtain ⟨w_px, hFq_px, b_px, hbq_px, hb_px⟩ := hK_a0.2 6 (.inr (some (.inl 18))) rfl
  cases hF_px.symm.trans (hFq_px.trans (congrArg some hbq_px))
  have hF_py := hr_py.get hO_a0
  obtain ⟨w_py, hFq_py, b_py, hbq_py, hb_py⟩ := hK_a0.2 7 (.inr (some (.inl 19))) rfl
  cases hF_py.symm.trans (hFq_py.trans (congrArg some hbq_py))
  have hF_pz := hr_pz.get hO_a0
  obtain ⟨w_pz, hFq_pz, b_pz, hbq_pz, hb_pz⟩ := hK_a0.2 8 (.inr (some (.inl 20))) rfl
  cases hF_pz.symm.trans (hFq_pz.trans (congrArg some hbq_pz))
  obtain ⟨hN_GA, hv_GA⟩ := WT_rngI (r := (0, 3)) hW id rfl ha_GA
  clear hN_GA
  obtain ⟨hN_MN, hv_MN⟩ := WT_rngI (r := (0, 60)) hW id rfl ha_MN
  clear hN_MN
  obtain ⟨hN_SP, hv_SP⟩ := WT_rngI (r := ((-2147483648), 2147483647)) hW id rfl ha_SP
  clear hN_SP
  obtain ⟨hN_RW, hv_RW⟩ := WT_rngI (r := ((-2147483648), 2147483647)) hW id rfl ha_RW
  clear hN_RW
  obtain ⟨hN_PX, hv_PX⟩ := WT_rngI (r := ((-2147483648), 2147483647)) hW id rfl ha_PX
  clear hN_PX
  obtain ⟨hN_PY, hv_PY⟩ := WT_rngI (r := ((-2147483648), 2147483647)) hW id rfl ha_PY
  clear hN_PY
  obtain ⟨hN_PZ, hv_PZ⟩ := WT_rngI (r := ((-2147483648), 2147483647)) hW id rfl ha_PZ
  clear hN_PZ
  refine J_aload_n dX7_about_0 rfl ?_
  refine J_iload_n dX7_about_1 rfl ?_
  refine Jw_callV1 (q9 := (RX7, TX7, 34)) moX7_isWalk jw_ml_X7_130 jw_im_X7_isWalk jw_se_X7_isWalk ha0 rfl rfl dX7_about_2 (w_X7_isWalk_z (d - 1) _ a0 x1 v0 (by omega) hW  ha0 ⟨_, hO_a0, hF_v0⟩) (by omega) (Nat.zero_le _) (Nat.zero_le _) (Nat.le_of_ble_eq_true rfl) (fun r2 V2 h2 => ?_)
  obtain ⟨⟨y2, rfl, hl2, hh2, hP2_0⟩, hE2⟩ := h2
  have hE2 := hE2.symm
  subst hE2
  refine Jz_if_eq (tgt := 18) jEq.rf dX7_about_5 (by decide) (fun c5 => ?_) (fun c5 => ?_)
  · refine Jz_bipush (-2) dX7_about_18 (by decide) (fun y18 he18 => ?_)
    exact J_ret (r := some (.int _)) dX7_about_20 ⟨rfl, _, rfl, rfl⟩ (⟨⟨_, rfl, (j_rng _).1, (j_rng _).2, (by (try simp only [he18.eq, true_and, and_true]) <;> omega)⟩, rfl⟩)
  · refine J_iload_n dX7_about_8 rfl ?_
    refine Jz_iconst 0 dX7_about_9 (by decide) (fun y9 he9 => ?_)
    refine Jz_bipush 7 dX7_about_10 (by decide) (fun y10 he10 => ?_)
    refine J_callS3 moX7_in jw_ml_X7_105 jw_st_X7_in dX7_about_12 (w_X7_in (d - 1) _ x2 y9 y10 (by omega)   ) (by omega) (Nat.zero_le _) (Nat.zero_le _) (Nat.le_of_ble_eq_true rfl) (fun r12 V12 h12 => ?_)
    obtain ⟨⟨y12, rfl, hl12, hh12, hI12_0, hI12_1⟩, hE12⟩ := h12
    have hE12 := hE12.symm
    subst hE12
    try have hbad9 : True := trivial
    refine Jz_if_ne (tgt := 21) jEq.rf dX7_about_15 (by decide) (fun c15 => ?_) (fun c15 => ?_)
    · have q15_0 := hI12_0.of (by omega)
      try simp only [he9.eq, he10.eq] at q15_0
      exact False.elim (by omega)
    · have q15_1 := hI12_1.of (by omega)
      try simp only [he9.eq, he10.eq] at q15_1
      refine Jz_bipush (-2) dX7_about_18 (by decide) (fun y18 he18 => ?_)
      exact J_ret (r := some (.int _)) dX7_about_20 ⟨rfl, _, rfl, rfl⟩ (⟨⟨_, rfl, (j_rng _).1, (j_rng _).2, (by (try simp only [he18.eq, true_and, and_true]) <;> omega)⟩, rfl⟩)
set_option maxRecDepth 100000 in
set_option maxHeartbeats 8000000 in
theorem w_X7_about_ok {tS : jTS} (d : Nat) (V0 : jH) (a0 : Nat) (x1 : Int32) (x2 : Int32) (v0 : Int32) (gr : Nat) (mn : Nat) (sp : Nat) (rw : Nat) (px : Nat) (py : Nat) (pz : Nat) (GA : Nat → Int32) (MN : Nat → Int32) (SP : Nat → Int32) (RW : Nat → Int32) (PX : Nat → Int32) (PY : Nat → Int32) (PZ : Nat → Int32) (hd : 2 ≤ d) (hW : WT V0) (ha0 : jis V0 (.inr 5) a0) (hf_v0 : jfI V0 a0 5 0 v0) (hr_gr : jfR V0 a0 5 1 gr) (hr_mn : jfR V0 a0 5 2 mn) (hr_sp : jfR V0 a0 5 3 sp) (hr_rw : jfR V0 a0 5 4 rw) (hr_px : jfR V0 a0 5 6 px) (hr_py : jfR V0 a0 5 7 py) (hr_pz : jfR V0 a0 5 8 pz) (ha_GA : V0 gr = some (.inl (14, 16, .inl GA))) (ha_MN : V0 mn = some (.inl (15, 16, .inl MN))) (ha_SP : V0 sp = some (.inl (16, 960, .inl SP))) (ha_RW : V0 rw = some (.inl (17, 120, .inl RW))) (ha_PX : V0 px = some (.inl (18, 121, .inl PX))) (ha_PY : V0 py = some (.inl (19, 121, .inl PY))) (ha_PZ : V0 pz = some (.inl (20, 121, .inl PZ))) (hp0 : 0 ≤ x1.toInt) (hp1 : x1.toInt < v0.toInt) (hp2 : 0 ≤ x2.toInt) (hp3 : x2.toInt ≤ 7) : jTot tS mX7_about d [.ref a0, .int x1, .int x2] V0 0 0 (fun r V => (jPost [.inr 5, .inl 17, .inl 18, .inl 19, .inl 20] V0 (fun r _ => ∃ y : Int32, r = some (.int y) ∧ ((-2147483648) ≤ y.toInt) ∧ (y.toInt ≤ 2147483647) ∧ (∃ S2 X2 Y2 Z2 : Nat → Int32, jrv (GA x1.toInt.toNat).toInt (fun q => (SP (60 * x1.toInt.toNat + q)).toInt) (MN x1.toInt.toNat).toInt.toNat X2 Y2 Z2 ∧ (∀ j : Nat, j < (MN x1.toInt.toNat).toInt.toNat → S2 j = SP (60 * x1.toInt.toNat + j)) ∧ y.toInt = jab8 (GA x1.toInt.toNat).toInt (MN x1.toInt.toNat).toInt S2 X2 Y2 Z2 x2.toInt))) r V ∧ jkc 5 [0, 23, 24] V0 V) := by
  refine jTot.of_J [some (.ref a0), some (.int x1), some (.int x2), none, none, none] moX7_about (Nat.le_of_ble_eq_true rfl) rfl ?_
  have hrx1 := j_rng x1
  have hrx2 := j_rng x2
  have he : jeff [.inr 5, .inl 17, .inl 18, .inl 19, .inl 20] V0 V0 := jeff.refl _ _
  have hkp : jkc 5 [0, 23, 24] V0 V0 := jkc.rf
  obtain ⟨fs_a0, hO_a0, hK_a0⟩ := WT_obj hW id ha0
  have hF_v0 := hf_v0.get hO_a0
  have hrv0 : 0 ≤ v0.toInt ∧ v0.toInt ≤ 16 := jok_rngI hK_a0 rfl hF_v0
  have hF_gr := hr_gr.get hO_a0
  obtain ⟨w_gr, hFq_gr, b_gr, hbq_gr, hb_gr⟩ := hK_a0.2 1 (.inr (some (.inl 14))) rfl
  cases hF_gr.symm.trans (hFq_gr.trans (congrArg some hbq_gr))
  have hF_mn := hr_mn.get hO_a0
  obtain ⟨w_mn, hFq_mn, b_mn, hbq_mn, hb_mn⟩ := hK_a0.2 2 (.inr (some (.inl 15))) rfl
  cases hF_mn.symm.trans (hFq_mn.trans (congrArg some hbq_mn))
  have hF_sp := hr_sp.get hO_a0
  obtain ⟨w_sp, hFq_sp, b_sp, hbq_sp, hb_sp⟩ := hK_a0.2 3 (.inr (some (.inl 16))) rfl
  cases hF_sp.symm.trans (hFq_sp.trans (congrArg some hbq_sp))
  have hF_rw := hr_rw.get hO_a0
  obtain ⟨w_rw, hFq_rw, b_rw, hbq_rw, hb_rw⟩ := hK_a0.2 4 (.inr (some (.inl 17))) rfl
  cases hF_rw.symm.trans (hFq_rw.trans (congrArg some hbq_rw))
  have hF_px := hr_px.get hO_a0
  obtain ⟨w_px, hFq_px, b_px, hbq_px, hb_px⟩ := hK_a0.2 6 (.inr (some (.inl 18))) rfl
  cases hF_px.symm.trans (hFq_px.trans (congrArg some hbq_px))
  have hF_py := hr_py.get hO_a0
  obtain ⟨w_py, hFq_py, b_py, hbq_py, hb_py⟩ := hK_a0.2 7 (.inr (some (.inl 19))) rfl
  cases hF_py.symm.trans (hFq_py.trans (congrArg some hbq_py))
  have hF_pz := hr_pz.get hO_a0
  obtain ⟨w_pz, hFq_pz, b_pz, hbq_pz, hb_pz⟩ := hK_a0.2 8 (.inr (some (.inl 20))) rfl
  cases hF_pz.symm.trans (hFq_pz.trans (congrArg some hbq_pz))
  obtain ⟨hN_GA, hv_GA⟩ := WT_rngI (r := (0, 3)) hW id rfl ha_GA
  clear hN_GA
  obtain ⟨hN_MN, hv_MN⟩ := WT_rngI (r := (0, 60)) hW id rfl ha_MN
  clear hN_MN
  obtain ⟨hN_SP, hv_SP⟩ := WT_rngI (r := ((-2147483648), 2147483647)) hW id rfl ha_SP
  clear hN_SP
  obtain ⟨hN_RW, hv_RW⟩ := WT_rngI (r := ((-2147483648), 2147483647)) hW id rfl ha_RW
  clear hN_RW
  obtain ⟨hN_PX, hv_PX⟩ := WT_rngI (r := ((-2147483648), 2147483647)) hW id rfl ha_PX
  clear hN_PX
  obtain ⟨hN_PY, hv_PY⟩ := WT_rngI (r := ((-2147483648), 2147483647)) hW id rfl ha_PY
  clear hN_PY
  obtain ⟨hN_PZ, hv_PZ⟩ := WT_rngI (r := ((-2147483648), 2147483647)) hW id rfl ha_PZ
  clear hN_PZ
  refine J_aload_n dX7_about_0 rfl ?_
  refine J_iload_n dX7_about_1 rfl ?_
  refine Jw_callV1 (q9 := (RX7, TX7, 34)) moX7_isWalk jw_ml_X7_130 jw_im_X7_isWalk jw_se_X7_isWalk ha0 rfl rfl dX7_about_2 (w_X7_isWalk_z (d - 1) _ a0 x1 v0 (by omega) hW  ha0 ⟨_, hO_a0, hF_v0⟩) (by omega) (Nat.zero_le _) (Nat.zero_le _) (Nat.le_of_ble_eq_true rfl) (fun r2 V2 h2 => ?_)
  obtain ⟨⟨y2, rfl, hl2, hh2, hP2_0⟩, hE2⟩ := h2
  have hE2 := hE2.symm
  subst hE2
  refine Jz_if_eq (tgt := 18) jEq.rf dX7_about_5 (by decide) (fun c5 => ?_) (fun c5 => ?_)
  · exact False.elim (by omega)
  · refine J_iload_n dX7_about_8 rfl ?_
    refine Jz_iconst 0 dX7_about_9 (by decide) (fun y9 he9 => ?_)
    refine Jz_bipush 7 dX7_about_10 (by decide) (fun y10 he10 => ?_)
    refine J_callS3 moX7_in jw_ml_X7_105 jw_st_X7_in dX7_about_12 (w_X7_in (d - 1) _ x2 y9 y10 (by omega)   ) (by omega) (Nat.zero_le _) (Nat.zero_le _) (Nat.le_of_ble_eq_true rfl) (fun r12 V12 h12 => ?_)
    obtain ⟨⟨y12, rfl, hl12, hh12, hI12_0, hI12_1⟩, hE12⟩ := h12
    have hE12 := hE12.symm
    subst hE12
    refine Jz_if_ne (tgt := 21) jEq.rf dX7_about_15 (by decide) (fun c15 => ?_) (fun c15 => ?_)
    · have q15_0 := hI12_0.of (by omega)
      try simp only [he9.eq, he10.eq] at q15_0
      refine J_aload_n dX7_about_21 rfl ?_
      refine J_get jf_X7_7 dX7_about_22 hO_a0 hF_gr ?_
      refine J_iload_n dX7_about_25 rfl ?_
      refine Jz_iald (r := (0, 3)) jEq.rf dX7_about_26 ha_GA rfl hv_GA (by omega) (by omega) (fun y26 hf26 hl26 hh26 => ?_)
      dsimp only at hl26 hh26
      have hq26 : (GA x1.toInt.toNat).toInt = y26.toInt := by rw [hf26]
      refine J_istore_n dX7_about_27 rfl (by decide) ?_
      refine J_aload_n dX7_about_28 rfl ?_
      refine J_iload_n dX7_about_29 rfl ?_
      have hmr := hv_MN x1.toInt.toNat (by omega)
      dsimp only at hmr
      refine Jw_callV1 (q9 := (RX7, TX7, 34)) moX7_brings jw_ml_X7_137 jw_im_X7_brings jw_se_X7_brings ha0 rfl rfl dX7_about_30 (w_X7_brings_z (d - 1) _ a0 x1 mn sp rw MN SP RW (by omega) hW  ha0 ⟨_, hO_a0, hF_mn⟩ ⟨_, hO_a0, hF_sp⟩ ⟨_, hO_a0, hF_rw⟩ ha_MN ha_SP ha_RW (by omega) (by omega)) (by omega) (Nat.zero_le _) (Nat.zero_le _) (Nat.le_of_ble_eq_true rfl) (fun r30 V30 h30 => ?_)
      obtain ⟨h30, hX30_0, hX30_1, ⟨fv30_0, hfv30_0, hfp30_0⟩⟩ := h30
      obtain ⟨hW, hx30, hr30⟩ := h30
      have he := he.trans (hx30.sub (jsub_of rfl))
      have hkp := hkp.trans hX30_1
      have ha0 := ha0.mono hx30.1
      have hb_gr := hb_gr.mono hx30.1
      have hb_mn := hb_mn.mono hx30.1
      have hb_sp := hb_sp.mono hx30.1
      have hb_rw := hb_rw.mono hx30.1
      have hb_px := hb_px.mono hx30.1
      have hb_py := hb_py.mono hx30.1
      have hb_pz := hb_pz.mono hx30.1
      obtain ⟨fs30a0, hOfs30a0, hRfs30a0⟩ := hx30.1.keep hO_a0
      have hKfs30a0 : jokO _ (jFs 5) fs30a0 := hW _ _ id hOfs30a0
      have hFfs30a0_1 := hRfs30a0 _ _ hF_gr
      have hFfs30a0_2 := hRfs30a0 _ _ hF_mn
      have hFfs30a0_3 := hRfs30a0 _ _ hF_sp
      have hFfs30a0_4 := hRfs30a0 _ _ hF_rw
      have hFfs30a0_6 := hRfs30a0 _ _ hF_px
      have hFfs30a0_7 := hRfs30a0 _ _ hF_py
      have hFfs30a0_8 := hRfs30a0 _ _ hF_pz
      have ha_GA := hx30.2 _ _ ha_GA (jnot_of rfl)
      have ha_MN := hx30.2 _ _ ha_MN (jnot_of rfl)
      have ha_SP := hx30.2 _ _ ha_SP (jnot_of rfl)
      have ha_PX := hx30.2 _ _ ha_PX (jnot_of rfl)
      have ha_PY := hx30.2 _ _ ha_PY (jnot_of rfl)
      have ha_PZ := hx30.2 _ _ ha_PZ (jnot_of rfl)
      cases hr30
      have hFv30_0 := hfv30_0.get hOfs30a0
      have hzf30_0 : jEq fv30_0.toInt ((MN (x1.toInt).toNat).toInt) := hfp30_0
      clear hfp30_0
      obtain ⟨R2, hR2, hRe⟩ := hX30_0
      obtain ⟨hN_R2, hv_R2⟩ := WT_rngI (r := ((-2147483648), 2147483647)) hW id rfl hR2
      clear hN_R2
      refine J_aload_n dX7_about_33 rfl ?_
      refine J_iload_n dX7_about_34 rfl ?_
      refine Jw_callV1 (q9 := (RX7, TX7, 34)) moX7_goes jw_ml_X7_122 jw_im_X7_goes jw_se_X7_goes ha0 rfl rfl dX7_about_35 (w_X7_goes_z (d - 1) _ a0 y26 fv30_0 rw px py pz R2 PX PY PZ (by omega) hW  ha0 ⟨_, hOfs30a0, hFv30_0⟩ ⟨_, hOfs30a0, hFfs30a0_4⟩ ⟨_, hOfs30a0, hFfs30a0_6⟩ ⟨_, hOfs30a0, hFfs30a0_7⟩ ⟨_, hOfs30a0, hFfs30a0_8⟩ hR2 ha_PX ha_PY ha_PZ (by omega) (by omega)) (by omega) (Nat.zero_le _) (Nat.zero_le _) (Nat.le_of_ble_eq_true rfl) (fun r35 V35 h35 => ?_)
      obtain ⟨h35, hX35_0⟩ := h35
      obtain ⟨hW, hx35, hr35⟩ := h35
      have he := he.trans (hx35.sub (jsub_of rfl))
      have hkp := hkp.trans (jkc.of hx35 (jnot_of rfl))
      have ha0 := ha0.mono hx35.1
      have hb_gr := hb_gr.mono hx35.1
      have hb_mn := hb_mn.mono hx35.1
      have hb_sp := hb_sp.mono hx35.1
      have hb_rw := hb_rw.mono hx35.1
      have hb_px := hb_px.mono hx35.1
      have hb_py := hb_py.mono hx35.1
      have hb_pz := hb_pz.mono hx35.1
      have hOfs30a0 := hx35.2 _ _ hOfs30a0 (jnot_of rfl)
      have hKfs30a0 := hKfs30a0.mono hx35.1
      have ha_GA := hx35.2 _ _ ha_GA (jnot_of rfl)
      have ha_MN := hx35.2 _ _ ha_MN (jnot_of rfl)
      have ha_SP := hx35.2 _ _ ha_SP (jnot_of rfl)
      have hR2 := hx35.2 _ _ hR2 (jnot_of rfl)
      obtain ⟨y35, rfl, hl35, hh35, hP35_0⟩ := hr35
      try simp only [hzf30_0.eq] at hP35_0
      obtain ⟨X9, Y9, Z9, hX9, hY9, hZ9, hjv⟩ := hX35_0
      simp only [hzf30_0.eq, ← hq26] at hjv
      have hjw : jrv (GA x1.toInt.toNat).toInt (fun q => (SP (60 * x1.toInt.toNat + q)).toInt) (MN x1.toInt.toNat).toInt.toNat X9 Y9 Z9 := hjv.congr (fun k hk => by show (R2 k).toInt = _; rw [hRe k (by omega)])
      have hjb := hjw.b (MN x1.toInt.toNat).toInt.toNat (Nat.le_refl _)
      have hz0 : y26.toInt = 3 ∨ (Z9 (MN x1.toInt.toNat).toInt.toNat).toInt = 0 := (Int.decEq y26.toInt 3).byCases Or.inl (fun q => Or.inr (hjw.z0 (by rw [hq26]; exact q) (Nat.le_refl _)))
      have hx00 : (X9 0).toInt = 0 := (hjw 0 (Nat.zero_le _)).1
      have hy00 : (Y9 0).toInt = 0 := (hjw 0 (Nat.zero_le _)).2.1
      obtain ⟨hN_X9, hv_X9⟩ := WT_rngI (r := ((-2147483648), 2147483647)) hW id rfl hX9
      clear hN_X9
      obtain ⟨hN_Y9, hv_Y9⟩ := WT_rngI (r := ((-2147483648), 2147483647)) hW id rfl hY9
      clear hN_Y9
      obtain ⟨hN_Z9, hv_Z9⟩ := WT_rngI (r := ((-2147483648), 2147483647)) hW id rfl hZ9
      clear hN_Z9
      refine J_pop dX7_about_38 rfl ?_
      refine Jz_iconst 0 dX7_about_39 (by decide) (fun y39 he39 => ?_)
      refine J_istore dX7_about_40 rfl (by decide) ?_
      refine J_iload_n dX7_about_42 rfl ?_
      rcases jsw6 x2 with hx43 | hx43 | hx43 | hx43 | hx43 | hx43 | hx43 | hx43 | hx43
      · have hx43t : x2.toInt = 0 := by rw [hx43]; rfl
        clear hx43
        refine J_tableIn (tgt := 84) dX7_about_43 (by omega) (by omega) (by rw [hx43t]; rfl) (by decide) ?_
        refine J_iload_n dX7_about_84 rfl ?_
        exact J_ret (r := some (.int _)) dX7_about_85 ⟨rfl, _, rfl, rfl⟩ (⟨⟨hW, he, ⟨_, rfl, (j_rng _).1, (j_rng _).2, ⟨R2, X9, Y9, Z9, hjw, fun j hj => hRe j (by omega), (by rw [hq26]; rw [hx43t]; rfl)⟩⟩⟩, hkp⟩)
      · have hx43t : x2.toInt = 1 := by rw [hx43]; rfl
        clear hx43
        refine J_tableIn (tgt := 86) dX7_about_43 (by omega) (by omega) (by rw [hx43t]; rfl) (by decide) ?_
        refine J_aload_n dX7_about_86 rfl ?_
        refine J_get jf_X7_109 dX7_about_87 hOfs30a0 hFv30_0 ?_
        exact J_ret (r := some (.int _)) dX7_about_90 ⟨rfl, _, rfl, rfl⟩ (⟨⟨hW, he, ⟨_, rfl, (j_rng _).1, (j_rng _).2, ⟨R2, X9, Y9, Z9, hjw, fun j hj => hRe j (by omega), (by rw [hq26]; rw [hx43t]; exact hzf30_0.eq)⟩⟩⟩, hkp⟩)
      · have hx43t : x2.toInt = 2 := by rw [hx43]; rfl
        clear hx43
        refine J_tableIn (tgt := 91) dX7_about_43 (by omega) (by omega) (by rw [hx43t]; rfl) (by decide) ?_
        refine J_iload_n dX7_about_91 rfl ?_
        refine J_aload_n dX7_about_92 rfl ?_
        refine J_get jf_X7_22 dX7_about_93 hOfs30a0 hFfs30a0_6 ?_
        refine J_aload_n dX7_about_96 rfl ?_
        refine J_get jf_X7_109 dX7_about_97 hOfs30a0 hFv30_0 ?_
        refine Jz_iald (r := ((-2147483648), 2147483647)) hzf30_0 dX7_about_100 hX9 rfl hv_X9 (by omega) (by omega) (fun y100 hf100 hl100 hh100 => ?_)
        dsimp only at hl100 hh100
        clear hl100 hh100
        have e100 : (X9 (MN x1.toInt.toNat).toInt.toNat).toInt = y100.toInt := by rw [hf100]
        refine J_aload_n dX7_about_101 rfl ?_
        refine J_get jf_X7_25 dX7_about_102 hOfs30a0 hFfs30a0_7 ?_
        refine J_aload_n dX7_about_105 rfl ?_
        refine J_get jf_X7_109 dX7_about_106 hOfs30a0 hFv30_0 ?_
        refine Jz_iald (r := ((-2147483648), 2147483647)) hzf30_0 dX7_about_109 hY9 rfl hv_Y9 (by omega) (by omega) (fun y109 hf109 hl109 hh109 => ?_)
        dsimp only at hl109 hh109
        clear hl109 hh109
        have e109 : (Y9 (MN x1.toInt.toNat).toInt.toNat).toInt = y109.toInt := by rw [hf109]
        refine J_aload_n dX7_about_110 rfl ?_
        refine J_get jf_X7_28 dX7_about_111 hOfs30a0 hFfs30a0_8 ?_
        refine J_aload_n dX7_about_114 rfl ?_
        refine J_get jf_X7_109 dX7_about_115 hOfs30a0 hFv30_0 ?_
        refine Jz_iald (r := ((-2147483648), 2147483647)) hzf30_0 dX7_about_118 hZ9 rfl hv_Z9 (by omega) (by omega) (fun y118 hf118 hl118 hh118 => ?_)
        dsimp only at hl118 hh118
        clear hl118 hh118
        have e118 : (Z9 (MN x1.toInt.toNat).toInt.toNat).toInt = y118.toInt := by rw [hf118]
        refine J_callS4 moX7_square jw_ml_X7_152 jw_st_X7_square dX7_about_119 (w_X7_square_z (d - 1) _ y26 y100 y109 y118 (by omega)   (by omega) (by omega) (by omega) (by omega) (by omega) (by omega)) (by omega) (Nat.zero_le _) (Nat.zero_le _) (Nat.le_of_ble_eq_true rfl) (fun r119 V119 h119 => ?_)
        obtain ⟨⟨y119, rfl, hl119, hh119, hP119_0⟩, hE119⟩ := h119
        have hE119 := hE119.symm
        subst hE119
        clear hl119 hh119
        have hz119 : jEq y119.toInt (jsq (y26.toInt) (y100.toInt) (y109.toInt) (y118.toInt)) := hP119_0
        clear hP119_0
        exact J_ret (r := some (.int _)) dX7_about_122 ⟨rfl, _, rfl, rfl⟩ (⟨⟨hW, he, ⟨_, rfl, (j_rng _).1, (j_rng _).2, ⟨R2, X9, Y9, Z9, hjw, fun j hj => hRe j (by omega), (by rw [hq26]; rw [hx43t, hz119.eq, ← e100, ← e109, ← e118]; rfl)⟩⟩⟩, hkp⟩)
      · have hx43t : x2.toInt = 3 := by rw [hx43]; rfl
        clear hx43
        refine J_tableIn (tgt := 123) dX7_about_43 (by omega) (by omega) (by rw [hx43t]; rfl) (by decide) ?_
        refine J_aload_n dX7_about_123 rfl ?_
        refine J_iload_n dX7_about_124 rfl ?_
        refine Jw_callV1 (q9 := (RX7, TX7, 34)) moX7_isRing jw_ml_X7_156 jw_im_X7_isRing jw_se_X7_isRing ha0 rfl rfl dX7_about_125 (w_X7_isRing_z (d - 1) _ a0 y26 fv30_0 px py pz X9 Y9 Z9 (by omega) hW  ha0 ⟨_, hOfs30a0, hFv30_0⟩ ⟨_, hOfs30a0, hFfs30a0_6⟩ ⟨_, hOfs30a0, hFfs30a0_7⟩ ⟨_, hOfs30a0, hFfs30a0_8⟩ hX9 hY9 hZ9 (by omega) (by omega) (by (try simp only [hzf30_0.eq, true_and, and_true]) <;> omega) (by (try simp only [hzf30_0.eq, true_and, and_true]) <;> omega) (by (try simp only [hzf30_0.eq, true_and, and_true]) <;> omega) (by (try simp only [hzf30_0.eq, true_and, and_true]) <;> omega) (by (try simp only [hzf30_0.eq, true_and, and_true]) <;> omega) (by (try simp only [hzf30_0.eq, true_and, and_true]) <;> omega) (by (try simp only [hzf30_0.eq, true_and, and_true]) <;> omega)) (by omega) (Nat.zero_le _) (Nat.zero_le _) (Nat.le_of_ble_eq_true rfl) (fun r125 V125 h125 => ?_)
        obtain ⟨⟨y125, rfl, hl125, hh125, hP125_0⟩, hE125⟩ := h125
        have hE125 := hE125.symm
        subst hE125
        try simp only [hzf30_0.eq] at hP125_0
        refine Jz_if_eq (tgt := 135) jEq.rf dX7_about_128 (by decide) (fun c128 => ?_) (fun c128 => ?_)
        · refine Jz_iconst 0 dX7_about_135 (by decide) (fun y135 he135 => ?_)
          exact J_ret (r := some (.int _)) dX7_about_136 ⟨rfl, _, rfl, rfl⟩ (⟨⟨hW, he, ⟨_, rfl, (j_rng _).1, (j_rng _).2, ⟨R2, X9, Y9, Z9, hjw, fun j hj => hRe j (by omega), (by rw [hq26]; rw [hx43t, he135.eq]; exact (jpb_no (P := (jrngP y26.toInt (MN x1.toInt.toNat).toInt X9 Y9 Z9)) (hP125_0.elim (fun q => by omega) (fun q => q.2))).symm)⟩⟩⟩, hkp⟩)
        · refine Jz_iconst 1 dX7_about_131 (by decide) (fun y131 he131 => ?_)
          refine J_goto (tgt := 136) dX7_about_132 (by decide) ?_
          exact J_ret (r := some (.int _)) dX7_about_136 ⟨rfl, _, rfl, rfl⟩ (⟨⟨hW, he, ⟨_, rfl, (j_rng _).1, (j_rng _).2, ⟨R2, X9, Y9, Z9, hjw, fun j hj => hRe j (by omega), (by rw [hq26]; rw [hx43t, he131.eq]; exact (jpb_yes (P := (jrngP y26.toInt (MN x1.toInt.toNat).toInt X9 Y9 Z9)) (hP125_0.elim (fun q => q.2) (fun q => absurd q.1 c128))).symm)⟩⟩⟩, hkp⟩)
      · have hx43t : x2.toInt = 4 := by rw [hx43]; rfl
        clear hx43
        refine J_tableIn (tgt := 137) dX7_about_43 (by omega) (by omega) (by rw [hx43t]; rfl) (by decide) ?_
        refine J_iload_n dX7_about_137 rfl ?_
        refine Jz_iconst 3 dX7_about_138 (by decide) (fun y138 he138 => ?_)
        refine Jz_icmp_eq (tgt := 150) jEq.rf he138 dX7_about_139 (by decide) (fun c139 => ?_) (fun c139 => ?_)
        · refine Jz_iconst (-1) dX7_about_150 (by decide) (fun y150 he150 => ?_)
          refine J_goto (tgt := 158) dX7_about_151 (by decide) ?_
          exact J_ret (r := some (.int _)) dX7_about_158 ⟨rfl, _, rfl, rfl⟩ (⟨⟨hW, he, ⟨_, rfl, (j_rng _).1, (j_rng _).2, ⟨R2, X9, Y9, Z9, hjw, fun j hj => hRe j (by omega), (by rw [hq26]; rw [hx43t, jab8_4, if_neg (fun q => q.2 c139)]; exact he150.eq)⟩⟩⟩, hkp⟩)
        · refine J_aload_n dX7_about_142 rfl ?_
          refine J_iload_n dX7_about_143 rfl ?_
          refine Jw_callV1 (q9 := (RX7, TX7, 34)) moX7_isRing jw_ml_X7_156 jw_im_X7_isRing jw_se_X7_isRing ha0 rfl rfl dX7_about_144 (w_X7_isRing_z (d - 1) _ a0 y26 fv30_0 px py pz X9 Y9 Z9 (by omega) hW  ha0 ⟨_, hOfs30a0, hFv30_0⟩ ⟨_, hOfs30a0, hFfs30a0_6⟩ ⟨_, hOfs30a0, hFfs30a0_7⟩ ⟨_, hOfs30a0, hFfs30a0_8⟩ hX9 hY9 hZ9 (by omega) (by omega) (by (try simp only [hzf30_0.eq, true_and, and_true]) <;> omega) (by (try simp only [hzf30_0.eq, true_and, and_true]) <;> omega) (by (try simp only [hzf30_0.eq, true_and, and_true]) <;> omega) (by (try simp only [hzf30_0.eq, true_and, and_true]) <;> omega) (by (try simp only [hzf30_0.eq, true_and, and_true]) <;> omega) (by (try simp only [hzf30_0.eq, true_and, and_true]) <;> omega) (by (try simp only [hzf30_0.eq, true_and, and_true]) <;> omega)) (by omega) (Nat.zero_le _) (Nat.zero_le _) (Nat.le_of_ble_eq_true rfl) (fun r144 V144 h144 => ?_)
          obtain ⟨⟨y144, rfl, hl144, hh144, hP144_0⟩, hE144⟩ := h144
          have hE144 := hE144.symm
          subst hE144
          try simp only [hzf30_0.eq] at hP144_0
          refine Jz_if_ne (tgt := 154) jEq.rf dX7_about_147 (by decide) (fun c147 => ?_) (fun c147 => ?_)
          · refine J_aload_n dX7_about_154 rfl ?_
            refine Jw_callV0 (q9 := (RX7, TX7, 34)) moX7_area jw_ml_X7_159 jw_im_X7_area jw_se_X7_area ha0 rfl rfl dX7_about_155 (w_X7_area_z (d - 1) _ a0 fv30_0 px py X9 Y9 (by omega) hW  ha0 ⟨_, hOfs30a0, hFv30_0⟩ ⟨_, hOfs30a0, hFfs30a0_6⟩ ⟨_, hOfs30a0, hFfs30a0_7⟩ hX9 hY9 (by omega) (by omega)) (by omega) (Nat.zero_le _) (Nat.zero_le _) (Nat.le_of_ble_eq_true rfl) (fun r155 V155 h155 => ?_)
            obtain ⟨⟨y155, rfl, hl155, hh155, hP155_0⟩, hE155⟩ := h155
            have hE155 := hE155.symm
            subst hE155
            clear hl155 hh155
            try simp only [hzf30_0.eq] at hP155_0
            have hz155 : jEq y155.toInt ((jab (jar X9 Y9 ((MN (x1.toInt).toNat).toInt).toNat)).toInt) := hP155_0
            clear hP155_0
            exact J_ret (r := some (.int _)) dX7_about_158 ⟨rfl, _, rfl, rfl⟩ (⟨⟨hW, he, ⟨_, rfl, (j_rng _).1, (j_rng _).2, ⟨R2, X9, Y9, Z9, hjw, fun j hj => hRe j (by omega), (by rw [hq26]; rw [hx43t, jab8_4, if_pos ⟨jpb_yes (P := (jrngP y26.toInt (MN x1.toInt.toNat).toInt X9 Y9 Z9)) (hP144_0.elim (fun q => q.2) (fun q => absurd q.1 c147)), c139⟩]; exact hz155.eq)⟩⟩⟩, hkp⟩)
          · refine Jz_iconst (-1) dX7_about_150 (by decide) (fun y150 he150 => ?_)
            refine J_goto (tgt := 158) dX7_about_151 (by decide) ?_
            exact J_ret (r := some (.int _)) dX7_about_158 ⟨rfl, _, rfl, rfl⟩ (⟨⟨hW, he, ⟨_, rfl, (j_rng _).1, (j_rng _).2, ⟨R2, X9, Y9, Z9, hjw, fun j hj => hRe j (by omega), (by rw [hq26]; rw [hx43t, jab8_4, if_neg (fun q => by have q3 := jpb_no (P := (jrngP y26.toInt (MN x1.toInt.toNat).toInt X9 Y9 Z9)) (hP144_0.elim (fun q => by omega) (fun q => q.2)); omega)]; exact he150.eq)⟩⟩⟩, hkp⟩)
      · have hx43t : x2.toInt = 5 := by rw [hx43]; rfl
        clear hx43
        refine J_tableIn (tgt := 159) dX7_about_43 (by omega) (by omega) (by rw [hx43t]; rfl) (by decide) ?_
        refine Jz_iconst 1 dX7_about_159 (by decide) (fun y159 he159 => ?_)
        refine J_istore dX7_about_160 rfl (by decide) ?_
        have L162 : ∀ (N : Nat) (i4n162 : Int32) (i5n162 : Int32), (1 ≤ i5n162.toInt ∧ (i5n162.toInt ≤ (MN x1.toInt.toNat).toInt ∨ i5n162.toInt = 1)) → (i4n162.toInt = jbn R2 i5n162.toInt.toNat) → (300 - i5n162.toInt).toNat < N → J tS mX7_about d 162 [some (.ref a0), some (.int x1), some (.int x2), some (.int y26), some (.int i4n162), some (.int i5n162)] [] V35 0 0 (fun r V => (jPost [.inr 5, .inl 17, .inl 18, .inl 19, .inl 20] V0 (fun r _ => ∃ y : Int32, r = some (.int y) ∧ ((-2147483648) ≤ y.toInt) ∧ (y.toInt ≤ 2147483647) ∧ (∃ S2 X2 Y2 Z2 : Nat → Int32, jrv (GA x1.toInt.toNat).toInt (fun q => (SP (60 * x1.toInt.toNat + q)).toInt) (MN x1.toInt.toNat).toInt.toNat X2 Y2 Z2 ∧ (∀ j : Nat, j < (MN x1.toInt.toNat).toInt.toNat → S2 j = SP (60 * x1.toInt.toNat + j)) ∧ y.toInt = jab8 (GA x1.toInt.toNat).toInt (MN x1.toInt.toNat).toInt S2 X2 Y2 Z2 x2.toInt))) r V ∧ jkc 5 [0, 23, 24] V0 V) := by
          intro N
          induction N with
          | zero => intro i4n162 i5n162  hi5 hbn hm; exact absurd hm (Nat.not_lt_zero _)
          | succ N ih =>
            intro i4n162 i5n162  hi5 hbn hm
            have ih162 := ih
            have hri5 := j_rng i5n162
            have hjb2 := jbn_b (S := R2) i5n162.toInt.toNat
            refine J_iload dX7_about_162 rfl ?_
            refine J_aload_n dX7_about_164 rfl ?_
            refine J_get jf_X7_109 dX7_about_165 hOfs30a0 hFv30_0 ?_
            refine Jz_icmp_ge (tgt := 206) jEq.rf hzf30_0 dX7_about_168 (by decide) (fun c168 => ?_) (fun c168 => ?_)
            · refine J_iload dX7_about_206 rfl ?_
              exact J_ret (r := some (.int _)) dX7_about_208 ⟨rfl, _, rfl, rfl⟩ (⟨⟨hW, he, ⟨_, rfl, (j_rng _).1, (j_rng _).2, ⟨R2, X9, Y9, Z9, hjw, fun j hj => hRe j (by omega), (by rw [hq26]; rw [hx43t, hbn]; rcases (show i5n162.toInt.toNat = (MN x1.toInt.toNat).toInt.toNat ∨ (i5n162.toInt.toNat = 1 ∧ (MN x1.toInt.toNat).toInt.toNat = 0) by omega) with q | q; (rw [q]; rfl); (show jbn R2 _ = jbn R2 _; rw [q.1, q.2]; rfl))⟩⟩⟩, hkp⟩)
            · refine J_iload dX7_about_171 rfl ?_
              refine J_aload_n dX7_about_173 rfl ?_
              refine J_get jf_X7_19 dX7_about_174 hOfs30a0 hFfs30a0_4 ?_
              refine J_iload dX7_about_177 rfl ?_
              refine Jz_iald (r := ((-2147483648), 2147483647)) jEq.rf dX7_about_179 hR2 rfl hv_R2 (by omega) (by omega) (fun y179 hf179 hl179 hh179 => ?_)
              dsimp only at hl179 hh179
              clear hl179 hh179
              refine J_aload_n dX7_about_180 rfl ?_
              refine J_get jf_X7_19 dX7_about_181 hOfs30a0 hFfs30a0_4 ?_
              refine J_iload dX7_about_184 rfl ?_
              refine Jz_iconst 1 dX7_about_186 (by decide) (fun y186 he186 => ?_)
              refine Jz_isub jEq.rf he186 dX7_about_187 (by omega) (by omega) (fun y187 he187 => ?_)
              refine Jz_iald (r := ((-2147483648), 2147483647)) he187 dX7_about_188 hR2 rfl hv_R2 (by omega) (by omega) (fun y188 hf188 hl188 hh188 => ?_)
              dsimp only at hl188 hh188
              clear hl188 hh188
              refine Jz_icmp_eq (tgt := 196) jEq.rf jEq.rf dX7_about_189 (by decide) (fun c189 => ?_) (fun c189 => ?_)
              · refine Jz_iconst 0 dX7_about_196 (by decide) (fun y196 he196 => ?_)
                refine Jz_iadd jEq.rf he196 dX7_about_197 (by omega) (by omega) (fun y197 he197 => ?_)
                refine J_istore dX7_about_198 rfl (by decide) ?_
                refine Jz_iinc 1 dX7_about_200 rfl rfl (by decide) jEq.rf (by decide) (by omega) (by omega) (fun y200 he200 => ?_)
                refine J_goto (tgt := 162) dX7_about_203 (by decide) ?_
                refine J.mask [true, true, true, true, true, true] ?_
                exact ih162  y197 y200  (by (try simp only [he197.eq, he200.eq, true_and, and_true]) <;> omega) (by rw [he200.eq, show (i5n162.toInt + 1).toNat = i5n162.toInt.toNat + 1 by omega, jbn_step (by omega), show i5n162.toInt.toNat - 1 = (i5n162.toInt - 1).toNat by omega, hf179, hf188, if_pos c189, he197.eq, hbn]) (by (try simp only [he197.eq, he200.eq, true_and, and_true]) <;> omega)
              · refine Jz_iconst 1 dX7_about_192 (by decide) (fun y192 he192 => ?_)
                refine J_goto (tgt := 197) dX7_about_193 (by decide) ?_
                refine Jz_iadd jEq.rf he192 dX7_about_197 (by omega) (by omega) (fun y197 he197 => ?_)
                refine J_istore dX7_about_198 rfl (by decide) ?_
                refine Jz_iinc 1 dX7_about_200 rfl rfl (by decide) jEq.rf (by decide) (by omega) (by omega) (fun y200 he200 => ?_)
                refine J_goto (tgt := 162) dX7_about_203 (by decide) ?_
                refine J.mask [true, true, true, true, true, true] ?_
                exact ih162  y197 y200  (by (try simp only [he197.eq, he200.eq, true_and, and_true]) <;> omega) (by rw [he200.eq, show (i5n162.toInt + 1).toNat = i5n162.toInt.toNat + 1 by omega, jbn_step (by omega), show i5n162.toInt.toNat - 1 = (i5n162.toInt - 1).toNat by omega, hf179, hf188, if_neg c189, he197.eq, hbn]) (by (try simp only [he197.eq, he200.eq, true_and, and_true]) <;> omega)
        refine J.mask [true, true, true, true, true, true] ?_
        exact L162 _  y39 y159    (by rw [he159.eq]; exact ⟨Int.le_refl _, Or.inr rfl⟩) (by rw [he39.eq, he159.eq]; rfl) (Nat.lt_succ_self _)
      · have hx43t : x2.toInt = 6 := by rw [hx43]; rfl
        clear hx43
        refine J_tableIn (tgt := 209) dX7_about_43 (by omega) (by omega) (by rw [hx43t]; rfl) (by decide) ?_
        refine J_aload_n dX7_about_209 rfl ?_
        refine Jw_callV0 (q9 := (RX7, TX7, 34)) moX7_isBridge jw_ml_X7_163 jw_im_X7_isBridge jw_se_X7_isBridge ha0 rfl rfl dX7_about_210 (w_X7_isBridge_z (d - 1) _ a0 fv30_0 px X9 (by omega) hW  ha0 ⟨_, hOfs30a0, hFv30_0⟩ ⟨_, hOfs30a0, hFfs30a0_6⟩ hX9) (by omega) (Nat.zero_le _) (Nat.zero_le _) (Nat.le_of_ble_eq_true rfl) (fun r210 V210 h210 => ?_)
        obtain ⟨⟨y210, rfl, hl210, hh210, hP210_0⟩, hE210⟩ := h210
        have hE210 := hE210.symm
        subst hE210
        try simp only [hzf30_0.eq] at hP210_0
        refine Jz_if_eq (tgt := 220) jEq.rf dX7_about_213 (by decide) (fun c213 => ?_) (fun c213 => ?_)
        · refine Jz_iconst 0 dX7_about_220 (by decide) (fun y220 he220 => ?_)
          exact J_ret (r := some (.int _)) dX7_about_221 ⟨rfl, _, rfl, rfl⟩ (⟨⟨hW, he, ⟨_, rfl, (j_rng _).1, (j_rng _).2, ⟨R2, X9, Y9, Z9, hjw, fun j hj => hRe j (by omega), (by rw [hq26]; rw [hx43t]; rcases hP210_0 with q | q; (first | exact absurd q.1 (by omega) | (rw [he216.eq]; exact (jpb_yes (P := jbrg (MN x1.toInt.toNat).toInt.toNat X9) q.2).symm)); (first | exact absurd q.1 c213 | (rw [he220.eq]; exact (jpb_no (P := jbrg (MN x1.toInt.toNat).toInt.toNat X9) q.2).symm)))⟩⟩⟩, hkp⟩)
        · refine Jz_iconst 1 dX7_about_216 (by decide) (fun y216 he216 => ?_)
          refine J_goto (tgt := 221) dX7_about_217 (by decide) ?_
          exact J_ret (r := some (.int _)) dX7_about_221 ⟨rfl, _, rfl, rfl⟩ (⟨⟨hW, he, ⟨_, rfl, (j_rng _).1, (j_rng _).2, ⟨R2, X9, Y9, Z9, hjw, fun j hj => hRe j (by omega), (by rw [hq26]; rw [hx43t]; rcases hP210_0 with q | q; (first | exact absurd q.1 (by omega) | (rw [he216.eq]; exact (jpb_yes (P := jbrg (MN x1.toInt.toNat).toInt.toNat X9) q.2).symm)); (first | exact absurd q.1 c213 | (rw [he220.eq]; exact (jpb_no (P := jbrg (MN x1.toInt.toNat).toInt.toNat X9) q.2).symm)))⟩⟩⟩, hkp⟩)
      · refine J_tableOut (tgt := 222) dX7_about_43 (Or.inl hx43) (by decide) ?_
        refine J_aload_n dX7_about_222 rfl ?_
        refine J_iload_n dX7_about_223 rfl ?_
        refine Jw_callV1 (q9 := (RX7, TX7, 34)) moX7_leadingOn jw_ml_X7_167 jw_im_X7_leadingOn jw_se_X7_leadingOn ha0 rfl rfl dX7_about_224 (w_X7_leadingOn_z (d - 1) _ a0 y26 fv30_0 px py pz X9 Y9 Z9 (by omega) hW  ha0 ⟨_, hOfs30a0, hFv30_0⟩ ⟨_, hOfs30a0, hFfs30a0_6⟩ ⟨_, hOfs30a0, hFfs30a0_7⟩ ⟨_, hOfs30a0, hFfs30a0_8⟩ hX9 hY9 hZ9 (by omega) (by omega) (by (try simp only [hzf30_0.eq, true_and, and_true]) <;> omega) (by (try simp only [hzf30_0.eq, true_and, and_true]) <;> omega) (by (try simp only [hzf30_0.eq, true_and, and_true]) <;> omega) (by (try simp only [hzf30_0.eq, true_and, and_true]) <;> omega) (by (try simp only [hzf30_0.eq, true_and, and_true]) <;> omega) (by (try simp only [hzf30_0.eq, true_and, and_true]) <;> omega)) (by omega) (Nat.zero_le _) (Nat.zero_le _) (Nat.le_of_ble_eq_true rfl) (fun r224 V224 h224 => ?_)
        obtain ⟨⟨y224, rfl, hl224, hh224, hP224_0⟩, hE224⟩ := h224
        have hE224 := hE224.symm
        subst hE224
        clear hl224 hh224
        try simp only [hzf30_0.eq] at hP224_0
        have hz224 : jEq y224.toInt (jct (fun d : Nat => jfree (y26.toInt) ((MN (x1.toInt).toNat).toInt).toNat X9 Y9 Z9 (d : Int)) (jdir (y26.toInt)).toNat) := hP224_0
        clear hP224_0
        exact J_ret (r := some (.int _)) dX7_about_227 ⟨rfl, _, rfl, rfl⟩ (⟨⟨hW, he, ⟨_, rfl, (j_rng _).1, (j_rng _).2, ⟨R2, X9, Y9, Z9, hjw, fun j hj => hRe j (by omega), (by rw [hq26]; rw [show x2.toInt = 7 by omega, hz224.eq]; rfl)⟩⟩⟩, hkp⟩)
      · refine J_tableOut (tgt := 222) dX7_about_43 (Or.inr hx43) (by decide) ?_
        refine J_aload_n dX7_about_222 rfl ?_
        refine J_iload_n dX7_about_223 rfl ?_
        refine Jw_callV1 (q9 := (RX7, TX7, 34)) moX7_leadingOn jw_ml_X7_167 jw_im_X7_leadingOn jw_se_X7_leadingOn ha0 rfl rfl dX7_about_224 (w_X7_leadingOn_z (d - 1) _ a0 y26 fv30_0 px py pz X9 Y9 Z9 (by omega) hW  ha0 ⟨_, hOfs30a0, hFv30_0⟩ ⟨_, hOfs30a0, hFfs30a0_6⟩ ⟨_, hOfs30a0, hFfs30a0_7⟩ ⟨_, hOfs30a0, hFfs30a0_8⟩ hX9 hY9 hZ9 (by omega) (by omega) (by (try simp only [hzf30_0.eq, true_and, and_true]) <;> omega) (by (try simp only [hzf30_0.eq, true_and, and_true]) <;> omega) (by (try simp only [hzf30_0.eq, true_and, and_true]) <;> omega) (by (try simp only [hzf30_0.eq, true_and, and_true]) <;> omega) (by (try simp only [hzf30_0.eq, true_and, and_true]) <;> omega) (by (try simp only [hzf30_0.eq, true_and, and_true]) <;> omega)) (by omega) (Nat.zero_le _) (Nat.zero_le _) (Nat.le_of_ble_eq_true rfl) (fun r224 V224 h224 => ?_)
        obtain ⟨⟨y224, rfl, hl224, hh224, hP224_0⟩, hE224⟩ := h224
        have hE224 := hE224.symm
        subst hE224
        clear hl224 hh224
        try simp only [hzf30_0.eq] at hP224_0
        have hz224 : jEq y224.toInt (jct (fun d : Nat => jfree (y26.toInt) ((MN (x1.toInt).toNat).toInt).toNat X9 Y9 Z9 (d : Int)) (jdir (y26.toInt)).toNat) := hP224_0
        clear hP224_0
        exact J_ret (r := some (.int _)) dX7_about_227 ⟨rfl, _, rfl, rfl⟩ (⟨⟨hW, he, ⟨_, rfl, (j_rng _).1, (j_rng _).2, ⟨R2, X9, Y9, Z9, hjw, fun j hj => hRe j (by omega), (by rw [hq26]; rw [show x2.toInt = 7 by omega, hz224.eq]; rfl)⟩⟩⟩, hkp⟩)
    · have q15_1 := hI12_1.of (by omega)
      try simp only [he9.eq, he10.eq] at q15_1
      exact False.elim (by omega)
